section
-- ===== PART A: goes FIRST, ahead of the names: the tables' words, and 'selects' of the private methods out of them =====
/-- a private method of a class that the tables say can be made, by its rows of tables_1 -/
def lw_okq (q : MethodName × Nat) : Prop := (q.1.cls ≠ "java/lang/invoke/MethodHandle" ∧ q.1.cls ≠ "java/lang/invoke/VarHandle") ∧ Cond.instantiable q.1.cls q.2 ∈ tables_1 ∧ Cond.privateMethod q.1 ∈ tables_1 ∧ Cond.instanceMethod q.1 ∈ tables_1
theorem lw_p0 : lw_okq (⟨"WaitedPost", "readText", "()I"⟩, 13) := ⟨⟨by decide +kernel, by decide +kernel⟩, List.mem_of_getElem? (i := 11) (by decide +kernel), List.mem_of_getElem? (i := 180) (by decide +kernel), List.mem_of_getElem? (i := 181) (by decide +kernel)⟩
theorem lw_p1 : lw_okq (⟨"WaitedPost$Reader", "takesHead", "(I)Z"⟩, 3) := ⟨⟨by decide +kernel, by decide +kernel⟩, List.mem_of_getElem? (i := 19) (by decide +kernel), List.mem_of_getElem? (i := 199) (by decide +kernel), List.mem_of_getElem? (i := 200) (by decide +kernel)⟩
theorem lw_p2 : lw_okq (⟨"WaitedPost$Reader", "takesPardon", "(I)Z"⟩, 3) := ⟨⟨by decide +kernel, by decide +kernel⟩, List.mem_of_getElem? (i := 19) (by decide +kernel), List.mem_of_getElem? (i := 203) (by decide +kernel), List.mem_of_getElem? (i := 204) (by decide +kernel)⟩
theorem lw_p3 : lw_okq (⟨"WaitedPost$Reader", "takesRoom", "(I)Z"⟩, 3) := ⟨⟨by decide +kernel, by decide +kernel⟩, List.mem_of_getElem? (i := 19) (by decide +kernel), List.mem_of_getElem? (i := 207) (by decide +kernel), List.mem_of_getElem? (i := 208) (by decide +kernel)⟩
theorem lw_p4 : lw_okq (⟨"WaitedPost$Reader", "takesPart", "(I)Z"⟩, 3) := ⟨⟨by decide +kernel, by decide +kernel⟩, List.mem_of_getElem? (i := 19) (by decide +kernel), List.mem_of_getElem? (i := 211) (by decide +kernel), List.mem_of_getElem? (i := 212) (by decide +kernel)⟩
theorem lw_p5 : lw_okq (⟨"WaitedPost$Reader", "hasOpenPair", "()Z"⟩, 3) := ⟨⟨by decide +kernel, by decide +kernel⟩, List.mem_of_getElem? (i := 19) (by decide +kernel), List.mem_of_getElem? (i := 215) (by decide +kernel), List.mem_of_getElem? (i := 216) (by decide +kernel)⟩
theorem lw_p6 : lw_okq (⟨"WaitedPost$Reader", "isOpen", "(I)Z"⟩, 3) := ⟨⟨by decide +kernel, by decide +kernel⟩, List.mem_of_getElem? (i := 19) (by decide +kernel), List.mem_of_getElem? (i := 219) (by decide +kernel), List.mem_of_getElem? (i := 220) (by decide +kernel)⟩
theorem lw_p7 : lw_okq (⟨"WaitedPost$Reader", "takesWaited", "(I)Z"⟩, 3) := ⟨⟨by decide +kernel, by decide +kernel⟩, List.mem_of_getElem? (i := 19) (by decide +kernel), List.mem_of_getElem? (i := 233) (by decide +kernel), List.mem_of_getElem? (i := 234) (by decide +kernel)⟩
theorem lw_p8 : lw_okq (⟨"WaitedPost$Reader", "takesKind", "(I)Z"⟩, 3) := ⟨⟨by decide +kernel, by decide +kernel⟩, List.mem_of_getElem? (i := 19) (by decide +kernel), List.mem_of_getElem? (i := 237) (by decide +kernel), List.mem_of_getElem? (i := 238) (by decide +kernel)⟩
theorem lw_p9 : lw_okq (⟨"WaitedPost$Reader", "takesExplainer", "(I)Z"⟩, 3) := ⟨⟨by decide +kernel, by decide +kernel⟩, List.mem_of_getElem? (i := 19) (by decide +kernel), List.mem_of_getElem? (i := 250) (by decide +kernel), List.mem_of_getElem? (i := 251) (by decide +kernel)⟩
theorem lw_p10 : lw_okq (⟨"WaitedPost$Reader", "takesExplained", "(I)Z"⟩, 3) := ⟨⟨by decide +kernel, by decide +kernel⟩, List.mem_of_getElem? (i := 19) (by decide +kernel), List.mem_of_getElem? (i := 254) (by decide +kernel), List.mem_of_getElem? (i := 255) (by decide +kernel)⟩
theorem lw_p11 : lw_okq (⟨"WaitedPost", "known", "(I)Z"⟩, 13) := ⟨⟨by decide +kernel, by decide +kernel⟩, List.mem_of_getElem? (i := 11) (by decide +kernel), List.mem_of_getElem? (i := 289) (by decide +kernel), List.mem_of_getElem? (i := 290) (by decide +kernel)⟩
theorem lw_p12 : lw_okq (⟨"WaitedPost", "canBeSent", "(LWaitedPost$Standing;I)Z"⟩, 13) := ⟨⟨by decide +kernel, by decide +kernel⟩, List.mem_of_getElem? (i := 11) (by decide +kernel), List.mem_of_getElem? (i := 320) (by decide +kernel), List.mem_of_getElem? (i := 321) (by decide +kernel)⟩
theorem lw_p13 : lw_okq (⟨"WaitedPost", "remember", "()V"⟩, 13) := ⟨⟨by decide +kernel, by decide +kernel⟩, List.mem_of_getElem? (i := 11) (by decide +kernel), List.mem_of_getElem? (i := 324) (by decide +kernel), List.mem_of_getElem? (i := 325) (by decide +kernel)⟩
theorem lw_p14 : lw_okq (⟨"WaitedPost", "forgetFirstAct", "()V"⟩, 13) := ⟨⟨by decide +kernel, by decide +kernel⟩, List.mem_of_getElem? (i := 11) (by decide +kernel), List.mem_of_getElem? (i := 328) (by decide +kernel), List.mem_of_getElem? (i := 329) (by decide +kernel)⟩
theorem lw_p15 : lw_okq (⟨"WaitedPost", "putSent", "(LWaitedPost$Standing;I)I"⟩, 13) := ⟨⟨by decide +kernel, by decide +kernel⟩, List.mem_of_getElem? (i := 11) (by decide +kernel), List.mem_of_getElem? (i := 336) (by decide +kernel), List.mem_of_getElem? (i := 337) (by decide +kernel)⟩
def lw_privs_1 : List (MethodName × Nat) := [(⟨"WaitedPost", "readText", "()I"⟩, 13), (⟨"WaitedPost$Reader", "takesHead", "(I)Z"⟩, 3), (⟨"WaitedPost$Reader", "takesPardon", "(I)Z"⟩, 3), (⟨"WaitedPost$Reader", "takesRoom", "(I)Z"⟩, 3), (⟨"WaitedPost$Reader", "takesPart", "(I)Z"⟩, 3), (⟨"WaitedPost$Reader", "hasOpenPair", "()Z"⟩, 3), (⟨"WaitedPost$Reader", "isOpen", "(I)Z"⟩, 3), (⟨"WaitedPost$Reader", "takesWaited", "(I)Z"⟩, 3), (⟨"WaitedPost$Reader", "takesKind", "(I)Z"⟩, 3), (⟨"WaitedPost$Reader", "takesExplainer", "(I)Z"⟩, 3), (⟨"WaitedPost$Reader", "takesExplained", "(I)Z"⟩, 3), (⟨"WaitedPost", "known", "(I)Z"⟩, 13), (⟨"WaitedPost", "canBeSent", "(LWaitedPost$Standing;I)Z"⟩, 13), (⟨"WaitedPost", "remember", "()V"⟩, 13), (⟨"WaitedPost", "forgetFirstAct", "()V"⟩, 13), (⟨"WaitedPost", "putSent", "(LWaitedPost$Standing;I)I"⟩, 13)]
theorem lw_r1 : ∀ q ∈ lw_privs_1, lw_okq q := List.forall_mem_cons.mpr ⟨lw_p0, List.forall_mem_cons.mpr ⟨lw_p1, List.forall_mem_cons.mpr ⟨lw_p2, List.forall_mem_cons.mpr ⟨lw_p3, List.forall_mem_cons.mpr ⟨lw_p4, List.forall_mem_cons.mpr ⟨lw_p5, List.forall_mem_cons.mpr ⟨lw_p6, List.forall_mem_cons.mpr ⟨lw_p7, List.forall_mem_cons.mpr ⟨lw_p8, List.forall_mem_cons.mpr ⟨lw_p9, List.forall_mem_cons.mpr ⟨lw_p10, List.forall_mem_cons.mpr ⟨lw_p11, List.forall_mem_cons.mpr ⟨lw_p12, List.forall_mem_cons.mpr ⟨lw_p13, List.forall_mem_cons.mpr ⟨lw_p14, List.forall_mem_cons.mpr ⟨lw_p15, fun _ h => absurd h List.not_mem_nil⟩⟩⟩⟩⟩⟩⟩⟩⟩⟩⟩⟩⟩⟩⟩⟩
theorem lw_p16 : lw_okq (⟨"WaitedPost$Planner", "lower", "(IJ)V"⟩, 1) := ⟨⟨by decide +kernel, by decide +kernel⟩, List.mem_of_getElem? (i := 117) (by decide +kernel), List.mem_of_getElem? (i := 386) (by decide +kernel), List.mem_of_getElem? (i := 387) (by decide +kernel)⟩
theorem lw_p17 : lw_okq (⟨"WaitedPost$Planner", "tryLetter", "(LWaitedPost$Told;LWaitedPost$Standing;III)V"⟩, 1) := ⟨⟨by decide +kernel, by decide +kernel⟩, List.mem_of_getElem? (i := 117) (by decide +kernel), List.mem_of_getElem? (i := 391) (by decide +kernel), List.mem_of_getElem? (i := 392) (by decide +kernel)⟩
theorem lw_p18 : lw_okq (⟨"WaitedPost$Planner", "bestAt", "(I)J"⟩, 1) := ⟨⟨by decide +kernel, by decide +kernel⟩, List.mem_of_getElem? (i := 117) (by decide +kernel), List.mem_of_getElem? (i := 405) (by decide +kernel), List.mem_of_getElem? (i := 406) (by decide +kernel)⟩
theorem lw_p19 : lw_okq (⟨"WaitedPost$Planner", "endDay", "()V"⟩, 1) := ⟨⟨by decide +kernel, by decide +kernel⟩, List.mem_of_getElem? (i := 117) (by decide +kernel), List.mem_of_getElem? (i := 409) (by decide +kernel), List.mem_of_getElem? (i := 410) (by decide +kernel)⟩
theorem lw_p20 : lw_okq (⟨"WaitedPost", "unsent", "()I"⟩, 13) := ⟨⟨by decide +kernel, by decide +kernel⟩, List.mem_of_getElem? (i := 11) (by decide +kernel), List.mem_of_getElem? (i := 429) (by decide +kernel), List.mem_of_getElem? (i := 430) (by decide +kernel)⟩
theorem lw_p21 : lw_okq (⟨"WaitedPost", "firstUnexplained", "(I)I"⟩, 13) := ⟨⟨by decide +kernel, by decide +kernel⟩, List.mem_of_getElem? (i := 11) (by decide +kernel), List.mem_of_getElem? (i := 433) (by decide +kernel), List.mem_of_getElem? (i := 434) (by decide +kernel)⟩
theorem lw_p22 : lw_okq (⟨"WaitedPost", "takeFigures", "(II)Z"⟩, 13) := ⟨⟨by decide +kernel, by decide +kernel⟩, List.mem_of_getElem? (i := 11) (by decide +kernel), List.mem_of_getElem? (i := 441) (by decide +kernel), List.mem_of_getElem? (i := 442) (by decide +kernel)⟩
theorem lw_p23 : lw_okq (⟨"WaitedPost", "tryThings", "(I)I"⟩, 13) := ⟨⟨by decide +kernel, by decide +kernel⟩, List.mem_of_getElem? (i := 11) (by decide +kernel), List.mem_of_getElem? (i := 445) (by decide +kernel), List.mem_of_getElem? (i := 446) (by decide +kernel)⟩
theorem lw_p24 : lw_okq (⟨"WaitedPost", "costForShare", "(I)I"⟩, 13) := ⟨⟨by decide +kernel, by decide +kernel⟩, List.mem_of_getElem? (i := 11) (by decide +kernel), List.mem_of_getElem? (i := 483) (by decide +kernel), List.mem_of_getElem? (i := 484) (by decide +kernel)⟩
theorem lw_p25 : lw_okq (⟨"WaitedPost", "isBestDay", "(IIII)Z"⟩, 13) := ⟨⟨by decide +kernel, by decide +kernel⟩, List.mem_of_getElem? (i := 11) (by decide +kernel), List.mem_of_getElem? (i := 491) (by decide +kernel), List.mem_of_getElem? (i := 492) (by decide +kernel)⟩
theorem lw_p26 : lw_okq (⟨"WaitedPost", "costBeside", "(IIII)I"⟩, 13) := ⟨⟨by decide +kernel, by decide +kernel⟩, List.mem_of_getElem? (i := 11) (by decide +kernel), List.mem_of_getElem? (i := 495) (by decide +kernel), List.mem_of_getElem? (i := 496) (by decide +kernel)⟩
theorem lw_p27 : lw_okq (⟨"WaitedPost", "costOfUnsent", "()I"⟩, 13) := ⟨⟨by decide +kernel, by decide +kernel⟩, List.mem_of_getElem? (i := 11) (by decide +kernel), List.mem_of_getElem? (i := 526) (by decide +kernel), List.mem_of_getElem? (i := 527) (by decide +kernel)⟩
theorem lw_p28 : lw_okq (⟨"WaitedPostModel", "readText", "()I"⟩, 24) := ⟨⟨by decide +kernel, by decide +kernel⟩, List.mem_of_getElem? (i := 530) (by decide +kernel), List.mem_of_getElem? (i := 626) (by decide +kernel), List.mem_of_getElem? (i := 627) (by decide +kernel)⟩
theorem lw_p29 : lw_okq (⟨"WaitedPostModel", "figure", "(II)I"⟩, 24) := ⟨⟨by decide +kernel, by decide +kernel⟩, List.mem_of_getElem? (i := 530) (by decide +kernel), List.mem_of_getElem? (i := 630) (by decide +kernel), List.mem_of_getElem? (i := 631) (by decide +kernel)⟩
theorem lw_p30 : lw_okq (⟨"WaitedPostModel", "firstsLeft", "()I"⟩, 24) := ⟨⟨by decide +kernel, by decide +kernel⟩, List.mem_of_getElem? (i := 530) (by decide +kernel), List.mem_of_getElem? (i := 634) (by decide +kernel), List.mem_of_getElem? (i := 635) (by decide +kernel)⟩
theorem lw_p31 : lw_okq (⟨"WaitedPostModel", "left", "(I)I"⟩, 24) := ⟨⟨by decide +kernel, by decide +kernel⟩, List.mem_of_getElem? (i := 530) (by decide +kernel), List.mem_of_getElem? (i := 638) (by decide +kernel), List.mem_of_getElem? (i := 639) (by decide +kernel)⟩
def lw_privs_2 : List (MethodName × Nat) := [(⟨"WaitedPost$Planner", "lower", "(IJ)V"⟩, 1), (⟨"WaitedPost$Planner", "tryLetter", "(LWaitedPost$Told;LWaitedPost$Standing;III)V"⟩, 1), (⟨"WaitedPost$Planner", "bestAt", "(I)J"⟩, 1), (⟨"WaitedPost$Planner", "endDay", "()V"⟩, 1), (⟨"WaitedPost", "unsent", "()I"⟩, 13), (⟨"WaitedPost", "firstUnexplained", "(I)I"⟩, 13), (⟨"WaitedPost", "takeFigures", "(II)Z"⟩, 13), (⟨"WaitedPost", "tryThings", "(I)I"⟩, 13), (⟨"WaitedPost", "costForShare", "(I)I"⟩, 13), (⟨"WaitedPost", "isBestDay", "(IIII)Z"⟩, 13), (⟨"WaitedPost", "costBeside", "(IIII)I"⟩, 13), (⟨"WaitedPost", "costOfUnsent", "()I"⟩, 13), (⟨"WaitedPostModel", "readText", "()I"⟩, 24), (⟨"WaitedPostModel", "figure", "(II)I"⟩, 24), (⟨"WaitedPostModel", "firstsLeft", "()I"⟩, 24), (⟨"WaitedPostModel", "left", "(I)I"⟩, 24)]
theorem lw_r2 : ∀ q ∈ lw_privs_2, lw_okq q := List.forall_mem_cons.mpr ⟨lw_p16, List.forall_mem_cons.mpr ⟨lw_p17, List.forall_mem_cons.mpr ⟨lw_p18, List.forall_mem_cons.mpr ⟨lw_p19, List.forall_mem_cons.mpr ⟨lw_p20, List.forall_mem_cons.mpr ⟨lw_p21, List.forall_mem_cons.mpr ⟨lw_p22, List.forall_mem_cons.mpr ⟨lw_p23, List.forall_mem_cons.mpr ⟨lw_p24, List.forall_mem_cons.mpr ⟨lw_p25, List.forall_mem_cons.mpr ⟨lw_p26, List.forall_mem_cons.mpr ⟨lw_p27, List.forall_mem_cons.mpr ⟨lw_p28, List.forall_mem_cons.mpr ⟨lw_p29, List.forall_mem_cons.mpr ⟨lw_p30, List.forall_mem_cons.mpr ⟨lw_p31, fun _ h => absurd h List.not_mem_nil⟩⟩⟩⟩⟩⟩⟩⟩⟩⟩⟩⟩⟩⟩⟩⟩
theorem lw_p32 : lw_okq (⟨"WaitedPostModel", "figureOf", "(I)I"⟩, 24) := ⟨⟨by decide +kernel, by decide +kernel⟩, List.mem_of_getElem? (i := 530) (by decide +kernel), List.mem_of_getElem? (i := 645) (by decide +kernel), List.mem_of_getElem? (i := 646) (by decide +kernel)⟩
theorem lw_p33 : lw_okq (⟨"WaitedPostModel", "isLetter", "(I)Z"⟩, 24) := ⟨⟨by decide +kernel, by decide +kernel⟩, List.mem_of_getElem? (i := 530) (by decide +kernel), List.mem_of_getElem? (i := 658) (by decide +kernel), List.mem_of_getElem? (i := 659) (by decide +kernel)⟩
theorem lw_p34 : lw_okq (⟨"WaitedPostModel", "isSent", "(II)Z"⟩, 24) := ⟨⟨by decide +kernel, by decide +kernel⟩, List.mem_of_getElem? (i := 530) (by decide +kernel), List.mem_of_getElem? (i := 662) (by decide +kernel), List.mem_of_getElem? (i := 663) (by decide +kernel)⟩
theorem lw_p35 : lw_okq (⟨"WaitedPostModel", "priceOn", "(II)I"⟩, 24) := ⟨⟨by decide +kernel, by decide +kernel⟩, List.mem_of_getElem? (i := 530) (by decide +kernel), List.mem_of_getElem? (i := 666) (by decide +kernel), List.mem_of_getElem? (i := 667) (by decide +kernel)⟩
theorem lw_p36 : lw_okq (⟨"WaitedPostModel", "priceBy", "(IIZII)I"⟩, 24) := ⟨⟨by decide +kernel, by decide +kernel⟩, List.mem_of_getElem? (i := 530) (by decide +kernel), List.mem_of_getElem? (i := 673) (by decide +kernel), List.mem_of_getElem? (i := 674) (by decide +kernel)⟩
theorem lw_p37 : lw_okq (⟨"WaitedPostModel", "keepAct", "()V"⟩, 24) := ⟨⟨by decide +kernel, by decide +kernel⟩, List.mem_of_getElem? (i := 530) (by decide +kernel), List.mem_of_getElem? (i := 681) (by decide +kernel), List.mem_of_getElem? (i := 682) (by decide +kernel)⟩
theorem lw_p38 : lw_okq (⟨"WaitedPostModel", "sendOn", "(II)I"⟩, 24) := ⟨⟨by decide +kernel, by decide +kernel⟩, List.mem_of_getElem? (i := 530) (by decide +kernel), List.mem_of_getElem? (i := 685) (by decide +kernel), List.mem_of_getElem? (i := 686) (by decide +kernel)⟩
theorem lw_p39 : lw_okq (⟨"WaitedPostModel", "passOn", "(I)V"⟩, 24) := ⟨⟨by decide +kernel, by decide +kernel⟩, List.mem_of_getElem? (i := 530) (by decide +kernel), List.mem_of_getElem? (i := 693) (by decide +kernel), List.mem_of_getElem? (i := 694) (by decide +kernel)⟩
theorem lw_p40 : lw_okq (⟨"WaitedPostModel", "priceIn", "(II)I"⟩, 24) := ⟨⟨by decide +kernel, by decide +kernel⟩, List.mem_of_getElem? (i := 530) (by decide +kernel), List.mem_of_getElem? (i := 713) (by decide +kernel), List.mem_of_getElem? (i := 714) (by decide +kernel)⟩
theorem lw_p41 : lw_okq (⟨"WaitedPostModel", "layTrial", "()V"⟩, 24) := ⟨⟨by decide +kernel, by decide +kernel⟩, List.mem_of_getElem? (i := 530) (by decide +kernel), List.mem_of_getElem? (i := 717) (by decide +kernel), List.mem_of_getElem? (i := 718) (by decide +kernel)⟩
theorem lw_p42 : lw_okq (⟨"WaitedPostModel", "leastOf", "(I)I"⟩, 24) := ⟨⟨by decide +kernel, by decide +kernel⟩, List.mem_of_getElem? (i := 530) (by decide +kernel), List.mem_of_getElem? (i := 729) (by decide +kernel), List.mem_of_getElem? (i := 730) (by decide +kernel)⟩
theorem lw_p43 : lw_okq (⟨"WaitedPostModel", "paidBy", "(II)I"⟩, 24) := ⟨⟨by decide +kernel, by decide +kernel⟩, List.mem_of_getElem? (i := 530) (by decide +kernel), List.mem_of_getElem? (i := 736) (by decide +kernel), List.mem_of_getElem? (i := 737) (by decide +kernel)⟩
theorem lw_p44 : lw_okq (⟨"WaitedPostModel", "canSend", "(II)Z"⟩, 24) := ⟨⟨by decide +kernel, by decide +kernel⟩, List.mem_of_getElem? (i := 530) (by decide +kernel), List.mem_of_getElem? (i := 743) (by decide +kernel), List.mem_of_getElem? (i := 744) (by decide +kernel)⟩
theorem lw_p45 : lw_okq (⟨"WaitedPostModel", "areThings", "(II)Z"⟩, 24) := ⟨⟨by decide +kernel, by decide +kernel⟩, List.mem_of_getElem? (i := 530) (by decide +kernel), List.mem_of_getElem? (i := 755) (by decide +kernel), List.mem_of_getElem? (i := 756) (by decide +kernel)⟩
theorem lw_p46 : lw_okq (⟨"WaitedPostModel", "tryThing", "(I)Z"⟩, 24) := ⟨⟨by decide +kernel, by decide +kernel⟩, List.mem_of_getElem? (i := 530) (by decide +kernel), List.mem_of_getElem? (i := 763) (by decide +kernel), List.mem_of_getElem? (i := 764) (by decide +kernel)⟩
theorem lw_p47 : lw_okq (⟨"WaitedPostModel", "priceWith", "(II)I"⟩, 24) := ⟨⟨by decide +kernel, by decide +kernel⟩, List.mem_of_getElem? (i := 530) (by decide +kernel), List.mem_of_getElem? (i := 781) (by decide +kernel), List.mem_of_getElem? (i := 782) (by decide +kernel)⟩
def lw_privs_3 : List (MethodName × Nat) := [(⟨"WaitedPostModel", "figureOf", "(I)I"⟩, 24), (⟨"WaitedPostModel", "isLetter", "(I)Z"⟩, 24), (⟨"WaitedPostModel", "isSent", "(II)Z"⟩, 24), (⟨"WaitedPostModel", "priceOn", "(II)I"⟩, 24), (⟨"WaitedPostModel", "priceBy", "(IIZII)I"⟩, 24), (⟨"WaitedPostModel", "keepAct", "()V"⟩, 24), (⟨"WaitedPostModel", "sendOn", "(II)I"⟩, 24), (⟨"WaitedPostModel", "passOn", "(I)V"⟩, 24), (⟨"WaitedPostModel", "priceIn", "(II)I"⟩, 24), (⟨"WaitedPostModel", "layTrial", "()V"⟩, 24), (⟨"WaitedPostModel", "leastOf", "(I)I"⟩, 24), (⟨"WaitedPostModel", "paidBy", "(II)I"⟩, 24), (⟨"WaitedPostModel", "canSend", "(II)Z"⟩, 24), (⟨"WaitedPostModel", "areThings", "(II)Z"⟩, 24), (⟨"WaitedPostModel", "tryThing", "(I)Z"⟩, 24), (⟨"WaitedPostModel", "priceWith", "(II)I"⟩, 24)]
theorem lw_r3 : ∀ q ∈ lw_privs_3, lw_okq q := List.forall_mem_cons.mpr ⟨lw_p32, List.forall_mem_cons.mpr ⟨lw_p33, List.forall_mem_cons.mpr ⟨lw_p34, List.forall_mem_cons.mpr ⟨lw_p35, List.forall_mem_cons.mpr ⟨lw_p36, List.forall_mem_cons.mpr ⟨lw_p37, List.forall_mem_cons.mpr ⟨lw_p38, List.forall_mem_cons.mpr ⟨lw_p39, List.forall_mem_cons.mpr ⟨lw_p40, List.forall_mem_cons.mpr ⟨lw_p41, List.forall_mem_cons.mpr ⟨lw_p42, List.forall_mem_cons.mpr ⟨lw_p43, List.forall_mem_cons.mpr ⟨lw_p44, List.forall_mem_cons.mpr ⟨lw_p45, List.forall_mem_cons.mpr ⟨lw_p46, List.forall_mem_cons.mpr ⟨lw_p47, fun _ h => absurd h List.not_mem_nil⟩⟩⟩⟩⟩⟩⟩⟩⟩⟩⟩⟩⟩⟩⟩⟩
theorem lw_p48 : lw_okq (⟨"WaitedPostModel", "isRest", "(IIII)Z"⟩, 24) := ⟨⟨by decide +kernel, by decide +kernel⟩, List.mem_of_getElem? (i := 530) (by decide +kernel), List.mem_of_getElem? (i := 799) (by decide +kernel), List.mem_of_getElem? (i := 800) (by decide +kernel)⟩
theorem lw_p49 : lw_okq (⟨"WaitedPostModel", "paysIf", "(IIII)I"⟩, 24) := ⟨⟨by decide +kernel, by decide +kernel⟩, List.mem_of_getElem? (i := 530) (by decide +kernel), List.mem_of_getElem? (i := 803) (by decide +kernel), List.mem_of_getElem? (i := 804) (by decide +kernel)⟩
def lw_privs_4 : List (MethodName × Nat) := [(⟨"WaitedPostModel", "isRest", "(IIII)Z"⟩, 24), (⟨"WaitedPostModel", "paysIf", "(IIII)I"⟩, 24)]
theorem lw_r4 : ∀ q ∈ lw_privs_4, lw_okq q := List.forall_mem_cons.mpr ⟨lw_p48, List.forall_mem_cons.mpr ⟨lw_p49, fun _ h => absurd h List.not_mem_nil⟩⟩
def lw_privs : List (MethodName × Nat) := lw_privs_1 ++ (lw_privs_2 ++ (lw_privs_3 ++ (lw_privs_4)))
def lw_tbl : List Cond := k2_sels lw_privs ++ tables_1
theorem lw_privs_ok : ∀ q ∈ lw_privs, lw_okq q := by
  show ∀ q ∈ lw_privs_1 ++ (lw_privs_2 ++ (lw_privs_3 ++ (lw_privs_4))), lw_okq q
  exact List.forall_mem_append.mpr ⟨lw_r1, List.forall_mem_append.mpr ⟨lw_r2, List.forall_mem_append.mpr ⟨lw_r3, lw_r4⟩⟩⟩
end
section
def RX0 : String := "WaitedPost$Planner"
def TX0 : u_T := fun k => match k with
  | _ => ("WaitedPost$Planner", "best", "[J", true)
def tyX0 : Nat → FieldType := fun k => match k with
  | _ => .array .long
theorem nmX0 : ∀ a, a < 1 → ∀ b, b < 1 → a ≠ b → (TX0 a).2.1 ≠ (TX0 b).2.1 := by decide +kernel
theorem tyX0_ok : ∀ k, k < 1 → parseFieldDescriptor (TX0 k).2.2.1 = some (tyX0 k) := by decide +kernel
abbrev cX0_init : ByteArray := prog_2_method_1_code
def yX0_init : MethodName := ⟨RX0, "<init>", "()V"⟩
abbrev cX0_fill : ByteArray := prog_2_method_2_code
def yX0_fill : MethodName := ⟨RX0, "fill", "(LWaitedPost$Told;LWaitedPost$Standing;I)V"⟩
abbrev cX0_hasRoom : ByteArray := prog_2_method_3_code
def yX0_hasRoom : MethodName := ⟨RX0, "hasRoom", "(I)Z"⟩
abbrev cX0_paidFor : ByteArray := prog_2_method_4_code
def yX0_paidFor : MethodName := ⟨RX0, "paidFor", "(I)I"⟩
abbrev cX0_rowOf : ByteArray := prog_2_method_5_code
def yX0_rowOf : MethodName := ⟨RX0, "rowOf", "(I)I"⟩
abbrev cX0_tryLetter : ByteArray := prog_2_method_6_code
def yX0_tryLetter : MethodName := ⟨RX0, "tryLetter", "(LWaitedPost$Told;LWaitedPost$Standing;III)V"⟩
abbrev cX0_endDay : ByteArray := prog_2_method_7_code
def yX0_endDay : MethodName := ⟨RX0, "endDay", "()V"⟩
abbrev cX0_bestAt : ByteArray := prog_2_method_8_code
def yX0_bestAt : MethodName := ⟨RX0, "bestAt", "(I)J"⟩
abbrev cX0_lower : ByteArray := prog_2_method_9_code
def yX0_lower : MethodName := ⟨RX0, "lower", "(IJ)V"⟩
def RX1 : String := "WaitedPost$Reader"
def TX1 : u_T := fun k => match k with
  | 0 => ("WaitedPost$Reader", "draft", "LWaitedPost$Told;", true)
  | 1 => ("WaitedPost$Reader", "step", "I", false)
  | _ => ("WaitedPost$Reader", "ahead", "I", false)
def tyX1 : Nat → FieldType := fun k => match k with
  | 0 => .object "WaitedPost$Told"
  | 1 => .int
  | _ => .int
theorem nmX1 : ∀ a, a < 3 → ∀ b, b < 3 → a ≠ b → (TX1 a).2.1 ≠ (TX1 b).2.1 := by decide +kernel
theorem tyX1_ok : ∀ k, k < 3 → parseFieldDescriptor (TX1 k).2.2.1 = some (tyX1 k) := by decide +kernel
abbrev cX1_init : ByteArray := prog_3_method_1_code
def yX1_init : MethodName := ⟨RX1, "<init>", "()V"⟩
abbrev cX1_begin : ByteArray := prog_3_method_2_code
def yX1_begin : MethodName := ⟨RX1, "begin", "()V"⟩
abbrev cX1_mayEnd : ByteArray := prog_3_method_3_code
def yX1_mayEnd : MethodName := ⟨RX1, "mayEnd", "()Z"⟩
abbrev cX1_takes : ByteArray := prog_3_method_4_code
def yX1_takes : MethodName := ⟨RX1, "takes", "(I)Z"⟩
abbrev cX1_takesHead : ByteArray := prog_3_method_5_code
def yX1_takesHead : MethodName := ⟨RX1, "takesHead", "(I)Z"⟩
abbrev cX1_takesPardon : ByteArray := prog_3_method_6_code
def yX1_takesPardon : MethodName := ⟨RX1, "takesPardon", "(I)Z"⟩
abbrev cX1_takesRoom : ByteArray := prog_3_method_7_code
def yX1_takesRoom : MethodName := ⟨RX1, "takesRoom", "(I)Z"⟩
abbrev cX1_takesPart : ByteArray := prog_3_method_8_code
def yX1_takesPart : MethodName := ⟨RX1, "takesPart", "(I)Z"⟩
abbrev cX1_takesWaited : ByteArray := prog_3_method_9_code
def yX1_takesWaited : MethodName := ⟨RX1, "takesWaited", "(I)Z"⟩
abbrev cX1_takesKind : ByteArray := prog_3_method_10_code
def yX1_takesKind : MethodName := ⟨RX1, "takesKind", "(I)Z"⟩
abbrev cX1_takesExplainer : ByteArray := prog_3_method_11_code
def yX1_takesExplainer : MethodName := ⟨RX1, "takesExplainer", "(I)Z"⟩
abbrev cX1_takesExplained : ByteArray := prog_3_method_12_code
def yX1_takesExplained : MethodName := ⟨RX1, "takesExplained", "(I)Z"⟩
abbrev cX1_isOpen : ByteArray := prog_3_method_13_code
def yX1_isOpen : MethodName := ⟨RX1, "isOpen", "(I)Z"⟩
abbrev cX1_hasOpenPair : ByteArray := prog_3_method_14_code
def yX1_hasOpenPair : MethodName := ⟨RX1, "hasOpenPair", "()Z"⟩
def RX2 : String := "WaitedPost$Standing"
def TX2 : u_T := fun k => match k with
  | 0 => ("WaitedPost$Standing", "today", "I", false)
  | 1 => ("WaitedPost$Standing", "sent", "I", false)
  | 2 => ("WaitedPost$Standing", "sentToday", "I", false)
  | 3 => ("WaitedPost$Standing", "torn", "I", false)
  | 4 => ("WaitedPost$Standing", "paid", "I", false)
  | 5 => ("WaitedPost$Standing", "waited", "[I", true)
  | _ => ("WaitedPost$Standing", "clocks", "[I", true)
def tyX2 : Nat → FieldType := fun k => match k with
  | 0 => .int
  | 1 => .int
  | 2 => .int
  | 3 => .int
  | 4 => .int
  | 5 => .array .int
  | _ => .array .int
theorem nmX2 : ∀ a, a < 7 → ∀ b, b < 7 → a ≠ b → (TX2 a).2.1 ≠ (TX2 b).2.1 := by decide +kernel
theorem tyX2_ok : ∀ k, k < 7 → parseFieldDescriptor (TX2 k).2.2.1 = some (tyX2 k) := by decide +kernel
abbrev cX2_init : ByteArray := prog_4_method_1_code
def yX2_init : MethodName := ⟨RX2, "<init>", "()V"⟩
abbrev cX2_begin : ByteArray := prog_4_method_2_code
def yX2_begin : MethodName := ⟨RX2, "begin", "(LWaitedPost$Told;)V"⟩
abbrev cX2_take : ByteArray := prog_4_method_3_code
def yX2_take : MethodName := ⟨RX2, "take", "(LWaitedPost$Standing;)V"⟩
abbrev cX2_passDay : ByteArray := prog_4_method_4_code
def yX2_passDay : MethodName := ⟨RX2, "passDay", "(I)V"⟩
def RX3 : String := "WaitedPost$Told"
def TX3 : u_T := fun k => match k with
  | 0 => ("WaitedPost$Told", "pardon", "I", false)
  | 1 => ("WaitedPost$Told", "room", "I", false)
  | 2 => ("WaitedPost$Told", "letters", "I", false)
  | 3 => ("WaitedPost$Told", "waited", "[I", true)
  | 4 => ("WaitedPost$Told", "kinds", "[I", true)
  | _ => ("WaitedPost$Told", "explainers", "[I", true)
def tyX3 : Nat → FieldType := fun k => match k with
  | 0 => .int
  | 1 => .int
  | 2 => .int
  | 3 => .array .int
  | 4 => .array .int
  | _ => .array .int
theorem nmX3 : ∀ a, a < 6 → ∀ b, b < 6 → a ≠ b → (TX3 a).2.1 ≠ (TX3 b).2.1 := by decide +kernel
theorem tyX3_ok : ∀ k, k < 6 → parseFieldDescriptor (TX3 k).2.2.1 = some (tyX3 k) := by decide +kernel
abbrev cX3_init : ByteArray := prog_5_method_1_code
def yX3_init : MethodName := ⟨RX3, "<init>", "()V"⟩
abbrev cX3_clear : ByteArray := prog_5_method_2_code
def yX3_clear : MethodName := ⟨RX3, "clear", "()V"⟩
abbrev cX3_take : ByteArray := prog_5_method_3_code
def yX3_take : MethodName := ⟨RX3, "take", "(LWaitedPost$Told;)V"⟩
abbrev cX3_addLetter : ByteArray := prog_5_method_4_code
def yX3_addLetter : MethodName := ⟨RX3, "addLetter", "(II)V"⟩
abbrev cX3_explainedBy : ByteArray := prog_5_method_5_code
def yX3_explainedBy : MethodName := ⟨RX3, "explainedBy", "(I)I"⟩
abbrev cX3_costIn : ByteArray := prog_5_method_6_code
def yX3_costIn : MethodName := ⟨RX3, "costIn", "(LWaitedPost$Standing;III)I"⟩
abbrev cX3_costOf : ByteArray := prog_5_method_7_code
def yX3_costOf : MethodName := ⟨RX3, "costOf", "(IIZII)I"⟩
def RX4 : String := "WaitedPost"
def TX4 : u_T := fun k => match k with
  | 0 => ("WaitedPost", "text", "[I", true)
  | 1 => ("WaitedPost", "length", "I", false)
  | 2 => ("WaitedPost", "reader", "LWaitedPost$Reader;", true)
  | 3 => ("WaitedPost", "told", "LWaitedPost$Told;", true)
  | 4 => ("WaitedPost", "now", "LWaitedPost$Standing;", true)
  | 5 => ("WaitedPost", "trial", "LWaitedPost$Standing;", true)
  | 6 => ("WaitedPost", "acts", "[LWaitedPost$Standing;", true)
  | 7 => ("WaitedPost", "actCount", "I", false)
  | 8 => ("WaitedPost", "kept", "[LWaitedPost$Standing;", true)
  | 9 => ("WaitedPost", "keptSlots", "I", false)
  | 10 => ("WaitedPost", "figures", "[I", true)
  | 11 => ("WaitedPost", "planner", "LWaitedPost$Planner;", true)
  | _ => ("WaitedPost", "chance", "J", false)
def tyX4 : Nat → FieldType := fun k => match k with
  | 0 => .array .int
  | 1 => .int
  | 2 => .object "WaitedPost$Reader"
  | 3 => .object "WaitedPost$Told"
  | 4 => .object "WaitedPost$Standing"
  | 5 => .object "WaitedPost$Standing"
  | 6 => .array (.object "WaitedPost$Standing")
  | 7 => .int
  | 8 => .array (.object "WaitedPost$Standing")
  | 9 => .int
  | 10 => .array .int
  | 11 => .object "WaitedPost$Planner"
  | _ => .long
theorem nmX4 : ∀ a, a < 13 → ∀ b, b < 13 → a ≠ b → (TX4 a).2.1 ≠ (TX4 b).2.1 := by decide +kernel
theorem tyX4_ok : ∀ k, k < 13 → parseFieldDescriptor (TX4 k).2.2.1 = some (tyX4 k) := by decide +kernel
abbrev cX4_init : ByteArray := prog_1_method_1_code
def yX4_init : MethodName := ⟨RX4, "<init>", "()V"⟩
abbrev cX4_write : ByteArray := prog_1_method_2_code
def yX4_write : MethodName := ⟨RX4, "write", "(I)I"⟩
abbrev cX4_wipe : ByteArray := prog_1_method_3_code
def yX4_wipe : MethodName := ⟨RX4, "wipe", "()I"⟩
abbrev cX4_fault : ByteArray := prog_1_method_4_code
def yX4_fault : MethodName := ⟨RX4, "fault", "()I"⟩
abbrev cX4_post : ByteArray := prog_1_method_5_code
def yX4_post : MethodName := ⟨RX4, "post", "()I"⟩
abbrev cX4_letter : ByteArray := prog_1_method_6_code
def yX4_letter : MethodName := ⟨RX4, "letter", "(II)I"⟩
abbrev cX4_send : ByteArray := prog_1_method_7_code
def yX4_send : MethodName := ⟨RX4, "send", "(I)I"⟩
abbrev cX4_day : ByteArray := prog_1_method_8_code
def yX4_day : MethodName := ⟨RX4, "day", "()I"⟩
abbrev cX4_tear : ByteArray := prog_1_method_9_code
def yX4_tear : MethodName := ⟨RX4, "tear", "(I)I"⟩
abbrev cX4_card : ByteArray := prog_1_method_10_code
def yX4_card : MethodName := ⟨RX4, "card", "(I)I"⟩
abbrev cX4_undo : ByteArray := prog_1_method_11_code
def yX4_undo : MethodName := ⟨RX4, "undo", "()I"⟩
abbrev cX4_price : ByteArray := prog_1_method_12_code
def yX4_price : MethodName := ⟨RX4, "price", "(II)I"⟩
abbrev cX4_cheapest : ByteArray := prog_1_method_13_code
def yX4_cheapest : MethodName := ⟨RX4, "cheapest", "(I)I"⟩
abbrev cX4_plan : ByteArray := prog_1_method_14_code
def yX4_plan : MethodName := ⟨RX4, "plan", "(IZ)I"⟩
abbrev cX4_order : ByteArray := prog_1_method_15_code
def yX4_order : MethodName := ⟨RX4, "order", "()I"⟩
abbrev cX4_judge : ByteArray := prog_1_method_16_code
def yX4_judge : MethodName := ⟨RX4, "judge", "(II)I"⟩
abbrev cX4_cost : ByteArray := prog_1_method_17_code
def yX4_cost : MethodName := ⟨RX4, "cost", "(II)I"⟩
abbrev cX4_waits : ByteArray := prog_1_method_18_code
def yX4_waits : MethodName := ⟨RX4, "waits", "(II)I"⟩
abbrev cX4_who : ByteArray := prog_1_method_19_code
def yX4_who : MethodName := ⟨RX4, "who", "(III)I"⟩
abbrev cX4_share : ByteArray := prog_1_method_20_code
def yX4_share : MethodName := ⟨RX4, "share", "(IZ)I"⟩
abbrev cX4_rests : ByteArray := prog_1_method_21_code
def yX4_rests : MethodName := ⟨RX4, "rests", "(III)I"⟩
abbrev cX4_lost : ByteArray := prog_1_method_22_code
def yX4_lost : MethodName := ⟨RX4, "lost", "(IIIZ)I"⟩
abbrev cX4_seed : ByteArray := prog_1_method_23_code
def yX4_seed : MethodName := ⟨RX4, "seed", "(J)J"⟩
abbrev cX4_years : ByteArray := prog_1_method_24_code
def yX4_years : MethodName := ⟨RX4, "years", "(I)I"⟩
abbrev cX4_keep : ByteArray := prog_1_method_25_code
def yX4_keep : MethodName := ⟨RX4, "keep", "(I)I"⟩
abbrev cX4_again : ByteArray := prog_1_method_26_code
def yX4_again : MethodName := ⟨RX4, "again", "(I)I"⟩
abbrev cX4_count : ByteArray := prog_1_method_27_code
def yX4_count : MethodName := ⟨RX4, "count", "(I)I"⟩
abbrev cX4_readText : ByteArray := prog_1_method_28_code
def yX4_readText : MethodName := ⟨RX4, "readText", "()I"⟩
abbrev cX4_known : ByteArray := prog_1_method_29_code
def yX4_known : MethodName := ⟨RX4, "known", "(I)Z"⟩
abbrev cX4_unsent : ByteArray := prog_1_method_30_code
def yX4_unsent : MethodName := ⟨RX4, "unsent", "()I"⟩
abbrev cX4_costOfUnsent : ByteArray := prog_1_method_31_code
def yX4_costOfUnsent : MethodName := ⟨RX4, "costOfUnsent", "()I"⟩
abbrev cX4_canBeSent : ByteArray := prog_1_method_32_code
def yX4_canBeSent : MethodName := ⟨RX4, "canBeSent", "(LWaitedPost$Standing;I)Z"⟩
abbrev cX4_putSent : ByteArray := prog_1_method_33_code
def yX4_putSent : MethodName := ⟨RX4, "putSent", "(LWaitedPost$Standing;I)I"⟩
abbrev cX4_remember : ByteArray := prog_1_method_34_code
def yX4_remember : MethodName := ⟨RX4, "remember", "()V"⟩
abbrev cX4_forgetFirstAct : ByteArray := prog_1_method_35_code
def yX4_forgetFirstAct : MethodName := ⟨RX4, "forgetFirstAct", "()V"⟩
abbrev cX4_firstUnexplained : ByteArray := prog_1_method_36_code
def yX4_firstUnexplained : MethodName := ⟨RX4, "firstUnexplained", "(I)I"⟩
abbrev cX4_takeFigures : ByteArray := prog_1_method_37_code
def yX4_takeFigures : MethodName := ⟨RX4, "takeFigures", "(II)Z"⟩
abbrev cX4_tryThings : ByteArray := prog_1_method_38_code
def yX4_tryThings : MethodName := ⟨RX4, "tryThings", "(I)I"⟩
abbrev cX4_costForShare : ByteArray := prog_1_method_39_code
def yX4_costForShare : MethodName := ⟨RX4, "costForShare", "(I)I"⟩
abbrev cX4_costBeside : ByteArray := prog_1_method_40_code
def yX4_costBeside : MethodName := ⟨RX4, "costBeside", "(IIII)I"⟩
abbrev cX4_isBestDay : ByteArray := prog_1_method_41_code
def yX4_isBestDay : MethodName := ⟨RX4, "isBestDay", "(IIII)Z"⟩
abbrev cX4_isCost : ByteArray := prog_1_method_42_code
def yX4_isCost : MethodName := ⟨RX4, "isCost", "(I)Z"⟩
abbrev cX4_bit : ByteArray := prog_1_method_43_code
def yX4_bit : MethodName := ⟨RX4, "bit", "(I)I"⟩
abbrev cX4_has : ByteArray := prog_1_method_44_code
def yX4_has : MethodName := ⟨RX4, "has", "(II)Z"⟩
abbrev cX4_within : ByteArray := prog_1_method_45_code
def yX4_within : MethodName := ⟨RX4, "within", "(II)Z"⟩
abbrev cX4_at : ByteArray := prog_1_method_46_code
def yX4_at : MethodName := ⟨RX4, "at", "([II)I"⟩
abbrev cX4_put : ByteArray := prog_1_method_47_code
def yX4_put : MethodName := ⟨RX4, "put", "([III)V"⟩
abbrev cX4_copyRow : ByteArray := prog_1_method_48_code
def yX4_copyRow : MethodName := ⟨RX4, "copyRow", "([I[I)V"⟩
abbrev cX4_power : ByteArray := prog_1_method_49_code
def yX4_power : MethodName := ⟨RX4, "power", "(II)J"⟩
abbrev cX4_factorial : ByteArray := prog_1_method_50_code
def yX4_factorial : MethodName := ⟨RX4, "factorial", "(I)J"⟩
abbrev cX4_fractionPart : ByteArray := prog_1_method_51_code
def yX4_fractionPart : MethodName := ⟨RX4, "fractionPart", "(JJZ)I"⟩
abbrev cX4_commonDivisor : ByteArray := prog_1_method_52_code
def yX4_commonDivisor : MethodName := ⟨RX4, "commonDivisor", "(JJ)J"⟩
def RX5 : String := "WaitedPostModel"
def TX5 : u_T := fun k => match k with
  | 0 => ("WaitedPostModel", "letters", "I", false)
  | 1 => ("WaitedPostModel", "pardon", "I", false)
  | 2 => ("WaitedPostModel", "room", "I", false)
  | 3 => ("WaitedPostModel", "kind", "[I", true)
  | 4 => ("WaitedPostModel", "explained", "[I", true)
  | 5 => ("WaitedPostModel", "now", "[I", true)
  | 6 => ("WaitedPostModel", "readWait", "[I", true)
  | 7 => ("WaitedPostModel", "readKind", "[I", true)
  | 8 => ("WaitedPostModel", "readExplained", "[I", true)
  | 9 => ("WaitedPostModel", "readLetters", "I", false)
  | 10 => ("WaitedPostModel", "readPardon", "I", false)
  | 11 => ("WaitedPostModel", "readRoom", "I", false)
  | 12 => ("WaitedPostModel", "text", "[I", true)
  | 13 => ("WaitedPostModel", "length", "I", false)
  | 14 => ("WaitedPostModel", "at", "I", false)
  | 15 => ("WaitedPostModel", "faultAt", "I", false)
  | 16 => ("WaitedPostModel", "acts", "I", false)
  | 17 => ("WaitedPostModel", "next", "I", false)
  | 18 => ("WaitedPostModel", "row", "[I", true)
  | 19 => ("WaitedPostModel", "bestRow", "I", false)
  | 20 => ("WaitedPostModel", "leasts", "[I", true)
  | 21 => ("WaitedPostModel", "seed", "J", false)
  | 22 => ("WaitedPostModel", "isKept", "[Z", true)
  | _ => ("WaitedPostModel", "kept", "[I", true)
def tyX5 : Nat → FieldType := fun k => match k with
  | 0 => .int
  | 1 => .int
  | 2 => .int
  | 3 => .array .int
  | 4 => .array .int
  | 5 => .array .int
  | 6 => .array .int
  | 7 => .array .int
  | 8 => .array .int
  | 9 => .int
  | 10 => .int
  | 11 => .int
  | 12 => .array .int
  | 13 => .int
  | 14 => .int
  | 15 => .int
  | 16 => .int
  | 17 => .int
  | 18 => .array .int
  | 19 => .int
  | 20 => .array .int
  | 21 => .long
  | 22 => .array .boolean
  | _ => .array .int
theorem nmX5 : ∀ a, a < 24 → ∀ b, b < 24 → a ≠ b → (TX5 a).2.1 ≠ (TX5 b).2.1 := by decide +kernel
theorem tyX5_ok : ∀ k, k < 24 → parseFieldDescriptor (TX5 k).2.2.1 = some (tyX5 k) := by decide +kernel
abbrev cX5_init : ByteArray := prog_7_method_1_code
def yX5_init : MethodName := ⟨RX5, "<init>", "()V"⟩
abbrev cX5_in : ByteArray := prog_7_method_3_code
def yX5_in : MethodName := ⟨RX5, "in", "(JJJ)Z"⟩
abbrev cX5_has : ByteArray := prog_7_method_4_code
def yX5_has : MethodName := ⟨RX5, "has", "(II)Z"⟩
abbrev cX5_ones : ByteArray := prog_7_method_5_code
def yX5_ones : MethodName := ⟨RX5, "ones", "(I)I"⟩
abbrev cX5_write : ByteArray := prog_7_method_6_code
def yX5_write : MethodName := ⟨RX5, "write", "(I)I"⟩
abbrev cX5_wipe : ByteArray := prog_7_method_7_code
def yX5_wipe : MethodName := ⟨RX5, "wipe", "()I"⟩
abbrev cX5_figure : ByteArray := prog_7_method_8_code
def yX5_figure : MethodName := ⟨RX5, "figure", "(II)I"⟩
abbrev cX5_figureOf : ByteArray := prog_7_method_9_code
def yX5_figureOf : MethodName := ⟨RX5, "figureOf", "(I)I"⟩
abbrev cX5_left : ByteArray := prog_7_method_10_code
def yX5_left : MethodName := ⟨RX5, "left", "(I)I"⟩
abbrev cX5_firstsLeft : ByteArray := prog_7_method_11_code
def yX5_firstsLeft : MethodName := ⟨RX5, "firstsLeft", "()I"⟩
abbrev cX5_readText : ByteArray := prog_7_method_12_code
def yX5_readText : MethodName := ⟨RX5, "readText", "()I"⟩
abbrev cX5_fault : ByteArray := prog_7_method_13_code
def yX5_fault : MethodName := ⟨RX5, "fault", "()I"⟩
abbrev cX5_post : ByteArray := prog_7_method_14_code
def yX5_post : MethodName := ⟨RX5, "post", "()I"⟩
abbrev cX5_isLetter : ByteArray := prog_7_method_15_code
def yX5_isLetter : MethodName := ⟨RX5, "isLetter", "(I)Z"⟩
abbrev cX5_isSent : ByteArray := prog_7_method_16_code
def yX5_isSent : MethodName := ⟨RX5, "isSent", "(II)Z"⟩
abbrev cX5_priceBy : ByteArray := prog_7_method_17_code
def yX5_priceBy : MethodName := ⟨RX5, "priceBy", "(IIZII)I"⟩
abbrev cX5_priceOn : ByteArray := prog_7_method_18_code
def yX5_priceOn : MethodName := ⟨RX5, "priceOn", "(II)I"⟩
abbrev cX5_letter : ByteArray := prog_7_method_19_code
def yX5_letter : MethodName := ⟨RX5, "letter", "(II)I"⟩
abbrev cX5_canSend : ByteArray := prog_7_method_20_code
def yX5_canSend : MethodName := ⟨RX5, "canSend", "(II)Z"⟩
abbrev cX5_sendOn : ByteArray := prog_7_method_21_code
def yX5_sendOn : MethodName := ⟨RX5, "sendOn", "(II)I"⟩
abbrev cX5_passOn : ByteArray := prog_7_method_22_code
def yX5_passOn : MethodName := ⟨RX5, "passOn", "(I)V"⟩
abbrev cX5_keepAct : ByteArray := prog_7_method_23_code
def yX5_keepAct : MethodName := ⟨RX5, "keepAct", "()V"⟩
abbrev cX5_send : ByteArray := prog_7_method_24_code
def yX5_send : MethodName := ⟨RX5, "send", "(I)I"⟩
abbrev cX5_day : ByteArray := prog_7_method_25_code
def yX5_day : MethodName := ⟨RX5, "day", "()I"⟩
abbrev cX5_tear : ByteArray := prog_7_method_26_code
def yX5_tear : MethodName := ⟨RX5, "tear", "(I)I"⟩
abbrev cX5_card : ByteArray := prog_7_method_27_code
def yX5_card : MethodName := ⟨RX5, "card", "(I)I"⟩
abbrev cX5_undo : ByteArray := prog_7_method_28_code
def yX5_undo : MethodName := ⟨RX5, "undo", "()I"⟩
abbrev cX5_layTrial : ByteArray := prog_7_method_29_code
def yX5_layTrial : MethodName := ⟨RX5, "layTrial", "()V"⟩
abbrev cX5_priceIn : ByteArray := prog_7_method_30_code
def yX5_priceIn : MethodName := ⟨RX5, "priceIn", "(II)I"⟩
abbrev cX5_price : ByteArray := prog_7_method_31_code
def yX5_price : MethodName := ⟨RX5, "price", "(II)I"⟩
abbrev cX5_cheapest : ByteArray := prog_7_method_32_code
def yX5_cheapest : MethodName := ⟨RX5, "cheapest", "(I)I"⟩
abbrev cX5_fours : ByteArray := prog_7_method_33_code
def yX5_fours : MethodName := ⟨RX5, "fours", "(I)I"⟩
abbrev cX5_dayOf : ByteArray := prog_7_method_34_code
def yX5_dayOf : MethodName := ⟨RX5, "dayOf", "(III)I"⟩
abbrev cX5_paidBy : ByteArray := prog_7_method_35_code
def yX5_paidBy : MethodName := ⟨RX5, "paidBy", "(II)I"⟩
abbrev cX5_leastOf : ByteArray := prog_7_method_36_code
def yX5_leastOf : MethodName := ⟨RX5, "leastOf", "(I)I"⟩
abbrev cX5_plan : ByteArray := prog_7_method_37_code
def yX5_plan : MethodName := ⟨RX5, "plan", "(IZ)I"⟩
abbrev cX5_order : ByteArray := prog_7_method_38_code
def yX5_order : MethodName := ⟨RX5, "order", "()I"⟩
abbrev cX5_tenTo : ByteArray := prog_7_method_39_code
def yX5_tenTo : MethodName := ⟨RX5, "tenTo", "(I)I"⟩
abbrev cX5_tryThing : ByteArray := prog_7_method_40_code
def yX5_tryThing : MethodName := ⟨RX5, "tryThing", "(I)Z"⟩
abbrev cX5_areThings : ByteArray := prog_7_method_41_code
def yX5_areThings : MethodName := ⟨RX5, "areThings", "(II)Z"⟩
abbrev cX5_judge : ByteArray := prog_7_method_42_code
def yX5_judge : MethodName := ⟨RX5, "judge", "(II)I"⟩
abbrev cX5_cost : ByteArray := prog_7_method_43_code
def yX5_cost : MethodName := ⟨RX5, "cost", "(II)I"⟩
abbrev cX5_waits : ByteArray := prog_7_method_44_code
def yX5_waits : MethodName := ⟨RX5, "waits", "(II)I"⟩
abbrev cX5_priceWith : ByteArray := prog_7_method_45_code
def yX5_priceWith : MethodName := ⟨RX5, "priceWith", "(II)I"⟩
abbrev cX5_who : ByteArray := prog_7_method_46_code
def yX5_who : MethodName := ⟨RX5, "who", "(III)I"⟩
abbrev cX5_factorial : ByteArray := prog_7_method_47_code
def yX5_factorial : MethodName := ⟨RX5, "factorial", "(I)I"⟩
abbrev cX5_common : ByteArray := prog_7_method_48_code
def yX5_common : MethodName := ⟨RX5, "common", "(II)I"⟩
abbrev cX5_share : ByteArray := prog_7_method_49_code
def yX5_share : MethodName := ⟨RX5, "share", "(IZ)I"⟩
abbrev cX5_paysIf : ByteArray := prog_7_method_50_code
def yX5_paysIf : MethodName := ⟨RX5, "paysIf", "(IIII)I"⟩
abbrev cX5_isRest : ByteArray := prog_7_method_51_code
def yX5_isRest : MethodName := ⟨RX5, "isRest", "(IIII)Z"⟩
abbrev cX5_rests : ByteArray := prog_7_method_52_code
def yX5_rests : MethodName := ⟨RX5, "rests", "(III)I"⟩
abbrev cX5_power : ByteArray := prog_7_method_53_code
def yX5_power : MethodName := ⟨RX5, "power", "(II)I"⟩
abbrev cX5_lost : ByteArray := prog_7_method_54_code
def yX5_lost : MethodName := ⟨RX5, "lost", "(IIIZ)I"⟩
abbrev cX5_seed : ByteArray := prog_7_method_55_code
def yX5_seed : MethodName := ⟨RX5, "seed", "(J)J"⟩
abbrev cX5_years : ByteArray := prog_7_method_56_code
def yX5_years : MethodName := ⟨RX5, "years", "(I)I"⟩
abbrev cX5_keep : ByteArray := prog_7_method_57_code
def yX5_keep : MethodName := ⟨RX5, "keep", "(I)I"⟩
abbrev cX5_again : ByteArray := prog_7_method_58_code
def yX5_again : MethodName := ⟨RX5, "again", "(I)I"⟩
abbrev cX5_count : ByteArray := prog_7_method_59_code
def yX5_count : MethodName := ⟨RX5, "count", "(I)I"⟩
def RJ6 : String := "java/lang/Integer"
abbrev cJ6_bitCount_0f7a4 : ByteArray := prog_8_method_49_code
def yJ6_bitCount_0f7a4 : MethodName := ⟨RJ6, "bitCount", "(I)I"⟩
def RJ9 : String := "java/lang/Math"
abbrev cJ9_abs_067f4 : ByteArray := prog_9_method_61_code
def yJ9_abs_067f4 : MethodName := ⟨RJ9, "abs", "(J)J"⟩
abbrev cJ9_max_7cf53 : ByteArray := prog_9_method_65_code
def yJ9_max_7cf53 : MethodName := ⟨RJ9, "max", "(II)I"⟩
abbrev cJ9_min_7cf53 : ByteArray := prog_9_method_69_code
def yJ9_min_7cf53 : MethodName := ⟨RJ9, "min", "(II)I"⟩
def RJ7 : String := "java/util/Arrays"
abbrev cJ7_fill_d0a16 : ByteArray := prog_10_method_101_code
def yJ7_fill_d0a16 : MethodName := ⟨RJ7, "fill", "([JJ)V"⟩
abbrev cJ7_fill_53178 : ByteArray := prog_10_method_103_code
def yJ7_fill_53178 : MethodName := ⟨RJ7, "fill", "([II)V"⟩
def RL : String := "WaitedPostLaw"
abbrev cL_law : ByteArray := code
def yL_law : MethodName := ⟨RL, "law", "([I)Z"⟩
abbrev vwCl : List vw_C := [(RX0, TX0, 1), (RX1, TX1, 3), (RX2, TX2, 7), (RX3, TX3, 6), (RX4, TX4, 13), (RX5, TX5, 24)]
end
section
theorem dX0_init_0 : decode cX0_init 0 = .ok (.aload_n 0, 1) := by decide +kernel
theorem dX0_init_1 : decode cX0_init 1 = .ok (.invokespecial 3, 3) := by decide +kernel
theorem dX0_init_4 : decode cX0_init 4 = .ok (.aload_n 0, 1) := by decide +kernel
theorem dX0_init_5 : decode cX0_init 5 = .ok (.sipush 256, 3) := by decide +kernel
theorem dX0_init_8 : decode cX0_init 8 = .ok (.newarray .long, 2) := by decide +kernel
theorem dX0_init_10 : decode cX0_init 10 = .ok (.putfield 11, 3) := by decide +kernel
theorem dX0_init_13 : decode cX0_init 13 = .ok (.return_, 1) := by decide +kernel
theorem dX0_fill_0 : decode cX0_fill 0 = .ok (.aload_n 0, 1) := by decide +kernel
theorem dX0_fill_1 : decode cX0_fill 1 = .ok (.getfield 11, 3) := by decide +kernel
theorem dX0_fill_4 : decode cX0_fill 4 = .ok (.ldc2_w 15, 3) := by decide +kernel
theorem dX0_fill_7 : decode cX0_fill 7 = .ok (.invokestatic 17, 3) := by decide +kernel
theorem dX0_fill_10 : decode cX0_fill 10 = .ok (.aload_n 1, 1) := by decide +kernel
theorem dX0_fill_11 : decode cX0_fill 11 = .ok (.ifnull 22, 3) := by decide +kernel
theorem dX0_fill_14 : decode cX0_fill 14 = .ok (.aload_n 2, 1) := by decide +kernel
theorem dX0_fill_15 : decode cX0_fill 15 = .ok (.ifnull 18, 3) := by decide +kernel
theorem dX0_fill_18 : decode cX0_fill 18 = .ok (.aload_n 2, 1) := by decide +kernel
theorem dX0_fill_19 : decode cX0_fill 19 = .ok (.getfield 23, 3) := by decide +kernel
theorem dX0_fill_22 : decode cX0_fill 22 = .ok (.ifCond .lt 11, 3) := by decide +kernel
theorem dX0_fill_25 : decode cX0_fill 25 = .ok (.aload_n 2, 1) := by decide +kernel
theorem dX0_fill_26 : decode cX0_fill 26 = .ok (.getfield 23, 3) := by decide +kernel
theorem dX0_fill_29 : decode cX0_fill 29 = .ok (.iconst 4, 1) := by decide +kernel
theorem dX0_fill_30 : decode cX0_fill 30 = .ok (.if_icmp .lt 4, 3) := by decide +kernel
theorem dX0_fill_33 : decode cX0_fill 33 = .ok (.return_, 1) := by decide +kernel
theorem dX0_fill_34 : decode cX0_fill 34 = .ok (.aload_n 0, 1) := by decide +kernel
theorem dX0_fill_35 : decode cX0_fill 35 = .ok (.aload_n 2, 1) := by decide +kernel
theorem dX0_fill_36 : decode cX0_fill 36 = .ok (.getfield 23, 3) := by decide +kernel
theorem dX0_fill_39 : decode cX0_fill 39 = .ok (.lconst 0, 1) := by decide +kernel
theorem dX0_fill_40 : decode cX0_fill 40 = .ok (.invokevirtual 29, 3) := by decide +kernel
theorem dX0_fill_43 : decode cX0_fill 43 = .ok (.iconst 0, 1) := by decide +kernel
theorem dX0_fill_44 : decode cX0_fill 44 = .ok (.istore 4, 2) := by decide +kernel
theorem dX0_fill_46 : decode cX0_fill 46 = .ok (.iload 4, 2) := by decide +kernel
theorem dX0_fill_48 : decode cX0_fill 48 = .ok (.iconst 4, 1) := by decide +kernel
theorem dX0_fill_49 : decode cX0_fill 49 = .ok (.if_icmp .ge 49, 3) := by decide +kernel
theorem dX0_fill_52 : decode cX0_fill 52 = .ok (.iconst 0, 1) := by decide +kernel
theorem dX0_fill_53 : decode cX0_fill 53 = .ok (.istore 5, 2) := by decide +kernel
theorem dX0_fill_55 : decode cX0_fill 55 = .ok (.iload 5, 2) := by decide +kernel
theorem dX0_fill_57 : decode cX0_fill 57 = .ok (.bipush 6, 2) := by decide +kernel
theorem dX0_fill_59 : decode cX0_fill 59 = .ok (.if_icmp .ge 29, 3) := by decide +kernel
theorem dX0_fill_62 : decode cX0_fill 62 = .ok (.iload_n 3, 1) := by decide +kernel
theorem dX0_fill_63 : decode cX0_fill 63 = .ok (.iload 5, 2) := by decide +kernel
theorem dX0_fill_65 : decode cX0_fill 65 = .ok (.invokestatic 33, 3) := by decide +kernel
theorem dX0_fill_68 : decode cX0_fill 68 = .ok (.ifCond .eq 14, 3) := by decide +kernel
theorem dX0_fill_71 : decode cX0_fill 71 = .ok (.aload_n 0, 1) := by decide +kernel
theorem dX0_fill_72 : decode cX0_fill 72 = .ok (.aload_n 1, 1) := by decide +kernel
theorem dX0_fill_73 : decode cX0_fill 73 = .ok (.aload_n 2, 1) := by decide +kernel
theorem dX0_fill_74 : decode cX0_fill 74 = .ok (.iload_n 3, 1) := by decide +kernel
theorem dX0_fill_75 : decode cX0_fill 75 = .ok (.iload 5, 2) := by decide +kernel
theorem dX0_fill_77 : decode cX0_fill 77 = .ok (.iload 4, 2) := by decide +kernel
theorem dX0_fill_79 : decode cX0_fill 79 = .ok (.invokevirtual 37, 3) := by decide +kernel
theorem dX0_fill_82 : decode cX0_fill 82 = .ok (.iinc 5 1, 3) := by decide +kernel
theorem dX0_fill_85 : decode cX0_fill 85 = .ok (.goto (-30), 3) := by decide +kernel
theorem dX0_fill_88 : decode cX0_fill 88 = .ok (.aload_n 0, 1) := by decide +kernel
theorem dX0_fill_89 : decode cX0_fill 89 = .ok (.invokevirtual 41, 3) := by decide +kernel
theorem dX0_fill_92 : decode cX0_fill 92 = .ok (.iinc 4 1, 3) := by decide +kernel
theorem dX0_fill_95 : decode cX0_fill 95 = .ok (.goto (-49), 3) := by decide +kernel
theorem dX0_fill_98 : decode cX0_fill 98 = .ok (.return_, 1) := by decide +kernel
theorem dX0_hasRoom_0 : decode cX0_hasRoom 0 = .ok (.aload_n 0, 1) := by decide +kernel
theorem dX0_hasRoom_1 : decode cX0_hasRoom 1 = .ok (.iload_n 1, 1) := by decide +kernel
theorem dX0_hasRoom_2 : decode cX0_hasRoom 2 = .ok (.iconst 4, 1) := by decide +kernel
theorem dX0_hasRoom_3 : decode cX0_hasRoom 3 = .ok (.imul, 1) := by decide +kernel
theorem dX0_hasRoom_4 : decode cX0_hasRoom 4 = .ok (.invokevirtual 44, 3) := by decide +kernel
theorem dX0_hasRoom_7 : decode cX0_hasRoom 7 = .ok (.ldc2_w 15, 3) := by decide +kernel
theorem dX0_hasRoom_10 : decode cX0_hasRoom 10 = .ok (.lcmp, 1) := by decide +kernel
theorem dX0_hasRoom_11 : decode cX0_hasRoom 11 = .ok (.ifCond .ge 7, 3) := by decide +kernel
theorem dX0_hasRoom_14 : decode cX0_hasRoom 14 = .ok (.iconst 1, 1) := by decide +kernel
theorem dX0_hasRoom_15 : decode cX0_hasRoom 15 = .ok (.goto 4, 3) := by decide +kernel
theorem dX0_hasRoom_18 : decode cX0_hasRoom 18 = .ok (.iconst 0, 1) := by decide +kernel
theorem dX0_hasRoom_19 : decode cX0_hasRoom 19 = .ok (.ireturn, 1) := by decide +kernel
theorem dX0_paidFor_0 : decode cX0_paidFor 0 = .ok (.aload_n 0, 1) := by decide +kernel
theorem dX0_paidFor_1 : decode cX0_paidFor 1 = .ok (.iload_n 1, 1) := by decide +kernel
theorem dX0_paidFor_2 : decode cX0_paidFor 2 = .ok (.iconst 4, 1) := by decide +kernel
theorem dX0_paidFor_3 : decode cX0_paidFor 3 = .ok (.imul, 1) := by decide +kernel
theorem dX0_paidFor_4 : decode cX0_paidFor 4 = .ok (.invokevirtual 44, 3) := by decide +kernel
theorem dX0_paidFor_7 : decode cX0_paidFor 7 = .ok (.ldc2_w 48, 3) := by decide +kernel
theorem dX0_paidFor_10 : decode cX0_paidFor 10 = .ok (.ldiv, 1) := by decide +kernel
theorem dX0_paidFor_11 : decode cX0_paidFor 11 = .ok (.l2i, 1) := by decide +kernel
theorem dX0_paidFor_12 : decode cX0_paidFor 12 = .ok (.ireturn, 1) := by decide +kernel
theorem dX0_rowOf_0 : decode cX0_rowOf 0 = .ok (.aload_n 0, 1) := by decide +kernel
theorem dX0_rowOf_1 : decode cX0_rowOf 1 = .ok (.iload_n 1, 1) := by decide +kernel
theorem dX0_rowOf_2 : decode cX0_rowOf 2 = .ok (.iconst 4, 1) := by decide +kernel
theorem dX0_rowOf_3 : decode cX0_rowOf 3 = .ok (.imul, 1) := by decide +kernel
theorem dX0_rowOf_4 : decode cX0_rowOf 4 = .ok (.invokevirtual 44, 3) := by decide +kernel
theorem dX0_rowOf_7 : decode cX0_rowOf 7 = .ok (.ldc2_w 48, 3) := by decide +kernel
theorem dX0_rowOf_10 : decode cX0_rowOf 10 = .ok (.lrem, 1) := by decide +kernel
theorem dX0_rowOf_11 : decode cX0_rowOf 11 = .ok (.l2i, 1) := by decide +kernel
theorem dX0_rowOf_12 : decode cX0_rowOf 12 = .ok (.ireturn, 1) := by decide +kernel
theorem dX0_tryLetter_0 : decode cX0_tryLetter 0 = .ok (.iload 5, 2) := by decide +kernel
theorem dX0_tryLetter_2 : decode cX0_tryLetter 2 = .ok (.i2l, 1) := by decide +kernel
theorem dX0_tryLetter_3 : decode cX0_tryLetter 3 = .ok (.bipush 10, 2) := by decide +kernel
theorem dX0_tryLetter_5 : decode cX0_tryLetter 5 = .ok (.iload_n 3, 1) := by decide +kernel
theorem dX0_tryLetter_6 : decode cX0_tryLetter 6 = .ok (.iload 4, 2) := by decide +kernel
theorem dX0_tryLetter_8 : decode cX0_tryLetter 8 = .ok (.iconst 1, 1) := by decide +kernel
theorem dX0_tryLetter_9 : decode cX0_tryLetter 9 = .ok (.iadd, 1) := by decide +kernel
theorem dX0_tryLetter_10 : decode cX0_tryLetter 10 = .ok (.ishr, 1) := by decide +kernel
theorem dX0_tryLetter_11 : decode cX0_tryLetter 11 = .ok (.invokestatic 50, 3) := by decide +kernel
theorem dX0_tryLetter_14 : decode cX0_tryLetter 14 = .ok (.invokestatic 56, 3) := by decide +kernel
theorem dX0_tryLetter_17 : decode cX0_tryLetter 17 = .ok (.lmul, 1) := by decide +kernel
theorem dX0_tryLetter_18 : decode cX0_tryLetter 18 = .ok (.lstore 6, 2) := by decide +kernel
theorem dX0_tryLetter_20 : decode cX0_tryLetter 20 = .ok (.iconst 0, 1) := by decide +kernel
theorem dX0_tryLetter_21 : decode cX0_tryLetter 21 = .ok (.istore 8, 2) := by decide +kernel
theorem dX0_tryLetter_23 : decode cX0_tryLetter 23 = .ok (.iload 8, 2) := by decide +kernel
theorem dX0_tryLetter_25 : decode cX0_tryLetter 25 = .ok (.bipush 64, 2) := by decide +kernel
theorem dX0_tryLetter_27 : decode cX0_tryLetter 27 = .ok (.if_icmp .ge 112, 3) := by decide +kernel
theorem dX0_tryLetter_30 : decode cX0_tryLetter 30 = .ok (.iload 8, 2) := by decide +kernel
theorem dX0_tryLetter_32 : decode cX0_tryLetter 32 = .ok (.iload_n 3, 1) := by decide +kernel
theorem dX0_tryLetter_33 : decode cX0_tryLetter 33 = .ok (.invokestatic 60, 3) := by decide +kernel
theorem dX0_tryLetter_36 : decode cX0_tryLetter 36 = .ok (.ifCond .eq 97, 3) := by decide +kernel
theorem dX0_tryLetter_39 : decode cX0_tryLetter 39 = .ok (.iload 8, 2) := by decide +kernel
theorem dX0_tryLetter_41 : decode cX0_tryLetter 41 = .ok (.iload 4, 2) := by decide +kernel
theorem dX0_tryLetter_43 : decode cX0_tryLetter 43 = .ok (.invokestatic 33, 3) := by decide +kernel
theorem dX0_tryLetter_46 : decode cX0_tryLetter 46 = .ok (.ifCond .eq 6, 3) := by decide +kernel
theorem dX0_tryLetter_49 : decode cX0_tryLetter 49 = .ok (.goto 84, 3) := by decide +kernel
theorem dX0_tryLetter_52 : decode cX0_tryLetter 52 = .ok (.ldc2_w 48, 3) := by decide +kernel
theorem dX0_tryLetter_55 : decode cX0_tryLetter 55 = .ok (.aload_n 1, 1) := by decide +kernel
theorem dX0_tryLetter_56 : decode cX0_tryLetter 56 = .ok (.aload_n 2, 1) := by decide +kernel
theorem dX0_tryLetter_57 : decode cX0_tryLetter 57 = .ok (.iload 4, 2) := by decide +kernel
theorem dX0_tryLetter_59 : decode cX0_tryLetter 59 = .ok (.iload 5, 2) := by decide +kernel
theorem dX0_tryLetter_61 : decode cX0_tryLetter 61 = .ok (.aload_n 2, 1) := by decide +kernel
theorem dX0_tryLetter_62 : decode cX0_tryLetter 62 = .ok (.getfield 63, 3) := by decide +kernel
theorem dX0_tryLetter_65 : decode cX0_tryLetter 65 = .ok (.iload 8, 2) := by decide +kernel
theorem dX0_tryLetter_67 : decode cX0_tryLetter 67 = .ok (.ior, 1) := by decide +kernel
theorem dX0_tryLetter_68 : decode cX0_tryLetter 68 = .ok (.invokevirtual 66, 3) := by decide +kernel
theorem dX0_tryLetter_71 : decode cX0_tryLetter 71 = .ok (.i2l, 1) := by decide +kernel
theorem dX0_tryLetter_72 : decode cX0_tryLetter 72 = .ok (.lmul, 1) := by decide +kernel
theorem dX0_tryLetter_73 : decode cX0_tryLetter 73 = .ok (.lload 6, 2) := by decide +kernel
theorem dX0_tryLetter_75 : decode cX0_tryLetter 75 = .ok (.ladd, 1) := by decide +kernel
theorem dX0_tryLetter_76 : decode cX0_tryLetter 76 = .ok (.lstore 9, 2) := by decide +kernel
theorem dX0_tryLetter_78 : decode cX0_tryLetter 78 = .ok (.iload 8, 2) := by decide +kernel
theorem dX0_tryLetter_80 : decode cX0_tryLetter 80 = .ok (.iload 4, 2) := by decide +kernel
theorem dX0_tryLetter_82 : decode cX0_tryLetter 82 = .ok (.invokestatic 72, 3) := by decide +kernel
theorem dX0_tryLetter_85 : decode cX0_tryLetter 85 = .ok (.ior, 1) := by decide +kernel
theorem dX0_tryLetter_86 : decode cX0_tryLetter 86 = .ok (.iconst 4, 1) := by decide +kernel
theorem dX0_tryLetter_87 : decode cX0_tryLetter 87 = .ok (.imul, 1) := by decide +kernel
theorem dX0_tryLetter_88 : decode cX0_tryLetter 88 = .ok (.istore 11, 2) := by decide +kernel
theorem dX0_tryLetter_90 : decode cX0_tryLetter 90 = .ok (.iconst 0, 1) := by decide +kernel
theorem dX0_tryLetter_91 : decode cX0_tryLetter 91 = .ok (.istore 12, 2) := by decide +kernel
theorem dX0_tryLetter_93 : decode cX0_tryLetter 93 = .ok (.iload 12, 2) := by decide +kernel
theorem dX0_tryLetter_95 : decode cX0_tryLetter 95 = .ok (.aload_n 1, 1) := by decide +kernel
theorem dX0_tryLetter_96 : decode cX0_tryLetter 96 = .ok (.getfield 75, 3) := by decide +kernel
theorem dX0_tryLetter_99 : decode cX0_tryLetter 99 = .ok (.if_icmp .ge 34, 3) := by decide +kernel
theorem dX0_tryLetter_102 : decode cX0_tryLetter 102 = .ok (.aload_n 0, 1) := by decide +kernel
theorem dX0_tryLetter_103 : decode cX0_tryLetter 103 = .ok (.iload 11, 2) := by decide +kernel
theorem dX0_tryLetter_105 : decode cX0_tryLetter 105 = .ok (.iload 12, 2) := by decide +kernel
theorem dX0_tryLetter_107 : decode cX0_tryLetter 107 = .ok (.iadd, 1) := by decide +kernel
theorem dX0_tryLetter_108 : decode cX0_tryLetter 108 = .ok (.iconst 1, 1) := by decide +kernel
theorem dX0_tryLetter_109 : decode cX0_tryLetter 109 = .ok (.iadd, 1) := by decide +kernel
theorem dX0_tryLetter_110 : decode cX0_tryLetter 110 = .ok (.aload_n 0, 1) := by decide +kernel
theorem dX0_tryLetter_111 : decode cX0_tryLetter 111 = .ok (.iload 8, 2) := by decide +kernel
theorem dX0_tryLetter_113 : decode cX0_tryLetter 113 = .ok (.iconst 4, 1) := by decide +kernel
theorem dX0_tryLetter_114 : decode cX0_tryLetter 114 = .ok (.imul, 1) := by decide +kernel
theorem dX0_tryLetter_115 : decode cX0_tryLetter 115 = .ok (.iload 12, 2) := by decide +kernel
theorem dX0_tryLetter_117 : decode cX0_tryLetter 117 = .ok (.iadd, 1) := by decide +kernel
theorem dX0_tryLetter_118 : decode cX0_tryLetter 118 = .ok (.invokevirtual 44, 3) := by decide +kernel
theorem dX0_tryLetter_121 : decode cX0_tryLetter 121 = .ok (.lload 9, 2) := by decide +kernel
theorem dX0_tryLetter_123 : decode cX0_tryLetter 123 = .ok (.ladd, 1) := by decide +kernel
theorem dX0_tryLetter_124 : decode cX0_tryLetter 124 = .ok (.invokevirtual 29, 3) := by decide +kernel
theorem dX0_tryLetter_127 : decode cX0_tryLetter 127 = .ok (.iinc 12 1, 3) := by decide +kernel
theorem dX0_tryLetter_130 : decode cX0_tryLetter 130 = .ok (.goto (-37), 3) := by decide +kernel
theorem dX0_tryLetter_133 : decode cX0_tryLetter 133 = .ok (.iinc 8 1, 3) := by decide +kernel
theorem dX0_tryLetter_136 : decode cX0_tryLetter 136 = .ok (.goto (-113), 3) := by decide +kernel
theorem dX0_tryLetter_139 : decode cX0_tryLetter 139 = .ok (.return_, 1) := by decide +kernel
theorem dX0_endDay_0 : decode cX0_endDay 0 = .ok (.iconst 0, 1) := by decide +kernel
theorem dX0_endDay_1 : decode cX0_endDay 1 = .ok (.istore_n 1, 1) := by decide +kernel
theorem dX0_endDay_2 : decode cX0_endDay 2 = .ok (.iload_n 1, 1) := by decide +kernel
theorem dX0_endDay_3 : decode cX0_endDay 3 = .ok (.iconst 4, 1) := by decide +kernel
theorem dX0_endDay_4 : decode cX0_endDay 4 = .ok (.iadd, 1) := by decide +kernel
theorem dX0_endDay_5 : decode cX0_endDay 5 = .ok (.aload_n 0, 1) := by decide +kernel
theorem dX0_endDay_6 : decode cX0_endDay 6 = .ok (.getfield 11, 3) := by decide +kernel
theorem dX0_endDay_9 : decode cX0_endDay 9 = .ok (.arraylength, 1) := by decide +kernel
theorem dX0_endDay_10 : decode cX0_endDay 10 = .ok (.if_icmp .gt 45, 3) := by decide +kernel
theorem dX0_endDay_13 : decode cX0_endDay 13 = .ok (.iconst 1, 1) := by decide +kernel
theorem dX0_endDay_14 : decode cX0_endDay 14 = .ok (.istore_n 2, 1) := by decide +kernel
theorem dX0_endDay_15 : decode cX0_endDay 15 = .ok (.iload_n 2, 1) := by decide +kernel
theorem dX0_endDay_16 : decode cX0_endDay 16 = .ok (.iconst 4, 1) := by decide +kernel
theorem dX0_endDay_17 : decode cX0_endDay 17 = .ok (.if_icmp .ge 32, 3) := by decide +kernel
theorem dX0_endDay_20 : decode cX0_endDay 20 = .ok (.aload_n 0, 1) := by decide +kernel
theorem dX0_endDay_21 : decode cX0_endDay 21 = .ok (.iload_n 1, 1) := by decide +kernel
theorem dX0_endDay_22 : decode cX0_endDay 22 = .ok (.aload_n 0, 1) := by decide +kernel
theorem dX0_endDay_23 : decode cX0_endDay 23 = .ok (.iload_n 1, 1) := by decide +kernel
theorem dX0_endDay_24 : decode cX0_endDay 24 = .ok (.iload_n 2, 1) := by decide +kernel
theorem dX0_endDay_25 : decode cX0_endDay 25 = .ok (.iadd, 1) := by decide +kernel
theorem dX0_endDay_26 : decode cX0_endDay 26 = .ok (.invokevirtual 44, 3) := by decide +kernel
theorem dX0_endDay_29 : decode cX0_endDay 29 = .ok (.invokevirtual 29, 3) := by decide +kernel
theorem dX0_endDay_32 : decode cX0_endDay 32 = .ok (.aload_n 0, 1) := by decide +kernel
theorem dX0_endDay_33 : decode cX0_endDay 33 = .ok (.getfield 11, 3) := by decide +kernel
theorem dX0_endDay_36 : decode cX0_endDay 36 = .ok (.iload_n 1, 1) := by decide +kernel
theorem dX0_endDay_37 : decode cX0_endDay 37 = .ok (.iload_n 2, 1) := by decide +kernel
theorem dX0_endDay_38 : decode cX0_endDay 38 = .ok (.iadd, 1) := by decide +kernel
theorem dX0_endDay_39 : decode cX0_endDay 39 = .ok (.ldc2_w 15, 3) := by decide +kernel
theorem dX0_endDay_42 : decode cX0_endDay 42 = .ok (.lastore, 1) := by decide +kernel
theorem dX0_endDay_43 : decode cX0_endDay 43 = .ok (.iinc 2 1, 3) := by decide +kernel
theorem dX0_endDay_46 : decode cX0_endDay 46 = .ok (.goto (-31), 3) := by decide +kernel
theorem dX0_endDay_49 : decode cX0_endDay 49 = .ok (.iinc 1 4, 3) := by decide +kernel
theorem dX0_endDay_52 : decode cX0_endDay 52 = .ok (.goto (-50), 3) := by decide +kernel
theorem dX0_endDay_55 : decode cX0_endDay 55 = .ok (.return_, 1) := by decide +kernel
theorem dX0_bestAt_0 : decode cX0_bestAt 0 = .ok (.iload_n 1, 1) := by decide +kernel
theorem dX0_bestAt_1 : decode cX0_bestAt 1 = .ok (.ifCond .lt 21, 3) := by decide +kernel
theorem dX0_bestAt_4 : decode cX0_bestAt 4 = .ok (.iload_n 1, 1) := by decide +kernel
theorem dX0_bestAt_5 : decode cX0_bestAt 5 = .ok (.aload_n 0, 1) := by decide +kernel
theorem dX0_bestAt_6 : decode cX0_bestAt 6 = .ok (.getfield 11, 3) := by decide +kernel
theorem dX0_bestAt_9 : decode cX0_bestAt 9 = .ok (.arraylength, 1) := by decide +kernel
theorem dX0_bestAt_10 : decode cX0_bestAt 10 = .ok (.if_icmp .ge 12, 3) := by decide +kernel
theorem dX0_bestAt_13 : decode cX0_bestAt 13 = .ok (.aload_n 0, 1) := by decide +kernel
theorem dX0_bestAt_14 : decode cX0_bestAt 14 = .ok (.getfield 11, 3) := by decide +kernel
theorem dX0_bestAt_17 : decode cX0_bestAt 17 = .ok (.iload_n 1, 1) := by decide +kernel
theorem dX0_bestAt_18 : decode cX0_bestAt 18 = .ok (.laload, 1) := by decide +kernel
theorem dX0_bestAt_19 : decode cX0_bestAt 19 = .ok (.goto 6, 3) := by decide +kernel
theorem dX0_bestAt_22 : decode cX0_bestAt 22 = .ok (.ldc2_w 15, 3) := by decide +kernel
theorem dX0_bestAt_25 : decode cX0_bestAt 25 = .ok (.lreturn, 1) := by decide +kernel
theorem dX0_lower_0 : decode cX0_lower 0 = .ok (.iload_n 1, 1) := by decide +kernel
theorem dX0_lower_1 : decode cX0_lower 1 = .ok (.ifCond .lt 30, 3) := by decide +kernel
theorem dX0_lower_4 : decode cX0_lower 4 = .ok (.iload_n 1, 1) := by decide +kernel
theorem dX0_lower_5 : decode cX0_lower 5 = .ok (.aload_n 0, 1) := by decide +kernel
theorem dX0_lower_6 : decode cX0_lower 6 = .ok (.getfield 11, 3) := by decide +kernel
theorem dX0_lower_9 : decode cX0_lower 9 = .ok (.arraylength, 1) := by decide +kernel
theorem dX0_lower_10 : decode cX0_lower 10 = .ok (.if_icmp .ge 21, 3) := by decide +kernel
theorem dX0_lower_13 : decode cX0_lower 13 = .ok (.lload_n 2, 1) := by decide +kernel
theorem dX0_lower_14 : decode cX0_lower 14 = .ok (.aload_n 0, 1) := by decide +kernel
theorem dX0_lower_15 : decode cX0_lower 15 = .ok (.getfield 11, 3) := by decide +kernel
theorem dX0_lower_18 : decode cX0_lower 18 = .ok (.iload_n 1, 1) := by decide +kernel
theorem dX0_lower_19 : decode cX0_lower 19 = .ok (.laload, 1) := by decide +kernel
theorem dX0_lower_20 : decode cX0_lower 20 = .ok (.lcmp, 1) := by decide +kernel
theorem dX0_lower_21 : decode cX0_lower 21 = .ok (.ifCond .ge 10, 3) := by decide +kernel
theorem dX0_lower_24 : decode cX0_lower 24 = .ok (.aload_n 0, 1) := by decide +kernel
theorem dX0_lower_25 : decode cX0_lower 25 = .ok (.getfield 11, 3) := by decide +kernel
theorem dX0_lower_28 : decode cX0_lower 28 = .ok (.iload_n 1, 1) := by decide +kernel
theorem dX0_lower_29 : decode cX0_lower 29 = .ok (.lload_n 2, 1) := by decide +kernel
theorem dX0_lower_30 : decode cX0_lower 30 = .ok (.lastore, 1) := by decide +kernel
theorem dX0_lower_31 : decode cX0_lower 31 = .ok (.return_, 1) := by decide +kernel
theorem dX1_init_0 : decode cX1_init 0 = .ok (.aload_n 0, 1) := by decide +kernel
theorem dX1_init_1 : decode cX1_init 1 = .ok (.invokespecial 3, 3) := by decide +kernel
theorem dX1_init_4 : decode cX1_init 4 = .ok (.aload_n 0, 1) := by decide +kernel
theorem dX1_init_5 : decode cX1_init 5 = .ok (.new 9, 3) := by decide +kernel
theorem dX1_init_8 : decode cX1_init 8 = .ok (.dup, 1) := by decide +kernel
theorem dX1_init_9 : decode cX1_init 9 = .ok (.invokespecial 11, 3) := by decide +kernel
theorem dX1_init_12 : decode cX1_init 12 = .ok (.putfield 12, 3) := by decide +kernel
theorem dX1_init_15 : decode cX1_init 15 = .ok (.return_, 1) := by decide +kernel
theorem dX1_begin_0 : decode cX1_begin 0 = .ok (.aload_n 0, 1) := by decide +kernel
theorem dX1_begin_1 : decode cX1_begin 1 = .ok (.getfield 12, 3) := by decide +kernel
theorem dX1_begin_4 : decode cX1_begin 4 = .ok (.invokevirtual 18, 3) := by decide +kernel
theorem dX1_begin_7 : decode cX1_begin 7 = .ok (.aload_n 0, 1) := by decide +kernel
theorem dX1_begin_8 : decode cX1_begin 8 = .ok (.iconst 0, 1) := by decide +kernel
theorem dX1_begin_9 : decode cX1_begin 9 = .ok (.putfield 21, 3) := by decide +kernel
theorem dX1_begin_12 : decode cX1_begin 12 = .ok (.return_, 1) := by decide +kernel
theorem dX1_mayEnd_0 : decode cX1_mayEnd 0 = .ok (.aload_n 0, 1) := by decide +kernel
theorem dX1_mayEnd_1 : decode cX1_mayEnd 1 = .ok (.getfield 21, 3) := by decide +kernel
theorem dX1_mayEnd_4 : decode cX1_mayEnd 4 = .ok (.iconst 3, 1) := by decide +kernel
theorem dX1_mayEnd_5 : decode cX1_mayEnd 5 = .ok (.if_icmp .ne 7, 3) := by decide +kernel
theorem dX1_mayEnd_8 : decode cX1_mayEnd 8 = .ok (.iconst 1, 1) := by decide +kernel
theorem dX1_mayEnd_9 : decode cX1_mayEnd 9 = .ok (.goto 4, 3) := by decide +kernel
theorem dX1_mayEnd_12 : decode cX1_mayEnd 12 = .ok (.iconst 0, 1) := by decide +kernel
theorem dX1_mayEnd_13 : decode cX1_mayEnd 13 = .ok (.ireturn, 1) := by decide +kernel
theorem dX1_takes_0 : decode cX1_takes 0 = .ok (.iload_n 1, 1) := by decide +kernel
theorem dX1_takes_1 : decode cX1_takes 1 = .ok (.bipush 48, 2) := by decide +kernel
theorem dX1_takes_3 : decode cX1_takes 3 = .ok (.if_icmp .lt 16, 3) := by decide +kernel
theorem dX1_takes_6 : decode cX1_takes 6 = .ok (.iload_n 1, 1) := by decide +kernel
theorem dX1_takes_7 : decode cX1_takes 7 = .ok (.bipush 57, 2) := by decide +kernel
theorem dX1_takes_9 : decode cX1_takes 9 = .ok (.if_icmp .gt 10, 3) := by decide +kernel
theorem dX1_takes_12 : decode cX1_takes 12 = .ok (.iload_n 1, 1) := by decide +kernel
theorem dX1_takes_13 : decode cX1_takes 13 = .ok (.bipush 48, 2) := by decide +kernel
theorem dX1_takes_15 : decode cX1_takes 15 = .ok (.isub, 1) := by decide +kernel
theorem dX1_takes_16 : decode cX1_takes 16 = .ok (.goto 4, 3) := by decide +kernel
theorem dX1_takes_19 : decode cX1_takes 19 = .ok (.iconst (-1), 1) := by decide +kernel
theorem dX1_takes_20 : decode cX1_takes 20 = .ok (.istore_n 2, 1) := by decide +kernel
theorem dX1_takes_21 : decode cX1_takes 21 = .ok (.aload_n 0, 1) := by decide +kernel
theorem dX1_takes_22 : decode cX1_takes 22 = .ok (.getfield 21, 3) := by decide +kernel
theorem dX1_takes_25 : decode cX1_takes 25 = .ok (.tableswitch 95 0 7 #[47, 53, 59, 65, 71, 77, 83, 89], 47) := by decide +kernel
theorem dX1_takes_72 : decode cX1_takes 72 = .ok (.aload_n 0, 1) := by decide +kernel
theorem dX1_takes_73 : decode cX1_takes 73 = .ok (.iload_n 1, 1) := by decide +kernel
theorem dX1_takes_74 : decode cX1_takes 74 = .ok (.invokevirtual 25, 3) := by decide +kernel
theorem dX1_takes_77 : decode cX1_takes 77 = .ok (.ireturn, 1) := by decide +kernel
theorem dX1_takes_78 : decode cX1_takes 78 = .ok (.aload_n 0, 1) := by decide +kernel
theorem dX1_takes_79 : decode cX1_takes 79 = .ok (.iload_n 2, 1) := by decide +kernel
theorem dX1_takes_80 : decode cX1_takes 80 = .ok (.invokevirtual 29, 3) := by decide +kernel
theorem dX1_takes_83 : decode cX1_takes 83 = .ok (.ireturn, 1) := by decide +kernel
theorem dX1_takes_84 : decode cX1_takes 84 = .ok (.aload_n 0, 1) := by decide +kernel
theorem dX1_takes_85 : decode cX1_takes 85 = .ok (.iload_n 2, 1) := by decide +kernel
theorem dX1_takes_86 : decode cX1_takes 86 = .ok (.invokevirtual 32, 3) := by decide +kernel
theorem dX1_takes_89 : decode cX1_takes 89 = .ok (.ireturn, 1) := by decide +kernel
theorem dX1_takes_90 : decode cX1_takes 90 = .ok (.aload_n 0, 1) := by decide +kernel
theorem dX1_takes_91 : decode cX1_takes 91 = .ok (.iload_n 1, 1) := by decide +kernel
theorem dX1_takes_92 : decode cX1_takes 92 = .ok (.invokevirtual 35, 3) := by decide +kernel
theorem dX1_takes_95 : decode cX1_takes 95 = .ok (.ireturn, 1) := by decide +kernel
theorem dX1_takes_96 : decode cX1_takes 96 = .ok (.aload_n 0, 1) := by decide +kernel
theorem dX1_takes_97 : decode cX1_takes 97 = .ok (.iload_n 2, 1) := by decide +kernel
theorem dX1_takes_98 : decode cX1_takes 98 = .ok (.invokevirtual 38, 3) := by decide +kernel
theorem dX1_takes_101 : decode cX1_takes 101 = .ok (.ireturn, 1) := by decide +kernel
theorem dX1_takes_102 : decode cX1_takes 102 = .ok (.aload_n 0, 1) := by decide +kernel
theorem dX1_takes_103 : decode cX1_takes 103 = .ok (.iload_n 2, 1) := by decide +kernel
theorem dX1_takes_104 : decode cX1_takes 104 = .ok (.invokevirtual 41, 3) := by decide +kernel
theorem dX1_takes_107 : decode cX1_takes 107 = .ok (.ireturn, 1) := by decide +kernel
theorem dX1_takes_108 : decode cX1_takes 108 = .ok (.aload_n 0, 1) := by decide +kernel
theorem dX1_takes_109 : decode cX1_takes 109 = .ok (.iload_n 2, 1) := by decide +kernel
theorem dX1_takes_110 : decode cX1_takes 110 = .ok (.invokevirtual 44, 3) := by decide +kernel
theorem dX1_takes_113 : decode cX1_takes 113 = .ok (.ireturn, 1) := by decide +kernel
theorem dX1_takes_114 : decode cX1_takes 114 = .ok (.aload_n 0, 1) := by decide +kernel
theorem dX1_takes_115 : decode cX1_takes 115 = .ok (.iload_n 2, 1) := by decide +kernel
theorem dX1_takes_116 : decode cX1_takes 116 = .ok (.invokevirtual 47, 3) := by decide +kernel
theorem dX1_takes_119 : decode cX1_takes 119 = .ok (.ireturn, 1) := by decide +kernel
theorem dX1_takes_120 : decode cX1_takes 120 = .ok (.iconst 0, 1) := by decide +kernel
theorem dX1_takes_121 : decode cX1_takes 121 = .ok (.ireturn, 1) := by decide +kernel
theorem dX1_takesHead_0 : decode cX1_takesHead 0 = .ok (.aload_n 0, 1) := by decide +kernel
theorem dX1_takesHead_1 : decode cX1_takesHead 1 = .ok (.iconst 1, 1) := by decide +kernel
theorem dX1_takesHead_2 : decode cX1_takesHead 2 = .ok (.putfield 21, 3) := by decide +kernel
theorem dX1_takesHead_5 : decode cX1_takesHead 5 = .ok (.iload_n 1, 1) := by decide +kernel
theorem dX1_takesHead_6 : decode cX1_takesHead 6 = .ok (.bipush 80, 2) := by decide +kernel
theorem dX1_takesHead_8 : decode cX1_takesHead 8 = .ok (.if_icmp .ne 7, 3) := by decide +kernel
theorem dX1_takesHead_11 : decode cX1_takesHead 11 = .ok (.iconst 1, 1) := by decide +kernel
theorem dX1_takesHead_12 : decode cX1_takesHead 12 = .ok (.goto 4, 3) := by decide +kernel
theorem dX1_takesHead_15 : decode cX1_takesHead 15 = .ok (.iconst 0, 1) := by decide +kernel
theorem dX1_takesHead_16 : decode cX1_takesHead 16 = .ok (.ireturn, 1) := by decide +kernel
theorem dX1_takesPardon_0 : decode cX1_takesPardon 0 = .ok (.aload_n 0, 1) := by decide +kernel
theorem dX1_takesPardon_1 : decode cX1_takesPardon 1 = .ok (.getfield 12, 3) := by decide +kernel
theorem dX1_takesPardon_4 : decode cX1_takesPardon 4 = .ok (.iload_n 1, 1) := by decide +kernel
theorem dX1_takesPardon_5 : decode cX1_takesPardon 5 = .ok (.putfield 50, 3) := by decide +kernel
theorem dX1_takesPardon_8 : decode cX1_takesPardon 8 = .ok (.aload_n 0, 1) := by decide +kernel
theorem dX1_takesPardon_9 : decode cX1_takesPardon 9 = .ok (.iconst 2, 1) := by decide +kernel
theorem dX1_takesPardon_10 : decode cX1_takesPardon 10 = .ok (.putfield 21, 3) := by decide +kernel
theorem dX1_takesPardon_13 : decode cX1_takesPardon 13 = .ok (.iload_n 1, 1) := by decide +kernel
theorem dX1_takesPardon_14 : decode cX1_takesPardon 14 = .ok (.ifCond .lt 7, 3) := by decide +kernel
theorem dX1_takesPardon_17 : decode cX1_takesPardon 17 = .ok (.iconst 1, 1) := by decide +kernel
theorem dX1_takesPardon_18 : decode cX1_takesPardon 18 = .ok (.goto 4, 3) := by decide +kernel
theorem dX1_takesPardon_21 : decode cX1_takesPardon 21 = .ok (.iconst 0, 1) := by decide +kernel
theorem dX1_takesPardon_22 : decode cX1_takesPardon 22 = .ok (.ireturn, 1) := by decide +kernel
theorem dX1_takesRoom_0 : decode cX1_takesRoom 0 = .ok (.aload_n 0, 1) := by decide +kernel
theorem dX1_takesRoom_1 : decode cX1_takesRoom 1 = .ok (.getfield 12, 3) := by decide +kernel
theorem dX1_takesRoom_4 : decode cX1_takesRoom 4 = .ok (.iload_n 1, 1) := by decide +kernel
theorem dX1_takesRoom_5 : decode cX1_takesRoom 5 = .ok (.putfield 53, 3) := by decide +kernel
theorem dX1_takesRoom_8 : decode cX1_takesRoom 8 = .ok (.aload_n 0, 1) := by decide +kernel
theorem dX1_takesRoom_9 : decode cX1_takesRoom 9 = .ok (.iconst 3, 1) := by decide +kernel
theorem dX1_takesRoom_10 : decode cX1_takesRoom 10 = .ok (.putfield 21, 3) := by decide +kernel
theorem dX1_takesRoom_13 : decode cX1_takesRoom 13 = .ok (.iload_n 1, 1) := by decide +kernel
theorem dX1_takesRoom_14 : decode cX1_takesRoom 14 = .ok (.iconst 1, 1) := by decide +kernel
theorem dX1_takesRoom_15 : decode cX1_takesRoom 15 = .ok (.if_icmp .lt 12, 3) := by decide +kernel
theorem dX1_takesRoom_18 : decode cX1_takesRoom 18 = .ok (.iload_n 1, 1) := by decide +kernel
theorem dX1_takesRoom_19 : decode cX1_takesRoom 19 = .ok (.iconst 3, 1) := by decide +kernel
theorem dX1_takesRoom_20 : decode cX1_takesRoom 20 = .ok (.if_icmp .gt 7, 3) := by decide +kernel
theorem dX1_takesRoom_23 : decode cX1_takesRoom 23 = .ok (.iconst 1, 1) := by decide +kernel
theorem dX1_takesRoom_24 : decode cX1_takesRoom 24 = .ok (.goto 4, 3) := by decide +kernel
theorem dX1_takesRoom_27 : decode cX1_takesRoom 27 = .ok (.iconst 0, 1) := by decide +kernel
theorem dX1_takesRoom_28 : decode cX1_takesRoom 28 = .ok (.ireturn, 1) := by decide +kernel
theorem dX1_takesPart_0 : decode cX1_takesPart 0 = .ok (.aload_n 0, 1) := by decide +kernel
theorem dX1_takesPart_1 : decode cX1_takesPart 1 = .ok (.iload_n 1, 1) := by decide +kernel
theorem dX1_takesPart_2 : decode cX1_takesPart 2 = .ok (.bipush 76, 2) := by decide +kernel
theorem dX1_takesPart_4 : decode cX1_takesPart 4 = .ok (.if_icmp .ne 7, 3) := by decide +kernel
theorem dX1_takesPart_7 : decode cX1_takesPart 7 = .ok (.iconst 4, 1) := by decide +kernel
theorem dX1_takesPart_8 : decode cX1_takesPart 8 = .ok (.goto 5, 3) := by decide +kernel
theorem dX1_takesPart_11 : decode cX1_takesPart 11 = .ok (.bipush 6, 2) := by decide +kernel
theorem dX1_takesPart_13 : decode cX1_takesPart 13 = .ok (.putfield 21, 3) := by decide +kernel
theorem dX1_takesPart_16 : decode cX1_takesPart 16 = .ok (.iload_n 1, 1) := by decide +kernel
theorem dX1_takesPart_17 : decode cX1_takesPart 17 = .ok (.bipush 76, 2) := by decide +kernel
theorem dX1_takesPart_19 : decode cX1_takesPart 19 = .ok (.if_icmp .ne 23, 3) := by decide +kernel
theorem dX1_takesPart_22 : decode cX1_takesPart 22 = .ok (.aload_n 0, 1) := by decide +kernel
theorem dX1_takesPart_23 : decode cX1_takesPart 23 = .ok (.getfield 12, 3) := by decide +kernel
theorem dX1_takesPart_26 : decode cX1_takesPart 26 = .ok (.getfield 56, 3) := by decide +kernel
theorem dX1_takesPart_29 : decode cX1_takesPart 29 = .ok (.bipush 6, 2) := by decide +kernel
theorem dX1_takesPart_31 : decode cX1_takesPart 31 = .ok (.if_icmp .ge 7, 3) := by decide +kernel
theorem dX1_takesPart_34 : decode cX1_takesPart 34 = .ok (.iconst 1, 1) := by decide +kernel
theorem dX1_takesPart_35 : decode cX1_takesPart 35 = .ok (.goto 25, 3) := by decide +kernel
theorem dX1_takesPart_38 : decode cX1_takesPart 38 = .ok (.iconst 0, 1) := by decide +kernel
theorem dX1_takesPart_39 : decode cX1_takesPart 39 = .ok (.goto 21, 3) := by decide +kernel
theorem dX1_takesPart_42 : decode cX1_takesPart 42 = .ok (.iload_n 1, 1) := by decide +kernel
theorem dX1_takesPart_43 : decode cX1_takesPart 43 = .ok (.bipush 69, 2) := by decide +kernel
theorem dX1_takesPart_45 : decode cX1_takesPart 45 = .ok (.if_icmp .ne 14, 3) := by decide +kernel
theorem dX1_takesPart_48 : decode cX1_takesPart 48 = .ok (.aload_n 0, 1) := by decide +kernel
theorem dX1_takesPart_49 : decode cX1_takesPart 49 = .ok (.invokevirtual 59, 3) := by decide +kernel
theorem dX1_takesPart_52 : decode cX1_takesPart 52 = .ok (.ifCond .eq 7, 3) := by decide +kernel
theorem dX1_takesPart_55 : decode cX1_takesPart 55 = .ok (.iconst 1, 1) := by decide +kernel
theorem dX1_takesPart_56 : decode cX1_takesPart 56 = .ok (.goto 4, 3) := by decide +kernel
theorem dX1_takesPart_59 : decode cX1_takesPart 59 = .ok (.iconst 0, 1) := by decide +kernel
theorem dX1_takesPart_60 : decode cX1_takesPart 60 = .ok (.ireturn, 1) := by decide +kernel
theorem dX1_takesWaited_0 : decode cX1_takesWaited 0 = .ok (.aload_n 0, 1) := by decide +kernel
theorem dX1_takesWaited_1 : decode cX1_takesWaited 1 = .ok (.iload_n 1, 1) := by decide +kernel
theorem dX1_takesWaited_2 : decode cX1_takesWaited 2 = .ok (.putfield 63, 3) := by decide +kernel
theorem dX1_takesWaited_5 : decode cX1_takesWaited 5 = .ok (.aload_n 0, 1) := by decide +kernel
theorem dX1_takesWaited_6 : decode cX1_takesWaited 6 = .ok (.iconst 5, 1) := by decide +kernel
theorem dX1_takesWaited_7 : decode cX1_takesWaited 7 = .ok (.putfield 21, 3) := by decide +kernel
theorem dX1_takesWaited_10 : decode cX1_takesWaited 10 = .ok (.iload_n 1, 1) := by decide +kernel
theorem dX1_takesWaited_11 : decode cX1_takesWaited 11 = .ok (.ifCond .lt 7, 3) := by decide +kernel
theorem dX1_takesWaited_14 : decode cX1_takesWaited 14 = .ok (.iconst 1, 1) := by decide +kernel
theorem dX1_takesWaited_15 : decode cX1_takesWaited 15 = .ok (.goto 4, 3) := by decide +kernel
theorem dX1_takesWaited_18 : decode cX1_takesWaited 18 = .ok (.iconst 0, 1) := by decide +kernel
theorem dX1_takesWaited_19 : decode cX1_takesWaited 19 = .ok (.ireturn, 1) := by decide +kernel
theorem dX1_takesKind_0 : decode cX1_takesKind 0 = .ok (.iload_n 1, 1) := by decide +kernel
theorem dX1_takesKind_1 : decode cX1_takesKind 1 = .ok (.ifCond .lt 11, 3) := by decide +kernel
theorem dX1_takesKind_4 : decode cX1_takesKind 4 = .ok (.iload_n 1, 1) := by decide +kernel
theorem dX1_takesKind_5 : decode cX1_takesKind 5 = .ok (.getstatic 66, 3) := by decide +kernel
theorem dX1_takesKind_8 : decode cX1_takesKind 8 = .ok (.arraylength, 1) := by decide +kernel
theorem dX1_takesKind_9 : decode cX1_takesKind 9 = .ok (.if_icmp .lt 5, 3) := by decide +kernel
theorem dX1_takesKind_12 : decode cX1_takesKind 12 = .ok (.iconst 0, 1) := by decide +kernel
theorem dX1_takesKind_13 : decode cX1_takesKind 13 = .ok (.ireturn, 1) := by decide +kernel
theorem dX1_takesKind_14 : decode cX1_takesKind 14 = .ok (.aload_n 0, 1) := by decide +kernel
theorem dX1_takesKind_15 : decode cX1_takesKind 15 = .ok (.getfield 12, 3) := by decide +kernel
theorem dX1_takesKind_18 : decode cX1_takesKind 18 = .ok (.aload_n 0, 1) := by decide +kernel
theorem dX1_takesKind_19 : decode cX1_takesKind 19 = .ok (.getfield 63, 3) := by decide +kernel
theorem dX1_takesKind_22 : decode cX1_takesKind 22 = .ok (.iload_n 1, 1) := by decide +kernel
theorem dX1_takesKind_23 : decode cX1_takesKind 23 = .ok (.invokevirtual 70, 3) := by decide +kernel
theorem dX1_takesKind_26 : decode cX1_takesKind 26 = .ok (.aload_n 0, 1) := by decide +kernel
theorem dX1_takesKind_27 : decode cX1_takesKind 27 = .ok (.iconst 3, 1) := by decide +kernel
theorem dX1_takesKind_28 : decode cX1_takesKind 28 = .ok (.putfield 21, 3) := by decide +kernel
theorem dX1_takesKind_31 : decode cX1_takesKind 31 = .ok (.iconst 1, 1) := by decide +kernel
theorem dX1_takesKind_32 : decode cX1_takesKind 32 = .ok (.ireturn, 1) := by decide +kernel
theorem dX1_takesExplainer_0 : decode cX1_takesExplainer 0 = .ok (.aload_n 0, 1) := by decide +kernel
theorem dX1_takesExplainer_1 : decode cX1_takesExplainer 1 = .ok (.iload_n 1, 1) := by decide +kernel
theorem dX1_takesExplainer_2 : decode cX1_takesExplainer 2 = .ok (.putfield 63, 3) := by decide +kernel
theorem dX1_takesExplainer_5 : decode cX1_takesExplainer 5 = .ok (.aload_n 0, 1) := by decide +kernel
theorem dX1_takesExplainer_6 : decode cX1_takesExplainer 6 = .ok (.bipush 7, 2) := by decide +kernel
theorem dX1_takesExplainer_8 : decode cX1_takesExplainer 8 = .ok (.putfield 21, 3) := by decide +kernel
theorem dX1_takesExplainer_11 : decode cX1_takesExplainer 11 = .ok (.aload_n 0, 1) := by decide +kernel
theorem dX1_takesExplainer_12 : decode cX1_takesExplainer 12 = .ok (.iload_n 1, 1) := by decide +kernel
theorem dX1_takesExplainer_13 : decode cX1_takesExplainer 13 = .ok (.invokevirtual 74, 3) := by decide +kernel
theorem dX1_takesExplainer_16 : decode cX1_takesExplainer 16 = .ok (.ireturn, 1) := by decide +kernel
theorem dX1_takesExplained_0 : decode cX1_takesExplained 0 = .ok (.aload_n 0, 1) := by decide +kernel
theorem dX1_takesExplained_1 : decode cX1_takesExplained 1 = .ok (.getfield 12, 3) := by decide +kernel
theorem dX1_takesExplained_4 : decode cX1_takesExplained 4 = .ok (.getfield 77, 3) := by decide +kernel
theorem dX1_takesExplained_7 : decode cX1_takesExplained 7 = .ok (.iload_n 1, 1) := by decide +kernel
theorem dX1_takesExplained_8 : decode cX1_takesExplained 8 = .ok (.invokestatic 80, 3) := by decide +kernel
theorem dX1_takesExplained_11 : decode cX1_takesExplained 11 = .ok (.istore_n 2, 1) := by decide +kernel
theorem dX1_takesExplained_12 : decode cX1_takesExplained 12 = .ok (.iload_n 1, 1) := by decide +kernel
theorem dX1_takesExplained_13 : decode cX1_takesExplained 13 = .ok (.ifCond .lt 33, 3) := by decide +kernel
theorem dX1_takesExplained_16 : decode cX1_takesExplained 16 = .ok (.iload_n 1, 1) := by decide +kernel
theorem dX1_takesExplained_17 : decode cX1_takesExplained 17 = .ok (.aload_n 0, 1) := by decide +kernel
theorem dX1_takesExplained_18 : decode cX1_takesExplained 18 = .ok (.getfield 12, 3) := by decide +kernel
theorem dX1_takesExplained_21 : decode cX1_takesExplained 21 = .ok (.getfield 56, 3) := by decide +kernel
theorem dX1_takesExplained_24 : decode cX1_takesExplained 24 = .ok (.if_icmp .ge 22, 3) := by decide +kernel
theorem dX1_takesExplained_27 : decode cX1_takesExplained 27 = .ok (.iload_n 1, 1) := by decide +kernel
theorem dX1_takesExplained_28 : decode cX1_takesExplained 28 = .ok (.aload_n 0, 1) := by decide +kernel
theorem dX1_takesExplained_29 : decode cX1_takesExplained 29 = .ok (.getfield 63, 3) := by decide +kernel
theorem dX1_takesExplained_32 : decode cX1_takesExplained 32 = .ok (.if_icmp .eq 14, 3) := by decide +kernel
theorem dX1_takesExplained_35 : decode cX1_takesExplained 35 = .ok (.iload_n 2, 1) := by decide +kernel
theorem dX1_takesExplained_36 : decode cX1_takesExplained 36 = .ok (.aload_n 0, 1) := by decide +kernel
theorem dX1_takesExplained_37 : decode cX1_takesExplained 37 = .ok (.getfield 63, 3) := by decide +kernel
theorem dX1_takesExplained_40 : decode cX1_takesExplained 40 = .ok (.invokestatic 84, 3) := by decide +kernel
theorem dX1_takesExplained_43 : decode cX1_takesExplained 43 = .ok (.ifCond .eq 5, 3) := by decide +kernel
theorem dX1_takesExplained_46 : decode cX1_takesExplained 46 = .ok (.iconst 0, 1) := by decide +kernel
theorem dX1_takesExplained_47 : decode cX1_takesExplained 47 = .ok (.ireturn, 1) := by decide +kernel
theorem dX1_takesExplained_48 : decode cX1_takesExplained 48 = .ok (.aload_n 0, 1) := by decide +kernel
theorem dX1_takesExplained_49 : decode cX1_takesExplained 49 = .ok (.getfield 12, 3) := by decide +kernel
theorem dX1_takesExplained_52 : decode cX1_takesExplained 52 = .ok (.getfield 77, 3) := by decide +kernel
theorem dX1_takesExplained_55 : decode cX1_takesExplained 55 = .ok (.iload_n 1, 1) := by decide +kernel
theorem dX1_takesExplained_56 : decode cX1_takesExplained 56 = .ok (.iload_n 2, 1) := by decide +kernel
theorem dX1_takesExplained_57 : decode cX1_takesExplained 57 = .ok (.aload_n 0, 1) := by decide +kernel
theorem dX1_takesExplained_58 : decode cX1_takesExplained 58 = .ok (.getfield 63, 3) := by decide +kernel
theorem dX1_takesExplained_61 : decode cX1_takesExplained 61 = .ok (.invokestatic 88, 3) := by decide +kernel
theorem dX1_takesExplained_64 : decode cX1_takesExplained 64 = .ok (.ior, 1) := by decide +kernel
theorem dX1_takesExplained_65 : decode cX1_takesExplained 65 = .ok (.invokestatic 92, 3) := by decide +kernel
theorem dX1_takesExplained_68 : decode cX1_takesExplained 68 = .ok (.aload_n 0, 1) := by decide +kernel
theorem dX1_takesExplained_69 : decode cX1_takesExplained 69 = .ok (.iconst 3, 1) := by decide +kernel
theorem dX1_takesExplained_70 : decode cX1_takesExplained 70 = .ok (.putfield 21, 3) := by decide +kernel
theorem dX1_takesExplained_73 : decode cX1_takesExplained 73 = .ok (.iconst 1, 1) := by decide +kernel
theorem dX1_takesExplained_74 : decode cX1_takesExplained 74 = .ok (.ireturn, 1) := by decide +kernel
theorem dX1_isOpen_0 : decode cX1_isOpen 0 = .ok (.iload_n 1, 1) := by decide +kernel
theorem dX1_isOpen_1 : decode cX1_isOpen 1 = .ok (.ifCond .lt 38, 3) := by decide +kernel
theorem dX1_isOpen_4 : decode cX1_isOpen 4 = .ok (.iload_n 1, 1) := by decide +kernel
theorem dX1_isOpen_5 : decode cX1_isOpen 5 = .ok (.aload_n 0, 1) := by decide +kernel
theorem dX1_isOpen_6 : decode cX1_isOpen 6 = .ok (.getfield 12, 3) := by decide +kernel
theorem dX1_isOpen_9 : decode cX1_isOpen 9 = .ok (.getfield 56, 3) := by decide +kernel
theorem dX1_isOpen_12 : decode cX1_isOpen 12 = .ok (.if_icmp .ge 27, 3) := by decide +kernel
theorem dX1_isOpen_15 : decode cX1_isOpen 15 = .ok (.aload_n 0, 1) := by decide +kernel
theorem dX1_isOpen_16 : decode cX1_isOpen 16 = .ok (.getfield 12, 3) := by decide +kernel
theorem dX1_isOpen_19 : decode cX1_isOpen 19 = .ok (.iload_n 1, 1) := by decide +kernel
theorem dX1_isOpen_20 : decode cX1_isOpen 20 = .ok (.invokevirtual 96, 3) := by decide +kernel
theorem dX1_isOpen_23 : decode cX1_isOpen 23 = .ok (.aload_n 0, 1) := by decide +kernel
theorem dX1_isOpen_24 : decode cX1_isOpen 24 = .ok (.getfield 12, 3) := by decide +kernel
theorem dX1_isOpen_27 : decode cX1_isOpen 27 = .ok (.getfield 56, 3) := by decide +kernel
theorem dX1_isOpen_30 : decode cX1_isOpen 30 = .ok (.iconst 1, 1) := by decide +kernel
theorem dX1_isOpen_31 : decode cX1_isOpen 31 = .ok (.isub, 1) := by decide +kernel
theorem dX1_isOpen_32 : decode cX1_isOpen 32 = .ok (.if_icmp .ge 7, 3) := by decide +kernel
theorem dX1_isOpen_35 : decode cX1_isOpen 35 = .ok (.iconst 1, 1) := by decide +kernel
theorem dX1_isOpen_36 : decode cX1_isOpen 36 = .ok (.goto 4, 3) := by decide +kernel
theorem dX1_isOpen_39 : decode cX1_isOpen 39 = .ok (.iconst 0, 1) := by decide +kernel
theorem dX1_isOpen_40 : decode cX1_isOpen 40 = .ok (.ireturn, 1) := by decide +kernel
theorem dX1_hasOpenPair_0 : decode cX1_hasOpenPair 0 = .ok (.iconst 0, 1) := by decide +kernel
theorem dX1_hasOpenPair_1 : decode cX1_hasOpenPair 1 = .ok (.istore_n 1, 1) := by decide +kernel
theorem dX1_hasOpenPair_2 : decode cX1_hasOpenPair 2 = .ok (.iload_n 1, 1) := by decide +kernel
theorem dX1_hasOpenPair_3 : decode cX1_hasOpenPair 3 = .ok (.aload_n 0, 1) := by decide +kernel
theorem dX1_hasOpenPair_4 : decode cX1_hasOpenPair 4 = .ok (.getfield 12, 3) := by decide +kernel
theorem dX1_hasOpenPair_7 : decode cX1_hasOpenPair 7 = .ok (.getfield 56, 3) := by decide +kernel
theorem dX1_hasOpenPair_10 : decode cX1_hasOpenPair 10 = .ok (.if_icmp .ge 19, 3) := by decide +kernel
theorem dX1_hasOpenPair_13 : decode cX1_hasOpenPair 13 = .ok (.aload_n 0, 1) := by decide +kernel
theorem dX1_hasOpenPair_14 : decode cX1_hasOpenPair 14 = .ok (.iload_n 1, 1) := by decide +kernel
theorem dX1_hasOpenPair_15 : decode cX1_hasOpenPair 15 = .ok (.invokevirtual 74, 3) := by decide +kernel
theorem dX1_hasOpenPair_18 : decode cX1_hasOpenPair 18 = .ok (.ifCond .eq 5, 3) := by decide +kernel
theorem dX1_hasOpenPair_21 : decode cX1_hasOpenPair 21 = .ok (.iconst 1, 1) := by decide +kernel
theorem dX1_hasOpenPair_22 : decode cX1_hasOpenPair 22 = .ok (.ireturn, 1) := by decide +kernel
theorem dX1_hasOpenPair_23 : decode cX1_hasOpenPair 23 = .ok (.iinc 1 1, 3) := by decide +kernel
theorem dX1_hasOpenPair_26 : decode cX1_hasOpenPair 26 = .ok (.goto (-24), 3) := by decide +kernel
theorem dX1_hasOpenPair_29 : decode cX1_hasOpenPair 29 = .ok (.iconst 0, 1) := by decide +kernel
theorem dX1_hasOpenPair_30 : decode cX1_hasOpenPair 30 = .ok (.ireturn, 1) := by decide +kernel
theorem dX2_init_0 : decode cX2_init 0 = .ok (.aload_n 0, 1) := by decide +kernel
theorem dX2_init_1 : decode cX2_init 1 = .ok (.invokespecial 3, 3) := by decide +kernel
theorem dX2_init_4 : decode cX2_init 4 = .ok (.aload_n 0, 1) := by decide +kernel
theorem dX2_init_5 : decode cX2_init 5 = .ok (.bipush 6, 2) := by decide +kernel
theorem dX2_init_7 : decode cX2_init 7 = .ok (.newarray .int, 2) := by decide +kernel
theorem dX2_init_9 : decode cX2_init 9 = .ok (.putfield 9, 3) := by decide +kernel
theorem dX2_init_12 : decode cX2_init 12 = .ok (.aload_n 0, 1) := by decide +kernel
theorem dX2_init_13 : decode cX2_init 13 = .ok (.bipush 6, 2) := by decide +kernel
theorem dX2_init_15 : decode cX2_init 15 = .ok (.newarray .int, 2) := by decide +kernel
theorem dX2_init_17 : decode cX2_init 17 = .ok (.putfield 15, 3) := by decide +kernel
theorem dX2_init_20 : decode cX2_init 20 = .ok (.return_, 1) := by decide +kernel
theorem dX2_begin_0 : decode cX2_begin 0 = .ok (.aload_n 0, 1) := by decide +kernel
theorem dX2_begin_1 : decode cX2_begin 1 = .ok (.iconst 0, 1) := by decide +kernel
theorem dX2_begin_2 : decode cX2_begin 2 = .ok (.putfield 18, 3) := by decide +kernel
theorem dX2_begin_5 : decode cX2_begin 5 = .ok (.aload_n 0, 1) := by decide +kernel
theorem dX2_begin_6 : decode cX2_begin 6 = .ok (.iconst 0, 1) := by decide +kernel
theorem dX2_begin_7 : decode cX2_begin 7 = .ok (.putfield 22, 3) := by decide +kernel
theorem dX2_begin_10 : decode cX2_begin 10 = .ok (.aload_n 0, 1) := by decide +kernel
theorem dX2_begin_11 : decode cX2_begin 11 = .ok (.iconst 0, 1) := by decide +kernel
theorem dX2_begin_12 : decode cX2_begin 12 = .ok (.putfield 25, 3) := by decide +kernel
theorem dX2_begin_15 : decode cX2_begin 15 = .ok (.aload_n 0, 1) := by decide +kernel
theorem dX2_begin_16 : decode cX2_begin 16 = .ok (.iconst 0, 1) := by decide +kernel
theorem dX2_begin_17 : decode cX2_begin 17 = .ok (.putfield 28, 3) := by decide +kernel
theorem dX2_begin_20 : decode cX2_begin 20 = .ok (.aload_n 0, 1) := by decide +kernel
theorem dX2_begin_21 : decode cX2_begin 21 = .ok (.iconst 0, 1) := by decide +kernel
theorem dX2_begin_22 : decode cX2_begin 22 = .ok (.putfield 31, 3) := by decide +kernel
theorem dX2_begin_25 : decode cX2_begin 25 = .ok (.aload_n 0, 1) := by decide +kernel
theorem dX2_begin_26 : decode cX2_begin 26 = .ok (.getfield 15, 3) := by decide +kernel
theorem dX2_begin_29 : decode cX2_begin 29 = .ok (.iconst 0, 1) := by decide +kernel
theorem dX2_begin_30 : decode cX2_begin 30 = .ok (.invokestatic 34, 3) := by decide +kernel
theorem dX2_begin_33 : decode cX2_begin 33 = .ok (.aload_n 1, 1) := by decide +kernel
theorem dX2_begin_34 : decode cX2_begin 34 = .ok (.ifnull 14, 3) := by decide +kernel
theorem dX2_begin_37 : decode cX2_begin 37 = .ok (.aload_n 1, 1) := by decide +kernel
theorem dX2_begin_38 : decode cX2_begin 38 = .ok (.getfield 40, 3) := by decide +kernel
theorem dX2_begin_41 : decode cX2_begin 41 = .ok (.aload_n 0, 1) := by decide +kernel
theorem dX2_begin_42 : decode cX2_begin 42 = .ok (.getfield 9, 3) := by decide +kernel
theorem dX2_begin_45 : decode cX2_begin 45 = .ok (.invokestatic 43, 3) := by decide +kernel
theorem dX2_begin_48 : decode cX2_begin 48 = .ok (.return_, 1) := by decide +kernel
theorem dX2_take_0 : decode cX2_take 0 = .ok (.aload_n 1, 1) := by decide +kernel
theorem dX2_take_1 : decode cX2_take 1 = .ok (.ifnonnull 4, 3) := by decide +kernel
theorem dX2_take_4 : decode cX2_take 4 = .ok (.return_, 1) := by decide +kernel
theorem dX2_take_5 : decode cX2_take 5 = .ok (.aload_n 0, 1) := by decide +kernel
theorem dX2_take_6 : decode cX2_take 6 = .ok (.aload_n 1, 1) := by decide +kernel
theorem dX2_take_7 : decode cX2_take 7 = .ok (.getfield 18, 3) := by decide +kernel
theorem dX2_take_10 : decode cX2_take 10 = .ok (.putfield 18, 3) := by decide +kernel
theorem dX2_take_13 : decode cX2_take 13 = .ok (.aload_n 0, 1) := by decide +kernel
theorem dX2_take_14 : decode cX2_take 14 = .ok (.aload_n 1, 1) := by decide +kernel
theorem dX2_take_15 : decode cX2_take 15 = .ok (.getfield 22, 3) := by decide +kernel
theorem dX2_take_18 : decode cX2_take 18 = .ok (.putfield 22, 3) := by decide +kernel
theorem dX2_take_21 : decode cX2_take 21 = .ok (.aload_n 0, 1) := by decide +kernel
theorem dX2_take_22 : decode cX2_take 22 = .ok (.aload_n 1, 1) := by decide +kernel
theorem dX2_take_23 : decode cX2_take 23 = .ok (.getfield 25, 3) := by decide +kernel
theorem dX2_take_26 : decode cX2_take 26 = .ok (.putfield 25, 3) := by decide +kernel
theorem dX2_take_29 : decode cX2_take 29 = .ok (.aload_n 0, 1) := by decide +kernel
theorem dX2_take_30 : decode cX2_take 30 = .ok (.aload_n 1, 1) := by decide +kernel
theorem dX2_take_31 : decode cX2_take 31 = .ok (.getfield 28, 3) := by decide +kernel
theorem dX2_take_34 : decode cX2_take 34 = .ok (.putfield 28, 3) := by decide +kernel
theorem dX2_take_37 : decode cX2_take 37 = .ok (.aload_n 0, 1) := by decide +kernel
theorem dX2_take_38 : decode cX2_take 38 = .ok (.aload_n 1, 1) := by decide +kernel
theorem dX2_take_39 : decode cX2_take 39 = .ok (.getfield 31, 3) := by decide +kernel
theorem dX2_take_42 : decode cX2_take 42 = .ok (.putfield 31, 3) := by decide +kernel
theorem dX2_take_45 : decode cX2_take 45 = .ok (.aload_n 1, 1) := by decide +kernel
theorem dX2_take_46 : decode cX2_take 46 = .ok (.getfield 9, 3) := by decide +kernel
theorem dX2_take_49 : decode cX2_take 49 = .ok (.aload_n 0, 1) := by decide +kernel
theorem dX2_take_50 : decode cX2_take 50 = .ok (.getfield 9, 3) := by decide +kernel
theorem dX2_take_53 : decode cX2_take 53 = .ok (.invokestatic 43, 3) := by decide +kernel
theorem dX2_take_56 : decode cX2_take 56 = .ok (.aload_n 1, 1) := by decide +kernel
theorem dX2_take_57 : decode cX2_take 57 = .ok (.getfield 15, 3) := by decide +kernel
theorem dX2_take_60 : decode cX2_take 60 = .ok (.aload_n 0, 1) := by decide +kernel
theorem dX2_take_61 : decode cX2_take 61 = .ok (.getfield 15, 3) := by decide +kernel
theorem dX2_take_64 : decode cX2_take 64 = .ok (.invokestatic 43, 3) := by decide +kernel
theorem dX2_take_67 : decode cX2_take 67 = .ok (.return_, 1) := by decide +kernel
theorem dX2_passDay_0 : decode cX2_passDay 0 = .ok (.iconst 0, 1) := by decide +kernel
theorem dX2_passDay_1 : decode cX2_passDay 1 = .ok (.istore_n 2, 1) := by decide +kernel
theorem dX2_passDay_2 : decode cX2_passDay 2 = .ok (.iload_n 2, 1) := by decide +kernel
theorem dX2_passDay_3 : decode cX2_passDay 3 = .ok (.iload_n 1, 1) := by decide +kernel
theorem dX2_passDay_4 : decode cX2_passDay 4 = .ok (.if_icmp .ge 73, 3) := by decide +kernel
theorem dX2_passDay_7 : decode cX2_passDay 7 = .ok (.aload_n 0, 1) := by decide +kernel
theorem dX2_passDay_8 : decode cX2_passDay 8 = .ok (.getfield 22, 3) := by decide +kernel
theorem dX2_passDay_11 : decode cX2_passDay 11 = .ok (.iload_n 2, 1) := by decide +kernel
theorem dX2_passDay_12 : decode cX2_passDay 12 = .ok (.invokestatic 47, 3) := by decide +kernel
theorem dX2_passDay_15 : decode cX2_passDay 15 = .ok (.ifCond .eq 6, 3) := by decide +kernel
theorem dX2_passDay_18 : decode cX2_passDay 18 = .ok (.goto 53, 3) := by decide +kernel
theorem dX2_passDay_21 : decode cX2_passDay 21 = .ok (.aload_n 0, 1) := by decide +kernel
theorem dX2_passDay_22 : decode cX2_passDay 22 = .ok (.getfield 15, 3) := by decide +kernel
theorem dX2_passDay_25 : decode cX2_passDay 25 = .ok (.iload_n 2, 1) := by decide +kernel
theorem dX2_passDay_26 : decode cX2_passDay 26 = .ok (.invokestatic 51, 3) := by decide +kernel
theorem dX2_passDay_29 : decode cX2_passDay 29 = .ok (.istore_n 3, 1) := by decide +kernel
theorem dX2_passDay_30 : decode cX2_passDay 30 = .ok (.iload_n 3, 1) := by decide +kernel
theorem dX2_passDay_31 : decode cX2_passDay 31 = .ok (.ifCond .le 17, 3) := by decide +kernel
theorem dX2_passDay_34 : decode cX2_passDay 34 = .ok (.aload_n 0, 1) := by decide +kernel
theorem dX2_passDay_35 : decode cX2_passDay 35 = .ok (.getfield 15, 3) := by decide +kernel
theorem dX2_passDay_38 : decode cX2_passDay 38 = .ok (.iload_n 2, 1) := by decide +kernel
theorem dX2_passDay_39 : decode cX2_passDay 39 = .ok (.iload_n 3, 1) := by decide +kernel
theorem dX2_passDay_40 : decode cX2_passDay 40 = .ok (.iconst 1, 1) := by decide +kernel
theorem dX2_passDay_41 : decode cX2_passDay 41 = .ok (.isub, 1) := by decide +kernel
theorem dX2_passDay_42 : decode cX2_passDay 42 = .ok (.invokestatic 55, 3) := by decide +kernel
theorem dX2_passDay_45 : decode cX2_passDay 45 = .ok (.goto 26, 3) := by decide +kernel
theorem dX2_passDay_48 : decode cX2_passDay 48 = .ok (.aload_n 0, 1) := by decide +kernel
theorem dX2_passDay_49 : decode cX2_passDay 49 = .ok (.getfield 9, 3) := by decide +kernel
theorem dX2_passDay_52 : decode cX2_passDay 52 = .ok (.iload_n 2, 1) := by decide +kernel
theorem dX2_passDay_53 : decode cX2_passDay 53 = .ok (.bipush 99, 2) := by decide +kernel
theorem dX2_passDay_55 : decode cX2_passDay 55 = .ok (.aload_n 0, 1) := by decide +kernel
theorem dX2_passDay_56 : decode cX2_passDay 56 = .ok (.getfield 9, 3) := by decide +kernel
theorem dX2_passDay_59 : decode cX2_passDay 59 = .ok (.iload_n 2, 1) := by decide +kernel
theorem dX2_passDay_60 : decode cX2_passDay 60 = .ok (.invokestatic 51, 3) := by decide +kernel
theorem dX2_passDay_63 : decode cX2_passDay 63 = .ok (.iconst 1, 1) := by decide +kernel
theorem dX2_passDay_64 : decode cX2_passDay 64 = .ok (.iadd, 1) := by decide +kernel
theorem dX2_passDay_65 : decode cX2_passDay 65 = .ok (.invokestatic 59, 3) := by decide +kernel
theorem dX2_passDay_68 : decode cX2_passDay 68 = .ok (.invokestatic 55, 3) := by decide +kernel
theorem dX2_passDay_71 : decode cX2_passDay 71 = .ok (.iinc 2 1, 3) := by decide +kernel
theorem dX2_passDay_74 : decode cX2_passDay 74 = .ok (.goto (-72), 3) := by decide +kernel
theorem dX2_passDay_77 : decode cX2_passDay 77 = .ok (.aload_n 0, 1) := by decide +kernel
theorem dX2_passDay_78 : decode cX2_passDay 78 = .ok (.dup, 1) := by decide +kernel
theorem dX2_passDay_79 : decode cX2_passDay 79 = .ok (.getfield 18, 3) := by decide +kernel
theorem dX2_passDay_82 : decode cX2_passDay 82 = .ok (.iconst 1, 1) := by decide +kernel
theorem dX2_passDay_83 : decode cX2_passDay 83 = .ok (.iadd, 1) := by decide +kernel
theorem dX2_passDay_84 : decode cX2_passDay 84 = .ok (.putfield 18, 3) := by decide +kernel
theorem dX2_passDay_87 : decode cX2_passDay 87 = .ok (.aload_n 0, 1) := by decide +kernel
theorem dX2_passDay_88 : decode cX2_passDay 88 = .ok (.iconst 0, 1) := by decide +kernel
theorem dX2_passDay_89 : decode cX2_passDay 89 = .ok (.putfield 25, 3) := by decide +kernel
theorem dX2_passDay_92 : decode cX2_passDay 92 = .ok (.return_, 1) := by decide +kernel
theorem dX3_init_0 : decode cX3_init 0 = .ok (.aload_n 0, 1) := by decide +kernel
theorem dX3_init_1 : decode cX3_init 1 = .ok (.invokespecial 3, 3) := by decide +kernel
theorem dX3_init_4 : decode cX3_init 4 = .ok (.aload_n 0, 1) := by decide +kernel
theorem dX3_init_5 : decode cX3_init 5 = .ok (.iconst 1, 1) := by decide +kernel
theorem dX3_init_6 : decode cX3_init 6 = .ok (.putfield 9, 3) := by decide +kernel
theorem dX3_init_9 : decode cX3_init 9 = .ok (.aload_n 0, 1) := by decide +kernel
theorem dX3_init_10 : decode cX3_init 10 = .ok (.bipush 6, 2) := by decide +kernel
theorem dX3_init_12 : decode cX3_init 12 = .ok (.newarray .int, 2) := by decide +kernel
theorem dX3_init_14 : decode cX3_init 14 = .ok (.putfield 15, 3) := by decide +kernel
theorem dX3_init_17 : decode cX3_init 17 = .ok (.aload_n 0, 1) := by decide +kernel
theorem dX3_init_18 : decode cX3_init 18 = .ok (.bipush 6, 2) := by decide +kernel
theorem dX3_init_20 : decode cX3_init 20 = .ok (.newarray .int, 2) := by decide +kernel
theorem dX3_init_22 : decode cX3_init 22 = .ok (.putfield 19, 3) := by decide +kernel
theorem dX3_init_25 : decode cX3_init 25 = .ok (.aload_n 0, 1) := by decide +kernel
theorem dX3_init_26 : decode cX3_init 26 = .ok (.bipush 6, 2) := by decide +kernel
theorem dX3_init_28 : decode cX3_init 28 = .ok (.newarray .int, 2) := by decide +kernel
theorem dX3_init_30 : decode cX3_init 30 = .ok (.putfield 22, 3) := by decide +kernel
theorem dX3_init_33 : decode cX3_init 33 = .ok (.return_, 1) := by decide +kernel
theorem dX3_clear_0 : decode cX3_clear 0 = .ok (.aload_n 0, 1) := by decide +kernel
theorem dX3_clear_1 : decode cX3_clear 1 = .ok (.iconst 0, 1) := by decide +kernel
theorem dX3_clear_2 : decode cX3_clear 2 = .ok (.putfield 25, 3) := by decide +kernel
theorem dX3_clear_5 : decode cX3_clear 5 = .ok (.aload_n 0, 1) := by decide +kernel
theorem dX3_clear_6 : decode cX3_clear 6 = .ok (.iconst 1, 1) := by decide +kernel
theorem dX3_clear_7 : decode cX3_clear 7 = .ok (.putfield 9, 3) := by decide +kernel
theorem dX3_clear_10 : decode cX3_clear 10 = .ok (.aload_n 0, 1) := by decide +kernel
theorem dX3_clear_11 : decode cX3_clear 11 = .ok (.iconst 0, 1) := by decide +kernel
theorem dX3_clear_12 : decode cX3_clear 12 = .ok (.putfield 28, 3) := by decide +kernel
theorem dX3_clear_15 : decode cX3_clear 15 = .ok (.aload_n 0, 1) := by decide +kernel
theorem dX3_clear_16 : decode cX3_clear 16 = .ok (.getfield 22, 3) := by decide +kernel
theorem dX3_clear_19 : decode cX3_clear 19 = .ok (.iconst 0, 1) := by decide +kernel
theorem dX3_clear_20 : decode cX3_clear 20 = .ok (.invokestatic 31, 3) := by decide +kernel
theorem dX3_clear_23 : decode cX3_clear 23 = .ok (.return_, 1) := by decide +kernel
theorem dX3_take_0 : decode cX3_take 0 = .ok (.aload_n 1, 1) := by decide +kernel
theorem dX3_take_1 : decode cX3_take 1 = .ok (.ifnonnull 4, 3) := by decide +kernel
theorem dX3_take_4 : decode cX3_take 4 = .ok (.return_, 1) := by decide +kernel
theorem dX3_take_5 : decode cX3_take 5 = .ok (.aload_n 0, 1) := by decide +kernel
theorem dX3_take_6 : decode cX3_take 6 = .ok (.aload_n 1, 1) := by decide +kernel
theorem dX3_take_7 : decode cX3_take 7 = .ok (.getfield 25, 3) := by decide +kernel
theorem dX3_take_10 : decode cX3_take 10 = .ok (.putfield 25, 3) := by decide +kernel
theorem dX3_take_13 : decode cX3_take 13 = .ok (.aload_n 0, 1) := by decide +kernel
theorem dX3_take_14 : decode cX3_take 14 = .ok (.aload_n 1, 1) := by decide +kernel
theorem dX3_take_15 : decode cX3_take 15 = .ok (.getfield 9, 3) := by decide +kernel
theorem dX3_take_18 : decode cX3_take 18 = .ok (.putfield 9, 3) := by decide +kernel
theorem dX3_take_21 : decode cX3_take 21 = .ok (.aload_n 0, 1) := by decide +kernel
theorem dX3_take_22 : decode cX3_take 22 = .ok (.aload_n 1, 1) := by decide +kernel
theorem dX3_take_23 : decode cX3_take 23 = .ok (.getfield 28, 3) := by decide +kernel
theorem dX3_take_26 : decode cX3_take 26 = .ok (.putfield 28, 3) := by decide +kernel
theorem dX3_take_29 : decode cX3_take 29 = .ok (.aload_n 1, 1) := by decide +kernel
theorem dX3_take_30 : decode cX3_take 30 = .ok (.getfield 15, 3) := by decide +kernel
theorem dX3_take_33 : decode cX3_take 33 = .ok (.aload_n 0, 1) := by decide +kernel
theorem dX3_take_34 : decode cX3_take 34 = .ok (.getfield 15, 3) := by decide +kernel
theorem dX3_take_37 : decode cX3_take 37 = .ok (.invokestatic 37, 3) := by decide +kernel
theorem dX3_take_40 : decode cX3_take 40 = .ok (.aload_n 1, 1) := by decide +kernel
theorem dX3_take_41 : decode cX3_take 41 = .ok (.getfield 19, 3) := by decide +kernel
theorem dX3_take_44 : decode cX3_take 44 = .ok (.aload_n 0, 1) := by decide +kernel
theorem dX3_take_45 : decode cX3_take 45 = .ok (.getfield 19, 3) := by decide +kernel
theorem dX3_take_48 : decode cX3_take 48 = .ok (.invokestatic 37, 3) := by decide +kernel
theorem dX3_take_51 : decode cX3_take 51 = .ok (.aload_n 1, 1) := by decide +kernel
theorem dX3_take_52 : decode cX3_take 52 = .ok (.getfield 22, 3) := by decide +kernel
theorem dX3_take_55 : decode cX3_take 55 = .ok (.aload_n 0, 1) := by decide +kernel
theorem dX3_take_56 : decode cX3_take 56 = .ok (.getfield 22, 3) := by decide +kernel
theorem dX3_take_59 : decode cX3_take 59 = .ok (.invokestatic 37, 3) := by decide +kernel
theorem dX3_take_62 : decode cX3_take 62 = .ok (.return_, 1) := by decide +kernel
theorem dX3_addLetter_0 : decode cX3_addLetter 0 = .ok (.aload_n 0, 1) := by decide +kernel
theorem dX3_addLetter_1 : decode cX3_addLetter 1 = .ok (.getfield 15, 3) := by decide +kernel
theorem dX3_addLetter_4 : decode cX3_addLetter 4 = .ok (.aload_n 0, 1) := by decide +kernel
theorem dX3_addLetter_5 : decode cX3_addLetter 5 = .ok (.getfield 28, 3) := by decide +kernel
theorem dX3_addLetter_8 : decode cX3_addLetter 8 = .ok (.iload_n 1, 1) := by decide +kernel
theorem dX3_addLetter_9 : decode cX3_addLetter 9 = .ok (.invokestatic 41, 3) := by decide +kernel
theorem dX3_addLetter_12 : decode cX3_addLetter 12 = .ok (.aload_n 0, 1) := by decide +kernel
theorem dX3_addLetter_13 : decode cX3_addLetter 13 = .ok (.getfield 19, 3) := by decide +kernel
theorem dX3_addLetter_16 : decode cX3_addLetter 16 = .ok (.aload_n 0, 1) := by decide +kernel
theorem dX3_addLetter_17 : decode cX3_addLetter 17 = .ok (.getfield 28, 3) := by decide +kernel
theorem dX3_addLetter_20 : decode cX3_addLetter 20 = .ok (.iload_n 2, 1) := by decide +kernel
theorem dX3_addLetter_21 : decode cX3_addLetter 21 = .ok (.invokestatic 41, 3) := by decide +kernel
theorem dX3_addLetter_24 : decode cX3_addLetter 24 = .ok (.aload_n 0, 1) := by decide +kernel
theorem dX3_addLetter_25 : decode cX3_addLetter 25 = .ok (.dup, 1) := by decide +kernel
theorem dX3_addLetter_26 : decode cX3_addLetter 26 = .ok (.getfield 28, 3) := by decide +kernel
theorem dX3_addLetter_29 : decode cX3_addLetter 29 = .ok (.iconst 1, 1) := by decide +kernel
theorem dX3_addLetter_30 : decode cX3_addLetter 30 = .ok (.iadd, 1) := by decide +kernel
theorem dX3_addLetter_31 : decode cX3_addLetter 31 = .ok (.putfield 28, 3) := by decide +kernel
theorem dX3_addLetter_34 : decode cX3_addLetter 34 = .ok (.return_, 1) := by decide +kernel
theorem dX3_explainedBy_0 : decode cX3_explainedBy 0 = .ok (.iconst 0, 1) := by decide +kernel
theorem dX3_explainedBy_1 : decode cX3_explainedBy 1 = .ok (.istore_n 2, 1) := by decide +kernel
theorem dX3_explainedBy_2 : decode cX3_explainedBy 2 = .ok (.iconst 0, 1) := by decide +kernel
theorem dX3_explainedBy_3 : decode cX3_explainedBy 3 = .ok (.istore_n 3, 1) := by decide +kernel
theorem dX3_explainedBy_4 : decode cX3_explainedBy 4 = .ok (.iload_n 3, 1) := by decide +kernel
theorem dX3_explainedBy_5 : decode cX3_explainedBy 5 = .ok (.aload_n 0, 1) := by decide +kernel
theorem dX3_explainedBy_6 : decode cX3_explainedBy 6 = .ok (.getfield 28, 3) := by decide +kernel
theorem dX3_explainedBy_9 : decode cX3_explainedBy 9 = .ok (.if_icmp .ge 27, 3) := by decide +kernel
theorem dX3_explainedBy_12 : decode cX3_explainedBy 12 = .ok (.aload_n 0, 1) := by decide +kernel
theorem dX3_explainedBy_13 : decode cX3_explainedBy 13 = .ok (.getfield 22, 3) := by decide +kernel
theorem dX3_explainedBy_16 : decode cX3_explainedBy 16 = .ok (.iload_n 3, 1) := by decide +kernel
theorem dX3_explainedBy_17 : decode cX3_explainedBy 17 = .ok (.invokestatic 45, 3) := by decide +kernel
theorem dX3_explainedBy_20 : decode cX3_explainedBy 20 = .ok (.iload_n 1, 1) := by decide +kernel
theorem dX3_explainedBy_21 : decode cX3_explainedBy 21 = .ok (.invokestatic 49, 3) := by decide +kernel
theorem dX3_explainedBy_24 : decode cX3_explainedBy 24 = .ok (.ifCond .eq 6, 3) := by decide +kernel
theorem dX3_explainedBy_27 : decode cX3_explainedBy 27 = .ok (.iinc 2 1, 3) := by decide +kernel
theorem dX3_explainedBy_30 : decode cX3_explainedBy 30 = .ok (.iinc 3 1, 3) := by decide +kernel
theorem dX3_explainedBy_33 : decode cX3_explainedBy 33 = .ok (.goto (-29), 3) := by decide +kernel
theorem dX3_explainedBy_36 : decode cX3_explainedBy 36 = .ok (.iload_n 2, 1) := by decide +kernel
theorem dX3_explainedBy_37 : decode cX3_explainedBy 37 = .ok (.ireturn, 1) := by decide +kernel
theorem dX3_costIn_0 : decode cX3_costIn 0 = .ok (.aload_n 1, 1) := by decide +kernel
theorem dX3_costIn_1 : decode cX3_costIn 1 = .ok (.ifnonnull 5, 3) := by decide +kernel
theorem dX3_costIn_4 : decode cX3_costIn 4 = .ok (.iconst 0, 1) := by decide +kernel
theorem dX3_costIn_5 : decode cX3_costIn 5 = .ok (.ireturn, 1) := by decide +kernel
theorem dX3_costIn_6 : decode cX3_costIn 6 = .ok (.iconst 0, 1) := by decide +kernel
theorem dX3_costIn_7 : decode cX3_costIn 7 = .ok (.iload_n 3, 1) := by decide +kernel
theorem dX3_costIn_8 : decode cX3_costIn 8 = .ok (.aload_n 1, 1) := by decide +kernel
theorem dX3_costIn_9 : decode cX3_costIn 9 = .ok (.getfield 53, 3) := by decide +kernel
theorem dX3_costIn_12 : decode cX3_costIn 12 = .ok (.iload_n 2, 1) := by decide +kernel
theorem dX3_costIn_13 : decode cX3_costIn 13 = .ok (.invokestatic 45, 3) := by decide +kernel
theorem dX3_costIn_16 : decode cX3_costIn 16 = .ok (.isub, 1) := by decide +kernel
theorem dX3_costIn_17 : decode cX3_costIn 17 = .ok (.invokestatic 58, 3) := by decide +kernel
theorem dX3_costIn_20 : decode cX3_costIn 20 = .ok (.istore 5, 2) := by decide +kernel
theorem dX3_costIn_22 : decode cX3_costIn 22 = .ok (.bipush 99, 2) := by decide +kernel
theorem dX3_costIn_24 : decode cX3_costIn 24 = .ok (.aload_n 1, 1) := by decide +kernel
theorem dX3_costIn_25 : decode cX3_costIn 25 = .ok (.getfield 64, 3) := by decide +kernel
theorem dX3_costIn_28 : decode cX3_costIn 28 = .ok (.iload_n 2, 1) := by decide +kernel
theorem dX3_costIn_29 : decode cX3_costIn 29 = .ok (.invokestatic 45, 3) := by decide +kernel
theorem dX3_costIn_32 : decode cX3_costIn 32 = .ok (.iload 5, 2) := by decide +kernel
theorem dX3_costIn_34 : decode cX3_costIn 34 = .ok (.iadd, 1) := by decide +kernel
theorem dX3_costIn_35 : decode cX3_costIn 35 = .ok (.invokestatic 65, 3) := by decide +kernel
theorem dX3_costIn_38 : decode cX3_costIn 38 = .ok (.istore 6, 2) := by decide +kernel
theorem dX3_costIn_40 : decode cX3_costIn 40 = .ok (.aload_n 0, 1) := by decide +kernel
theorem dX3_costIn_41 : decode cX3_costIn 41 = .ok (.iload_n 2, 1) := by decide +kernel
theorem dX3_costIn_42 : decode cX3_costIn 42 = .ok (.iload 6, 2) := by decide +kernel
theorem dX3_costIn_44 : decode cX3_costIn 44 = .ok (.aload_n 1, 1) := by decide +kernel
theorem dX3_costIn_45 : decode cX3_costIn 45 = .ok (.getfield 68, 3) := by decide +kernel
theorem dX3_costIn_48 : decode cX3_costIn 48 = .ok (.iload_n 2, 1) := by decide +kernel
theorem dX3_costIn_49 : decode cX3_costIn 49 = .ok (.invokestatic 49, 3) := by decide +kernel
theorem dX3_costIn_52 : decode cX3_costIn 52 = .ok (.iload 4, 2) := by decide +kernel
theorem dX3_costIn_54 : decode cX3_costIn 54 = .ok (.aload_n 1, 1) := by decide +kernel
theorem dX3_costIn_55 : decode cX3_costIn 55 = .ok (.getfield 71, 3) := by decide +kernel
theorem dX3_costIn_58 : decode cX3_costIn 58 = .ok (.iload_n 3, 1) := by decide +kernel
theorem dX3_costIn_59 : decode cX3_costIn 59 = .ok (.iadd, 1) := by decide +kernel
theorem dX3_costIn_60 : decode cX3_costIn 60 = .ok (.invokevirtual 74, 3) := by decide +kernel
theorem dX3_costIn_63 : decode cX3_costIn 63 = .ok (.ireturn, 1) := by decide +kernel
theorem dX3_costOf_0 : decode cX3_costOf 0 = .ok (.iload_n 2, 1) := by decide +kernel
theorem dX3_costOf_1 : decode cX3_costOf 1 = .ok (.getstatic 78, 3) := by decide +kernel
theorem dX3_costOf_4 : decode cX3_costOf 4 = .ok (.aload_n 0, 1) := by decide +kernel
theorem dX3_costOf_5 : decode cX3_costOf 5 = .ok (.getfield 19, 3) := by decide +kernel
theorem dX3_costOf_8 : decode cX3_costOf 8 = .ok (.iload_n 1, 1) := by decide +kernel
theorem dX3_costOf_9 : decode cX3_costOf 9 = .ok (.invokestatic 45, 3) := by decide +kernel
theorem dX3_costOf_12 : decode cX3_costOf 12 = .ok (.invokestatic 45, 3) := by decide +kernel
theorem dX3_costOf_15 : decode cX3_costOf 15 = .ok (.imul, 1) := by decide +kernel
theorem dX3_costOf_16 : decode cX3_costOf 16 = .ok (.iload_n 3, 1) := by decide +kernel
theorem dX3_costOf_17 : decode cX3_costOf 17 = .ok (.ifCond .eq 7, 3) := by decide +kernel
theorem dX3_costOf_20 : decode cX3_costOf 20 = .ok (.iconst 2, 1) := by decide +kernel
theorem dX3_costOf_21 : decode cX3_costOf 21 = .ok (.goto 4, 3) := by decide +kernel
theorem dX3_costOf_24 : decode cX3_costOf 24 = .ok (.iconst 1, 1) := by decide +kernel
theorem dX3_costOf_25 : decode cX3_costOf 25 = .ok (.imul, 1) := by decide +kernel
theorem dX3_costOf_26 : decode cX3_costOf 26 = .ok (.istore 6, 2) := by decide +kernel
theorem dX3_costOf_28 : decode cX3_costOf 28 = .ok (.iconst 3, 1) := by decide +kernel
theorem dX3_costOf_29 : decode cX3_costOf 29 = .ok (.aload_n 0, 1) := by decide +kernel
theorem dX3_costOf_30 : decode cX3_costOf 30 = .ok (.getfield 22, 3) := by decide +kernel
theorem dX3_costOf_33 : decode cX3_costOf 33 = .ok (.iload_n 1, 1) := by decide +kernel
theorem dX3_costOf_34 : decode cX3_costOf 34 = .ok (.invokestatic 45, 3) := by decide +kernel
theorem dX3_costOf_37 : decode cX3_costOf 37 = .ok (.iload 4, 2) := by decide +kernel
theorem dX3_costOf_39 : decode cX3_costOf 39 = .ok (.iand, 1) := by decide +kernel
theorem dX3_costOf_40 : decode cX3_costOf 40 = .ok (.invokestatic 81, 3) := by decide +kernel
theorem dX3_costOf_43 : decode cX3_costOf 43 = .ok (.imul, 1) := by decide +kernel
theorem dX3_costOf_44 : decode cX3_costOf 44 = .ok (.istore 7, 2) := by decide +kernel
theorem dX3_costOf_46 : decode cX3_costOf 46 = .ok (.iconst 0, 1) := by decide +kernel
theorem dX3_costOf_47 : decode cX3_costOf 47 = .ok (.iload 6, 2) := by decide +kernel
theorem dX3_costOf_49 : decode cX3_costOf 49 = .ok (.iload 7, 2) := by decide +kernel
theorem dX3_costOf_51 : decode cX3_costOf 51 = .ok (.isub, 1) := by decide +kernel
theorem dX3_costOf_52 : decode cX3_costOf 52 = .ok (.invokestatic 58, 3) := by decide +kernel
theorem dX3_costOf_55 : decode cX3_costOf 55 = .ok (.istore 8, 2) := by decide +kernel
theorem dX3_costOf_57 : decode cX3_costOf 57 = .ok (.iload 5, 2) := by decide +kernel
theorem dX3_costOf_59 : decode cX3_costOf 59 = .ok (.aload_n 0, 1) := by decide +kernel
theorem dX3_costOf_60 : decode cX3_costOf 60 = .ok (.getfield 25, 3) := by decide +kernel
theorem dX3_costOf_63 : decode cX3_costOf 63 = .ok (.if_icmp .ne 10, 3) := by decide +kernel
theorem dX3_costOf_66 : decode cX3_costOf 66 = .ok (.iload 8, 2) := by decide +kernel
theorem dX3_costOf_68 : decode cX3_costOf 68 = .ok (.iconst 2, 1) := by decide +kernel
theorem dX3_costOf_69 : decode cX3_costOf 69 = .ok (.idiv, 1) := by decide +kernel
theorem dX3_costOf_70 : decode cX3_costOf 70 = .ok (.goto 5, 3) := by decide +kernel
theorem dX3_costOf_73 : decode cX3_costOf 73 = .ok (.iload 8, 2) := by decide +kernel
theorem dX3_costOf_75 : decode cX3_costOf 75 = .ok (.ireturn, 1) := by decide +kernel
theorem dX4_init_0 : decode cX4_init 0 = .ok (.aload_n 0, 1) := by decide +kernel
theorem dX4_init_1 : decode cX4_init 1 = .ok (.invokespecial 1, 3) := by decide +kernel
theorem dX4_init_4 : decode cX4_init 4 = .ok (.aload_n 0, 1) := by decide +kernel
theorem dX4_init_5 : decode cX4_init 5 = .ok (.bipush 48, 2) := by decide +kernel
theorem dX4_init_7 : decode cX4_init 7 = .ok (.newarray .int, 2) := by decide +kernel
theorem dX4_init_9 : decode cX4_init 9 = .ok (.putfield 9, 3) := by decide +kernel
theorem dX4_init_12 : decode cX4_init 12 = .ok (.aload_n 0, 1) := by decide +kernel
theorem dX4_init_13 : decode cX4_init 13 = .ok (.new 13, 3) := by decide +kernel
theorem dX4_init_16 : decode cX4_init 16 = .ok (.dup, 1) := by decide +kernel
theorem dX4_init_17 : decode cX4_init 17 = .ok (.invokespecial 15, 3) := by decide +kernel
theorem dX4_init_20 : decode cX4_init 20 = .ok (.putfield 16, 3) := by decide +kernel
theorem dX4_init_23 : decode cX4_init 23 = .ok (.aload_n 0, 1) := by decide +kernel
theorem dX4_init_24 : decode cX4_init 24 = .ok (.new 20, 3) := by decide +kernel
theorem dX4_init_27 : decode cX4_init 27 = .ok (.dup, 1) := by decide +kernel
theorem dX4_init_28 : decode cX4_init 28 = .ok (.invokespecial 22, 3) := by decide +kernel
theorem dX4_init_31 : decode cX4_init 31 = .ok (.putfield 23, 3) := by decide +kernel
theorem dX4_init_34 : decode cX4_init 34 = .ok (.aload_n 0, 1) := by decide +kernel
theorem dX4_init_35 : decode cX4_init 35 = .ok (.new 27, 3) := by decide +kernel
theorem dX4_init_38 : decode cX4_init 38 = .ok (.dup, 1) := by decide +kernel
theorem dX4_init_39 : decode cX4_init 39 = .ok (.invokespecial 29, 3) := by decide +kernel
theorem dX4_init_42 : decode cX4_init 42 = .ok (.putfield 30, 3) := by decide +kernel
theorem dX4_init_45 : decode cX4_init 45 = .ok (.aload_n 0, 1) := by decide +kernel
theorem dX4_init_46 : decode cX4_init 46 = .ok (.new 27, 3) := by decide +kernel
theorem dX4_init_49 : decode cX4_init 49 = .ok (.dup, 1) := by decide +kernel
theorem dX4_init_50 : decode cX4_init 50 = .ok (.invokespecial 29, 3) := by decide +kernel
theorem dX4_init_53 : decode cX4_init 53 = .ok (.putfield 34, 3) := by decide +kernel
theorem dX4_init_56 : decode cX4_init 56 = .ok (.aload_n 0, 1) := by decide +kernel
theorem dX4_init_57 : decode cX4_init 57 = .ok (.bipush 14, 2) := by decide +kernel
theorem dX4_init_59 : decode cX4_init 59 = .ok (.anewarray 27, 3) := by decide +kernel
theorem dX4_init_62 : decode cX4_init 62 = .ok (.putfield 37, 3) := by decide +kernel
theorem dX4_init_65 : decode cX4_init 65 = .ok (.iconst 0, 1) := by decide +kernel
theorem dX4_init_66 : decode cX4_init 66 = .ok (.istore_n 1, 1) := by decide +kernel
theorem dX4_init_67 : decode cX4_init 67 = .ok (.iload_n 1, 1) := by decide +kernel
theorem dX4_init_68 : decode cX4_init 68 = .ok (.aload_n 0, 1) := by decide +kernel
theorem dX4_init_69 : decode cX4_init 69 = .ok (.getfield 37, 3) := by decide +kernel
theorem dX4_init_72 : decode cX4_init 72 = .ok (.arraylength, 1) := by decide +kernel
theorem dX4_init_73 : decode cX4_init 73 = .ok (.if_icmp .ge 22, 3) := by decide +kernel
theorem dX4_init_76 : decode cX4_init 76 = .ok (.aload_n 0, 1) := by decide +kernel
theorem dX4_init_77 : decode cX4_init 77 = .ok (.getfield 37, 3) := by decide +kernel
theorem dX4_init_80 : decode cX4_init 80 = .ok (.iload_n 1, 1) := by decide +kernel
theorem dX4_init_81 : decode cX4_init 81 = .ok (.new 27, 3) := by decide +kernel
theorem dX4_init_84 : decode cX4_init 84 = .ok (.dup, 1) := by decide +kernel
theorem dX4_init_85 : decode cX4_init 85 = .ok (.invokespecial 29, 3) := by decide +kernel
theorem dX4_init_88 : decode cX4_init 88 = .ok (.aastore, 1) := by decide +kernel
theorem dX4_init_89 : decode cX4_init 89 = .ok (.iinc 1 1, 3) := by decide +kernel
theorem dX4_init_92 : decode cX4_init 92 = .ok (.goto (-25), 3) := by decide +kernel
theorem dX4_init_95 : decode cX4_init 95 = .ok (.aload_n 0, 1) := by decide +kernel
theorem dX4_init_96 : decode cX4_init 96 = .ok (.iconst 2, 1) := by decide +kernel
theorem dX4_init_97 : decode cX4_init 97 = .ok (.anewarray 27, 3) := by decide +kernel
theorem dX4_init_100 : decode cX4_init 100 = .ok (.putfield 41, 3) := by decide +kernel
theorem dX4_init_103 : decode cX4_init 103 = .ok (.iconst 0, 1) := by decide +kernel
theorem dX4_init_104 : decode cX4_init 104 = .ok (.istore_n 1, 1) := by decide +kernel
theorem dX4_init_105 : decode cX4_init 105 = .ok (.iload_n 1, 1) := by decide +kernel
theorem dX4_init_106 : decode cX4_init 106 = .ok (.aload_n 0, 1) := by decide +kernel
theorem dX4_init_107 : decode cX4_init 107 = .ok (.getfield 41, 3) := by decide +kernel
theorem dX4_init_110 : decode cX4_init 110 = .ok (.arraylength, 1) := by decide +kernel
theorem dX4_init_111 : decode cX4_init 111 = .ok (.if_icmp .ge 22, 3) := by decide +kernel
theorem dX4_init_114 : decode cX4_init 114 = .ok (.aload_n 0, 1) := by decide +kernel
theorem dX4_init_115 : decode cX4_init 115 = .ok (.getfield 41, 3) := by decide +kernel
theorem dX4_init_118 : decode cX4_init 118 = .ok (.iload_n 1, 1) := by decide +kernel
theorem dX4_init_119 : decode cX4_init 119 = .ok (.new 27, 3) := by decide +kernel
theorem dX4_init_122 : decode cX4_init 122 = .ok (.dup, 1) := by decide +kernel
theorem dX4_init_123 : decode cX4_init 123 = .ok (.invokespecial 29, 3) := by decide +kernel
theorem dX4_init_126 : decode cX4_init 126 = .ok (.aastore, 1) := by decide +kernel
theorem dX4_init_127 : decode cX4_init 127 = .ok (.iinc 1 1, 3) := by decide +kernel
theorem dX4_init_130 : decode cX4_init 130 = .ok (.goto (-25), 3) := by decide +kernel
theorem dX4_init_133 : decode cX4_init 133 = .ok (.aload_n 0, 1) := by decide +kernel
theorem dX4_init_134 : decode cX4_init 134 = .ok (.bipush 6, 2) := by decide +kernel
theorem dX4_init_136 : decode cX4_init 136 = .ok (.newarray .int, 2) := by decide +kernel
theorem dX4_init_138 : decode cX4_init 138 = .ok (.putfield 44, 3) := by decide +kernel
theorem dX4_init_141 : decode cX4_init 141 = .ok (.aload_n 0, 1) := by decide +kernel
theorem dX4_init_142 : decode cX4_init 142 = .ok (.new 47, 3) := by decide +kernel
theorem dX4_init_145 : decode cX4_init 145 = .ok (.dup, 1) := by decide +kernel
theorem dX4_init_146 : decode cX4_init 146 = .ok (.invokespecial 49, 3) := by decide +kernel
theorem dX4_init_149 : decode cX4_init 149 = .ok (.putfield 50, 3) := by decide +kernel
theorem dX4_init_152 : decode cX4_init 152 = .ok (.return_, 1) := by decide +kernel
theorem dX4_write_0 : decode cX4_write 0 = .ok (.iload_n 1, 1) := by decide +kernel
theorem dX4_write_1 : decode cX4_write 1 = .ok (.ifCond .lt 10, 3) := by decide +kernel
theorem dX4_write_4 : decode cX4_write 4 = .ok (.iload_n 1, 1) := by decide +kernel
theorem dX4_write_5 : decode cX4_write 5 = .ok (.sipush 255, 3) := by decide +kernel
theorem dX4_write_8 : decode cX4_write 8 = .ok (.if_icmp .le 6, 3) := by decide +kernel
theorem dX4_write_11 : decode cX4_write 11 = .ok (.bipush (-2), 2) := by decide +kernel
theorem dX4_write_13 : decode cX4_write 13 = .ok (.ireturn, 1) := by decide +kernel
theorem dX4_write_14 : decode cX4_write 14 = .ok (.aload_n 0, 1) := by decide +kernel
theorem dX4_write_15 : decode cX4_write 15 = .ok (.getfield 54, 3) := by decide +kernel
theorem dX4_write_18 : decode cX4_write 18 = .ok (.ifCond .lt 15, 3) := by decide +kernel
theorem dX4_write_21 : decode cX4_write 21 = .ok (.aload_n 0, 1) := by decide +kernel
theorem dX4_write_22 : decode cX4_write 22 = .ok (.getfield 54, 3) := by decide +kernel
theorem dX4_write_25 : decode cX4_write 25 = .ok (.aload_n 0, 1) := by decide +kernel
theorem dX4_write_26 : decode cX4_write 26 = .ok (.getfield 9, 3) := by decide +kernel
theorem dX4_write_29 : decode cX4_write 29 = .ok (.arraylength, 1) := by decide +kernel
theorem dX4_write_30 : decode cX4_write 30 = .ok (.if_icmp .lt 6, 3) := by decide +kernel
theorem dX4_write_33 : decode cX4_write 33 = .ok (.bipush (-4), 2) := by decide +kernel
theorem dX4_write_35 : decode cX4_write 35 = .ok (.ireturn, 1) := by decide +kernel
theorem dX4_write_36 : decode cX4_write 36 = .ok (.aload_n 0, 1) := by decide +kernel
theorem dX4_write_37 : decode cX4_write 37 = .ok (.getfield 9, 3) := by decide +kernel
theorem dX4_write_40 : decode cX4_write 40 = .ok (.aload_n 0, 1) := by decide +kernel
theorem dX4_write_41 : decode cX4_write 41 = .ok (.getfield 54, 3) := by decide +kernel
theorem dX4_write_44 : decode cX4_write 44 = .ok (.iload_n 1, 1) := by decide +kernel
theorem dX4_write_45 : decode cX4_write 45 = .ok (.iastore, 1) := by decide +kernel
theorem dX4_write_46 : decode cX4_write 46 = .ok (.aload_n 0, 1) := by decide +kernel
theorem dX4_write_47 : decode cX4_write 47 = .ok (.dup, 1) := by decide +kernel
theorem dX4_write_48 : decode cX4_write 48 = .ok (.getfield 54, 3) := by decide +kernel
theorem dX4_write_51 : decode cX4_write 51 = .ok (.iconst 1, 1) := by decide +kernel
theorem dX4_write_52 : decode cX4_write 52 = .ok (.iadd, 1) := by decide +kernel
theorem dX4_write_53 : decode cX4_write 53 = .ok (.putfield 54, 3) := by decide +kernel
theorem dX4_write_56 : decode cX4_write 56 = .ok (.aload_n 0, 1) := by decide +kernel
theorem dX4_write_57 : decode cX4_write 57 = .ok (.getfield 54, 3) := by decide +kernel
theorem dX4_write_60 : decode cX4_write 60 = .ok (.ireturn, 1) := by decide +kernel
theorem dX4_wipe_0 : decode cX4_wipe 0 = .ok (.aload_n 0, 1) := by decide +kernel
theorem dX4_wipe_1 : decode cX4_wipe 1 = .ok (.getfield 54, 3) := by decide +kernel
theorem dX4_wipe_4 : decode cX4_wipe 4 = .ok (.istore_n 1, 1) := by decide +kernel
theorem dX4_wipe_5 : decode cX4_wipe 5 = .ok (.aload_n 0, 1) := by decide +kernel
theorem dX4_wipe_6 : decode cX4_wipe 6 = .ok (.iconst 0, 1) := by decide +kernel
theorem dX4_wipe_7 : decode cX4_wipe 7 = .ok (.putfield 54, 3) := by decide +kernel
theorem dX4_wipe_10 : decode cX4_wipe 10 = .ok (.iload_n 1, 1) := by decide +kernel
theorem dX4_wipe_11 : decode cX4_wipe 11 = .ok (.ireturn, 1) := by decide +kernel
theorem dX4_fault_0 : decode cX4_fault 0 = .ok (.aload_n 0, 1) := by decide +kernel
theorem dX4_fault_1 : decode cX4_fault 1 = .ok (.invokevirtual 58, 3) := by decide +kernel
theorem dX4_fault_4 : decode cX4_fault 4 = .ok (.ireturn, 1) := by decide +kernel
theorem dX4_post_0 : decode cX4_post 0 = .ok (.aload_n 0, 1) := by decide +kernel
theorem dX4_post_1 : decode cX4_post 1 = .ok (.invokevirtual 58, 3) := by decide +kernel
theorem dX4_post_4 : decode cX4_post 4 = .ok (.bipush (-9), 2) := by decide +kernel
theorem dX4_post_6 : decode cX4_post 6 = .ok (.if_icmp .eq 6, 3) := by decide +kernel
theorem dX4_post_9 : decode cX4_post 9 = .ok (.bipush (-3), 2) := by decide +kernel
theorem dX4_post_11 : decode cX4_post 11 = .ok (.ireturn, 1) := by decide +kernel
theorem dX4_post_12 : decode cX4_post 12 = .ok (.aload_n 0, 1) := by decide +kernel
theorem dX4_post_13 : decode cX4_post 13 = .ok (.getfield 23, 3) := by decide +kernel
theorem dX4_post_16 : decode cX4_post 16 = .ok (.aload_n 0, 1) := by decide +kernel
theorem dX4_post_17 : decode cX4_post 17 = .ok (.getfield 16, 3) := by decide +kernel
theorem dX4_post_20 : decode cX4_post 20 = .ok (.getfield 62, 3) := by decide +kernel
theorem dX4_post_23 : decode cX4_post 23 = .ok (.invokevirtual 65, 3) := by decide +kernel
theorem dX4_post_26 : decode cX4_post 26 = .ok (.aload_n 0, 1) := by decide +kernel
theorem dX4_post_27 : decode cX4_post 27 = .ok (.getfield 30, 3) := by decide +kernel
theorem dX4_post_30 : decode cX4_post 30 = .ok (.aload_n 0, 1) := by decide +kernel
theorem dX4_post_31 : decode cX4_post 31 = .ok (.getfield 23, 3) := by decide +kernel
theorem dX4_post_34 : decode cX4_post 34 = .ok (.invokevirtual 69, 3) := by decide +kernel
theorem dX4_post_37 : decode cX4_post 37 = .ok (.aload_n 0, 1) := by decide +kernel
theorem dX4_post_38 : decode cX4_post 38 = .ok (.iconst 0, 1) := by decide +kernel
theorem dX4_post_39 : decode cX4_post 39 = .ok (.putfield 72, 3) := by decide +kernel
theorem dX4_post_42 : decode cX4_post 42 = .ok (.aload_n 0, 1) := by decide +kernel
theorem dX4_post_43 : decode cX4_post 43 = .ok (.iconst 0, 1) := by decide +kernel
theorem dX4_post_44 : decode cX4_post 44 = .ok (.putfield 75, 3) := by decide +kernel
theorem dX4_post_47 : decode cX4_post 47 = .ok (.aload_n 0, 1) := by decide +kernel
theorem dX4_post_48 : decode cX4_post 48 = .ok (.getfield 23, 3) := by decide +kernel
theorem dX4_post_51 : decode cX4_post 51 = .ok (.getfield 78, 3) := by decide +kernel
theorem dX4_post_54 : decode cX4_post 54 = .ok (.ireturn, 1) := by decide +kernel
theorem dX4_letter_0 : decode cX4_letter 0 = .ok (.aload_n 0, 1) := by decide +kernel
theorem dX4_letter_1 : decode cX4_letter 1 = .ok (.iload_n 1, 1) := by decide +kernel
theorem dX4_letter_2 : decode cX4_letter 2 = .ok (.invokevirtual 81, 3) := by decide +kernel
theorem dX4_letter_5 : decode cX4_letter 5 = .ok (.ifCond .ne 5, 3) := by decide +kernel
theorem dX4_letter_8 : decode cX4_letter 8 = .ok (.iconst (-1), 1) := by decide +kernel
theorem dX4_letter_9 : decode cX4_letter 9 = .ok (.ireturn, 1) := by decide +kernel
theorem dX4_letter_10 : decode cX4_letter 10 = .ok (.iload_n 2, 1) := by decide +kernel
theorem dX4_letter_11 : decode cX4_letter 11 = .ok (.tableswitch 169 0 6 #[41, 53, 65, 77, 97, 117, 129], 41) := by decide +kernel
theorem dX4_letter_52 : decode cX4_letter 52 = .ok (.aload_n 0, 1) := by decide +kernel
theorem dX4_letter_53 : decode cX4_letter 53 = .ok (.getfield 30, 3) := by decide +kernel
theorem dX4_letter_56 : decode cX4_letter 56 = .ok (.getfield 85, 3) := by decide +kernel
theorem dX4_letter_59 : decode cX4_letter 59 = .ok (.iload_n 1, 1) := by decide +kernel
theorem dX4_letter_60 : decode cX4_letter 60 = .ok (.invokestatic 88, 3) := by decide +kernel
theorem dX4_letter_63 : decode cX4_letter 63 = .ok (.ireturn, 1) := by decide +kernel
theorem dX4_letter_64 : decode cX4_letter 64 = .ok (.aload_n 0, 1) := by decide +kernel
theorem dX4_letter_65 : decode cX4_letter 65 = .ok (.getfield 23, 3) := by decide +kernel
theorem dX4_letter_68 : decode cX4_letter 68 = .ok (.getfield 92, 3) := by decide +kernel
theorem dX4_letter_71 : decode cX4_letter 71 = .ok (.iload_n 1, 1) := by decide +kernel
theorem dX4_letter_72 : decode cX4_letter 72 = .ok (.invokestatic 88, 3) := by decide +kernel
theorem dX4_letter_75 : decode cX4_letter 75 = .ok (.ireturn, 1) := by decide +kernel
theorem dX4_letter_76 : decode cX4_letter 76 = .ok (.aload_n 0, 1) := by decide +kernel
theorem dX4_letter_77 : decode cX4_letter 77 = .ok (.getfield 23, 3) := by decide +kernel
theorem dX4_letter_80 : decode cX4_letter 80 = .ok (.getfield 95, 3) := by decide +kernel
theorem dX4_letter_83 : decode cX4_letter 83 = .ok (.iload_n 1, 1) := by decide +kernel
theorem dX4_letter_84 : decode cX4_letter 84 = .ok (.invokestatic 88, 3) := by decide +kernel
theorem dX4_letter_87 : decode cX4_letter 87 = .ok (.ireturn, 1) := by decide +kernel
theorem dX4_letter_88 : decode cX4_letter 88 = .ok (.aload_n 0, 1) := by decide +kernel
theorem dX4_letter_89 : decode cX4_letter 89 = .ok (.getfield 30, 3) := by decide +kernel
theorem dX4_letter_92 : decode cX4_letter 92 = .ok (.getfield 98, 3) := by decide +kernel
theorem dX4_letter_95 : decode cX4_letter 95 = .ok (.iload_n 1, 1) := by decide +kernel
theorem dX4_letter_96 : decode cX4_letter 96 = .ok (.invokestatic 101, 3) := by decide +kernel
theorem dX4_letter_99 : decode cX4_letter 99 = .ok (.ifCond .eq 7, 3) := by decide +kernel
theorem dX4_letter_102 : decode cX4_letter 102 = .ok (.iconst 1, 1) := by decide +kernel
theorem dX4_letter_103 : decode cX4_letter 103 = .ok (.goto 4, 3) := by decide +kernel
theorem dX4_letter_106 : decode cX4_letter 106 = .ok (.iconst 0, 1) := by decide +kernel
theorem dX4_letter_107 : decode cX4_letter 107 = .ok (.ireturn, 1) := by decide +kernel
theorem dX4_letter_108 : decode cX4_letter 108 = .ok (.aload_n 0, 1) := by decide +kernel
theorem dX4_letter_109 : decode cX4_letter 109 = .ok (.getfield 30, 3) := by decide +kernel
theorem dX4_letter_112 : decode cX4_letter 112 = .ok (.getfield 105, 3) := by decide +kernel
theorem dX4_letter_115 : decode cX4_letter 115 = .ok (.iload_n 1, 1) := by decide +kernel
theorem dX4_letter_116 : decode cX4_letter 116 = .ok (.invokestatic 101, 3) := by decide +kernel
theorem dX4_letter_119 : decode cX4_letter 119 = .ok (.ifCond .eq 7, 3) := by decide +kernel
theorem dX4_letter_122 : decode cX4_letter 122 = .ok (.iconst 1, 1) := by decide +kernel
theorem dX4_letter_123 : decode cX4_letter 123 = .ok (.goto 4, 3) := by decide +kernel
theorem dX4_letter_126 : decode cX4_letter 126 = .ok (.iconst 0, 1) := by decide +kernel
theorem dX4_letter_127 : decode cX4_letter 127 = .ok (.ireturn, 1) := by decide +kernel
theorem dX4_letter_128 : decode cX4_letter 128 = .ok (.aload_n 0, 1) := by decide +kernel
theorem dX4_letter_129 : decode cX4_letter 129 = .ok (.getfield 30, 3) := by decide +kernel
theorem dX4_letter_132 : decode cX4_letter 132 = .ok (.getfield 108, 3) := by decide +kernel
theorem dX4_letter_135 : decode cX4_letter 135 = .ok (.iload_n 1, 1) := by decide +kernel
theorem dX4_letter_136 : decode cX4_letter 136 = .ok (.invokestatic 88, 3) := by decide +kernel
theorem dX4_letter_139 : decode cX4_letter 139 = .ok (.ireturn, 1) := by decide +kernel
theorem dX4_letter_140 : decode cX4_letter 140 = .ok (.aload_n 0, 1) := by decide +kernel
theorem dX4_letter_141 : decode cX4_letter 141 = .ok (.getfield 30, 3) := by decide +kernel
theorem dX4_letter_144 : decode cX4_letter 144 = .ok (.getfield 98, 3) := by decide +kernel
theorem dX4_letter_147 : decode cX4_letter 147 = .ok (.iload_n 1, 1) := by decide +kernel
theorem dX4_letter_148 : decode cX4_letter 148 = .ok (.invokestatic 101, 3) := by decide +kernel
theorem dX4_letter_151 : decode cX4_letter 151 = .ok (.ifCond .eq 8, 3) := by decide +kernel
theorem dX4_letter_154 : decode cX4_letter 154 = .ok (.bipush (-9), 2) := by decide +kernel
theorem dX4_letter_156 : decode cX4_letter 156 = .ok (.goto 23, 3) := by decide +kernel
theorem dX4_letter_159 : decode cX4_letter 159 = .ok (.aload_n 0, 1) := by decide +kernel
theorem dX4_letter_160 : decode cX4_letter 160 = .ok (.getfield 23, 3) := by decide +kernel
theorem dX4_letter_163 : decode cX4_letter 163 = .ok (.aload_n 0, 1) := by decide +kernel
theorem dX4_letter_164 : decode cX4_letter 164 = .ok (.getfield 30, 3) := by decide +kernel
theorem dX4_letter_167 : decode cX4_letter 167 = .ok (.iload_n 1, 1) := by decide +kernel
theorem dX4_letter_168 : decode cX4_letter 168 = .ok (.iconst 0, 1) := by decide +kernel
theorem dX4_letter_169 : decode cX4_letter 169 = .ok (.aload_n 0, 1) := by decide +kernel
theorem dX4_letter_170 : decode cX4_letter 170 = .ok (.getfield 30, 3) := by decide +kernel
theorem dX4_letter_173 : decode cX4_letter 173 = .ok (.getfield 98, 3) := by decide +kernel
theorem dX4_letter_176 : decode cX4_letter 176 = .ok (.invokevirtual 111, 3) := by decide +kernel
theorem dX4_letter_179 : decode cX4_letter 179 = .ok (.ireturn, 1) := by decide +kernel
theorem dX4_letter_180 : decode cX4_letter 180 = .ok (.bipush (-2), 2) := by decide +kernel
theorem dX4_letter_182 : decode cX4_letter 182 = .ok (.ireturn, 1) := by decide +kernel
theorem dX4_send_0 : decode cX4_send 0 = .ok (.aload_n 0, 1) := by decide +kernel
theorem dX4_send_1 : decode cX4_send 1 = .ok (.iload_n 1, 1) := by decide +kernel
theorem dX4_send_2 : decode cX4_send 2 = .ok (.invokevirtual 81, 3) := by decide +kernel
theorem dX4_send_5 : decode cX4_send 5 = .ok (.ifCond .ne 5, 3) := by decide +kernel
theorem dX4_send_8 : decode cX4_send 8 = .ok (.iconst (-1), 1) := by decide +kernel
theorem dX4_send_9 : decode cX4_send 9 = .ok (.ireturn, 1) := by decide +kernel
theorem dX4_send_10 : decode cX4_send 10 = .ok (.aload_n 0, 1) := by decide +kernel
theorem dX4_send_11 : decode cX4_send 11 = .ok (.getfield 30, 3) := by decide +kernel
theorem dX4_send_14 : decode cX4_send 14 = .ok (.getfield 98, 3) := by decide +kernel
theorem dX4_send_17 : decode cX4_send 17 = .ok (.iload_n 1, 1) := by decide +kernel
theorem dX4_send_18 : decode cX4_send 18 = .ok (.invokestatic 101, 3) := by decide +kernel
theorem dX4_send_21 : decode cX4_send 21 = .ok (.ifCond .eq 6, 3) := by decide +kernel
theorem dX4_send_24 : decode cX4_send 24 = .ok (.bipush (-3), 2) := by decide +kernel
theorem dX4_send_26 : decode cX4_send 26 = .ok (.ireturn, 1) := by decide +kernel
theorem dX4_send_27 : decode cX4_send 27 = .ok (.aload_n 0, 1) := by decide +kernel
theorem dX4_send_28 : decode cX4_send 28 = .ok (.aload_n 0, 1) := by decide +kernel
theorem dX4_send_29 : decode cX4_send 29 = .ok (.getfield 30, 3) := by decide +kernel
theorem dX4_send_32 : decode cX4_send 32 = .ok (.iload_n 1, 1) := by decide +kernel
theorem dX4_send_33 : decode cX4_send 33 = .ok (.invokevirtual 115, 3) := by decide +kernel
theorem dX4_send_36 : decode cX4_send 36 = .ok (.ifCond .ne 6, 3) := by decide +kernel
theorem dX4_send_39 : decode cX4_send 39 = .ok (.bipush (-4), 2) := by decide +kernel
theorem dX4_send_41 : decode cX4_send 41 = .ok (.ireturn, 1) := by decide +kernel
theorem dX4_send_42 : decode cX4_send 42 = .ok (.aload_n 0, 1) := by decide +kernel
theorem dX4_send_43 : decode cX4_send 43 = .ok (.invokevirtual 119, 3) := by decide +kernel
theorem dX4_send_46 : decode cX4_send 46 = .ok (.aload_n 0, 1) := by decide +kernel
theorem dX4_send_47 : decode cX4_send 47 = .ok (.aload_n 0, 1) := by decide +kernel
theorem dX4_send_48 : decode cX4_send 48 = .ok (.getfield 30, 3) := by decide +kernel
theorem dX4_send_51 : decode cX4_send 51 = .ok (.iload_n 1, 1) := by decide +kernel
theorem dX4_send_52 : decode cX4_send 52 = .ok (.invokevirtual 122, 3) := by decide +kernel
theorem dX4_send_55 : decode cX4_send 55 = .ok (.ireturn, 1) := by decide +kernel
theorem dX4_day_0 : decode cX4_day 0 = .ok (.aload_n 0, 1) := by decide +kernel
theorem dX4_day_1 : decode cX4_day 1 = .ok (.invokevirtual 119, 3) := by decide +kernel
theorem dX4_day_4 : decode cX4_day 4 = .ok (.aload_n 0, 1) := by decide +kernel
theorem dX4_day_5 : decode cX4_day 5 = .ok (.getfield 30, 3) := by decide +kernel
theorem dX4_day_8 : decode cX4_day 8 = .ok (.aload_n 0, 1) := by decide +kernel
theorem dX4_day_9 : decode cX4_day 9 = .ok (.getfield 23, 3) := by decide +kernel
theorem dX4_day_12 : decode cX4_day 12 = .ok (.getfield 78, 3) := by decide +kernel
theorem dX4_day_15 : decode cX4_day 15 = .ok (.invokevirtual 126, 3) := by decide +kernel
theorem dX4_day_18 : decode cX4_day 18 = .ok (.aload_n 0, 1) := by decide +kernel
theorem dX4_day_19 : decode cX4_day 19 = .ok (.getfield 30, 3) := by decide +kernel
theorem dX4_day_22 : decode cX4_day 22 = .ok (.getfield 130, 3) := by decide +kernel
theorem dX4_day_25 : decode cX4_day 25 = .ok (.ireturn, 1) := by decide +kernel
theorem dX4_tear_0 : decode cX4_tear 0 = .ok (.aload_n 0, 1) := by decide +kernel
theorem dX4_tear_1 : decode cX4_tear 1 = .ok (.iload_n 1, 1) := by decide +kernel
theorem dX4_tear_2 : decode cX4_tear 2 = .ok (.invokevirtual 81, 3) := by decide +kernel
theorem dX4_tear_5 : decode cX4_tear 5 = .ok (.ifCond .ne 5, 3) := by decide +kernel
theorem dX4_tear_8 : decode cX4_tear 8 = .ok (.iconst (-1), 1) := by decide +kernel
theorem dX4_tear_9 : decode cX4_tear 9 = .ok (.ireturn, 1) := by decide +kernel
theorem dX4_tear_10 : decode cX4_tear 10 = .ok (.aload_n 0, 1) := by decide +kernel
theorem dX4_tear_11 : decode cX4_tear 11 = .ok (.getfield 30, 3) := by decide +kernel
theorem dX4_tear_14 : decode cX4_tear 14 = .ok (.getfield 98, 3) := by decide +kernel
theorem dX4_tear_17 : decode cX4_tear 17 = .ok (.aload_n 0, 1) := by decide +kernel
theorem dX4_tear_18 : decode cX4_tear 18 = .ok (.getfield 30, 3) := by decide +kernel
theorem dX4_tear_21 : decode cX4_tear 21 = .ok (.getfield 105, 3) := by decide +kernel
theorem dX4_tear_24 : decode cX4_tear 24 = .ok (.ior, 1) := by decide +kernel
theorem dX4_tear_25 : decode cX4_tear 25 = .ok (.iload_n 1, 1) := by decide +kernel
theorem dX4_tear_26 : decode cX4_tear 26 = .ok (.invokestatic 101, 3) := by decide +kernel
theorem dX4_tear_29 : decode cX4_tear 29 = .ok (.ifCond .eq 6, 3) := by decide +kernel
theorem dX4_tear_32 : decode cX4_tear 32 = .ok (.bipush (-3), 2) := by decide +kernel
theorem dX4_tear_34 : decode cX4_tear 34 = .ok (.ireturn, 1) := by decide +kernel
theorem dX4_tear_35 : decode cX4_tear 35 = .ok (.aload_n 0, 1) := by decide +kernel
theorem dX4_tear_36 : decode cX4_tear 36 = .ok (.invokevirtual 119, 3) := by decide +kernel
theorem dX4_tear_39 : decode cX4_tear 39 = .ok (.aload_n 0, 1) := by decide +kernel
theorem dX4_tear_40 : decode cX4_tear 40 = .ok (.getfield 30, 3) := by decide +kernel
theorem dX4_tear_43 : decode cX4_tear 43 = .ok (.getfield 85, 3) := by decide +kernel
theorem dX4_tear_46 : decode cX4_tear 46 = .ok (.iload_n 1, 1) := by decide +kernel
theorem dX4_tear_47 : decode cX4_tear 47 = .ok (.invokestatic 88, 3) := by decide +kernel
theorem dX4_tear_50 : decode cX4_tear 50 = .ok (.istore_n 2, 1) := by decide +kernel
theorem dX4_tear_51 : decode cX4_tear 51 = .ok (.aload_n 0, 1) := by decide +kernel
theorem dX4_tear_52 : decode cX4_tear 52 = .ok (.getfield 30, 3) := by decide +kernel
theorem dX4_tear_55 : decode cX4_tear 55 = .ok (.getfield 85, 3) := by decide +kernel
theorem dX4_tear_58 : decode cX4_tear 58 = .ok (.iload_n 1, 1) := by decide +kernel
theorem dX4_tear_59 : decode cX4_tear 59 = .ok (.iconst 0, 1) := by decide +kernel
theorem dX4_tear_60 : decode cX4_tear 60 = .ok (.invokestatic 133, 3) := by decide +kernel
theorem dX4_tear_63 : decode cX4_tear 63 = .ok (.aload_n 0, 1) := by decide +kernel
theorem dX4_tear_64 : decode cX4_tear 64 = .ok (.getfield 30, 3) := by decide +kernel
theorem dX4_tear_67 : decode cX4_tear 67 = .ok (.dup, 1) := by decide +kernel
theorem dX4_tear_68 : decode cX4_tear 68 = .ok (.getfield 105, 3) := by decide +kernel
theorem dX4_tear_71 : decode cX4_tear 71 = .ok (.iload_n 1, 1) := by decide +kernel
theorem dX4_tear_72 : decode cX4_tear 72 = .ok (.invokestatic 137, 3) := by decide +kernel
theorem dX4_tear_75 : decode cX4_tear 75 = .ok (.ior, 1) := by decide +kernel
theorem dX4_tear_76 : decode cX4_tear 76 = .ok (.putfield 105, 3) := by decide +kernel
theorem dX4_tear_79 : decode cX4_tear 79 = .ok (.iload_n 2, 1) := by decide +kernel
theorem dX4_tear_80 : decode cX4_tear 80 = .ok (.ireturn, 1) := by decide +kernel
theorem dX4_card_0 : decode cX4_card 0 = .ok (.aload_n 0, 1) := by decide +kernel
theorem dX4_card_1 : decode cX4_card 1 = .ok (.iload_n 1, 1) := by decide +kernel
theorem dX4_card_2 : decode cX4_card 2 = .ok (.invokevirtual 81, 3) := by decide +kernel
theorem dX4_card_5 : decode cX4_card 5 = .ok (.ifCond .ne 5, 3) := by decide +kernel
theorem dX4_card_8 : decode cX4_card 8 = .ok (.iconst (-1), 1) := by decide +kernel
theorem dX4_card_9 : decode cX4_card 9 = .ok (.ireturn, 1) := by decide +kernel
theorem dX4_card_10 : decode cX4_card 10 = .ok (.aload_n 0, 1) := by decide +kernel
theorem dX4_card_11 : decode cX4_card 11 = .ok (.getfield 30, 3) := by decide +kernel
theorem dX4_card_14 : decode cX4_card 14 = .ok (.getfield 98, 3) := by decide +kernel
theorem dX4_card_17 : decode cX4_card 17 = .ok (.iload_n 1, 1) := by decide +kernel
theorem dX4_card_18 : decode cX4_card 18 = .ok (.invokestatic 101, 3) := by decide +kernel
theorem dX4_card_21 : decode cX4_card 21 = .ok (.ifCond .ne 17, 3) := by decide +kernel
theorem dX4_card_24 : decode cX4_card 24 = .ok (.aload_n 0, 1) := by decide +kernel
theorem dX4_card_25 : decode cX4_card 25 = .ok (.getfield 30, 3) := by decide +kernel
theorem dX4_card_28 : decode cX4_card 28 = .ok (.getfield 108, 3) := by decide +kernel
theorem dX4_card_31 : decode cX4_card 31 = .ok (.iload_n 1, 1) := by decide +kernel
theorem dX4_card_32 : decode cX4_card 32 = .ok (.invokestatic 88, 3) := by decide +kernel
theorem dX4_card_35 : decode cX4_card 35 = .ok (.ifCond .le 6, 3) := by decide +kernel
theorem dX4_card_38 : decode cX4_card 38 = .ok (.bipush (-3), 2) := by decide +kernel
theorem dX4_card_40 : decode cX4_card 40 = .ok (.ireturn, 1) := by decide +kernel
theorem dX4_card_41 : decode cX4_card 41 = .ok (.aload_n 0, 1) := by decide +kernel
theorem dX4_card_42 : decode cX4_card 42 = .ok (.invokevirtual 119, 3) := by decide +kernel
theorem dX4_card_45 : decode cX4_card 45 = .ok (.aload_n 0, 1) := by decide +kernel
theorem dX4_card_46 : decode cX4_card 46 = .ok (.getfield 30, 3) := by decide +kernel
theorem dX4_card_49 : decode cX4_card 49 = .ok (.getfield 108, 3) := by decide +kernel
theorem dX4_card_52 : decode cX4_card 52 = .ok (.iload_n 1, 1) := by decide +kernel
theorem dX4_card_53 : decode cX4_card 53 = .ok (.iconst 3, 1) := by decide +kernel
theorem dX4_card_54 : decode cX4_card 54 = .ok (.invokestatic 133, 3) := by decide +kernel
theorem dX4_card_57 : decode cX4_card 57 = .ok (.aload_n 0, 1) := by decide +kernel
theorem dX4_card_58 : decode cX4_card 58 = .ok (.getfield 23, 3) := by decide +kernel
theorem dX4_card_61 : decode cX4_card 61 = .ok (.aload_n 0, 1) := by decide +kernel
theorem dX4_card_62 : decode cX4_card 62 = .ok (.getfield 30, 3) := by decide +kernel
theorem dX4_card_65 : decode cX4_card 65 = .ok (.iload_n 1, 1) := by decide +kernel
theorem dX4_card_66 : decode cX4_card 66 = .ok (.iconst 0, 1) := by decide +kernel
theorem dX4_card_67 : decode cX4_card 67 = .ok (.aload_n 0, 1) := by decide +kernel
theorem dX4_card_68 : decode cX4_card 68 = .ok (.getfield 30, 3) := by decide +kernel
theorem dX4_card_71 : decode cX4_card 71 = .ok (.getfield 98, 3) := by decide +kernel
theorem dX4_card_74 : decode cX4_card 74 = .ok (.invokevirtual 111, 3) := by decide +kernel
theorem dX4_card_77 : decode cX4_card 77 = .ok (.ireturn, 1) := by decide +kernel
theorem dX4_undo_0 : decode cX4_undo 0 = .ok (.aload_n 0, 1) := by decide +kernel
theorem dX4_undo_1 : decode cX4_undo 1 = .ok (.getfield 72, 3) := by decide +kernel
theorem dX4_undo_4 : decode cX4_undo 4 = .ok (.ifCond .le 15, 3) := by decide +kernel
theorem dX4_undo_7 : decode cX4_undo 7 = .ok (.aload_n 0, 1) := by decide +kernel
theorem dX4_undo_8 : decode cX4_undo 8 = .ok (.getfield 72, 3) := by decide +kernel
theorem dX4_undo_11 : decode cX4_undo 11 = .ok (.aload_n 0, 1) := by decide +kernel
theorem dX4_undo_12 : decode cX4_undo 12 = .ok (.getfield 37, 3) := by decide +kernel
theorem dX4_undo_15 : decode cX4_undo 15 = .ok (.arraylength, 1) := by decide +kernel
theorem dX4_undo_16 : decode cX4_undo 16 = .ok (.if_icmp .le 6, 3) := by decide +kernel
theorem dX4_undo_19 : decode cX4_undo 19 = .ok (.bipush (-3), 2) := by decide +kernel
theorem dX4_undo_21 : decode cX4_undo 21 = .ok (.ireturn, 1) := by decide +kernel
theorem dX4_undo_22 : decode cX4_undo 22 = .ok (.aload_n 0, 1) := by decide +kernel
theorem dX4_undo_23 : decode cX4_undo 23 = .ok (.dup, 1) := by decide +kernel
theorem dX4_undo_24 : decode cX4_undo 24 = .ok (.getfield 72, 3) := by decide +kernel
theorem dX4_undo_27 : decode cX4_undo 27 = .ok (.iconst 1, 1) := by decide +kernel
theorem dX4_undo_28 : decode cX4_undo 28 = .ok (.isub, 1) := by decide +kernel
theorem dX4_undo_29 : decode cX4_undo 29 = .ok (.putfield 72, 3) := by decide +kernel
theorem dX4_undo_32 : decode cX4_undo 32 = .ok (.aload_n 0, 1) := by decide +kernel
theorem dX4_undo_33 : decode cX4_undo 33 = .ok (.getfield 30, 3) := by decide +kernel
theorem dX4_undo_36 : decode cX4_undo 36 = .ok (.aload_n 0, 1) := by decide +kernel
theorem dX4_undo_37 : decode cX4_undo 37 = .ok (.getfield 37, 3) := by decide +kernel
theorem dX4_undo_40 : decode cX4_undo 40 = .ok (.aload_n 0, 1) := by decide +kernel
theorem dX4_undo_41 : decode cX4_undo 41 = .ok (.getfield 72, 3) := by decide +kernel
theorem dX4_undo_44 : decode cX4_undo 44 = .ok (.aaload, 1) := by decide +kernel
theorem dX4_undo_45 : decode cX4_undo 45 = .ok (.invokevirtual 141, 3) := by decide +kernel
theorem dX4_undo_48 : decode cX4_undo 48 = .ok (.aload_n 0, 1) := by decide +kernel
theorem dX4_undo_49 : decode cX4_undo 49 = .ok (.getfield 72, 3) := by decide +kernel
theorem dX4_undo_52 : decode cX4_undo 52 = .ok (.ireturn, 1) := by decide +kernel
theorem dX4_price_0 : decode cX4_price 0 = .ok (.aload_n 0, 1) := by decide +kernel
theorem dX4_price_1 : decode cX4_price 1 = .ok (.iload_n 1, 1) := by decide +kernel
theorem dX4_price_2 : decode cX4_price 2 = .ok (.invokevirtual 81, 3) := by decide +kernel
theorem dX4_price_5 : decode cX4_price 5 = .ok (.ifCond .ne 5, 3) := by decide +kernel
theorem dX4_price_8 : decode cX4_price 8 = .ok (.iconst (-1), 1) := by decide +kernel
theorem dX4_price_9 : decode cX4_price 9 = .ok (.ireturn, 1) := by decide +kernel
theorem dX4_price_10 : decode cX4_price 10 = .ok (.iload_n 2, 1) := by decide +kernel
theorem dX4_price_11 : decode cX4_price 11 = .ok (.ifCond .lt 9, 3) := by decide +kernel
theorem dX4_price_14 : decode cX4_price 14 = .ok (.iload_n 2, 1) := by decide +kernel
theorem dX4_price_15 : decode cX4_price 15 = .ok (.bipush 9, 2) := by decide +kernel
theorem dX4_price_17 : decode cX4_price 17 = .ok (.if_icmp .le 6, 3) := by decide +kernel
theorem dX4_price_20 : decode cX4_price 20 = .ok (.bipush (-2), 2) := by decide +kernel
theorem dX4_price_22 : decode cX4_price 22 = .ok (.ireturn, 1) := by decide +kernel
theorem dX4_price_23 : decode cX4_price 23 = .ok (.aload_n 0, 1) := by decide +kernel
theorem dX4_price_24 : decode cX4_price 24 = .ok (.getfield 30, 3) := by decide +kernel
theorem dX4_price_27 : decode cX4_price 27 = .ok (.getfield 98, 3) := by decide +kernel
theorem dX4_price_30 : decode cX4_price 30 = .ok (.iload_n 1, 1) := by decide +kernel
theorem dX4_price_31 : decode cX4_price 31 = .ok (.invokestatic 101, 3) := by decide +kernel
theorem dX4_price_34 : decode cX4_price 34 = .ok (.ifCond .eq 6, 3) := by decide +kernel
theorem dX4_price_37 : decode cX4_price 37 = .ok (.bipush (-3), 2) := by decide +kernel
theorem dX4_price_39 : decode cX4_price 39 = .ok (.ireturn, 1) := by decide +kernel
theorem dX4_price_40 : decode cX4_price 40 = .ok (.aload_n 0, 1) := by decide +kernel
theorem dX4_price_41 : decode cX4_price 41 = .ok (.getfield 23, 3) := by decide +kernel
theorem dX4_price_44 : decode cX4_price 44 = .ok (.aload_n 0, 1) := by decide +kernel
theorem dX4_price_45 : decode cX4_price 45 = .ok (.getfield 30, 3) := by decide +kernel
theorem dX4_price_48 : decode cX4_price 48 = .ok (.iload_n 1, 1) := by decide +kernel
theorem dX4_price_49 : decode cX4_price 49 = .ok (.iload_n 2, 1) := by decide +kernel
theorem dX4_price_50 : decode cX4_price 50 = .ok (.aload_n 0, 1) := by decide +kernel
theorem dX4_price_51 : decode cX4_price 51 = .ok (.getfield 30, 3) := by decide +kernel
theorem dX4_price_54 : decode cX4_price 54 = .ok (.getfield 98, 3) := by decide +kernel
theorem dX4_price_57 : decode cX4_price 57 = .ok (.invokevirtual 111, 3) := by decide +kernel
theorem dX4_price_60 : decode cX4_price 60 = .ok (.ireturn, 1) := by decide +kernel
theorem dX4_cheapest_0 : decode cX4_cheapest 0 = .ok (.aload_n 0, 1) := by decide +kernel
theorem dX4_cheapest_1 : decode cX4_cheapest 1 = .ok (.iload_n 1, 1) := by decide +kernel
theorem dX4_cheapest_2 : decode cX4_cheapest 2 = .ok (.invokevirtual 81, 3) := by decide +kernel
theorem dX4_cheapest_5 : decode cX4_cheapest 5 = .ok (.ifCond .ne 5, 3) := by decide +kernel
theorem dX4_cheapest_8 : decode cX4_cheapest 8 = .ok (.iconst (-1), 1) := by decide +kernel
theorem dX4_cheapest_9 : decode cX4_cheapest 9 = .ok (.ireturn, 1) := by decide +kernel
theorem dX4_cheapest_10 : decode cX4_cheapest 10 = .ok (.aload_n 0, 1) := by decide +kernel
theorem dX4_cheapest_11 : decode cX4_cheapest 11 = .ok (.getfield 30, 3) := by decide +kernel
theorem dX4_cheapest_14 : decode cX4_cheapest 14 = .ok (.getfield 98, 3) := by decide +kernel
theorem dX4_cheapest_17 : decode cX4_cheapest 17 = .ok (.iload_n 1, 1) := by decide +kernel
theorem dX4_cheapest_18 : decode cX4_cheapest 18 = .ok (.invokestatic 101, 3) := by decide +kernel
theorem dX4_cheapest_21 : decode cX4_cheapest 21 = .ok (.ifCond .eq 6, 3) := by decide +kernel
theorem dX4_cheapest_24 : decode cX4_cheapest 24 = .ok (.bipush (-3), 2) := by decide +kernel
theorem dX4_cheapest_26 : decode cX4_cheapest 26 = .ok (.ireturn, 1) := by decide +kernel
theorem dX4_cheapest_27 : decode cX4_cheapest 27 = .ok (.iconst 0, 1) := by decide +kernel
theorem dX4_cheapest_28 : decode cX4_cheapest 28 = .ok (.istore_n 2, 1) := by decide +kernel
theorem dX4_cheapest_29 : decode cX4_cheapest 29 = .ok (.aload_n 0, 1) := by decide +kernel
theorem dX4_cheapest_30 : decode cX4_cheapest 30 = .ok (.getfield 23, 3) := by decide +kernel
theorem dX4_cheapest_33 : decode cX4_cheapest 33 = .ok (.aload_n 0, 1) := by decide +kernel
theorem dX4_cheapest_34 : decode cX4_cheapest 34 = .ok (.getfield 30, 3) := by decide +kernel
theorem dX4_cheapest_37 : decode cX4_cheapest 37 = .ok (.iload_n 1, 1) := by decide +kernel
theorem dX4_cheapest_38 : decode cX4_cheapest 38 = .ok (.iconst 0, 1) := by decide +kernel
theorem dX4_cheapest_39 : decode cX4_cheapest 39 = .ok (.aload_n 0, 1) := by decide +kernel
theorem dX4_cheapest_40 : decode cX4_cheapest 40 = .ok (.getfield 30, 3) := by decide +kernel
theorem dX4_cheapest_43 : decode cX4_cheapest 43 = .ok (.getfield 98, 3) := by decide +kernel
theorem dX4_cheapest_46 : decode cX4_cheapest 46 = .ok (.invokevirtual 111, 3) := by decide +kernel
theorem dX4_cheapest_49 : decode cX4_cheapest 49 = .ok (.istore_n 3, 1) := by decide +kernel
theorem dX4_cheapest_50 : decode cX4_cheapest 50 = .ok (.iconst 1, 1) := by decide +kernel
theorem dX4_cheapest_51 : decode cX4_cheapest 51 = .ok (.istore 4, 2) := by decide +kernel
theorem dX4_cheapest_53 : decode cX4_cheapest 53 = .ok (.iload 4, 2) := by decide +kernel
theorem dX4_cheapest_55 : decode cX4_cheapest 55 = .ok (.bipush 9, 2) := by decide +kernel
theorem dX4_cheapest_57 : decode cX4_cheapest 57 = .ok (.if_icmp .gt 44, 3) := by decide +kernel
theorem dX4_cheapest_60 : decode cX4_cheapest 60 = .ok (.aload_n 0, 1) := by decide +kernel
theorem dX4_cheapest_61 : decode cX4_cheapest 61 = .ok (.getfield 23, 3) := by decide +kernel
theorem dX4_cheapest_64 : decode cX4_cheapest 64 = .ok (.aload_n 0, 1) := by decide +kernel
theorem dX4_cheapest_65 : decode cX4_cheapest 65 = .ok (.getfield 30, 3) := by decide +kernel
theorem dX4_cheapest_68 : decode cX4_cheapest 68 = .ok (.iload_n 1, 1) := by decide +kernel
theorem dX4_cheapest_69 : decode cX4_cheapest 69 = .ok (.iload 4, 2) := by decide +kernel
theorem dX4_cheapest_71 : decode cX4_cheapest 71 = .ok (.aload_n 0, 1) := by decide +kernel
theorem dX4_cheapest_72 : decode cX4_cheapest 72 = .ok (.getfield 30, 3) := by decide +kernel
theorem dX4_cheapest_75 : decode cX4_cheapest 75 = .ok (.getfield 98, 3) := by decide +kernel
theorem dX4_cheapest_78 : decode cX4_cheapest 78 = .ok (.invokevirtual 111, 3) := by decide +kernel
theorem dX4_cheapest_81 : decode cX4_cheapest 81 = .ok (.istore 5, 2) := by decide +kernel
theorem dX4_cheapest_83 : decode cX4_cheapest 83 = .ok (.iload 5, 2) := by decide +kernel
theorem dX4_cheapest_85 : decode cX4_cheapest 85 = .ok (.iload_n 3, 1) := by decide +kernel
theorem dX4_cheapest_86 : decode cX4_cheapest 86 = .ok (.if_icmp .ge 9, 3) := by decide +kernel
theorem dX4_cheapest_89 : decode cX4_cheapest 89 = .ok (.iload 5, 2) := by decide +kernel
theorem dX4_cheapest_91 : decode cX4_cheapest 91 = .ok (.istore_n 3, 1) := by decide +kernel
theorem dX4_cheapest_92 : decode cX4_cheapest 92 = .ok (.iload 4, 2) := by decide +kernel
theorem dX4_cheapest_94 : decode cX4_cheapest 94 = .ok (.istore_n 2, 1) := by decide +kernel
theorem dX4_cheapest_95 : decode cX4_cheapest 95 = .ok (.iinc 4 1, 3) := by decide +kernel
theorem dX4_cheapest_98 : decode cX4_cheapest 98 = .ok (.goto (-45), 3) := by decide +kernel
theorem dX4_cheapest_101 : decode cX4_cheapest 101 = .ok (.iload_n 2, 1) := by decide +kernel
theorem dX4_cheapest_102 : decode cX4_cheapest 102 = .ok (.ireturn, 1) := by decide +kernel
theorem dX4_plan_0 : decode cX4_plan 0 = .ok (.iload_n 1, 1) := by decide +kernel
theorem dX4_plan_1 : decode cX4_plan 1 = .ok (.ifCond .lt 17, 3) := by decide +kernel
theorem dX4_plan_4 : decode cX4_plan 4 = .ok (.iload_n 1, 1) := by decide +kernel
theorem dX4_plan_5 : decode cX4_plan 5 = .ok (.aload_n 0, 1) := by decide +kernel
theorem dX4_plan_6 : decode cX4_plan 6 = .ok (.getfield 23, 3) := by decide +kernel
theorem dX4_plan_9 : decode cX4_plan 9 = .ok (.getfield 78, 3) := by decide +kernel
theorem dX4_plan_12 : decode cX4_plan 12 = .ok (.invokestatic 137, 3) := by decide +kernel
theorem dX4_plan_15 : decode cX4_plan 15 = .ok (.if_icmp .lt 6, 3) := by decide +kernel
theorem dX4_plan_18 : decode cX4_plan 18 = .ok (.bipush (-2), 2) := by decide +kernel
theorem dX4_plan_20 : decode cX4_plan 20 = .ok (.ireturn, 1) := by decide +kernel
theorem dX4_plan_21 : decode cX4_plan 21 = .ok (.iload_n 1, 1) := by decide +kernel
theorem dX4_plan_22 : decode cX4_plan 22 = .ok (.aload_n 0, 1) := by decide +kernel
theorem dX4_plan_23 : decode cX4_plan 23 = .ok (.getfield 30, 3) := by decide +kernel
theorem dX4_plan_26 : decode cX4_plan 26 = .ok (.getfield 98, 3) := by decide +kernel
theorem dX4_plan_29 : decode cX4_plan 29 = .ok (.iand, 1) := by decide +kernel
theorem dX4_plan_30 : decode cX4_plan 30 = .ok (.ifCond .eq 6, 3) := by decide +kernel
theorem dX4_plan_33 : decode cX4_plan 33 = .ok (.bipush (-3), 2) := by decide +kernel
theorem dX4_plan_35 : decode cX4_plan 35 = .ok (.ireturn, 1) := by decide +kernel
theorem dX4_plan_36 : decode cX4_plan 36 = .ok (.aload_n 0, 1) := by decide +kernel
theorem dX4_plan_37 : decode cX4_plan 37 = .ok (.getfield 50, 3) := by decide +kernel
theorem dX4_plan_40 : decode cX4_plan 40 = .ok (.aload_n 0, 1) := by decide +kernel
theorem dX4_plan_41 : decode cX4_plan 41 = .ok (.getfield 23, 3) := by decide +kernel
theorem dX4_plan_44 : decode cX4_plan 44 = .ok (.aload_n 0, 1) := by decide +kernel
theorem dX4_plan_45 : decode cX4_plan 45 = .ok (.getfield 30, 3) := by decide +kernel
theorem dX4_plan_48 : decode cX4_plan 48 = .ok (.iload_n 1, 1) := by decide +kernel
theorem dX4_plan_49 : decode cX4_plan 49 = .ok (.invokevirtual 144, 3) := by decide +kernel
theorem dX4_plan_52 : decode cX4_plan 52 = .ok (.aload_n 0, 1) := by decide +kernel
theorem dX4_plan_53 : decode cX4_plan 53 = .ok (.getfield 50, 3) := by decide +kernel
theorem dX4_plan_56 : decode cX4_plan 56 = .ok (.iload_n 1, 1) := by decide +kernel
theorem dX4_plan_57 : decode cX4_plan 57 = .ok (.invokevirtual 148, 3) := by decide +kernel
theorem dX4_plan_60 : decode cX4_plan 60 = .ok (.ifCond .ne 6, 3) := by decide +kernel
theorem dX4_plan_63 : decode cX4_plan 63 = .ok (.bipush (-9), 2) := by decide +kernel
theorem dX4_plan_65 : decode cX4_plan 65 = .ok (.ireturn, 1) := by decide +kernel
theorem dX4_plan_66 : decode cX4_plan 66 = .ok (.iload_n 2, 1) := by decide +kernel
theorem dX4_plan_67 : decode cX4_plan 67 = .ok (.ifCond .eq 14, 3) := by decide +kernel
theorem dX4_plan_70 : decode cX4_plan 70 = .ok (.aload_n 0, 1) := by decide +kernel
theorem dX4_plan_71 : decode cX4_plan 71 = .ok (.getfield 50, 3) := by decide +kernel
theorem dX4_plan_74 : decode cX4_plan 74 = .ok (.iload_n 1, 1) := by decide +kernel
theorem dX4_plan_75 : decode cX4_plan 75 = .ok (.invokevirtual 151, 3) := by decide +kernel
theorem dX4_plan_78 : decode cX4_plan 78 = .ok (.goto 11, 3) := by decide +kernel
theorem dX4_plan_81 : decode cX4_plan 81 = .ok (.aload_n 0, 1) := by decide +kernel
theorem dX4_plan_82 : decode cX4_plan 82 = .ok (.getfield 50, 3) := by decide +kernel
theorem dX4_plan_85 : decode cX4_plan 85 = .ok (.iload_n 1, 1) := by decide +kernel
theorem dX4_plan_86 : decode cX4_plan 86 = .ok (.invokevirtual 154, 3) := by decide +kernel
theorem dX4_plan_89 : decode cX4_plan 89 = .ok (.ireturn, 1) := by decide +kernel
theorem dX4_order_0 : decode cX4_order 0 = .ok (.aload_n 0, 1) := by decide +kernel
theorem dX4_order_1 : decode cX4_order 1 = .ok (.invokevirtual 157, 3) := by decide +kernel
theorem dX4_order_4 : decode cX4_order 4 = .ok (.istore_n 1, 1) := by decide +kernel
theorem dX4_order_5 : decode cX4_order 5 = .ok (.iload_n 1, 1) := by decide +kernel
theorem dX4_order_6 : decode cX4_order 6 = .ok (.ifCond .ne 6, 3) := by decide +kernel
theorem dX4_order_9 : decode cX4_order 9 = .ok (.bipush (-9), 2) := by decide +kernel
theorem dX4_order_11 : decode cX4_order 11 = .ok (.ireturn, 1) := by decide +kernel
theorem dX4_order_12 : decode cX4_order 12 = .ok (.iconst 0, 1) := by decide +kernel
theorem dX4_order_13 : decode cX4_order 13 = .ok (.istore_n 2, 1) := by decide +kernel
theorem dX4_order_14 : decode cX4_order 14 = .ok (.iconst 0, 1) := by decide +kernel
theorem dX4_order_15 : decode cX4_order 15 = .ok (.istore_n 3, 1) := by decide +kernel
theorem dX4_order_16 : decode cX4_order 16 = .ok (.iload_n 3, 1) := by decide +kernel
theorem dX4_order_17 : decode cX4_order 17 = .ok (.bipush 6, 2) := by decide +kernel
theorem dX4_order_19 : decode cX4_order 19 = .ok (.if_icmp .ge 48, 3) := by decide +kernel
theorem dX4_order_22 : decode cX4_order 22 = .ok (.iload_n 1, 1) := by decide +kernel
theorem dX4_order_23 : decode cX4_order 23 = .ok (.ifCond .eq 44, 3) := by decide +kernel
theorem dX4_order_26 : decode cX4_order 26 = .ok (.aload_n 0, 1) := by decide +kernel
theorem dX4_order_27 : decode cX4_order 27 = .ok (.iload_n 1, 1) := by decide +kernel
theorem dX4_order_28 : decode cX4_order 28 = .ok (.invokevirtual 160, 3) := by decide +kernel
theorem dX4_order_31 : decode cX4_order 31 = .ok (.istore 4, 2) := by decide +kernel
theorem dX4_order_33 : decode cX4_order 33 = .ok (.iload 4, 2) := by decide +kernel
theorem dX4_order_35 : decode cX4_order 35 = .ok (.ifCond .ge 6, 3) := by decide +kernel
theorem dX4_order_38 : decode cX4_order 38 = .ok (.bipush (-9), 2) := by decide +kernel
theorem dX4_order_40 : decode cX4_order 40 = .ok (.ireturn, 1) := by decide +kernel
theorem dX4_order_41 : decode cX4_order 41 = .ok (.iload_n 2, 1) := by decide +kernel
theorem dX4_order_42 : decode cX4_order 42 = .ok (.bipush 10, 2) := by decide +kernel
theorem dX4_order_44 : decode cX4_order 44 = .ok (.imul, 1) := by decide +kernel
theorem dX4_order_45 : decode cX4_order 45 = .ok (.iload 4, 2) := by decide +kernel
theorem dX4_order_47 : decode cX4_order 47 = .ok (.iadd, 1) := by decide +kernel
theorem dX4_order_48 : decode cX4_order 48 = .ok (.iconst 1, 1) := by decide +kernel
theorem dX4_order_49 : decode cX4_order 49 = .ok (.iadd, 1) := by decide +kernel
theorem dX4_order_50 : decode cX4_order 50 = .ok (.istore_n 2, 1) := by decide +kernel
theorem dX4_order_51 : decode cX4_order 51 = .ok (.iload_n 1, 1) := by decide +kernel
theorem dX4_order_52 : decode cX4_order 52 = .ok (.iload 4, 2) := by decide +kernel
theorem dX4_order_54 : decode cX4_order 54 = .ok (.invokestatic 137, 3) := by decide +kernel
theorem dX4_order_57 : decode cX4_order 57 = .ok (.iconst (-1), 1) := by decide +kernel
theorem dX4_order_58 : decode cX4_order 58 = .ok (.ixor, 1) := by decide +kernel
theorem dX4_order_59 : decode cX4_order 59 = .ok (.iand, 1) := by decide +kernel
theorem dX4_order_60 : decode cX4_order 60 = .ok (.istore_n 1, 1) := by decide +kernel
theorem dX4_order_61 : decode cX4_order 61 = .ok (.iinc 3 1, 3) := by decide +kernel
theorem dX4_order_64 : decode cX4_order 64 = .ok (.goto (-48), 3) := by decide +kernel
theorem dX4_order_67 : decode cX4_order 67 = .ok (.iload_n 2, 1) := by decide +kernel
theorem dX4_order_68 : decode cX4_order 68 = .ok (.ireturn, 1) := by decide +kernel
theorem dX4_judge_0 : decode cX4_judge 0 = .ok (.aload_n 0, 1) := by decide +kernel
theorem dX4_judge_1 : decode cX4_judge 1 = .ok (.iload_n 1, 1) := by decide +kernel
theorem dX4_judge_2 : decode cX4_judge 2 = .ok (.iload_n 2, 1) := by decide +kernel
theorem dX4_judge_3 : decode cX4_judge 3 = .ok (.invokevirtual 163, 3) := by decide +kernel
theorem dX4_judge_6 : decode cX4_judge 6 = .ok (.ifCond .eq 11, 3) := by decide +kernel
theorem dX4_judge_9 : decode cX4_judge 9 = .ok (.aload_n 0, 1) := by decide +kernel
theorem dX4_judge_10 : decode cX4_judge 10 = .ok (.iload_n 1, 1) := by decide +kernel
theorem dX4_judge_11 : decode cX4_judge 11 = .ok (.invokevirtual 166, 3) := by decide +kernel
theorem dX4_judge_14 : decode cX4_judge 14 = .ok (.goto 5, 3) := by decide +kernel
theorem dX4_judge_17 : decode cX4_judge 17 = .ok (.bipush (-2), 2) := by decide +kernel
theorem dX4_judge_19 : decode cX4_judge 19 = .ok (.ireturn, 1) := by decide +kernel
theorem dX4_cost_0 : decode cX4_cost 0 = .ok (.aload_n 0, 1) := by decide +kernel
theorem dX4_cost_1 : decode cX4_cost 1 = .ok (.iload_n 1, 1) := by decide +kernel
theorem dX4_cost_2 : decode cX4_cost 2 = .ok (.iload_n 2, 1) := by decide +kernel
theorem dX4_cost_3 : decode cX4_cost 3 = .ok (.invokevirtual 163, 3) := by decide +kernel
theorem dX4_cost_6 : decode cX4_cost 6 = .ok (.ifCond .ne 6, 3) := by decide +kernel
theorem dX4_cost_9 : decode cX4_cost 9 = .ok (.bipush (-2), 2) := by decide +kernel
theorem dX4_cost_11 : decode cX4_cost 11 = .ok (.ireturn, 1) := by decide +kernel
theorem dX4_cost_12 : decode cX4_cost 12 = .ok (.aload_n 0, 1) := by decide +kernel
theorem dX4_cost_13 : decode cX4_cost 13 = .ok (.iload_n 1, 1) := by decide +kernel
theorem dX4_cost_14 : decode cX4_cost 14 = .ok (.invokevirtual 166, 3) := by decide +kernel
theorem dX4_cost_17 : decode cX4_cost 17 = .ok (.pop, 1) := by decide +kernel
theorem dX4_cost_18 : decode cX4_cost 18 = .ok (.aload_n 0, 1) := by decide +kernel
theorem dX4_cost_19 : decode cX4_cost 19 = .ok (.getfield 34, 3) := by decide +kernel
theorem dX4_cost_22 : decode cX4_cost 22 = .ok (.getfield 169, 3) := by decide +kernel
theorem dX4_cost_25 : decode cX4_cost 25 = .ok (.aload_n 0, 1) := by decide +kernel
theorem dX4_cost_26 : decode cX4_cost 26 = .ok (.getfield 30, 3) := by decide +kernel
theorem dX4_cost_29 : decode cX4_cost 29 = .ok (.getfield 169, 3) := by decide +kernel
theorem dX4_cost_32 : decode cX4_cost 32 = .ok (.isub, 1) := by decide +kernel
theorem dX4_cost_33 : decode cX4_cost 33 = .ok (.ireturn, 1) := by decide +kernel
theorem dX4_waits_0 : decode cX4_waits 0 = .ok (.aload_n 0, 1) := by decide +kernel
theorem dX4_waits_1 : decode cX4_waits 1 = .ok (.iload_n 1, 1) := by decide +kernel
theorem dX4_waits_2 : decode cX4_waits 2 = .ok (.invokevirtual 81, 3) := by decide +kernel
theorem dX4_waits_5 : decode cX4_waits 5 = .ok (.ifCond .ne 5, 3) := by decide +kernel
theorem dX4_waits_8 : decode cX4_waits 8 = .ok (.iconst (-1), 1) := by decide +kernel
theorem dX4_waits_9 : decode cX4_waits 9 = .ok (.ireturn, 1) := by decide +kernel
theorem dX4_waits_10 : decode cX4_waits 10 = .ok (.iload_n 2, 1) := by decide +kernel
theorem dX4_waits_11 : decode cX4_waits 11 = .ok (.invokestatic 172, 3) := by decide +kernel
theorem dX4_waits_14 : decode cX4_waits 14 = .ok (.ifCond .ne 6, 3) := by decide +kernel
theorem dX4_waits_17 : decode cX4_waits 17 = .ok (.bipush (-2), 2) := by decide +kernel
theorem dX4_waits_19 : decode cX4_waits 19 = .ok (.ireturn, 1) := by decide +kernel
theorem dX4_waits_20 : decode cX4_waits 20 = .ok (.aload_n 0, 1) := by decide +kernel
theorem dX4_waits_21 : decode cX4_waits 21 = .ok (.getfield 30, 3) := by decide +kernel
theorem dX4_waits_24 : decode cX4_waits 24 = .ok (.getfield 98, 3) := by decide +kernel
theorem dX4_waits_27 : decode cX4_waits 27 = .ok (.iload_n 1, 1) := by decide +kernel
theorem dX4_waits_28 : decode cX4_waits 28 = .ok (.invokestatic 101, 3) := by decide +kernel
theorem dX4_waits_31 : decode cX4_waits 31 = .ok (.ifCond .eq 6, 3) := by decide +kernel
theorem dX4_waits_34 : decode cX4_waits 34 = .ok (.bipush (-3), 2) := by decide +kernel
theorem dX4_waits_36 : decode cX4_waits 36 = .ok (.ireturn, 1) := by decide +kernel
theorem dX4_waits_37 : decode cX4_waits 37 = .ok (.iconst 0, 1) := by decide +kernel
theorem dX4_waits_38 : decode cX4_waits 38 = .ok (.istore_n 3, 1) := by decide +kernel
theorem dX4_waits_39 : decode cX4_waits 39 = .ok (.iconst 0, 1) := by decide +kernel
theorem dX4_waits_40 : decode cX4_waits 40 = .ok (.istore 4, 2) := by decide +kernel
theorem dX4_waits_42 : decode cX4_waits 42 = .ok (.iload 4, 2) := by decide +kernel
theorem dX4_waits_44 : decode cX4_waits 44 = .ok (.bipush 9, 2) := by decide +kernel
theorem dX4_waits_46 : decode cX4_waits 46 = .ok (.if_icmp .gt 56, 3) := by decide +kernel
theorem dX4_waits_49 : decode cX4_waits 49 = .ok (.aload_n 0, 1) := by decide +kernel
theorem dX4_waits_50 : decode cX4_waits 50 = .ok (.getfield 23, 3) := by decide +kernel
theorem dX4_waits_53 : decode cX4_waits 53 = .ok (.iload_n 1, 1) := by decide +kernel
theorem dX4_waits_54 : decode cX4_waits 54 = .ok (.iload 4, 2) := by decide +kernel
theorem dX4_waits_56 : decode cX4_waits 56 = .ok (.aload_n 0, 1) := by decide +kernel
theorem dX4_waits_57 : decode cX4_waits 57 = .ok (.getfield 30, 3) := by decide +kernel
theorem dX4_waits_60 : decode cX4_waits 60 = .ok (.getfield 105, 3) := by decide +kernel
theorem dX4_waits_63 : decode cX4_waits 63 = .ok (.iload_n 1, 1) := by decide +kernel
theorem dX4_waits_64 : decode cX4_waits 64 = .ok (.invokestatic 101, 3) := by decide +kernel
theorem dX4_waits_67 : decode cX4_waits 67 = .ok (.aload_n 0, 1) := by decide +kernel
theorem dX4_waits_68 : decode cX4_waits 68 = .ok (.getfield 30, 3) := by decide +kernel
theorem dX4_waits_71 : decode cX4_waits 71 = .ok (.getfield 98, 3) := by decide +kernel
theorem dX4_waits_74 : decode cX4_waits 74 = .ok (.aload_n 0, 1) := by decide +kernel
theorem dX4_waits_75 : decode cX4_waits 75 = .ok (.getfield 30, 3) := by decide +kernel
theorem dX4_waits_78 : decode cX4_waits 78 = .ok (.getfield 130, 3) := by decide +kernel
theorem dX4_waits_81 : decode cX4_waits 81 = .ok (.invokevirtual 175, 3) := by decide +kernel
theorem dX4_waits_84 : decode cX4_waits 84 = .ok (.iload_n 2, 1) := by decide +kernel
theorem dX4_waits_85 : decode cX4_waits 85 = .ok (.if_icmp .ne 11, 3) := by decide +kernel
theorem dX4_waits_88 : decode cX4_waits 88 = .ok (.iload_n 3, 1) := by decide +kernel
theorem dX4_waits_89 : decode cX4_waits 89 = .ok (.iload 4, 2) := by decide +kernel
theorem dX4_waits_91 : decode cX4_waits 91 = .ok (.invokestatic 137, 3) := by decide +kernel
theorem dX4_waits_94 : decode cX4_waits 94 = .ok (.ior, 1) := by decide +kernel
theorem dX4_waits_95 : decode cX4_waits 95 = .ok (.istore_n 3, 1) := by decide +kernel
theorem dX4_waits_96 : decode cX4_waits 96 = .ok (.iinc 4 1, 3) := by decide +kernel
theorem dX4_waits_99 : decode cX4_waits 99 = .ok (.goto (-57), 3) := by decide +kernel
theorem dX4_waits_102 : decode cX4_waits 102 = .ok (.iload_n 3, 1) := by decide +kernel
theorem dX4_waits_103 : decode cX4_waits 103 = .ok (.ireturn, 1) := by decide +kernel
theorem dX4_who_0 : decode cX4_who 0 = .ok (.aload_n 0, 1) := by decide +kernel
theorem dX4_who_1 : decode cX4_who 1 = .ok (.iload_n 1, 1) := by decide +kernel
theorem dX4_who_2 : decode cX4_who 2 = .ok (.invokevirtual 81, 3) := by decide +kernel
theorem dX4_who_5 : decode cX4_who 5 = .ok (.ifCond .ne 5, 3) := by decide +kernel
theorem dX4_who_8 : decode cX4_who 8 = .ok (.iconst (-1), 1) := by decide +kernel
theorem dX4_who_9 : decode cX4_who 9 = .ok (.ireturn, 1) := by decide +kernel
theorem dX4_who_10 : decode cX4_who 10 = .ok (.iload_n 2, 1) := by decide +kernel
theorem dX4_who_11 : decode cX4_who 11 = .ok (.invokestatic 172, 3) := by decide +kernel
theorem dX4_who_14 : decode cX4_who 14 = .ok (.ifCond .eq 12, 3) := by decide +kernel
theorem dX4_who_17 : decode cX4_who 17 = .ok (.iload_n 3, 1) := by decide +kernel
theorem dX4_who_18 : decode cX4_who 18 = .ok (.ifCond .lt 8, 3) := by decide +kernel
theorem dX4_who_21 : decode cX4_who 21 = .ok (.iload_n 3, 1) := by decide +kernel
theorem dX4_who_22 : decode cX4_who 22 = .ok (.iconst 2, 1) := by decide +kernel
theorem dX4_who_23 : decode cX4_who 23 = .ok (.if_icmp .le 6, 3) := by decide +kernel
theorem dX4_who_26 : decode cX4_who 26 = .ok (.bipush (-2), 2) := by decide +kernel
theorem dX4_who_28 : decode cX4_who 28 = .ok (.ireturn, 1) := by decide +kernel
theorem dX4_who_29 : decode cX4_who 29 = .ok (.aload_n 0, 1) := by decide +kernel
theorem dX4_who_30 : decode cX4_who 30 = .ok (.getfield 30, 3) := by decide +kernel
theorem dX4_who_33 : decode cX4_who 33 = .ok (.getfield 98, 3) := by decide +kernel
theorem dX4_who_36 : decode cX4_who 36 = .ok (.iload_n 1, 1) := by decide +kernel
theorem dX4_who_37 : decode cX4_who 37 = .ok (.invokestatic 101, 3) := by decide +kernel
theorem dX4_who_40 : decode cX4_who 40 = .ok (.ifCond .eq 6, 3) := by decide +kernel
theorem dX4_who_43 : decode cX4_who 43 = .ok (.bipush (-3), 2) := by decide +kernel
theorem dX4_who_45 : decode cX4_who 45 = .ok (.ireturn, 1) := by decide +kernel
theorem dX4_who_46 : decode cX4_who 46 = .ok (.aload_n 0, 1) := by decide +kernel
theorem dX4_who_47 : decode cX4_who 47 = .ok (.getfield 23, 3) := by decide +kernel
theorem dX4_who_50 : decode cX4_who 50 = .ok (.getfield 95, 3) := by decide +kernel
theorem dX4_who_53 : decode cX4_who 53 = .ok (.iload_n 1, 1) := by decide +kernel
theorem dX4_who_54 : decode cX4_who 54 = .ok (.invokestatic 88, 3) := by decide +kernel
theorem dX4_who_57 : decode cX4_who 57 = .ok (.istore 4, 2) := by decide +kernel
theorem dX4_who_59 : decode cX4_who 59 = .ok (.iconst 0, 1) := by decide +kernel
theorem dX4_who_60 : decode cX4_who 60 = .ok (.istore 5, 2) := by decide +kernel
theorem dX4_who_62 : decode cX4_who 62 = .ok (.iload 4, 2) := by decide +kernel
theorem dX4_who_64 : decode cX4_who 64 = .ok (.istore 6, 2) := by decide +kernel
theorem dX4_who_66 : decode cX4_who 66 = .ok (.iconst 0, 1) := by decide +kernel
theorem dX4_who_67 : decode cX4_who 67 = .ok (.istore 7, 2) := by decide +kernel
theorem dX4_who_69 : decode cX4_who 69 = .ok (.iconst 0, 1) := by decide +kernel
theorem dX4_who_70 : decode cX4_who 70 = .ok (.istore 8, 2) := by decide +kernel
theorem dX4_who_72 : decode cX4_who 72 = .ok (.iload 8, 2) := by decide +kernel
theorem dX4_who_74 : decode cX4_who 74 = .ok (.bipush 64, 2) := by decide +kernel
theorem dX4_who_76 : decode cX4_who 76 = .ok (.if_icmp .ge 55, 3) := by decide +kernel
theorem dX4_who_79 : decode cX4_who 79 = .ok (.iload 8, 2) := by decide +kernel
theorem dX4_who_81 : decode cX4_who 81 = .ok (.iload 4, 2) := by decide +kernel
theorem dX4_who_83 : decode cX4_who 83 = .ok (.invokestatic 179, 3) := by decide +kernel
theorem dX4_who_86 : decode cX4_who 86 = .ok (.ifCond .eq 39, 3) := by decide +kernel
theorem dX4_who_89 : decode cX4_who 89 = .ok (.aload_n 0, 1) := by decide +kernel
theorem dX4_who_90 : decode cX4_who 90 = .ok (.getfield 23, 3) := by decide +kernel
theorem dX4_who_93 : decode cX4_who 93 = .ok (.aload_n 0, 1) := by decide +kernel
theorem dX4_who_94 : decode cX4_who 94 = .ok (.getfield 30, 3) := by decide +kernel
theorem dX4_who_97 : decode cX4_who 97 = .ok (.iload_n 1, 1) := by decide +kernel
theorem dX4_who_98 : decode cX4_who 98 = .ok (.iconst 0, 1) := by decide +kernel
theorem dX4_who_99 : decode cX4_who 99 = .ok (.iload 8, 2) := by decide +kernel
theorem dX4_who_101 : decode cX4_who 101 = .ok (.invokevirtual 111, 3) := by decide +kernel
theorem dX4_who_104 : decode cX4_who 104 = .ok (.iload_n 2, 1) := by decide +kernel
theorem dX4_who_105 : decode cX4_who 105 = .ok (.if_icmp .ne 20, 3) := by decide +kernel
theorem dX4_who_108 : decode cX4_who 108 = .ok (.iinc 5 1, 3) := by decide +kernel
theorem dX4_who_111 : decode cX4_who 111 = .ok (.iload 6, 2) := by decide +kernel
theorem dX4_who_113 : decode cX4_who 113 = .ok (.iload 8, 2) := by decide +kernel
theorem dX4_who_115 : decode cX4_who 115 = .ok (.iand, 1) := by decide +kernel
theorem dX4_who_116 : decode cX4_who 116 = .ok (.istore 6, 2) := by decide +kernel
theorem dX4_who_118 : decode cX4_who 118 = .ok (.iload 7, 2) := by decide +kernel
theorem dX4_who_120 : decode cX4_who 120 = .ok (.iload 8, 2) := by decide +kernel
theorem dX4_who_122 : decode cX4_who 122 = .ok (.ior, 1) := by decide +kernel
theorem dX4_who_123 : decode cX4_who 123 = .ok (.istore 7, 2) := by decide +kernel
theorem dX4_who_125 : decode cX4_who 125 = .ok (.iinc 8 1, 3) := by decide +kernel
theorem dX4_who_128 : decode cX4_who 128 = .ok (.goto (-56), 3) := by decide +kernel
theorem dX4_who_131 : decode cX4_who 131 = .ok (.iload_n 3, 1) := by decide +kernel
theorem dX4_who_132 : decode cX4_who 132 = .ok (.ifCond .ne 6, 3) := by decide +kernel
theorem dX4_who_135 : decode cX4_who 135 = .ok (.iload 5, 2) := by decide +kernel
theorem dX4_who_137 : decode cX4_who 137 = .ok (.ireturn, 1) := by decide +kernel
theorem dX4_who_138 : decode cX4_who 138 = .ok (.iload 5, 2) := by decide +kernel
theorem dX4_who_140 : decode cX4_who 140 = .ok (.ifCond .ne 6, 3) := by decide +kernel
theorem dX4_who_143 : decode cX4_who 143 = .ok (.bipush (-9), 2) := by decide +kernel
theorem dX4_who_145 : decode cX4_who 145 = .ok (.ireturn, 1) := by decide +kernel
theorem dX4_who_146 : decode cX4_who 146 = .ok (.iload_n 3, 1) := by decide +kernel
theorem dX4_who_147 : decode cX4_who 147 = .ok (.iconst 1, 1) := by decide +kernel
theorem dX4_who_148 : decode cX4_who 148 = .ok (.if_icmp .ne 8, 3) := by decide +kernel
theorem dX4_who_151 : decode cX4_who 151 = .ok (.iload 6, 2) := by decide +kernel
theorem dX4_who_153 : decode cX4_who 153 = .ok (.goto 10, 3) := by decide +kernel
theorem dX4_who_156 : decode cX4_who 156 = .ok (.iload 4, 2) := by decide +kernel
theorem dX4_who_158 : decode cX4_who 158 = .ok (.iload 7, 2) := by decide +kernel
theorem dX4_who_160 : decode cX4_who 160 = .ok (.iconst (-1), 1) := by decide +kernel
end
section
theorem dX4_who_161 : decode cX4_who 161 = .ok (.ixor, 1) := by decide +kernel
theorem dX4_who_162 : decode cX4_who 162 = .ok (.iand, 1) := by decide +kernel
theorem dX4_who_163 : decode cX4_who 163 = .ok (.ireturn, 1) := by decide +kernel
theorem dX4_share_0 : decode cX4_share 0 = .ok (.aload_n 0, 1) := by decide +kernel
theorem dX4_share_1 : decode cX4_share 1 = .ok (.iload_n 1, 1) := by decide +kernel
theorem dX4_share_2 : decode cX4_share 2 = .ok (.invokevirtual 81, 3) := by decide +kernel
theorem dX4_share_5 : decode cX4_share 5 = .ok (.ifCond .ne 5, 3) := by decide +kernel
theorem dX4_share_8 : decode cX4_share 8 = .ok (.iconst (-1), 1) := by decide +kernel
theorem dX4_share_9 : decode cX4_share 9 = .ok (.ireturn, 1) := by decide +kernel
theorem dX4_share_10 : decode cX4_share 10 = .ok (.aload_n 0, 1) := by decide +kernel
theorem dX4_share_11 : decode cX4_share 11 = .ok (.getfield 30, 3) := by decide +kernel
theorem dX4_share_14 : decode cX4_share 14 = .ok (.getfield 98, 3) := by decide +kernel
theorem dX4_share_17 : decode cX4_share 17 = .ok (.iload_n 1, 1) := by decide +kernel
theorem dX4_share_18 : decode cX4_share 18 = .ok (.invokestatic 101, 3) := by decide +kernel
theorem dX4_share_21 : decode cX4_share 21 = .ok (.ifCond .eq 10, 3) := by decide +kernel
theorem dX4_share_24 : decode cX4_share 24 = .ok (.lconst 0, 1) := by decide +kernel
theorem dX4_share_25 : decode cX4_share 25 = .ok (.lconst 1, 1) := by decide +kernel
theorem dX4_share_26 : decode cX4_share 26 = .ok (.iload_n 2, 1) := by decide +kernel
theorem dX4_share_27 : decode cX4_share 27 = .ok (.invokestatic 182, 3) := by decide +kernel
theorem dX4_share_30 : decode cX4_share 30 = .ok (.ireturn, 1) := by decide +kernel
theorem dX4_share_31 : decode cX4_share 31 = .ok (.aload_n 0, 1) := by decide +kernel
theorem dX4_share_32 : decode cX4_share 32 = .ok (.invokevirtual 157, 3) := by decide +kernel
theorem dX4_share_35 : decode cX4_share 35 = .ok (.istore_n 3, 1) := by decide +kernel
theorem dX4_share_36 : decode cX4_share 36 = .ok (.iload_n 3, 1) := by decide +kernel
theorem dX4_share_37 : decode cX4_share 37 = .ok (.iload_n 1, 1) := by decide +kernel
theorem dX4_share_38 : decode cX4_share 38 = .ok (.invokestatic 137, 3) := by decide +kernel
theorem dX4_share_41 : decode cX4_share 41 = .ok (.iconst (-1), 1) := by decide +kernel
theorem dX4_share_42 : decode cX4_share 42 = .ok (.ixor, 1) := by decide +kernel
theorem dX4_share_43 : decode cX4_share 43 = .ok (.iand, 1) := by decide +kernel
theorem dX4_share_44 : decode cX4_share 44 = .ok (.istore 4, 2) := by decide +kernel
theorem dX4_share_46 : decode cX4_share 46 = .ok (.iload 4, 2) := by decide +kernel
theorem dX4_share_48 : decode cX4_share 48 = .ok (.invokestatic 186, 3) := by decide +kernel
theorem dX4_share_51 : decode cX4_share 51 = .ok (.istore 5, 2) := by decide +kernel
theorem dX4_share_53 : decode cX4_share 53 = .ok (.aload_n 0, 1) := by decide +kernel
theorem dX4_share_54 : decode cX4_share 54 = .ok (.getfield 50, 3) := by decide +kernel
theorem dX4_share_57 : decode cX4_share 57 = .ok (.aload_n 0, 1) := by decide +kernel
theorem dX4_share_58 : decode cX4_share 58 = .ok (.getfield 23, 3) := by decide +kernel
theorem dX4_share_61 : decode cX4_share 61 = .ok (.aload_n 0, 1) := by decide +kernel
theorem dX4_share_62 : decode cX4_share 62 = .ok (.getfield 30, 3) := by decide +kernel
theorem dX4_share_65 : decode cX4_share 65 = .ok (.iload_n 3, 1) := by decide +kernel
theorem dX4_share_66 : decode cX4_share 66 = .ok (.invokevirtual 144, 3) := by decide +kernel
theorem dX4_share_69 : decode cX4_share 69 = .ok (.lconst 0, 1) := by decide +kernel
theorem dX4_share_70 : decode cX4_share 70 = .ok (.lstore 6, 2) := by decide +kernel
theorem dX4_share_72 : decode cX4_share 72 = .ok (.iconst 0, 1) := by decide +kernel
theorem dX4_share_73 : decode cX4_share 73 = .ok (.istore 8, 2) := by decide +kernel
theorem dX4_share_75 : decode cX4_share 75 = .ok (.iload 8, 2) := by decide +kernel
theorem dX4_share_77 : decode cX4_share 77 = .ok (.bipush 64, 2) := by decide +kernel
theorem dX4_share_79 : decode cX4_share 79 = .ok (.if_icmp .ge 69, 3) := by decide +kernel
theorem dX4_share_82 : decode cX4_share 82 = .ok (.iload 8, 2) := by decide +kernel
theorem dX4_share_84 : decode cX4_share 84 = .ok (.iload 4, 2) := by decide +kernel
theorem dX4_share_86 : decode cX4_share 86 = .ok (.invokestatic 179, 3) := by decide +kernel
theorem dX4_share_89 : decode cX4_share 89 = .ok (.ifCond .eq 53, 3) := by decide +kernel
theorem dX4_share_92 : decode cX4_share 92 = .ok (.iload 8, 2) := by decide +kernel
theorem dX4_share_94 : decode cX4_share 94 = .ok (.invokestatic 186, 3) := by decide +kernel
theorem dX4_share_97 : decode cX4_share 97 = .ok (.istore 9, 2) := by decide +kernel
theorem dX4_share_99 : decode cX4_share 99 = .ok (.iload 9, 2) := by decide +kernel
theorem dX4_share_101 : decode cX4_share 101 = .ok (.invokestatic 191, 3) := by decide +kernel
theorem dX4_share_104 : decode cX4_share 104 = .ok (.iload 5, 2) := by decide +kernel
theorem dX4_share_106 : decode cX4_share 106 = .ok (.iload 9, 2) := by decide +kernel
theorem dX4_share_108 : decode cX4_share 108 = .ok (.isub, 1) := by decide +kernel
theorem dX4_share_109 : decode cX4_share 109 = .ok (.invokestatic 191, 3) := by decide +kernel
theorem dX4_share_112 : decode cX4_share 112 = .ok (.lmul, 1) := by decide +kernel
theorem dX4_share_113 : decode cX4_share 113 = .ok (.lstore 10, 2) := by decide +kernel
theorem dX4_share_115 : decode cX4_share 115 = .ok (.lload 6, 2) := by decide +kernel
theorem dX4_share_117 : decode cX4_share 117 = .ok (.lload 10, 2) := by decide +kernel
theorem dX4_share_119 : decode cX4_share 119 = .ok (.aload_n 0, 1) := by decide +kernel
theorem dX4_share_120 : decode cX4_share 120 = .ok (.iload 8, 2) := by decide +kernel
theorem dX4_share_122 : decode cX4_share 122 = .ok (.iload_n 1, 1) := by decide +kernel
theorem dX4_share_123 : decode cX4_share 123 = .ok (.invokestatic 137, 3) := by decide +kernel
theorem dX4_share_126 : decode cX4_share 126 = .ok (.ior, 1) := by decide +kernel
theorem dX4_share_127 : decode cX4_share 127 = .ok (.invokevirtual 195, 3) := by decide +kernel
theorem dX4_share_130 : decode cX4_share 130 = .ok (.aload_n 0, 1) := by decide +kernel
theorem dX4_share_131 : decode cX4_share 131 = .ok (.iload 8, 2) := by decide +kernel
theorem dX4_share_133 : decode cX4_share 133 = .ok (.invokevirtual 195, 3) := by decide +kernel
theorem dX4_share_136 : decode cX4_share 136 = .ok (.isub, 1) := by decide +kernel
theorem dX4_share_137 : decode cX4_share 137 = .ok (.i2l, 1) := by decide +kernel
theorem dX4_share_138 : decode cX4_share 138 = .ok (.lmul, 1) := by decide +kernel
theorem dX4_share_139 : decode cX4_share 139 = .ok (.ladd, 1) := by decide +kernel
theorem dX4_share_140 : decode cX4_share 140 = .ok (.lstore 6, 2) := by decide +kernel
theorem dX4_share_142 : decode cX4_share 142 = .ok (.iinc 8 1, 3) := by decide +kernel
theorem dX4_share_145 : decode cX4_share 145 = .ok (.goto (-70), 3) := by decide +kernel
theorem dX4_share_148 : decode cX4_share 148 = .ok (.lload 6, 2) := by decide +kernel
theorem dX4_share_150 : decode cX4_share 150 = .ok (.iload 5, 2) := by decide +kernel
theorem dX4_share_152 : decode cX4_share 152 = .ok (.iconst 1, 1) := by decide +kernel
theorem dX4_share_153 : decode cX4_share 153 = .ok (.iadd, 1) := by decide +kernel
theorem dX4_share_154 : decode cX4_share 154 = .ok (.invokestatic 191, 3) := by decide +kernel
theorem dX4_share_157 : decode cX4_share 157 = .ok (.iload_n 2, 1) := by decide +kernel
theorem dX4_share_158 : decode cX4_share 158 = .ok (.invokestatic 182, 3) := by decide +kernel
theorem dX4_share_161 : decode cX4_share 161 = .ok (.ireturn, 1) := by decide +kernel
theorem dX4_rests_0 : decode cX4_rests 0 = .ok (.aload_n 0, 1) := by decide +kernel
theorem dX4_rests_1 : decode cX4_rests 1 = .ok (.iload_n 1, 1) := by decide +kernel
theorem dX4_rests_2 : decode cX4_rests 2 = .ok (.invokevirtual 81, 3) := by decide +kernel
theorem dX4_rests_5 : decode cX4_rests 5 = .ok (.ifCond .eq 11, 3) := by decide +kernel
theorem dX4_rests_8 : decode cX4_rests 8 = .ok (.aload_n 0, 1) := by decide +kernel
theorem dX4_rests_9 : decode cX4_rests 9 = .ok (.iload_n 2, 1) := by decide +kernel
theorem dX4_rests_10 : decode cX4_rests 10 = .ok (.invokevirtual 81, 3) := by decide +kernel
theorem dX4_rests_13 : decode cX4_rests 13 = .ok (.ifCond .ne 5, 3) := by decide +kernel
theorem dX4_rests_16 : decode cX4_rests 16 = .ok (.iconst (-1), 1) := by decide +kernel
theorem dX4_rests_17 : decode cX4_rests 17 = .ok (.ireturn, 1) := by decide +kernel
theorem dX4_rests_18 : decode cX4_rests 18 = .ok (.iload_n 1, 1) := by decide +kernel
theorem dX4_rests_19 : decode cX4_rests 19 = .ok (.iload_n 2, 1) := by decide +kernel
theorem dX4_rests_20 : decode cX4_rests 20 = .ok (.if_icmp .eq 12, 3) := by decide +kernel
theorem dX4_rests_23 : decode cX4_rests 23 = .ok (.iload_n 3, 1) := by decide +kernel
theorem dX4_rests_24 : decode cX4_rests 24 = .ok (.ifCond .lt 8, 3) := by decide +kernel
theorem dX4_rests_27 : decode cX4_rests 27 = .ok (.iload_n 3, 1) := by decide +kernel
theorem dX4_rests_28 : decode cX4_rests 28 = .ok (.iconst 1, 1) := by decide +kernel
theorem dX4_rests_29 : decode cX4_rests 29 = .ok (.if_icmp .le 6, 3) := by decide +kernel
theorem dX4_rests_32 : decode cX4_rests 32 = .ok (.bipush (-2), 2) := by decide +kernel
theorem dX4_rests_34 : decode cX4_rests 34 = .ok (.ireturn, 1) := by decide +kernel
theorem dX4_rests_35 : decode cX4_rests 35 = .ok (.aload_n 0, 1) := by decide +kernel
theorem dX4_rests_36 : decode cX4_rests 36 = .ok (.getfield 30, 3) := by decide +kernel
theorem dX4_rests_39 : decode cX4_rests 39 = .ok (.getfield 98, 3) := by decide +kernel
theorem dX4_rests_42 : decode cX4_rests 42 = .ok (.iload_n 1, 1) := by decide +kernel
theorem dX4_rests_43 : decode cX4_rests 43 = .ok (.invokestatic 101, 3) := by decide +kernel
theorem dX4_rests_46 : decode cX4_rests 46 = .ok (.ifCond .ne 17, 3) := by decide +kernel
theorem dX4_rests_49 : decode cX4_rests 49 = .ok (.aload_n 0, 1) := by decide +kernel
theorem dX4_rests_50 : decode cX4_rests 50 = .ok (.getfield 30, 3) := by decide +kernel
theorem dX4_rests_53 : decode cX4_rests 53 = .ok (.getfield 98, 3) := by decide +kernel
theorem dX4_rests_56 : decode cX4_rests 56 = .ok (.iload_n 2, 1) := by decide +kernel
theorem dX4_rests_57 : decode cX4_rests 57 = .ok (.invokestatic 101, 3) := by decide +kernel
theorem dX4_rests_60 : decode cX4_rests 60 = .ok (.ifCond .eq 6, 3) := by decide +kernel
theorem dX4_rests_63 : decode cX4_rests 63 = .ok (.bipush (-3), 2) := by decide +kernel
theorem dX4_rests_65 : decode cX4_rests 65 = .ok (.ireturn, 1) := by decide +kernel
theorem dX4_rests_66 : decode cX4_rests 66 = .ok (.iconst 0, 1) := by decide +kernel
theorem dX4_rests_67 : decode cX4_rests 67 = .ok (.istore 4, 2) := by decide +kernel
theorem dX4_rests_69 : decode cX4_rests 69 = .ok (.bipush (-9), 2) := by decide +kernel
theorem dX4_rests_71 : decode cX4_rests 71 = .ok (.istore 5, 2) := by decide +kernel
theorem dX4_rests_73 : decode cX4_rests 73 = .ok (.iconst 0, 1) := by decide +kernel
theorem dX4_rests_74 : decode cX4_rests 74 = .ok (.istore 6, 2) := by decide +kernel
theorem dX4_rests_76 : decode cX4_rests 76 = .ok (.iload 6, 2) := by decide +kernel
theorem dX4_rests_78 : decode cX4_rests 78 = .ok (.iconst 4, 1) := by decide +kernel
theorem dX4_rests_79 : decode cX4_rests 79 = .ok (.if_icmp .ge 75, 3) := by decide +kernel
theorem dX4_rests_82 : decode cX4_rests 82 = .ok (.iconst 0, 1) := by decide +kernel
theorem dX4_rests_83 : decode cX4_rests 83 = .ok (.istore 7, 2) := by decide +kernel
theorem dX4_rests_85 : decode cX4_rests 85 = .ok (.iload 7, 2) := by decide +kernel
theorem dX4_rests_87 : decode cX4_rests 87 = .ok (.iconst 4, 1) := by decide +kernel
theorem dX4_rests_88 : decode cX4_rests 88 = .ok (.if_icmp .ge 60, 3) := by decide +kernel
theorem dX4_rests_91 : decode cX4_rests 91 = .ok (.aload_n 0, 1) := by decide +kernel
theorem dX4_rests_92 : decode cX4_rests 92 = .ok (.iload_n 1, 1) := by decide +kernel
theorem dX4_rests_93 : decode cX4_rests 93 = .ok (.iload 6, 2) := by decide +kernel
theorem dX4_rests_95 : decode cX4_rests 95 = .ok (.iload_n 2, 1) := by decide +kernel
theorem dX4_rests_96 : decode cX4_rests 96 = .ok (.iload 7, 2) := by decide +kernel
theorem dX4_rests_98 : decode cX4_rests 98 = .ok (.invokevirtual 198, 3) := by decide +kernel
theorem dX4_rests_101 : decode cX4_rests 101 = .ok (.ifCond .eq 41, 3) := by decide +kernel
theorem dX4_rests_104 : decode cX4_rests 104 = .ok (.aload_n 0, 1) := by decide +kernel
theorem dX4_rests_105 : decode cX4_rests 105 = .ok (.iload_n 2, 1) := by decide +kernel
theorem dX4_rests_106 : decode cX4_rests 106 = .ok (.iload 7, 2) := by decide +kernel
theorem dX4_rests_108 : decode cX4_rests 108 = .ok (.iload_n 1, 1) := by decide +kernel
theorem dX4_rests_109 : decode cX4_rests 109 = .ok (.iload 6, 2) := by decide +kernel
theorem dX4_rests_111 : decode cX4_rests 111 = .ok (.invokevirtual 198, 3) := by decide +kernel
theorem dX4_rests_114 : decode cX4_rests 114 = .ok (.ifCond .eq 28, 3) := by decide +kernel
theorem dX4_rests_117 : decode cX4_rests 117 = .ok (.iinc 4 1, 3) := by decide +kernel
theorem dX4_rests_120 : decode cX4_rests 120 = .ok (.iload 5, 2) := by decide +kernel
theorem dX4_rests_122 : decode cX4_rests 122 = .ok (.bipush (-9), 2) := by decide +kernel
theorem dX4_rests_124 : decode cX4_rests 124 = .ok (.if_icmp .ne 14, 3) := by decide +kernel
theorem dX4_rests_127 : decode cX4_rests 127 = .ok (.bipush 10, 2) := by decide +kernel
theorem dX4_rests_129 : decode cX4_rests 129 = .ok (.iload 6, 2) := by decide +kernel
theorem dX4_rests_131 : decode cX4_rests 131 = .ok (.imul, 1) := by decide +kernel
theorem dX4_rests_132 : decode cX4_rests 132 = .ok (.iload 7, 2) := by decide +kernel
theorem dX4_rests_134 : decode cX4_rests 134 = .ok (.iadd, 1) := by decide +kernel
theorem dX4_rests_135 : decode cX4_rests 135 = .ok (.goto 5, 3) := by decide +kernel
theorem dX4_rests_138 : decode cX4_rests 138 = .ok (.iload 5, 2) := by decide +kernel
theorem dX4_rests_140 : decode cX4_rests 140 = .ok (.istore 5, 2) := by decide +kernel
theorem dX4_rests_142 : decode cX4_rests 142 = .ok (.iinc 7 1, 3) := by decide +kernel
theorem dX4_rests_145 : decode cX4_rests 145 = .ok (.goto (-60), 3) := by decide +kernel
theorem dX4_rests_148 : decode cX4_rests 148 = .ok (.iinc 6 1, 3) := by decide +kernel
theorem dX4_rests_151 : decode cX4_rests 151 = .ok (.goto (-75), 3) := by decide +kernel
theorem dX4_rests_154 : decode cX4_rests 154 = .ok (.iload_n 3, 1) := by decide +kernel
theorem dX4_rests_155 : decode cX4_rests 155 = .ok (.ifCond .ne 8, 3) := by decide +kernel
theorem dX4_rests_158 : decode cX4_rests 158 = .ok (.iload 4, 2) := by decide +kernel
theorem dX4_rests_160 : decode cX4_rests 160 = .ok (.goto 5, 3) := by decide +kernel
theorem dX4_rests_163 : decode cX4_rests 163 = .ok (.iload 5, 2) := by decide +kernel
theorem dX4_rests_165 : decode cX4_rests 165 = .ok (.ireturn, 1) := by decide +kernel
theorem dX4_lost_0 : decode cX4_lost 0 = .ok (.aload_n 0, 1) := by decide +kernel
theorem dX4_lost_1 : decode cX4_lost 1 = .ok (.iload_n 1, 1) := by decide +kernel
theorem dX4_lost_2 : decode cX4_lost 2 = .ok (.invokevirtual 81, 3) := by decide +kernel
theorem dX4_lost_5 : decode cX4_lost 5 = .ok (.ifCond .ne 5, 3) := by decide +kernel
theorem dX4_lost_8 : decode cX4_lost 8 = .ok (.iconst (-1), 1) := by decide +kernel
theorem dX4_lost_9 : decode cX4_lost 9 = .ok (.ireturn, 1) := by decide +kernel
theorem dX4_lost_10 : decode cX4_lost 10 = .ok (.iload_n 2, 1) := by decide +kernel
theorem dX4_lost_11 : decode cX4_lost 11 = .ok (.invokestatic 172, 3) := by decide +kernel
theorem dX4_lost_14 : decode cX4_lost 14 = .ok (.ifCond .eq 13, 3) := by decide +kernel
theorem dX4_lost_17 : decode cX4_lost 17 = .ok (.iload_n 3, 1) := by decide +kernel
theorem dX4_lost_18 : decode cX4_lost 18 = .ok (.ifCond .lt 9, 3) := by decide +kernel
theorem dX4_lost_21 : decode cX4_lost 21 = .ok (.iload_n 3, 1) := by decide +kernel
theorem dX4_lost_22 : decode cX4_lost 22 = .ok (.bipush 10, 2) := by decide +kernel
theorem dX4_lost_24 : decode cX4_lost 24 = .ok (.if_icmp .le 6, 3) := by decide +kernel
theorem dX4_lost_27 : decode cX4_lost 27 = .ok (.bipush (-2), 2) := by decide +kernel
theorem dX4_lost_29 : decode cX4_lost 29 = .ok (.ireturn, 1) := by decide +kernel
theorem dX4_lost_30 : decode cX4_lost 30 = .ok (.aload_n 0, 1) := by decide +kernel
theorem dX4_lost_31 : decode cX4_lost 31 = .ok (.getfield 30, 3) := by decide +kernel
theorem dX4_lost_34 : decode cX4_lost 34 = .ok (.getfield 98, 3) := by decide +kernel
theorem dX4_lost_37 : decode cX4_lost 37 = .ok (.iload_n 1, 1) := by decide +kernel
theorem dX4_lost_38 : decode cX4_lost 38 = .ok (.invokestatic 101, 3) := by decide +kernel
theorem dX4_lost_41 : decode cX4_lost 41 = .ok (.ifCond .eq 6, 3) := by decide +kernel
theorem dX4_lost_44 : decode cX4_lost 44 = .ok (.bipush (-3), 2) := by decide +kernel
theorem dX4_lost_46 : decode cX4_lost 46 = .ok (.ireturn, 1) := by decide +kernel
theorem dX4_lost_47 : decode cX4_lost 47 = .ok (.aload_n 0, 1) := by decide +kernel
theorem dX4_lost_48 : decode cX4_lost 48 = .ok (.getfield 23, 3) := by decide +kernel
theorem dX4_lost_51 : decode cX4_lost 51 = .ok (.getfield 95, 3) := by decide +kernel
theorem dX4_lost_54 : decode cX4_lost 54 = .ok (.iload_n 1, 1) := by decide +kernel
theorem dX4_lost_55 : decode cX4_lost 55 = .ok (.invokestatic 88, 3) := by decide +kernel
theorem dX4_lost_58 : decode cX4_lost 58 = .ok (.aload_n 0, 1) := by decide +kernel
theorem dX4_lost_59 : decode cX4_lost 59 = .ok (.getfield 30, 3) := by decide +kernel
theorem dX4_lost_62 : decode cX4_lost 62 = .ok (.getfield 98, 3) := by decide +kernel
theorem dX4_lost_65 : decode cX4_lost 65 = .ok (.iand, 1) := by decide +kernel
theorem dX4_lost_66 : decode cX4_lost 66 = .ok (.istore 5, 2) := by decide +kernel
theorem dX4_lost_68 : decode cX4_lost 68 = .ok (.iload 5, 2) := by decide +kernel
theorem dX4_lost_70 : decode cX4_lost 70 = .ok (.invokestatic 186, 3) := by decide +kernel
theorem dX4_lost_73 : decode cX4_lost 73 = .ok (.istore 6, 2) := by decide +kernel
theorem dX4_lost_75 : decode cX4_lost 75 = .ok (.lconst 0, 1) := by decide +kernel
theorem dX4_lost_76 : decode cX4_lost 76 = .ok (.lstore 7, 2) := by decide +kernel
theorem dX4_lost_78 : decode cX4_lost 78 = .ok (.iconst 0, 1) := by decide +kernel
theorem dX4_lost_79 : decode cX4_lost 79 = .ok (.istore 9, 2) := by decide +kernel
theorem dX4_lost_81 : decode cX4_lost 81 = .ok (.iload 9, 2) := by decide +kernel
theorem dX4_lost_83 : decode cX4_lost 83 = .ok (.bipush 64, 2) := by decide +kernel
theorem dX4_lost_85 : decode cX4_lost 85 = .ok (.if_icmp .ge 74, 3) := by decide +kernel
theorem dX4_lost_88 : decode cX4_lost 88 = .ok (.iload 9, 2) := by decide +kernel
theorem dX4_lost_90 : decode cX4_lost 90 = .ok (.iload 5, 2) := by decide +kernel
theorem dX4_lost_92 : decode cX4_lost 92 = .ok (.invokestatic 179, 3) := by decide +kernel
theorem dX4_lost_95 : decode cX4_lost 95 = .ok (.ifCond .eq 58, 3) := by decide +kernel
theorem dX4_lost_98 : decode cX4_lost 98 = .ok (.aload_n 0, 1) := by decide +kernel
theorem dX4_lost_99 : decode cX4_lost 99 = .ok (.getfield 23, 3) := by decide +kernel
theorem dX4_lost_102 : decode cX4_lost 102 = .ok (.aload_n 0, 1) := by decide +kernel
theorem dX4_lost_103 : decode cX4_lost 103 = .ok (.getfield 30, 3) := by decide +kernel
theorem dX4_lost_106 : decode cX4_lost 106 = .ok (.iload_n 1, 1) := by decide +kernel
theorem dX4_lost_107 : decode cX4_lost 107 = .ok (.iconst 0, 1) := by decide +kernel
theorem dX4_lost_108 : decode cX4_lost 108 = .ok (.iload 5, 2) := by decide +kernel
theorem dX4_lost_110 : decode cX4_lost 110 = .ok (.iload 9, 2) := by decide +kernel
theorem dX4_lost_112 : decode cX4_lost 112 = .ok (.iconst (-1), 1) := by decide +kernel
theorem dX4_lost_113 : decode cX4_lost 113 = .ok (.ixor, 1) := by decide +kernel
theorem dX4_lost_114 : decode cX4_lost 114 = .ok (.iand, 1) := by decide +kernel
theorem dX4_lost_115 : decode cX4_lost 115 = .ok (.invokevirtual 111, 3) := by decide +kernel
theorem dX4_lost_118 : decode cX4_lost 118 = .ok (.iload_n 2, 1) := by decide +kernel
theorem dX4_lost_119 : decode cX4_lost 119 = .ok (.if_icmp .gt 34, 3) := by decide +kernel
theorem dX4_lost_122 : decode cX4_lost 122 = .ok (.iload 9, 2) := by decide +kernel
theorem dX4_lost_124 : decode cX4_lost 124 = .ok (.invokestatic 186, 3) := by decide +kernel
theorem dX4_lost_127 : decode cX4_lost 127 = .ok (.istore 10, 2) := by decide +kernel
theorem dX4_lost_129 : decode cX4_lost 129 = .ok (.lload 7, 2) := by decide +kernel
theorem dX4_lost_131 : decode cX4_lost 131 = .ok (.iload_n 3, 1) := by decide +kernel
theorem dX4_lost_132 : decode cX4_lost 132 = .ok (.iload 10, 2) := by decide +kernel
theorem dX4_lost_134 : decode cX4_lost 134 = .ok (.invokestatic 202, 3) := by decide +kernel
theorem dX4_lost_137 : decode cX4_lost 137 = .ok (.bipush 10, 2) := by decide +kernel
theorem dX4_lost_139 : decode cX4_lost 139 = .ok (.iload_n 3, 1) := by decide +kernel
theorem dX4_lost_140 : decode cX4_lost 140 = .ok (.isub, 1) := by decide +kernel
theorem dX4_lost_141 : decode cX4_lost 141 = .ok (.iload 6, 2) := by decide +kernel
theorem dX4_lost_143 : decode cX4_lost 143 = .ok (.iload 10, 2) := by decide +kernel
theorem dX4_lost_145 : decode cX4_lost 145 = .ok (.isub, 1) := by decide +kernel
theorem dX4_lost_146 : decode cX4_lost 146 = .ok (.invokestatic 202, 3) := by decide +kernel
theorem dX4_lost_149 : decode cX4_lost 149 = .ok (.lmul, 1) := by decide +kernel
theorem dX4_lost_150 : decode cX4_lost 150 = .ok (.ladd, 1) := by decide +kernel
theorem dX4_lost_151 : decode cX4_lost 151 = .ok (.lstore 7, 2) := by decide +kernel
theorem dX4_lost_153 : decode cX4_lost 153 = .ok (.iinc 9 1, 3) := by decide +kernel
theorem dX4_lost_156 : decode cX4_lost 156 = .ok (.goto (-75), 3) := by decide +kernel
theorem dX4_lost_159 : decode cX4_lost 159 = .ok (.lload 7, 2) := by decide +kernel
theorem dX4_lost_161 : decode cX4_lost 161 = .ok (.bipush 10, 2) := by decide +kernel
theorem dX4_lost_163 : decode cX4_lost 163 = .ok (.iload 6, 2) := by decide +kernel
theorem dX4_lost_165 : decode cX4_lost 165 = .ok (.invokestatic 202, 3) := by decide +kernel
theorem dX4_lost_168 : decode cX4_lost 168 = .ok (.iload 4, 2) := by decide +kernel
theorem dX4_lost_170 : decode cX4_lost 170 = .ok (.invokestatic 182, 3) := by decide +kernel
theorem dX4_lost_173 : decode cX4_lost 173 = .ok (.ireturn, 1) := by decide +kernel
theorem dX4_seed_0 : decode cX4_seed 0 = .ok (.aload_n 0, 1) := by decide +kernel
theorem dX4_seed_1 : decode cX4_seed 1 = .ok (.getfield 206, 3) := by decide +kernel
theorem dX4_seed_4 : decode cX4_seed 4 = .ok (.lstore_n 3, 1) := by decide +kernel
theorem dX4_seed_5 : decode cX4_seed 5 = .ok (.aload_n 0, 1) := by decide +kernel
theorem dX4_seed_6 : decode cX4_seed 6 = .ok (.lload_n 1, 1) := by decide +kernel
theorem dX4_seed_7 : decode cX4_seed 7 = .ok (.putfield 206, 3) := by decide +kernel
theorem dX4_seed_10 : decode cX4_seed 10 = .ok (.lload_n 3, 1) := by decide +kernel
theorem dX4_seed_11 : decode cX4_seed 11 = .ok (.lreturn, 1) := by decide +kernel
theorem dX4_years_0 : decode cX4_years 0 = .ok (.iload_n 1, 1) := by decide +kernel
theorem dX4_years_1 : decode cX4_years 1 = .ok (.iconst 1, 1) := by decide +kernel
theorem dX4_years_2 : decode cX4_years 2 = .ok (.if_icmp .lt 9, 3) := by decide +kernel
theorem dX4_years_5 : decode cX4_years 5 = .ok (.iload_n 1, 1) := by decide +kernel
theorem dX4_years_6 : decode cX4_years 6 = .ok (.bipush 30, 2) := by decide +kernel
theorem dX4_years_8 : decode cX4_years 8 = .ok (.if_icmp .le 6, 3) := by decide +kernel
theorem dX4_years_11 : decode cX4_years 11 = .ok (.bipush (-2), 2) := by decide +kernel
theorem dX4_years_13 : decode cX4_years 13 = .ok (.ireturn, 1) := by decide +kernel
theorem dX4_years_14 : decode cX4_years 14 = .ok (.aload_n 0, 1) := by decide +kernel
theorem dX4_years_15 : decode cX4_years 15 = .ok (.getfield 34, 3) := by decide +kernel
theorem dX4_years_18 : decode cX4_years 18 = .ok (.aload_n 0, 1) := by decide +kernel
theorem dX4_years_19 : decode cX4_years 19 = .ok (.getfield 30, 3) := by decide +kernel
theorem dX4_years_22 : decode cX4_years 22 = .ok (.invokevirtual 141, 3) := by decide +kernel
theorem dX4_years_25 : decode cX4_years 25 = .ok (.iconst 0, 1) := by decide +kernel
theorem dX4_years_26 : decode cX4_years 26 = .ok (.istore_n 2, 1) := by decide +kernel
theorem dX4_years_27 : decode cX4_years 27 = .ok (.iload_n 2, 1) := by decide +kernel
theorem dX4_years_28 : decode cX4_years 28 = .ok (.iload_n 1, 1) := by decide +kernel
theorem dX4_years_29 : decode cX4_years 29 = .ok (.if_icmp .ge 82, 3) := by decide +kernel
theorem dX4_years_32 : decode cX4_years 32 = .ok (.aload_n 0, 1) := by decide +kernel
theorem dX4_years_33 : decode cX4_years 33 = .ok (.aload_n 0, 1) := by decide +kernel
theorem dX4_years_34 : decode cX4_years 34 = .ok (.getfield 206, 3) := by decide +kernel
theorem dX4_years_37 : decode cX4_years 37 = .ok (.ldc2_w 210, 3) := by decide +kernel
theorem dX4_years_40 : decode cX4_years 40 = .ok (.lmul, 1) := by decide +kernel
theorem dX4_years_41 : decode cX4_years 41 = .ok (.ldc2_w 212, 3) := by decide +kernel
theorem dX4_years_44 : decode cX4_years 44 = .ok (.ladd, 1) := by decide +kernel
theorem dX4_years_45 : decode cX4_years 45 = .ok (.putfield 206, 3) := by decide +kernel
theorem dX4_years_48 : decode cX4_years 48 = .ok (.aload_n 0, 1) := by decide +kernel
theorem dX4_years_49 : decode cX4_years 49 = .ok (.getfield 206, 3) := by decide +kernel
theorem dX4_years_52 : decode cX4_years 52 = .ok (.bipush 33, 2) := by decide +kernel
theorem dX4_years_54 : decode cX4_years 54 = .ok (.lushr, 1) := by decide +kernel
theorem dX4_years_55 : decode cX4_years 55 = .ok (.l2i, 1) := by decide +kernel
theorem dX4_years_56 : decode cX4_years 56 = .ok (.bipush 9, 2) := by decide +kernel
theorem dX4_years_58 : decode cX4_years 58 = .ok (.irem, 1) := by decide +kernel
theorem dX4_years_59 : decode cX4_years 59 = .ok (.istore_n 3, 1) := by decide +kernel
theorem dX4_years_60 : decode cX4_years 60 = .ok (.iload_n 3, 1) := by decide +kernel
theorem dX4_years_61 : decode cX4_years 61 = .ok (.bipush 6, 2) := by decide +kernel
theorem dX4_years_63 : decode cX4_years 63 = .ok (.if_icmp .lt 20, 3) := by decide +kernel
theorem dX4_years_66 : decode cX4_years 66 = .ok (.aload_n 0, 1) := by decide +kernel
theorem dX4_years_67 : decode cX4_years 67 = .ok (.getfield 34, 3) := by decide +kernel
theorem dX4_years_70 : decode cX4_years 70 = .ok (.aload_n 0, 1) := by decide +kernel
theorem dX4_years_71 : decode cX4_years 71 = .ok (.getfield 23, 3) := by decide +kernel
theorem dX4_years_74 : decode cX4_years 74 = .ok (.getfield 78, 3) := by decide +kernel
theorem dX4_years_77 : decode cX4_years 77 = .ok (.invokevirtual 126, 3) := by decide +kernel
theorem dX4_years_80 : decode cX4_years 80 = .ok (.goto 25, 3) := by decide +kernel
theorem dX4_years_83 : decode cX4_years 83 = .ok (.aload_n 0, 1) := by decide +kernel
theorem dX4_years_84 : decode cX4_years 84 = .ok (.aload_n 0, 1) := by decide +kernel
theorem dX4_years_85 : decode cX4_years 85 = .ok (.getfield 34, 3) := by decide +kernel
theorem dX4_years_88 : decode cX4_years 88 = .ok (.iload_n 3, 1) := by decide +kernel
theorem dX4_years_89 : decode cX4_years 89 = .ok (.invokevirtual 115, 3) := by decide +kernel
theorem dX4_years_92 : decode cX4_years 92 = .ok (.ifCond .eq 13, 3) := by decide +kernel
theorem dX4_years_95 : decode cX4_years 95 = .ok (.aload_n 0, 1) := by decide +kernel
theorem dX4_years_96 : decode cX4_years 96 = .ok (.aload_n 0, 1) := by decide +kernel
theorem dX4_years_97 : decode cX4_years 97 = .ok (.getfield 34, 3) := by decide +kernel
theorem dX4_years_100 : decode cX4_years 100 = .ok (.iload_n 3, 1) := by decide +kernel
theorem dX4_years_101 : decode cX4_years 101 = .ok (.invokevirtual 122, 3) := by decide +kernel
theorem dX4_years_104 : decode cX4_years 104 = .ok (.pop, 1) := by decide +kernel
theorem dX4_years_105 : decode cX4_years 105 = .ok (.iinc 2 1, 3) := by decide +kernel
theorem dX4_years_108 : decode cX4_years 108 = .ok (.goto (-81), 3) := by decide +kernel
theorem dX4_years_111 : decode cX4_years 111 = .ok (.aload_n 0, 1) := by decide +kernel
theorem dX4_years_112 : decode cX4_years 112 = .ok (.getfield 34, 3) := by decide +kernel
theorem dX4_years_115 : decode cX4_years 115 = .ok (.getfield 169, 3) := by decide +kernel
theorem dX4_years_118 : decode cX4_years 118 = .ok (.aload_n 0, 1) := by decide +kernel
theorem dX4_years_119 : decode cX4_years 119 = .ok (.getfield 30, 3) := by decide +kernel
theorem dX4_years_122 : decode cX4_years 122 = .ok (.getfield 169, 3) := by decide +kernel
theorem dX4_years_125 : decode cX4_years 125 = .ok (.isub, 1) := by decide +kernel
theorem dX4_years_126 : decode cX4_years 126 = .ok (.ireturn, 1) := by decide +kernel
theorem dX4_keep_0 : decode cX4_keep 0 = .ok (.iload_n 1, 1) := by decide +kernel
theorem dX4_keep_1 : decode cX4_keep 1 = .ok (.ifCond .lt 12, 3) := by decide +kernel
theorem dX4_keep_4 : decode cX4_keep 4 = .ok (.iload_n 1, 1) := by decide +kernel
theorem dX4_keep_5 : decode cX4_keep 5 = .ok (.aload_n 0, 1) := by decide +kernel
theorem dX4_keep_6 : decode cX4_keep 6 = .ok (.getfield 41, 3) := by decide +kernel
theorem dX4_keep_9 : decode cX4_keep 9 = .ok (.arraylength, 1) := by decide +kernel
theorem dX4_keep_10 : decode cX4_keep 10 = .ok (.if_icmp .lt 5, 3) := by decide +kernel
theorem dX4_keep_13 : decode cX4_keep 13 = .ok (.iconst (-1), 1) := by decide +kernel
theorem dX4_keep_14 : decode cX4_keep 14 = .ok (.ireturn, 1) := by decide +kernel
theorem dX4_keep_15 : decode cX4_keep 15 = .ok (.aload_n 0, 1) := by decide +kernel
theorem dX4_keep_16 : decode cX4_keep 16 = .ok (.getfield 41, 3) := by decide +kernel
theorem dX4_keep_19 : decode cX4_keep 19 = .ok (.iload_n 1, 1) := by decide +kernel
theorem dX4_keep_20 : decode cX4_keep 20 = .ok (.aaload, 1) := by decide +kernel
theorem dX4_keep_21 : decode cX4_keep 21 = .ok (.ifnull 16, 3) := by decide +kernel
theorem dX4_keep_24 : decode cX4_keep 24 = .ok (.aload_n 0, 1) := by decide +kernel
theorem dX4_keep_25 : decode cX4_keep 25 = .ok (.getfield 41, 3) := by decide +kernel
theorem dX4_keep_28 : decode cX4_keep 28 = .ok (.iload_n 1, 1) := by decide +kernel
theorem dX4_keep_29 : decode cX4_keep 29 = .ok (.aaload, 1) := by decide +kernel
theorem dX4_keep_30 : decode cX4_keep 30 = .ok (.aload_n 0, 1) := by decide +kernel
theorem dX4_keep_31 : decode cX4_keep 31 = .ok (.getfield 30, 3) := by decide +kernel
theorem dX4_keep_34 : decode cX4_keep 34 = .ok (.invokevirtual 141, 3) := by decide +kernel
theorem dX4_keep_37 : decode cX4_keep 37 = .ok (.aload_n 0, 1) := by decide +kernel
theorem dX4_keep_38 : decode cX4_keep 38 = .ok (.dup, 1) := by decide +kernel
theorem dX4_keep_39 : decode cX4_keep 39 = .ok (.getfield 75, 3) := by decide +kernel
theorem dX4_keep_42 : decode cX4_keep 42 = .ok (.iload_n 1, 1) := by decide +kernel
theorem dX4_keep_43 : decode cX4_keep 43 = .ok (.invokestatic 137, 3) := by decide +kernel
theorem dX4_keep_46 : decode cX4_keep 46 = .ok (.ior, 1) := by decide +kernel
theorem dX4_keep_47 : decode cX4_keep 47 = .ok (.putfield 75, 3) := by decide +kernel
theorem dX4_keep_50 : decode cX4_keep 50 = .ok (.aload_n 0, 1) := by decide +kernel
theorem dX4_keep_51 : decode cX4_keep 51 = .ok (.getfield 30, 3) := by decide +kernel
theorem dX4_keep_54 : decode cX4_keep 54 = .ok (.getfield 130, 3) := by decide +kernel
theorem dX4_keep_57 : decode cX4_keep 57 = .ok (.ireturn, 1) := by decide +kernel
theorem dX4_again_0 : decode cX4_again 0 = .ok (.iload_n 1, 1) := by decide +kernel
theorem dX4_again_1 : decode cX4_again 1 = .ok (.ifCond .lt 12, 3) := by decide +kernel
theorem dX4_again_4 : decode cX4_again 4 = .ok (.iload_n 1, 1) := by decide +kernel
theorem dX4_again_5 : decode cX4_again 5 = .ok (.aload_n 0, 1) := by decide +kernel
theorem dX4_again_6 : decode cX4_again 6 = .ok (.getfield 41, 3) := by decide +kernel
theorem dX4_again_9 : decode cX4_again 9 = .ok (.arraylength, 1) := by decide +kernel
theorem dX4_again_10 : decode cX4_again 10 = .ok (.if_icmp .lt 5, 3) := by decide +kernel
theorem dX4_again_13 : decode cX4_again 13 = .ok (.iconst (-1), 1) := by decide +kernel
theorem dX4_again_14 : decode cX4_again 14 = .ok (.ireturn, 1) := by decide +kernel
theorem dX4_again_15 : decode cX4_again 15 = .ok (.aload_n 0, 1) := by decide +kernel
theorem dX4_again_16 : decode cX4_again 16 = .ok (.getfield 75, 3) := by decide +kernel
theorem dX4_again_19 : decode cX4_again 19 = .ok (.iload_n 1, 1) := by decide +kernel
theorem dX4_again_20 : decode cX4_again 20 = .ok (.invokestatic 101, 3) := by decide +kernel
theorem dX4_again_23 : decode cX4_again 23 = .ok (.ifCond .ne 6, 3) := by decide +kernel
theorem dX4_again_26 : decode cX4_again 26 = .ok (.bipush (-3), 2) := by decide +kernel
theorem dX4_again_28 : decode cX4_again 28 = .ok (.ireturn, 1) := by decide +kernel
theorem dX4_again_29 : decode cX4_again 29 = .ok (.aload_n 0, 1) := by decide +kernel
theorem dX4_again_30 : decode cX4_again 30 = .ok (.getfield 30, 3) := by decide +kernel
theorem dX4_again_33 : decode cX4_again 33 = .ok (.aload_n 0, 1) := by decide +kernel
theorem dX4_again_34 : decode cX4_again 34 = .ok (.getfield 41, 3) := by decide +kernel
theorem dX4_again_37 : decode cX4_again 37 = .ok (.iload_n 1, 1) := by decide +kernel
theorem dX4_again_38 : decode cX4_again 38 = .ok (.aaload, 1) := by decide +kernel
theorem dX4_again_39 : decode cX4_again 39 = .ok (.invokevirtual 141, 3) := by decide +kernel
theorem dX4_again_42 : decode cX4_again 42 = .ok (.aload_n 0, 1) := by decide +kernel
theorem dX4_again_43 : decode cX4_again 43 = .ok (.iconst 0, 1) := by decide +kernel
theorem dX4_again_44 : decode cX4_again 44 = .ok (.putfield 72, 3) := by decide +kernel
theorem dX4_again_47 : decode cX4_again 47 = .ok (.aload_n 0, 1) := by decide +kernel
theorem dX4_again_48 : decode cX4_again 48 = .ok (.getfield 30, 3) := by decide +kernel
theorem dX4_again_51 : decode cX4_again 51 = .ok (.getfield 130, 3) := by decide +kernel
theorem dX4_again_54 : decode cX4_again 54 = .ok (.ireturn, 1) := by decide +kernel
theorem dX4_count_0 : decode cX4_count 0 = .ok (.iload_n 1, 1) := by decide +kernel
theorem dX4_count_1 : decode cX4_count 1 = .ok (.tableswitch 126 0 9 #[55, 60, 68, 76, 84, 92, 100, 108, 116, 121], 55) := by decide +kernel
theorem dX4_count_56 : decode cX4_count 56 = .ok (.aload_n 0, 1) := by decide +kernel
theorem dX4_count_57 : decode cX4_count 57 = .ok (.getfield 54, 3) := by decide +kernel
theorem dX4_count_60 : decode cX4_count 60 = .ok (.ireturn, 1) := by decide +kernel
theorem dX4_count_61 : decode cX4_count 61 = .ok (.aload_n 0, 1) := by decide +kernel
theorem dX4_count_62 : decode cX4_count 62 = .ok (.getfield 23, 3) := by decide +kernel
theorem dX4_count_65 : decode cX4_count 65 = .ok (.getfield 78, 3) := by decide +kernel
theorem dX4_count_68 : decode cX4_count 68 = .ok (.ireturn, 1) := by decide +kernel
theorem dX4_count_69 : decode cX4_count 69 = .ok (.aload_n 0, 1) := by decide +kernel
theorem dX4_count_70 : decode cX4_count 70 = .ok (.getfield 23, 3) := by decide +kernel
theorem dX4_count_73 : decode cX4_count 73 = .ok (.getfield 214, 3) := by decide +kernel
theorem dX4_count_76 : decode cX4_count 76 = .ok (.ireturn, 1) := by decide +kernel
theorem dX4_count_77 : decode cX4_count 77 = .ok (.aload_n 0, 1) := by decide +kernel
theorem dX4_count_78 : decode cX4_count 78 = .ok (.getfield 23, 3) := by decide +kernel
theorem dX4_count_81 : decode cX4_count 81 = .ok (.getfield 217, 3) := by decide +kernel
theorem dX4_count_84 : decode cX4_count 84 = .ok (.ireturn, 1) := by decide +kernel
theorem dX4_count_85 : decode cX4_count 85 = .ok (.aload_n 0, 1) := by decide +kernel
theorem dX4_count_86 : decode cX4_count 86 = .ok (.getfield 30, 3) := by decide +kernel
theorem dX4_count_89 : decode cX4_count 89 = .ok (.getfield 130, 3) := by decide +kernel
theorem dX4_count_92 : decode cX4_count 92 = .ok (.ireturn, 1) := by decide +kernel
theorem dX4_count_93 : decode cX4_count 93 = .ok (.aload_n 0, 1) := by decide +kernel
theorem dX4_count_94 : decode cX4_count 94 = .ok (.getfield 30, 3) := by decide +kernel
theorem dX4_count_97 : decode cX4_count 97 = .ok (.getfield 98, 3) := by decide +kernel
theorem dX4_count_100 : decode cX4_count 100 = .ok (.ireturn, 1) := by decide +kernel
theorem dX4_count_101 : decode cX4_count 101 = .ok (.aload_n 0, 1) := by decide +kernel
theorem dX4_count_102 : decode cX4_count 102 = .ok (.getfield 30, 3) := by decide +kernel
theorem dX4_count_105 : decode cX4_count 105 = .ok (.getfield 220, 3) := by decide +kernel
theorem dX4_count_108 : decode cX4_count 108 = .ok (.ireturn, 1) := by decide +kernel
theorem dX4_count_109 : decode cX4_count 109 = .ok (.aload_n 0, 1) := by decide +kernel
theorem dX4_count_110 : decode cX4_count 110 = .ok (.getfield 30, 3) := by decide +kernel
theorem dX4_count_113 : decode cX4_count 113 = .ok (.getfield 169, 3) := by decide +kernel
theorem dX4_count_116 : decode cX4_count 116 = .ok (.ireturn, 1) := by decide +kernel
theorem dX4_count_117 : decode cX4_count 117 = .ok (.aload_n 0, 1) := by decide +kernel
theorem dX4_count_118 : decode cX4_count 118 = .ok (.invokevirtual 223, 3) := by decide +kernel
theorem dX4_count_121 : decode cX4_count 121 = .ok (.ireturn, 1) := by decide +kernel
theorem dX4_count_122 : decode cX4_count 122 = .ok (.aload_n 0, 1) := by decide +kernel
theorem dX4_count_123 : decode cX4_count 123 = .ok (.getfield 72, 3) := by decide +kernel
theorem dX4_count_126 : decode cX4_count 126 = .ok (.ireturn, 1) := by decide +kernel
theorem dX4_count_127 : decode cX4_count 127 = .ok (.bipush (-2), 2) := by decide +kernel
theorem dX4_count_129 : decode cX4_count 129 = .ok (.ireturn, 1) := by decide +kernel
theorem dX4_readText_0 : decode cX4_readText 0 = .ok (.aload_n 0, 1) := by decide +kernel
theorem dX4_readText_1 : decode cX4_readText 1 = .ok (.getfield 16, 3) := by decide +kernel
theorem dX4_readText_4 : decode cX4_readText 4 = .ok (.invokevirtual 226, 3) := by decide +kernel
theorem dX4_readText_7 : decode cX4_readText 7 = .ok (.iconst 0, 1) := by decide +kernel
theorem dX4_readText_8 : decode cX4_readText 8 = .ok (.istore_n 1, 1) := by decide +kernel
theorem dX4_readText_9 : decode cX4_readText 9 = .ok (.iload_n 1, 1) := by decide +kernel
theorem dX4_readText_10 : decode cX4_readText 10 = .ok (.aload_n 0, 1) := by decide +kernel
theorem dX4_readText_11 : decode cX4_readText 11 = .ok (.getfield 54, 3) := by decide +kernel
theorem dX4_readText_14 : decode cX4_readText 14 = .ok (.if_icmp .ge 36, 3) := by decide +kernel
theorem dX4_readText_17 : decode cX4_readText 17 = .ok (.iload_n 1, 1) := by decide +kernel
theorem dX4_readText_18 : decode cX4_readText 18 = .ok (.aload_n 0, 1) := by decide +kernel
theorem dX4_readText_19 : decode cX4_readText 19 = .ok (.getfield 9, 3) := by decide +kernel
theorem dX4_readText_22 : decode cX4_readText 22 = .ok (.arraylength, 1) := by decide +kernel
theorem dX4_readText_23 : decode cX4_readText 23 = .ok (.if_icmp .ge 27, 3) := by decide +kernel
theorem dX4_readText_26 : decode cX4_readText 26 = .ok (.aload_n 0, 1) := by decide +kernel
theorem dX4_readText_27 : decode cX4_readText 27 = .ok (.getfield 16, 3) := by decide +kernel
theorem dX4_readText_30 : decode cX4_readText 30 = .ok (.aload_n 0, 1) := by decide +kernel
theorem dX4_readText_31 : decode cX4_readText 31 = .ok (.getfield 9, 3) := by decide +kernel
theorem dX4_readText_34 : decode cX4_readText 34 = .ok (.iload_n 1, 1) := by decide +kernel
theorem dX4_readText_35 : decode cX4_readText 35 = .ok (.iaload, 1) := by decide +kernel
theorem dX4_readText_36 : decode cX4_readText 36 = .ok (.invokevirtual 228, 3) := by decide +kernel
theorem dX4_readText_39 : decode cX4_readText 39 = .ok (.ifCond .ne 5, 3) := by decide +kernel
theorem dX4_readText_42 : decode cX4_readText 42 = .ok (.iload_n 1, 1) := by decide +kernel
theorem dX4_readText_43 : decode cX4_readText 43 = .ok (.ireturn, 1) := by decide +kernel
theorem dX4_readText_44 : decode cX4_readText 44 = .ok (.iinc 1 1, 3) := by decide +kernel
theorem dX4_readText_47 : decode cX4_readText 47 = .ok (.goto (-38), 3) := by decide +kernel
theorem dX4_readText_50 : decode cX4_readText 50 = .ok (.aload_n 0, 1) := by decide +kernel
theorem dX4_readText_51 : decode cX4_readText 51 = .ok (.getfield 16, 3) := by decide +kernel
theorem dX4_readText_54 : decode cX4_readText 54 = .ok (.invokevirtual 231, 3) := by decide +kernel
theorem dX4_readText_57 : decode cX4_readText 57 = .ok (.ifCond .eq 8, 3) := by decide +kernel
theorem dX4_readText_60 : decode cX4_readText 60 = .ok (.bipush (-9), 2) := by decide +kernel
theorem dX4_readText_62 : decode cX4_readText 62 = .ok (.goto 7, 3) := by decide +kernel
theorem dX4_readText_65 : decode cX4_readText 65 = .ok (.aload_n 0, 1) := by decide +kernel
theorem dX4_readText_66 : decode cX4_readText 66 = .ok (.getfield 54, 3) := by decide +kernel
theorem dX4_readText_69 : decode cX4_readText 69 = .ok (.ireturn, 1) := by decide +kernel
theorem dX4_known_0 : decode cX4_known 0 = .ok (.iload_n 1, 1) := by decide +kernel
theorem dX4_known_1 : decode cX4_known 1 = .ok (.ifCond .lt 18, 3) := by decide +kernel
theorem dX4_known_4 : decode cX4_known 4 = .ok (.iload_n 1, 1) := by decide +kernel
theorem dX4_known_5 : decode cX4_known 5 = .ok (.aload_n 0, 1) := by decide +kernel
theorem dX4_known_6 : decode cX4_known 6 = .ok (.getfield 23, 3) := by decide +kernel
theorem dX4_known_9 : decode cX4_known 9 = .ok (.getfield 78, 3) := by decide +kernel
theorem dX4_known_12 : decode cX4_known 12 = .ok (.if_icmp .ge 7, 3) := by decide +kernel
theorem dX4_known_15 : decode cX4_known 15 = .ok (.iconst 1, 1) := by decide +kernel
theorem dX4_known_16 : decode cX4_known 16 = .ok (.goto 4, 3) := by decide +kernel
theorem dX4_known_19 : decode cX4_known 19 = .ok (.iconst 0, 1) := by decide +kernel
theorem dX4_known_20 : decode cX4_known 20 = .ok (.ireturn, 1) := by decide +kernel
theorem dX4_unsent_0 : decode cX4_unsent 0 = .ok (.aload_n 0, 1) := by decide +kernel
theorem dX4_unsent_1 : decode cX4_unsent 1 = .ok (.getfield 23, 3) := by decide +kernel
theorem dX4_unsent_4 : decode cX4_unsent 4 = .ok (.getfield 78, 3) := by decide +kernel
theorem dX4_unsent_7 : decode cX4_unsent 7 = .ok (.invokestatic 137, 3) := by decide +kernel
theorem dX4_unsent_10 : decode cX4_unsent 10 = .ok (.iconst 1, 1) := by decide +kernel
theorem dX4_unsent_11 : decode cX4_unsent 11 = .ok (.isub, 1) := by decide +kernel
theorem dX4_unsent_12 : decode cX4_unsent 12 = .ok (.aload_n 0, 1) := by decide +kernel
theorem dX4_unsent_13 : decode cX4_unsent 13 = .ok (.getfield 30, 3) := by decide +kernel
theorem dX4_unsent_16 : decode cX4_unsent 16 = .ok (.getfield 98, 3) := by decide +kernel
theorem dX4_unsent_19 : decode cX4_unsent 19 = .ok (.iconst (-1), 1) := by decide +kernel
theorem dX4_unsent_20 : decode cX4_unsent 20 = .ok (.ixor, 1) := by decide +kernel
theorem dX4_unsent_21 : decode cX4_unsent 21 = .ok (.iand, 1) := by decide +kernel
theorem dX4_unsent_22 : decode cX4_unsent 22 = .ok (.ireturn, 1) := by decide +kernel
theorem dX4_costOfUnsent_0 : decode cX4_costOfUnsent 0 = .ok (.iconst 0, 1) := by decide +kernel
theorem dX4_costOfUnsent_1 : decode cX4_costOfUnsent 1 = .ok (.istore_n 1, 1) := by decide +kernel
theorem dX4_costOfUnsent_2 : decode cX4_costOfUnsent 2 = .ok (.iconst 0, 1) := by decide +kernel
theorem dX4_costOfUnsent_3 : decode cX4_costOfUnsent 3 = .ok (.istore_n 2, 1) := by decide +kernel
theorem dX4_costOfUnsent_4 : decode cX4_costOfUnsent 4 = .ok (.iload_n 2, 1) := by decide +kernel
theorem dX4_costOfUnsent_5 : decode cX4_costOfUnsent 5 = .ok (.aload_n 0, 1) := by decide +kernel
theorem dX4_costOfUnsent_6 : decode cX4_costOfUnsent 6 = .ok (.getfield 23, 3) := by decide +kernel
theorem dX4_costOfUnsent_9 : decode cX4_costOfUnsent 9 = .ok (.getfield 78, 3) := by decide +kernel
theorem dX4_costOfUnsent_12 : decode cX4_costOfUnsent 12 = .ok (.if_icmp .ge 46, 3) := by decide +kernel
theorem dX4_costOfUnsent_15 : decode cX4_costOfUnsent 15 = .ok (.aload_n 0, 1) := by decide +kernel
theorem dX4_costOfUnsent_16 : decode cX4_costOfUnsent 16 = .ok (.getfield 30, 3) := by decide +kernel
theorem dX4_costOfUnsent_19 : decode cX4_costOfUnsent 19 = .ok (.getfield 98, 3) := by decide +kernel
theorem dX4_costOfUnsent_22 : decode cX4_costOfUnsent 22 = .ok (.iload_n 2, 1) := by decide +kernel
theorem dX4_costOfUnsent_23 : decode cX4_costOfUnsent 23 = .ok (.invokestatic 101, 3) := by decide +kernel
theorem dX4_costOfUnsent_26 : decode cX4_costOfUnsent 26 = .ok (.ifCond .ne 26, 3) := by decide +kernel
theorem dX4_costOfUnsent_29 : decode cX4_costOfUnsent 29 = .ok (.iload_n 1, 1) := by decide +kernel
theorem dX4_costOfUnsent_30 : decode cX4_costOfUnsent 30 = .ok (.aload_n 0, 1) := by decide +kernel
theorem dX4_costOfUnsent_31 : decode cX4_costOfUnsent 31 = .ok (.getfield 23, 3) := by decide +kernel
theorem dX4_costOfUnsent_34 : decode cX4_costOfUnsent 34 = .ok (.aload_n 0, 1) := by decide +kernel
theorem dX4_costOfUnsent_35 : decode cX4_costOfUnsent 35 = .ok (.getfield 30, 3) := by decide +kernel
theorem dX4_costOfUnsent_38 : decode cX4_costOfUnsent 38 = .ok (.iload_n 2, 1) := by decide +kernel
theorem dX4_costOfUnsent_39 : decode cX4_costOfUnsent 39 = .ok (.iconst 0, 1) := by decide +kernel
theorem dX4_costOfUnsent_40 : decode cX4_costOfUnsent 40 = .ok (.aload_n 0, 1) := by decide +kernel
theorem dX4_costOfUnsent_41 : decode cX4_costOfUnsent 41 = .ok (.getfield 30, 3) := by decide +kernel
theorem dX4_costOfUnsent_44 : decode cX4_costOfUnsent 44 = .ok (.getfield 98, 3) := by decide +kernel
theorem dX4_costOfUnsent_47 : decode cX4_costOfUnsent 47 = .ok (.invokevirtual 111, 3) := by decide +kernel
theorem dX4_costOfUnsent_50 : decode cX4_costOfUnsent 50 = .ok (.iadd, 1) := by decide +kernel
theorem dX4_costOfUnsent_51 : decode cX4_costOfUnsent 51 = .ok (.istore_n 1, 1) := by decide +kernel
theorem dX4_costOfUnsent_52 : decode cX4_costOfUnsent 52 = .ok (.iinc 2 1, 3) := by decide +kernel
theorem dX4_costOfUnsent_55 : decode cX4_costOfUnsent 55 = .ok (.goto (-51), 3) := by decide +kernel
theorem dX4_costOfUnsent_58 : decode cX4_costOfUnsent 58 = .ok (.iload_n 1, 1) := by decide +kernel
theorem dX4_costOfUnsent_59 : decode cX4_costOfUnsent 59 = .ok (.ireturn, 1) := by decide +kernel
theorem dX4_canBeSent_0 : decode cX4_canBeSent 0 = .ok (.aload_n 1, 1) := by decide +kernel
theorem dX4_canBeSent_1 : decode cX4_canBeSent 1 = .ok (.ifnull 40, 3) := by decide +kernel
theorem dX4_canBeSent_4 : decode cX4_canBeSent 4 = .ok (.aload_n 0, 1) := by decide +kernel
theorem dX4_canBeSent_5 : decode cX4_canBeSent 5 = .ok (.iload_n 2, 1) := by decide +kernel
theorem dX4_canBeSent_6 : decode cX4_canBeSent 6 = .ok (.invokevirtual 81, 3) := by decide +kernel
theorem dX4_canBeSent_9 : decode cX4_canBeSent 9 = .ok (.ifCond .eq 32, 3) := by decide +kernel
theorem dX4_canBeSent_12 : decode cX4_canBeSent 12 = .ok (.aload_n 1, 1) := by decide +kernel
theorem dX4_canBeSent_13 : decode cX4_canBeSent 13 = .ok (.getfield 98, 3) := by decide +kernel
theorem dX4_canBeSent_16 : decode cX4_canBeSent 16 = .ok (.iload_n 2, 1) := by decide +kernel
theorem dX4_canBeSent_17 : decode cX4_canBeSent 17 = .ok (.invokestatic 101, 3) := by decide +kernel
theorem dX4_canBeSent_20 : decode cX4_canBeSent 20 = .ok (.ifCond .ne 21, 3) := by decide +kernel
theorem dX4_canBeSent_23 : decode cX4_canBeSent 23 = .ok (.aload_n 1, 1) := by decide +kernel
theorem dX4_canBeSent_24 : decode cX4_canBeSent 24 = .ok (.getfield 220, 3) := by decide +kernel
theorem dX4_canBeSent_27 : decode cX4_canBeSent 27 = .ok (.aload_n 0, 1) := by decide +kernel
theorem dX4_canBeSent_28 : decode cX4_canBeSent 28 = .ok (.getfield 23, 3) := by decide +kernel
theorem dX4_canBeSent_31 : decode cX4_canBeSent 31 = .ok (.getfield 217, 3) := by decide +kernel
theorem dX4_canBeSent_34 : decode cX4_canBeSent 34 = .ok (.if_icmp .ge 7, 3) := by decide +kernel
theorem dX4_canBeSent_37 : decode cX4_canBeSent 37 = .ok (.iconst 1, 1) := by decide +kernel
theorem dX4_canBeSent_38 : decode cX4_canBeSent 38 = .ok (.goto 4, 3) := by decide +kernel
theorem dX4_canBeSent_41 : decode cX4_canBeSent 41 = .ok (.iconst 0, 1) := by decide +kernel
theorem dX4_canBeSent_42 : decode cX4_canBeSent 42 = .ok (.ireturn, 1) := by decide +kernel
theorem dX4_putSent_0 : decode cX4_putSent 0 = .ok (.aload_n 1, 1) := by decide +kernel
theorem dX4_putSent_1 : decode cX4_putSent 1 = .ok (.ifnonnull 5, 3) := by decide +kernel
theorem dX4_putSent_4 : decode cX4_putSent 4 = .ok (.iconst 0, 1) := by decide +kernel
theorem dX4_putSent_5 : decode cX4_putSent 5 = .ok (.ireturn, 1) := by decide +kernel
theorem dX4_putSent_6 : decode cX4_putSent 6 = .ok (.aload_n 0, 1) := by decide +kernel
theorem dX4_putSent_7 : decode cX4_putSent 7 = .ok (.getfield 23, 3) := by decide +kernel
theorem dX4_putSent_10 : decode cX4_putSent 10 = .ok (.aload_n 1, 1) := by decide +kernel
theorem dX4_putSent_11 : decode cX4_putSent 11 = .ok (.iload_n 2, 1) := by decide +kernel
theorem dX4_putSent_12 : decode cX4_putSent 12 = .ok (.iconst 0, 1) := by decide +kernel
theorem dX4_putSent_13 : decode cX4_putSent 13 = .ok (.aload_n 1, 1) := by decide +kernel
theorem dX4_putSent_14 : decode cX4_putSent 14 = .ok (.getfield 98, 3) := by decide +kernel
theorem dX4_putSent_17 : decode cX4_putSent 17 = .ok (.invokevirtual 111, 3) := by decide +kernel
theorem dX4_putSent_20 : decode cX4_putSent 20 = .ok (.istore_n 3, 1) := by decide +kernel
theorem dX4_putSent_21 : decode cX4_putSent 21 = .ok (.aload_n 1, 1) := by decide +kernel
theorem dX4_putSent_22 : decode cX4_putSent 22 = .ok (.dup, 1) := by decide +kernel
theorem dX4_putSent_23 : decode cX4_putSent 23 = .ok (.getfield 98, 3) := by decide +kernel
theorem dX4_putSent_26 : decode cX4_putSent 26 = .ok (.iload_n 2, 1) := by decide +kernel
theorem dX4_putSent_27 : decode cX4_putSent 27 = .ok (.invokestatic 137, 3) := by decide +kernel
theorem dX4_putSent_30 : decode cX4_putSent 30 = .ok (.ior, 1) := by decide +kernel
theorem dX4_putSent_31 : decode cX4_putSent 31 = .ok (.putfield 98, 3) := by decide +kernel
theorem dX4_putSent_34 : decode cX4_putSent 34 = .ok (.aload_n 1, 1) := by decide +kernel
theorem dX4_putSent_35 : decode cX4_putSent 35 = .ok (.dup, 1) := by decide +kernel
theorem dX4_putSent_36 : decode cX4_putSent 36 = .ok (.getfield 220, 3) := by decide +kernel
theorem dX4_putSent_39 : decode cX4_putSent 39 = .ok (.iconst 1, 1) := by decide +kernel
theorem dX4_putSent_40 : decode cX4_putSent 40 = .ok (.iadd, 1) := by decide +kernel
theorem dX4_putSent_41 : decode cX4_putSent 41 = .ok (.putfield 220, 3) := by decide +kernel
theorem dX4_putSent_44 : decode cX4_putSent 44 = .ok (.aload_n 1, 1) := by decide +kernel
theorem dX4_putSent_45 : decode cX4_putSent 45 = .ok (.dup, 1) := by decide +kernel
theorem dX4_putSent_46 : decode cX4_putSent 46 = .ok (.getfield 169, 3) := by decide +kernel
theorem dX4_putSent_49 : decode cX4_putSent 49 = .ok (.iload_n 3, 1) := by decide +kernel
theorem dX4_putSent_50 : decode cX4_putSent 50 = .ok (.iadd, 1) := by decide +kernel
theorem dX4_putSent_51 : decode cX4_putSent 51 = .ok (.putfield 169, 3) := by decide +kernel
theorem dX4_putSent_54 : decode cX4_putSent 54 = .ok (.iload_n 3, 1) := by decide +kernel
theorem dX4_putSent_55 : decode cX4_putSent 55 = .ok (.ireturn, 1) := by decide +kernel
theorem dX4_remember_0 : decode cX4_remember 0 = .ok (.aload_n 0, 1) := by decide +kernel
theorem dX4_remember_1 : decode cX4_remember 1 = .ok (.getfield 72, 3) := by decide +kernel
theorem dX4_remember_4 : decode cX4_remember 4 = .ok (.aload_n 0, 1) := by decide +kernel
theorem dX4_remember_5 : decode cX4_remember 5 = .ok (.getfield 37, 3) := by decide +kernel
theorem dX4_remember_8 : decode cX4_remember 8 = .ok (.arraylength, 1) := by decide +kernel
theorem dX4_remember_9 : decode cX4_remember 9 = .ok (.if_icmp .lt 7, 3) := by decide +kernel
theorem dX4_remember_12 : decode cX4_remember 12 = .ok (.aload_n 0, 1) := by decide +kernel
theorem dX4_remember_13 : decode cX4_remember 13 = .ok (.invokevirtual 235, 3) := by decide +kernel
theorem dX4_remember_16 : decode cX4_remember 16 = .ok (.aload_n 0, 1) := by decide +kernel
theorem dX4_remember_17 : decode cX4_remember 17 = .ok (.getfield 72, 3) := by decide +kernel
theorem dX4_remember_20 : decode cX4_remember 20 = .ok (.ifCond .lt 53, 3) := by decide +kernel
theorem dX4_remember_23 : decode cX4_remember 23 = .ok (.aload_n 0, 1) := by decide +kernel
theorem dX4_remember_24 : decode cX4_remember 24 = .ok (.getfield 72, 3) := by decide +kernel
theorem dX4_remember_27 : decode cX4_remember 27 = .ok (.aload_n 0, 1) := by decide +kernel
theorem dX4_remember_28 : decode cX4_remember 28 = .ok (.getfield 37, 3) := by decide +kernel
theorem dX4_remember_31 : decode cX4_remember 31 = .ok (.arraylength, 1) := by decide +kernel
theorem dX4_remember_32 : decode cX4_remember 32 = .ok (.if_icmp .ge 41, 3) := by decide +kernel
theorem dX4_remember_35 : decode cX4_remember 35 = .ok (.aload_n 0, 1) := by decide +kernel
theorem dX4_remember_36 : decode cX4_remember 36 = .ok (.getfield 37, 3) := by decide +kernel
theorem dX4_remember_39 : decode cX4_remember 39 = .ok (.aload_n 0, 1) := by decide +kernel
theorem dX4_remember_40 : decode cX4_remember 40 = .ok (.getfield 72, 3) := by decide +kernel
theorem dX4_remember_43 : decode cX4_remember 43 = .ok (.aaload, 1) := by decide +kernel
theorem dX4_remember_44 : decode cX4_remember 44 = .ok (.ifnull 29, 3) := by decide +kernel
theorem dX4_remember_47 : decode cX4_remember 47 = .ok (.aload_n 0, 1) := by decide +kernel
theorem dX4_remember_48 : decode cX4_remember 48 = .ok (.getfield 37, 3) := by decide +kernel
theorem dX4_remember_51 : decode cX4_remember 51 = .ok (.aload_n 0, 1) := by decide +kernel
theorem dX4_remember_52 : decode cX4_remember 52 = .ok (.getfield 72, 3) := by decide +kernel
theorem dX4_remember_55 : decode cX4_remember 55 = .ok (.aaload, 1) := by decide +kernel
theorem dX4_remember_56 : decode cX4_remember 56 = .ok (.aload_n 0, 1) := by decide +kernel
theorem dX4_remember_57 : decode cX4_remember 57 = .ok (.getfield 30, 3) := by decide +kernel
theorem dX4_remember_60 : decode cX4_remember 60 = .ok (.invokevirtual 141, 3) := by decide +kernel
theorem dX4_remember_63 : decode cX4_remember 63 = .ok (.aload_n 0, 1) := by decide +kernel
theorem dX4_remember_64 : decode cX4_remember 64 = .ok (.dup, 1) := by decide +kernel
theorem dX4_remember_65 : decode cX4_remember 65 = .ok (.getfield 72, 3) := by decide +kernel
theorem dX4_remember_68 : decode cX4_remember 68 = .ok (.iconst 1, 1) := by decide +kernel
theorem dX4_remember_69 : decode cX4_remember 69 = .ok (.iadd, 1) := by decide +kernel
theorem dX4_remember_70 : decode cX4_remember 70 = .ok (.putfield 72, 3) := by decide +kernel
theorem dX4_remember_73 : decode cX4_remember 73 = .ok (.return_, 1) := by decide +kernel
theorem dX4_forgetFirstAct_0 : decode cX4_forgetFirstAct 0 = .ok (.aload_n 0, 1) := by decide +kernel
theorem dX4_forgetFirstAct_1 : decode cX4_forgetFirstAct 1 = .ok (.getfield 37, 3) := by decide +kernel
theorem dX4_forgetFirstAct_4 : decode cX4_forgetFirstAct 4 = .ok (.arraylength, 1) := by decide +kernel
theorem dX4_forgetFirstAct_5 : decode cX4_forgetFirstAct 5 = .ok (.ifCond .le 12, 3) := by decide +kernel
theorem dX4_forgetFirstAct_8 : decode cX4_forgetFirstAct 8 = .ok (.aload_n 0, 1) := by decide +kernel
theorem dX4_forgetFirstAct_9 : decode cX4_forgetFirstAct 9 = .ok (.getfield 37, 3) := by decide +kernel
theorem dX4_forgetFirstAct_12 : decode cX4_forgetFirstAct 12 = .ok (.iconst 0, 1) := by decide +kernel
theorem dX4_forgetFirstAct_13 : decode cX4_forgetFirstAct 13 = .ok (.aaload, 1) := by decide +kernel
theorem dX4_forgetFirstAct_14 : decode cX4_forgetFirstAct 14 = .ok (.goto 4, 3) := by decide +kernel
theorem dX4_forgetFirstAct_17 : decode cX4_forgetFirstAct 17 = .ok (.aconst_null, 1) := by decide +kernel
theorem dX4_forgetFirstAct_18 : decode cX4_forgetFirstAct 18 = .ok (.astore_n 1, 1) := by decide +kernel
theorem dX4_forgetFirstAct_19 : decode cX4_forgetFirstAct 19 = .ok (.iconst 1, 1) := by decide +kernel
theorem dX4_forgetFirstAct_20 : decode cX4_forgetFirstAct 20 = .ok (.istore_n 2, 1) := by decide +kernel
theorem dX4_forgetFirstAct_21 : decode cX4_forgetFirstAct 21 = .ok (.iload_n 2, 1) := by decide +kernel
theorem dX4_forgetFirstAct_22 : decode cX4_forgetFirstAct 22 = .ok (.aload_n 0, 1) := by decide +kernel
theorem dX4_forgetFirstAct_23 : decode cX4_forgetFirstAct 23 = .ok (.getfield 37, 3) := by decide +kernel
theorem dX4_forgetFirstAct_26 : decode cX4_forgetFirstAct 26 = .ok (.arraylength, 1) := by decide +kernel
theorem dX4_forgetFirstAct_27 : decode cX4_forgetFirstAct 27 = .ok (.if_icmp .ge 23, 3) := by decide +kernel
theorem dX4_forgetFirstAct_30 : decode cX4_forgetFirstAct 30 = .ok (.aload_n 0, 1) := by decide +kernel
theorem dX4_forgetFirstAct_31 : decode cX4_forgetFirstAct 31 = .ok (.getfield 37, 3) := by decide +kernel
theorem dX4_forgetFirstAct_34 : decode cX4_forgetFirstAct 34 = .ok (.iload_n 2, 1) := by decide +kernel
theorem dX4_forgetFirstAct_35 : decode cX4_forgetFirstAct 35 = .ok (.iconst 1, 1) := by decide +kernel
theorem dX4_forgetFirstAct_36 : decode cX4_forgetFirstAct 36 = .ok (.isub, 1) := by decide +kernel
theorem dX4_forgetFirstAct_37 : decode cX4_forgetFirstAct 37 = .ok (.aload_n 0, 1) := by decide +kernel
theorem dX4_forgetFirstAct_38 : decode cX4_forgetFirstAct 38 = .ok (.getfield 37, 3) := by decide +kernel
theorem dX4_forgetFirstAct_41 : decode cX4_forgetFirstAct 41 = .ok (.iload_n 2, 1) := by decide +kernel
theorem dX4_forgetFirstAct_42 : decode cX4_forgetFirstAct 42 = .ok (.aaload, 1) := by decide +kernel
theorem dX4_forgetFirstAct_43 : decode cX4_forgetFirstAct 43 = .ok (.aastore, 1) := by decide +kernel
theorem dX4_forgetFirstAct_44 : decode cX4_forgetFirstAct 44 = .ok (.iinc 2 1, 3) := by decide +kernel
theorem dX4_forgetFirstAct_47 : decode cX4_forgetFirstAct 47 = .ok (.goto (-26), 3) := by decide +kernel
theorem dX4_forgetFirstAct_50 : decode cX4_forgetFirstAct 50 = .ok (.aload_n 0, 1) := by decide +kernel
theorem dX4_forgetFirstAct_51 : decode cX4_forgetFirstAct 51 = .ok (.getfield 37, 3) := by decide +kernel
theorem dX4_forgetFirstAct_54 : decode cX4_forgetFirstAct 54 = .ok (.arraylength, 1) := by decide +kernel
theorem dX4_forgetFirstAct_55 : decode cX4_forgetFirstAct 55 = .ok (.ifCond .le 27, 3) := by decide +kernel
theorem dX4_forgetFirstAct_58 : decode cX4_forgetFirstAct 58 = .ok (.aload_n 0, 1) := by decide +kernel
theorem dX4_forgetFirstAct_59 : decode cX4_forgetFirstAct 59 = .ok (.getfield 37, 3) := by decide +kernel
theorem dX4_forgetFirstAct_62 : decode cX4_forgetFirstAct 62 = .ok (.aload_n 0, 1) := by decide +kernel
theorem dX4_forgetFirstAct_63 : decode cX4_forgetFirstAct 63 = .ok (.getfield 37, 3) := by decide +kernel
theorem dX4_forgetFirstAct_66 : decode cX4_forgetFirstAct 66 = .ok (.arraylength, 1) := by decide +kernel
theorem dX4_forgetFirstAct_67 : decode cX4_forgetFirstAct 67 = .ok (.iconst 1, 1) := by decide +kernel
theorem dX4_forgetFirstAct_68 : decode cX4_forgetFirstAct 68 = .ok (.isub, 1) := by decide +kernel
theorem dX4_forgetFirstAct_69 : decode cX4_forgetFirstAct 69 = .ok (.aload_n 1, 1) := by decide +kernel
theorem dX4_forgetFirstAct_70 : decode cX4_forgetFirstAct 70 = .ok (.aastore, 1) := by decide +kernel
theorem dX4_forgetFirstAct_71 : decode cX4_forgetFirstAct 71 = .ok (.aload_n 0, 1) := by decide +kernel
theorem dX4_forgetFirstAct_72 : decode cX4_forgetFirstAct 72 = .ok (.aload_n 0, 1) := by decide +kernel
theorem dX4_forgetFirstAct_73 : decode cX4_forgetFirstAct 73 = .ok (.getfield 37, 3) := by decide +kernel
theorem dX4_forgetFirstAct_76 : decode cX4_forgetFirstAct 76 = .ok (.arraylength, 1) := by decide +kernel
theorem dX4_forgetFirstAct_77 : decode cX4_forgetFirstAct 77 = .ok (.iconst 1, 1) := by decide +kernel
theorem dX4_forgetFirstAct_78 : decode cX4_forgetFirstAct 78 = .ok (.isub, 1) := by decide +kernel
theorem dX4_forgetFirstAct_79 : decode cX4_forgetFirstAct 79 = .ok (.putfield 72, 3) := by decide +kernel
theorem dX4_forgetFirstAct_82 : decode cX4_forgetFirstAct 82 = .ok (.return_, 1) := by decide +kernel
theorem dX4_firstUnexplained_0 : decode cX4_firstUnexplained 0 = .ok (.iconst 0, 1) := by decide +kernel
theorem dX4_firstUnexplained_1 : decode cX4_firstUnexplained 1 = .ok (.istore_n 2, 1) := by decide +kernel
theorem dX4_firstUnexplained_2 : decode cX4_firstUnexplained 2 = .ok (.iload_n 2, 1) := by decide +kernel
theorem dX4_firstUnexplained_3 : decode cX4_firstUnexplained 3 = .ok (.aload_n 0, 1) := by decide +kernel
theorem dX4_firstUnexplained_4 : decode cX4_firstUnexplained 4 = .ok (.getfield 23, 3) := by decide +kernel
theorem dX4_firstUnexplained_7 : decode cX4_firstUnexplained 7 = .ok (.getfield 78, 3) := by decide +kernel
theorem dX4_firstUnexplained_10 : decode cX4_firstUnexplained 10 = .ok (.if_icmp .ge 35, 3) := by decide +kernel
theorem dX4_firstUnexplained_13 : decode cX4_firstUnexplained 13 = .ok (.iload_n 1, 1) := by decide +kernel
theorem dX4_firstUnexplained_14 : decode cX4_firstUnexplained 14 = .ok (.iload_n 2, 1) := by decide +kernel
theorem dX4_firstUnexplained_15 : decode cX4_firstUnexplained 15 = .ok (.invokestatic 101, 3) := by decide +kernel
theorem dX4_firstUnexplained_18 : decode cX4_firstUnexplained 18 = .ok (.ifCond .eq 21, 3) := by decide +kernel
theorem dX4_firstUnexplained_21 : decode cX4_firstUnexplained 21 = .ok (.aload_n 0, 1) := by decide +kernel
theorem dX4_firstUnexplained_22 : decode cX4_firstUnexplained 22 = .ok (.getfield 23, 3) := by decide +kernel
theorem dX4_firstUnexplained_25 : decode cX4_firstUnexplained 25 = .ok (.getfield 95, 3) := by decide +kernel
theorem dX4_firstUnexplained_28 : decode cX4_firstUnexplained 28 = .ok (.iload_n 2, 1) := by decide +kernel
theorem dX4_firstUnexplained_29 : decode cX4_firstUnexplained 29 = .ok (.invokestatic 88, 3) := by decide +kernel
theorem dX4_firstUnexplained_32 : decode cX4_firstUnexplained 32 = .ok (.iload_n 1, 1) := by decide +kernel
theorem dX4_firstUnexplained_33 : decode cX4_firstUnexplained 33 = .ok (.iand, 1) := by decide +kernel
theorem dX4_firstUnexplained_34 : decode cX4_firstUnexplained 34 = .ok (.ifCond .ne 5, 3) := by decide +kernel
theorem dX4_firstUnexplained_37 : decode cX4_firstUnexplained 37 = .ok (.iload_n 2, 1) := by decide +kernel
theorem dX4_firstUnexplained_38 : decode cX4_firstUnexplained 38 = .ok (.ireturn, 1) := by decide +kernel
theorem dX4_firstUnexplained_39 : decode cX4_firstUnexplained 39 = .ok (.iinc 2 1, 3) := by decide +kernel
theorem dX4_firstUnexplained_42 : decode cX4_firstUnexplained 42 = .ok (.goto (-40), 3) := by decide +kernel
theorem dX4_firstUnexplained_45 : decode cX4_firstUnexplained 45 = .ok (.iconst (-1), 1) := by decide +kernel
theorem dX4_firstUnexplained_46 : decode cX4_firstUnexplained 46 = .ok (.ireturn, 1) := by decide +kernel
theorem dX4_takeFigures_0 : decode cX4_takeFigures 0 = .ok (.iload_n 1, 1) := by decide +kernel
theorem dX4_takeFigures_1 : decode cX4_takeFigures 1 = .ok (.iconst 1, 1) := by decide +kernel
theorem dX4_takeFigures_2 : decode cX4_takeFigures 2 = .ok (.if_icmp .lt 16, 3) := by decide +kernel
theorem dX4_takeFigures_5 : decode cX4_takeFigures 5 = .ok (.iload_n 1, 1) := by decide +kernel
theorem dX4_takeFigures_6 : decode cX4_takeFigures 6 = .ok (.aload_n 0, 1) := by decide +kernel
theorem dX4_takeFigures_7 : decode cX4_takeFigures 7 = .ok (.getfield 44, 3) := by decide +kernel
theorem dX4_takeFigures_10 : decode cX4_takeFigures 10 = .ok (.arraylength, 1) := by decide +kernel
theorem dX4_takeFigures_11 : decode cX4_takeFigures 11 = .ok (.if_icmp .gt 7, 3) := by decide +kernel
theorem dX4_takeFigures_14 : decode cX4_takeFigures 14 = .ok (.iload_n 2, 1) := by decide +kernel
theorem dX4_takeFigures_15 : decode cX4_takeFigures 15 = .ok (.ifCond .ge 5, 3) := by decide +kernel
theorem dX4_takeFigures_18 : decode cX4_takeFigures 18 = .ok (.iconst 0, 1) := by decide +kernel
theorem dX4_takeFigures_19 : decode cX4_takeFigures 19 = .ok (.ireturn, 1) := by decide +kernel
theorem dX4_takeFigures_20 : decode cX4_takeFigures 20 = .ok (.iload_n 2, 1) := by decide +kernel
theorem dX4_takeFigures_21 : decode cX4_takeFigures 21 = .ok (.istore_n 3, 1) := by decide +kernel
theorem dX4_takeFigures_22 : decode cX4_takeFigures 22 = .ok (.iload_n 1, 1) := by decide +kernel
theorem dX4_takeFigures_23 : decode cX4_takeFigures 23 = .ok (.iconst 1, 1) := by decide +kernel
theorem dX4_takeFigures_24 : decode cX4_takeFigures 24 = .ok (.isub, 1) := by decide +kernel
theorem dX4_takeFigures_25 : decode cX4_takeFigures 25 = .ok (.istore 4, 2) := by decide +kernel
theorem dX4_takeFigures_27 : decode cX4_takeFigures 27 = .ok (.iload 4, 2) := by decide +kernel
theorem dX4_takeFigures_29 : decode cX4_takeFigures 29 = .ok (.ifCond .lt 25, 3) := by decide +kernel
theorem dX4_takeFigures_32 : decode cX4_takeFigures 32 = .ok (.aload_n 0, 1) := by decide +kernel
theorem dX4_takeFigures_33 : decode cX4_takeFigures 33 = .ok (.getfield 44, 3) := by decide +kernel
theorem dX4_takeFigures_36 : decode cX4_takeFigures 36 = .ok (.iload 4, 2) := by decide +kernel
theorem dX4_takeFigures_38 : decode cX4_takeFigures 38 = .ok (.iload_n 3, 1) := by decide +kernel
theorem dX4_takeFigures_39 : decode cX4_takeFigures 39 = .ok (.bipush 10, 2) := by decide +kernel
theorem dX4_takeFigures_41 : decode cX4_takeFigures 41 = .ok (.irem, 1) := by decide +kernel
theorem dX4_takeFigures_42 : decode cX4_takeFigures 42 = .ok (.iastore, 1) := by decide +kernel
theorem dX4_takeFigures_43 : decode cX4_takeFigures 43 = .ok (.iload_n 3, 1) := by decide +kernel
theorem dX4_takeFigures_44 : decode cX4_takeFigures 44 = .ok (.bipush 10, 2) := by decide +kernel
theorem dX4_takeFigures_46 : decode cX4_takeFigures 46 = .ok (.idiv, 1) := by decide +kernel
theorem dX4_takeFigures_47 : decode cX4_takeFigures 47 = .ok (.istore_n 3, 1) := by decide +kernel
theorem dX4_takeFigures_48 : decode cX4_takeFigures 48 = .ok (.iinc 4 (-1), 3) := by decide +kernel
theorem dX4_takeFigures_51 : decode cX4_takeFigures 51 = .ok (.goto (-24), 3) := by decide +kernel
theorem dX4_takeFigures_54 : decode cX4_takeFigures 54 = .ok (.iload_n 3, 1) := by decide +kernel
theorem dX4_takeFigures_55 : decode cX4_takeFigures 55 = .ok (.ifCond .ne 7, 3) := by decide +kernel
theorem dX4_takeFigures_58 : decode cX4_takeFigures 58 = .ok (.iconst 1, 1) := by decide +kernel
theorem dX4_takeFigures_59 : decode cX4_takeFigures 59 = .ok (.goto 4, 3) := by decide +kernel
theorem dX4_takeFigures_62 : decode cX4_takeFigures 62 = .ok (.iconst 0, 1) := by decide +kernel
theorem dX4_takeFigures_63 : decode cX4_takeFigures 63 = .ok (.ireturn, 1) := by decide +kernel
theorem dX4_tryThings_0 : decode cX4_tryThings 0 = .ok (.bipush (-9), 2) := by decide +kernel
theorem dX4_tryThings_2 : decode cX4_tryThings 2 = .ok (.istore_n 2, 1) := by decide +kernel
theorem dX4_tryThings_3 : decode cX4_tryThings 3 = .ok (.aload_n 0, 1) := by decide +kernel
theorem dX4_tryThings_4 : decode cX4_tryThings 4 = .ok (.getfield 34, 3) := by decide +kernel
theorem dX4_tryThings_7 : decode cX4_tryThings 7 = .ok (.aload_n 0, 1) := by decide +kernel
theorem dX4_tryThings_8 : decode cX4_tryThings 8 = .ok (.getfield 30, 3) := by decide +kernel
theorem dX4_tryThings_11 : decode cX4_tryThings 11 = .ok (.invokevirtual 141, 3) := by decide +kernel
theorem dX4_tryThings_14 : decode cX4_tryThings 14 = .ok (.iconst 0, 1) := by decide +kernel
theorem dX4_tryThings_15 : decode cX4_tryThings 15 = .ok (.istore_n 3, 1) := by decide +kernel
theorem dX4_tryThings_16 : decode cX4_tryThings 16 = .ok (.iload_n 3, 1) := by decide +kernel
theorem dX4_tryThings_17 : decode cX4_tryThings 17 = .ok (.iload_n 1, 1) := by decide +kernel
theorem dX4_tryThings_18 : decode cX4_tryThings 18 = .ok (.if_icmp .ge 94, 3) := by decide +kernel
theorem dX4_tryThings_21 : decode cX4_tryThings 21 = .ok (.iload_n 3, 1) := by decide +kernel
theorem dX4_tryThings_22 : decode cX4_tryThings 22 = .ok (.aload_n 0, 1) := by decide +kernel
theorem dX4_tryThings_23 : decode cX4_tryThings 23 = .ok (.getfield 44, 3) := by decide +kernel
theorem dX4_tryThings_26 : decode cX4_tryThings 26 = .ok (.arraylength, 1) := by decide +kernel
theorem dX4_tryThings_27 : decode cX4_tryThings 27 = .ok (.if_icmp .ge 85, 3) := by decide +kernel
theorem dX4_tryThings_30 : decode cX4_tryThings 30 = .ok (.aload_n 0, 1) := by decide +kernel
theorem dX4_tryThings_31 : decode cX4_tryThings 31 = .ok (.getfield 44, 3) := by decide +kernel
theorem dX4_tryThings_34 : decode cX4_tryThings 34 = .ok (.iload_n 3, 1) := by decide +kernel
theorem dX4_tryThings_35 : decode cX4_tryThings 35 = .ok (.iaload, 1) := by decide +kernel
theorem dX4_tryThings_36 : decode cX4_tryThings 36 = .ok (.istore 4, 2) := by decide +kernel
theorem dX4_tryThings_38 : decode cX4_tryThings 38 = .ok (.iload 4, 2) := by decide +kernel
theorem dX4_tryThings_40 : decode cX4_tryThings 40 = .ok (.ifCond .ne 20, 3) := by decide +kernel
theorem dX4_tryThings_43 : decode cX4_tryThings 43 = .ok (.aload_n 0, 1) := by decide +kernel
theorem dX4_tryThings_44 : decode cX4_tryThings 44 = .ok (.getfield 34, 3) := by decide +kernel
theorem dX4_tryThings_47 : decode cX4_tryThings 47 = .ok (.aload_n 0, 1) := by decide +kernel
theorem dX4_tryThings_48 : decode cX4_tryThings 48 = .ok (.getfield 23, 3) := by decide +kernel
theorem dX4_tryThings_51 : decode cX4_tryThings 51 = .ok (.getfield 78, 3) := by decide +kernel
theorem dX4_tryThings_54 : decode cX4_tryThings 54 = .ok (.invokevirtual 126, 3) := by decide +kernel
theorem dX4_tryThings_57 : decode cX4_tryThings 57 = .ok (.goto 49, 3) := by decide +kernel
theorem dX4_tryThings_60 : decode cX4_tryThings 60 = .ok (.aload_n 0, 1) := by decide +kernel
theorem dX4_tryThings_61 : decode cX4_tryThings 61 = .ok (.aload_n 0, 1) := by decide +kernel
theorem dX4_tryThings_62 : decode cX4_tryThings 62 = .ok (.getfield 34, 3) := by decide +kernel
theorem dX4_tryThings_65 : decode cX4_tryThings 65 = .ok (.iload 4, 2) := by decide +kernel
theorem dX4_tryThings_67 : decode cX4_tryThings 67 = .ok (.iconst 1, 1) := by decide +kernel
theorem dX4_tryThings_68 : decode cX4_tryThings 68 = .ok (.isub, 1) := by decide +kernel
theorem dX4_tryThings_69 : decode cX4_tryThings 69 = .ok (.invokevirtual 115, 3) := by decide +kernel
theorem dX4_tryThings_72 : decode cX4_tryThings 72 = .ok (.ifCond .eq 19, 3) := by decide +kernel
theorem dX4_tryThings_75 : decode cX4_tryThings 75 = .ok (.aload_n 0, 1) := by decide +kernel
theorem dX4_tryThings_76 : decode cX4_tryThings 76 = .ok (.aload_n 0, 1) := by decide +kernel
theorem dX4_tryThings_77 : decode cX4_tryThings 77 = .ok (.getfield 34, 3) := by decide +kernel
theorem dX4_tryThings_80 : decode cX4_tryThings 80 = .ok (.iload 4, 2) := by decide +kernel
theorem dX4_tryThings_82 : decode cX4_tryThings 82 = .ok (.iconst 1, 1) := by decide +kernel
theorem dX4_tryThings_83 : decode cX4_tryThings 83 = .ok (.isub, 1) := by decide +kernel
theorem dX4_tryThings_84 : decode cX4_tryThings 84 = .ok (.invokevirtual 122, 3) := by decide +kernel
theorem dX4_tryThings_87 : decode cX4_tryThings 87 = .ok (.pop, 1) := by decide +kernel
theorem dX4_tryThings_88 : decode cX4_tryThings 88 = .ok (.goto 18, 3) := by decide +kernel
theorem dX4_tryThings_91 : decode cX4_tryThings 91 = .ok (.iload 4, 2) := by decide +kernel
theorem dX4_tryThings_93 : decode cX4_tryThings 93 = .ok (.bipush 9, 2) := by decide +kernel
theorem dX4_tryThings_95 : decode cX4_tryThings 95 = .ok (.if_icmp .eq 11, 3) := by decide +kernel
theorem dX4_tryThings_98 : decode cX4_tryThings 98 = .ok (.iload_n 2, 1) := by decide +kernel
theorem dX4_tryThings_99 : decode cX4_tryThings 99 = .ok (.bipush (-9), 2) := by decide +kernel
theorem dX4_tryThings_101 : decode cX4_tryThings 101 = .ok (.if_icmp .ne 5, 3) := by decide +kernel
theorem dX4_tryThings_104 : decode cX4_tryThings 104 = .ok (.iload_n 3, 1) := by decide +kernel
theorem dX4_tryThings_105 : decode cX4_tryThings 105 = .ok (.istore_n 2, 1) := by decide +kernel
theorem dX4_tryThings_106 : decode cX4_tryThings 106 = .ok (.iinc 3 1, 3) := by decide +kernel
theorem dX4_tryThings_109 : decode cX4_tryThings 109 = .ok (.goto (-93), 3) := by decide +kernel
theorem dX4_tryThings_112 : decode cX4_tryThings 112 = .ok (.iload_n 2, 1) := by decide +kernel
theorem dX4_tryThings_113 : decode cX4_tryThings 113 = .ok (.ireturn, 1) := by decide +kernel
theorem dX4_costForShare_0 : decode cX4_costForShare 0 = .ok (.aload_n 0, 1) := by decide +kernel
theorem dX4_costForShare_1 : decode cX4_costForShare 1 = .ok (.getfield 50, 3) := by decide +kernel
theorem dX4_costForShare_4 : decode cX4_costForShare 4 = .ok (.iload_n 1, 1) := by decide +kernel
theorem dX4_costForShare_5 : decode cX4_costForShare 5 = .ok (.invokevirtual 148, 3) := by decide +kernel
theorem dX4_costForShare_8 : decode cX4_costForShare 8 = .ok (.ifCond .eq 14, 3) := by decide +kernel
theorem dX4_costForShare_11 : decode cX4_costForShare 11 = .ok (.aload_n 0, 1) := by decide +kernel
theorem dX4_costForShare_12 : decode cX4_costForShare 12 = .ok (.getfield 50, 3) := by decide +kernel
theorem dX4_costForShare_15 : decode cX4_costForShare 15 = .ok (.iload_n 1, 1) := by decide +kernel
theorem dX4_costForShare_16 : decode cX4_costForShare 16 = .ok (.invokevirtual 154, 3) := by decide +kernel
theorem dX4_costForShare_19 : decode cX4_costForShare 19 = .ok (.goto 6, 3) := by decide +kernel
theorem dX4_costForShare_22 : decode cX4_costForShare 22 = .ok (.sipush 999, 3) := by decide +kernel
theorem dX4_costForShare_25 : decode cX4_costForShare 25 = .ok (.ireturn, 1) := by decide +kernel
theorem dX4_costBeside_0 : decode cX4_costBeside 0 = .ok (.iload 4, 2) := by decide +kernel
theorem dX4_costBeside_2 : decode cX4_costBeside 2 = .ok (.iload_n 2, 1) := by decide +kernel
theorem dX4_costBeside_3 : decode cX4_costBeside 3 = .ok (.if_icmp .ge 18, 3) := by decide +kernel
theorem dX4_costBeside_6 : decode cX4_costBeside 6 = .ok (.aload_n 0, 1) := by decide +kernel
theorem dX4_costBeside_7 : decode cX4_costBeside 7 = .ok (.getfield 30, 3) := by decide +kernel
theorem dX4_costBeside_10 : decode cX4_costBeside 10 = .ok (.getfield 98, 3) := by decide +kernel
theorem dX4_costBeside_13 : decode cX4_costBeside 13 = .ok (.iload_n 3, 1) := by decide +kernel
theorem dX4_costBeside_14 : decode cX4_costBeside 14 = .ok (.invokestatic 137, 3) := by decide +kernel
theorem dX4_costBeside_17 : decode cX4_costBeside 17 = .ok (.ior, 1) := by decide +kernel
theorem dX4_costBeside_18 : decode cX4_costBeside 18 = .ok (.goto 10, 3) := by decide +kernel
theorem dX4_costBeside_21 : decode cX4_costBeside 21 = .ok (.aload_n 0, 1) := by decide +kernel
theorem dX4_costBeside_22 : decode cX4_costBeside 22 = .ok (.getfield 30, 3) := by decide +kernel
theorem dX4_costBeside_25 : decode cX4_costBeside 25 = .ok (.getfield 98, 3) := by decide +kernel
theorem dX4_costBeside_28 : decode cX4_costBeside 28 = .ok (.istore 5, 2) := by decide +kernel
theorem dX4_costBeside_30 : decode cX4_costBeside 30 = .ok (.aload_n 0, 1) := by decide +kernel
theorem dX4_costBeside_31 : decode cX4_costBeside 31 = .ok (.getfield 23, 3) := by decide +kernel
theorem dX4_costBeside_34 : decode cX4_costBeside 34 = .ok (.aload_n 0, 1) := by decide +kernel
theorem dX4_costBeside_35 : decode cX4_costBeside 35 = .ok (.getfield 30, 3) := by decide +kernel
theorem dX4_costBeside_38 : decode cX4_costBeside 38 = .ok (.iload_n 1, 1) := by decide +kernel
theorem dX4_costBeside_39 : decode cX4_costBeside 39 = .ok (.iload_n 2, 1) := by decide +kernel
theorem dX4_costBeside_40 : decode cX4_costBeside 40 = .ok (.iload 5, 2) := by decide +kernel
theorem dX4_costBeside_42 : decode cX4_costBeside 42 = .ok (.invokevirtual 111, 3) := by decide +kernel
theorem dX4_costBeside_45 : decode cX4_costBeside 45 = .ok (.istore 6, 2) := by decide +kernel
theorem dX4_costBeside_47 : decode cX4_costBeside 47 = .ok (.iload_n 2, 1) := by decide +kernel
theorem dX4_costBeside_48 : decode cX4_costBeside 48 = .ok (.iload 4, 2) := by decide +kernel
theorem dX4_costBeside_50 : decode cX4_costBeside 50 = .ok (.if_icmp .ne 10, 3) := by decide +kernel
theorem dX4_costBeside_53 : decode cX4_costBeside 53 = .ok (.iload 6, 2) := by decide +kernel
theorem dX4_costBeside_55 : decode cX4_costBeside 55 = .ok (.iconst 2, 1) := by decide +kernel
theorem dX4_costBeside_56 : decode cX4_costBeside 56 = .ok (.iadd, 1) := by decide +kernel
theorem dX4_costBeside_57 : decode cX4_costBeside 57 = .ok (.goto 5, 3) := by decide +kernel
theorem dX4_costBeside_60 : decode cX4_costBeside 60 = .ok (.iload 6, 2) := by decide +kernel
theorem dX4_costBeside_62 : decode cX4_costBeside 62 = .ok (.ireturn, 1) := by decide +kernel
theorem dX4_isBestDay_0 : decode cX4_isBestDay 0 = .ok (.aload_n 0, 1) := by decide +kernel
theorem dX4_isBestDay_1 : decode cX4_isBestDay 1 = .ok (.iload_n 1, 1) := by decide +kernel
theorem dX4_isBestDay_2 : decode cX4_isBestDay 2 = .ok (.iload_n 2, 1) := by decide +kernel
theorem dX4_isBestDay_3 : decode cX4_isBestDay 3 = .ok (.iload_n 3, 1) := by decide +kernel
theorem dX4_isBestDay_4 : decode cX4_isBestDay 4 = .ok (.iload 4, 2) := by decide +kernel
theorem dX4_isBestDay_6 : decode cX4_isBestDay 6 = .ok (.invokevirtual 238, 3) := by decide +kernel
theorem dX4_isBestDay_9 : decode cX4_isBestDay 9 = .ok (.istore 5, 2) := by decide +kernel
theorem dX4_isBestDay_11 : decode cX4_isBestDay 11 = .ok (.iconst 0, 1) := by decide +kernel
theorem dX4_isBestDay_12 : decode cX4_isBestDay 12 = .ok (.istore 6, 2) := by decide +kernel
theorem dX4_isBestDay_14 : decode cX4_isBestDay 14 = .ok (.iload 6, 2) := by decide +kernel
theorem dX4_isBestDay_16 : decode cX4_isBestDay 16 = .ok (.iconst 4, 1) := by decide +kernel
theorem dX4_isBestDay_17 : decode cX4_isBestDay 17 = .ok (.if_icmp .ge 26, 3) := by decide +kernel
theorem dX4_isBestDay_20 : decode cX4_isBestDay 20 = .ok (.aload_n 0, 1) := by decide +kernel
theorem dX4_isBestDay_21 : decode cX4_isBestDay 21 = .ok (.iload_n 1, 1) := by decide +kernel
theorem dX4_isBestDay_22 : decode cX4_isBestDay 22 = .ok (.iload 6, 2) := by decide +kernel
theorem dX4_isBestDay_24 : decode cX4_isBestDay 24 = .ok (.iload_n 3, 1) := by decide +kernel
theorem dX4_isBestDay_25 : decode cX4_isBestDay 25 = .ok (.iload 4, 2) := by decide +kernel
theorem dX4_isBestDay_27 : decode cX4_isBestDay 27 = .ok (.invokevirtual 238, 3) := by decide +kernel
theorem dX4_isBestDay_30 : decode cX4_isBestDay 30 = .ok (.iload 5, 2) := by decide +kernel
theorem dX4_isBestDay_32 : decode cX4_isBestDay 32 = .ok (.if_icmp .ge 5, 3) := by decide +kernel
theorem dX4_isBestDay_35 : decode cX4_isBestDay 35 = .ok (.iconst 0, 1) := by decide +kernel
theorem dX4_isBestDay_36 : decode cX4_isBestDay 36 = .ok (.ireturn, 1) := by decide +kernel
theorem dX4_isBestDay_37 : decode cX4_isBestDay 37 = .ok (.iinc 6 1, 3) := by decide +kernel
theorem dX4_isBestDay_40 : decode cX4_isBestDay 40 = .ok (.goto (-26), 3) := by decide +kernel
theorem dX4_isBestDay_43 : decode cX4_isBestDay 43 = .ok (.iconst 1, 1) := by decide +kernel
theorem dX4_isBestDay_44 : decode cX4_isBestDay 44 = .ok (.ireturn, 1) := by decide +kernel
theorem dX4_isCost_0 : decode cX4_isCost 0 = .ok (.iload_n 0, 1) := by decide +kernel
theorem dX4_isCost_1 : decode cX4_isCost 1 = .ok (.ifCond .lt 13, 3) := by decide +kernel
theorem dX4_isCost_4 : decode cX4_isCost 4 = .ok (.iload_n 0, 1) := by decide +kernel
theorem dX4_isCost_5 : decode cX4_isCost 5 = .ok (.bipush 60, 2) := by decide +kernel
theorem dX4_isCost_7 : decode cX4_isCost 7 = .ok (.if_icmp .gt 7, 3) := by decide +kernel
theorem dX4_isCost_10 : decode cX4_isCost 10 = .ok (.iconst 1, 1) := by decide +kernel
theorem dX4_isCost_11 : decode cX4_isCost 11 = .ok (.goto 4, 3) := by decide +kernel
theorem dX4_isCost_14 : decode cX4_isCost 14 = .ok (.iconst 0, 1) := by decide +kernel
theorem dX4_isCost_15 : decode cX4_isCost 15 = .ok (.ireturn, 1) := by decide +kernel
theorem dX4_bit_0 : decode cX4_bit 0 = .ok (.iconst 1, 1) := by decide +kernel
theorem dX4_bit_1 : decode cX4_bit 1 = .ok (.iload_n 0, 1) := by decide +kernel
theorem dX4_bit_2 : decode cX4_bit 2 = .ok (.ishl, 1) := by decide +kernel
theorem dX4_bit_3 : decode cX4_bit 3 = .ok (.ireturn, 1) := by decide +kernel
theorem dX4_has_0 : decode cX4_has 0 = .ok (.iload_n 0, 1) := by decide +kernel
theorem dX4_has_1 : decode cX4_has 1 = .ok (.iload_n 1, 1) := by decide +kernel
theorem dX4_has_2 : decode cX4_has 2 = .ok (.ishr, 1) := by decide +kernel
theorem dX4_has_3 : decode cX4_has 3 = .ok (.iconst 1, 1) := by decide +kernel
theorem dX4_has_4 : decode cX4_has 4 = .ok (.iand, 1) := by decide +kernel
theorem dX4_has_5 : decode cX4_has 5 = .ok (.iconst 1, 1) := by decide +kernel
theorem dX4_has_6 : decode cX4_has 6 = .ok (.if_icmp .ne 7, 3) := by decide +kernel
theorem dX4_has_9 : decode cX4_has 9 = .ok (.iconst 1, 1) := by decide +kernel
theorem dX4_has_10 : decode cX4_has 10 = .ok (.goto 4, 3) := by decide +kernel
theorem dX4_has_13 : decode cX4_has 13 = .ok (.iconst 0, 1) := by decide +kernel
theorem dX4_has_14 : decode cX4_has 14 = .ok (.ireturn, 1) := by decide +kernel
theorem dX4_within_0 : decode cX4_within 0 = .ok (.iload_n 0, 1) := by decide +kernel
theorem dX4_within_1 : decode cX4_within 1 = .ok (.iload_n 1, 1) := by decide +kernel
theorem dX4_within_2 : decode cX4_within 2 = .ok (.iconst (-1), 1) := by decide +kernel
theorem dX4_within_3 : decode cX4_within 3 = .ok (.ixor, 1) := by decide +kernel
theorem dX4_within_4 : decode cX4_within 4 = .ok (.iand, 1) := by decide +kernel
theorem dX4_within_5 : decode cX4_within 5 = .ok (.ifCond .ne 7, 3) := by decide +kernel
theorem dX4_within_8 : decode cX4_within 8 = .ok (.iconst 1, 1) := by decide +kernel
theorem dX4_within_9 : decode cX4_within 9 = .ok (.goto 4, 3) := by decide +kernel
theorem dX4_within_12 : decode cX4_within 12 = .ok (.iconst 0, 1) := by decide +kernel
theorem dX4_within_13 : decode cX4_within 13 = .ok (.ireturn, 1) := by decide +kernel
theorem dX4_at_0 : decode cX4_at 0 = .ok (.aload_n 0, 1) := by decide +kernel
theorem dX4_at_1 : decode cX4_at 1 = .ok (.ifnull 19, 3) := by decide +kernel
theorem dX4_at_4 : decode cX4_at 4 = .ok (.iload_n 1, 1) := by decide +kernel
theorem dX4_at_5 : decode cX4_at 5 = .ok (.ifCond .lt 15, 3) := by decide +kernel
theorem dX4_at_8 : decode cX4_at 8 = .ok (.iload_n 1, 1) := by decide +kernel
theorem dX4_at_9 : decode cX4_at 9 = .ok (.aload_n 0, 1) := by decide +kernel
theorem dX4_at_10 : decode cX4_at 10 = .ok (.arraylength, 1) := by decide +kernel
theorem dX4_at_11 : decode cX4_at 11 = .ok (.if_icmp .ge 9, 3) := by decide +kernel
theorem dX4_at_14 : decode cX4_at 14 = .ok (.aload_n 0, 1) := by decide +kernel
theorem dX4_at_15 : decode cX4_at 15 = .ok (.iload_n 1, 1) := by decide +kernel
theorem dX4_at_16 : decode cX4_at 16 = .ok (.iaload, 1) := by decide +kernel
theorem dX4_at_17 : decode cX4_at 17 = .ok (.goto 4, 3) := by decide +kernel
theorem dX4_at_20 : decode cX4_at 20 = .ok (.iconst 0, 1) := by decide +kernel
theorem dX4_at_21 : decode cX4_at 21 = .ok (.ireturn, 1) := by decide +kernel
theorem dX4_put_0 : decode cX4_put 0 = .ok (.aload_n 0, 1) := by decide +kernel
theorem dX4_put_1 : decode cX4_put 1 = .ok (.ifnull 17, 3) := by decide +kernel
theorem dX4_put_4 : decode cX4_put 4 = .ok (.iload_n 1, 1) := by decide +kernel
theorem dX4_put_5 : decode cX4_put 5 = .ok (.ifCond .lt 13, 3) := by decide +kernel
theorem dX4_put_8 : decode cX4_put 8 = .ok (.iload_n 1, 1) := by decide +kernel
theorem dX4_put_9 : decode cX4_put 9 = .ok (.aload_n 0, 1) := by decide +kernel
theorem dX4_put_10 : decode cX4_put 10 = .ok (.arraylength, 1) := by decide +kernel
theorem dX4_put_11 : decode cX4_put 11 = .ok (.if_icmp .ge 7, 3) := by decide +kernel
theorem dX4_put_14 : decode cX4_put 14 = .ok (.aload_n 0, 1) := by decide +kernel
theorem dX4_put_15 : decode cX4_put 15 = .ok (.iload_n 1, 1) := by decide +kernel
theorem dX4_put_16 : decode cX4_put 16 = .ok (.iload_n 2, 1) := by decide +kernel
theorem dX4_put_17 : decode cX4_put 17 = .ok (.iastore, 1) := by decide +kernel
theorem dX4_put_18 : decode cX4_put 18 = .ok (.return_, 1) := by decide +kernel
theorem dX4_copyRow_0 : decode cX4_copyRow 0 = .ok (.aload_n 0, 1) := by decide +kernel
theorem dX4_copyRow_1 : decode cX4_copyRow 1 = .ok (.ifnull 7, 3) := by decide +kernel
theorem dX4_copyRow_4 : decode cX4_copyRow 4 = .ok (.aload_n 1, 1) := by decide +kernel
theorem dX4_copyRow_5 : decode cX4_copyRow 5 = .ok (.ifnonnull 4, 3) := by decide +kernel
theorem dX4_copyRow_8 : decode cX4_copyRow 8 = .ok (.return_, 1) := by decide +kernel
theorem dX4_copyRow_9 : decode cX4_copyRow 9 = .ok (.iconst 0, 1) := by decide +kernel
theorem dX4_copyRow_10 : decode cX4_copyRow 10 = .ok (.istore_n 2, 1) := by decide +kernel
theorem dX4_copyRow_11 : decode cX4_copyRow 11 = .ok (.iload_n 2, 1) := by decide +kernel
theorem dX4_copyRow_12 : decode cX4_copyRow 12 = .ok (.aload_n 0, 1) := by decide +kernel
theorem dX4_copyRow_13 : decode cX4_copyRow 13 = .ok (.arraylength, 1) := by decide +kernel
theorem dX4_copyRow_14 : decode cX4_copyRow 14 = .ok (.if_icmp .ge 21, 3) := by decide +kernel
theorem dX4_copyRow_17 : decode cX4_copyRow 17 = .ok (.iload_n 2, 1) := by decide +kernel
theorem dX4_copyRow_18 : decode cX4_copyRow 18 = .ok (.aload_n 1, 1) := by decide +kernel
theorem dX4_copyRow_19 : decode cX4_copyRow 19 = .ok (.arraylength, 1) := by decide +kernel
theorem dX4_copyRow_20 : decode cX4_copyRow 20 = .ok (.if_icmp .ge 15, 3) := by decide +kernel
theorem dX4_copyRow_23 : decode cX4_copyRow 23 = .ok (.aload_n 1, 1) := by decide +kernel
theorem dX4_copyRow_24 : decode cX4_copyRow 24 = .ok (.iload_n 2, 1) := by decide +kernel
theorem dX4_copyRow_25 : decode cX4_copyRow 25 = .ok (.aload_n 0, 1) := by decide +kernel
theorem dX4_copyRow_26 : decode cX4_copyRow 26 = .ok (.iload_n 2, 1) := by decide +kernel
theorem dX4_copyRow_27 : decode cX4_copyRow 27 = .ok (.iaload, 1) := by decide +kernel
theorem dX4_copyRow_28 : decode cX4_copyRow 28 = .ok (.iastore, 1) := by decide +kernel
theorem dX4_copyRow_29 : decode cX4_copyRow 29 = .ok (.iinc 2 1, 3) := by decide +kernel
theorem dX4_copyRow_32 : decode cX4_copyRow 32 = .ok (.goto (-21), 3) := by decide +kernel
theorem dX4_copyRow_35 : decode cX4_copyRow 35 = .ok (.return_, 1) := by decide +kernel
theorem dX4_power_0 : decode cX4_power 0 = .ok (.lconst 1, 1) := by decide +kernel
theorem dX4_power_1 : decode cX4_power 1 = .ok (.lstore_n 2, 1) := by decide +kernel
theorem dX4_power_2 : decode cX4_power 2 = .ok (.iconst 0, 1) := by decide +kernel
theorem dX4_power_3 : decode cX4_power 3 = .ok (.istore 4, 2) := by decide +kernel
theorem dX4_power_5 : decode cX4_power 5 = .ok (.iload 4, 2) := by decide +kernel
theorem dX4_power_7 : decode cX4_power 7 = .ok (.iload_n 1, 1) := by decide +kernel
theorem dX4_power_8 : decode cX4_power 8 = .ok (.if_icmp .ge 14, 3) := by decide +kernel
theorem dX4_power_11 : decode cX4_power 11 = .ok (.lload_n 2, 1) := by decide +kernel
theorem dX4_power_12 : decode cX4_power 12 = .ok (.iload_n 0, 1) := by decide +kernel
theorem dX4_power_13 : decode cX4_power 13 = .ok (.i2l, 1) := by decide +kernel
theorem dX4_power_14 : decode cX4_power 14 = .ok (.lmul, 1) := by decide +kernel
theorem dX4_power_15 : decode cX4_power 15 = .ok (.lstore_n 2, 1) := by decide +kernel
theorem dX4_power_16 : decode cX4_power 16 = .ok (.iinc 4 1, 3) := by decide +kernel
theorem dX4_power_19 : decode cX4_power 19 = .ok (.goto (-14), 3) := by decide +kernel
theorem dX4_power_22 : decode cX4_power 22 = .ok (.lload_n 2, 1) := by decide +kernel
theorem dX4_power_23 : decode cX4_power 23 = .ok (.lreturn, 1) := by decide +kernel
theorem dX4_factorial_0 : decode cX4_factorial 0 = .ok (.lconst 1, 1) := by decide +kernel
theorem dX4_factorial_1 : decode cX4_factorial 1 = .ok (.lstore_n 1, 1) := by decide +kernel
theorem dX4_factorial_2 : decode cX4_factorial 2 = .ok (.iconst 2, 1) := by decide +kernel
theorem dX4_factorial_3 : decode cX4_factorial 3 = .ok (.istore_n 3, 1) := by decide +kernel
theorem dX4_factorial_4 : decode cX4_factorial 4 = .ok (.iload_n 3, 1) := by decide +kernel
theorem dX4_factorial_5 : decode cX4_factorial 5 = .ok (.iload_n 0, 1) := by decide +kernel
theorem dX4_factorial_6 : decode cX4_factorial 6 = .ok (.if_icmp .gt 14, 3) := by decide +kernel
theorem dX4_factorial_9 : decode cX4_factorial 9 = .ok (.lload_n 1, 1) := by decide +kernel
theorem dX4_factorial_10 : decode cX4_factorial 10 = .ok (.iload_n 3, 1) := by decide +kernel
theorem dX4_factorial_11 : decode cX4_factorial 11 = .ok (.i2l, 1) := by decide +kernel
theorem dX4_factorial_12 : decode cX4_factorial 12 = .ok (.lmul, 1) := by decide +kernel
theorem dX4_factorial_13 : decode cX4_factorial 13 = .ok (.lstore_n 1, 1) := by decide +kernel
theorem dX4_factorial_14 : decode cX4_factorial 14 = .ok (.iinc 3 1, 3) := by decide +kernel
theorem dX4_factorial_17 : decode cX4_factorial 17 = .ok (.goto (-13), 3) := by decide +kernel
theorem dX4_factorial_20 : decode cX4_factorial 20 = .ok (.lload_n 1, 1) := by decide +kernel
theorem dX4_factorial_21 : decode cX4_factorial 21 = .ok (.lreturn, 1) := by decide +kernel
theorem dX4_fractionPart_0 : decode cX4_fractionPart 0 = .ok (.lload_n 0, 1) := by decide +kernel
theorem dX4_fractionPart_1 : decode cX4_fractionPart 1 = .ok (.invokestatic 242, 3) := by decide +kernel
theorem dX4_fractionPart_4 : decode cX4_fractionPart 4 = .ok (.lload_n 2, 1) := by decide +kernel
theorem dX4_fractionPart_5 : decode cX4_fractionPart 5 = .ok (.invokestatic 248, 3) := by decide +kernel
theorem dX4_fractionPart_8 : decode cX4_fractionPart 8 = .ok (.lstore 5, 2) := by decide +kernel
theorem dX4_fractionPart_10 : decode cX4_fractionPart 10 = .ok (.lload 5, 2) := by decide +kernel
theorem dX4_fractionPart_12 : decode cX4_fractionPart 12 = .ok (.lconst 1, 1) := by decide +kernel
theorem dX4_fractionPart_13 : decode cX4_fractionPart 13 = .ok (.lcmp, 1) := by decide +kernel
theorem dX4_fractionPart_14 : decode cX4_fractionPart 14 = .ok (.ifCond .ge 5, 3) := by decide +kernel
theorem dX4_fractionPart_17 : decode cX4_fractionPart 17 = .ok (.iconst 0, 1) := by decide +kernel
theorem dX4_fractionPart_18 : decode cX4_fractionPart 18 = .ok (.ireturn, 1) := by decide +kernel
theorem dX4_fractionPart_19 : decode cX4_fractionPart 19 = .ok (.iload 4, 2) := by decide +kernel
theorem dX4_fractionPart_21 : decode cX4_fractionPart 21 = .ok (.ifCond .eq 7, 3) := by decide +kernel
theorem dX4_fractionPart_24 : decode cX4_fractionPart 24 = .ok (.lload_n 0, 1) := by decide +kernel
theorem dX4_fractionPart_25 : decode cX4_fractionPart 25 = .ok (.goto 4, 3) := by decide +kernel
theorem dX4_fractionPart_28 : decode cX4_fractionPart 28 = .ok (.lload_n 2, 1) := by decide +kernel
theorem dX4_fractionPart_29 : decode cX4_fractionPart 29 = .ok (.lload 5, 2) := by decide +kernel
theorem dX4_fractionPart_31 : decode cX4_fractionPart 31 = .ok (.ldiv, 1) := by decide +kernel
theorem dX4_fractionPart_32 : decode cX4_fractionPart 32 = .ok (.l2i, 1) := by decide +kernel
theorem dX4_fractionPart_33 : decode cX4_fractionPart 33 = .ok (.ireturn, 1) := by decide +kernel
theorem dX4_commonDivisor_0 : decode cX4_commonDivisor 0 = .ok (.lload_n 0, 1) := by decide +kernel
theorem dX4_commonDivisor_1 : decode cX4_commonDivisor 1 = .ok (.lstore 4, 2) := by decide +kernel
theorem dX4_commonDivisor_3 : decode cX4_commonDivisor 3 = .ok (.lload_n 2, 1) := by decide +kernel
theorem dX4_commonDivisor_4 : decode cX4_commonDivisor 4 = .ok (.lstore 6, 2) := by decide +kernel
theorem dX4_commonDivisor_6 : decode cX4_commonDivisor 6 = .ok (.iconst 0, 1) := by decide +kernel
theorem dX4_commonDivisor_7 : decode cX4_commonDivisor 7 = .ok (.istore 8, 2) := by decide +kernel
theorem dX4_commonDivisor_9 : decode cX4_commonDivisor 9 = .ok (.iload 8, 2) := by decide +kernel
theorem dX4_commonDivisor_11 : decode cX4_commonDivisor 11 = .ok (.sipush 1000, 3) := by decide +kernel
theorem dX4_commonDivisor_14 : decode cX4_commonDivisor 14 = .ok (.if_icmp .ge 31, 3) := by decide +kernel
theorem dX4_commonDivisor_17 : decode cX4_commonDivisor 17 = .ok (.lload 6, 2) := by decide +kernel
theorem dX4_commonDivisor_19 : decode cX4_commonDivisor 19 = .ok (.lconst 0, 1) := by decide +kernel
theorem dX4_commonDivisor_20 : decode cX4_commonDivisor 20 = .ok (.lcmp, 1) := by decide +kernel
theorem dX4_commonDivisor_21 : decode cX4_commonDivisor 21 = .ok (.ifCond .eq 24, 3) := by decide +kernel
theorem dX4_commonDivisor_24 : decode cX4_commonDivisor 24 = .ok (.lload 4, 2) := by decide +kernel
theorem dX4_commonDivisor_26 : decode cX4_commonDivisor 26 = .ok (.lload 6, 2) := by decide +kernel
theorem dX4_commonDivisor_28 : decode cX4_commonDivisor 28 = .ok (.lrem, 1) := by decide +kernel
theorem dX4_commonDivisor_29 : decode cX4_commonDivisor 29 = .ok (.lstore 9, 2) := by decide +kernel
theorem dX4_commonDivisor_31 : decode cX4_commonDivisor 31 = .ok (.lload 6, 2) := by decide +kernel
theorem dX4_commonDivisor_33 : decode cX4_commonDivisor 33 = .ok (.lstore 4, 2) := by decide +kernel
theorem dX4_commonDivisor_35 : decode cX4_commonDivisor 35 = .ok (.lload 9, 2) := by decide +kernel
theorem dX4_commonDivisor_37 : decode cX4_commonDivisor 37 = .ok (.lstore 6, 2) := by decide +kernel
theorem dX4_commonDivisor_39 : decode cX4_commonDivisor 39 = .ok (.iinc 8 1, 3) := by decide +kernel
theorem dX4_commonDivisor_42 : decode cX4_commonDivisor 42 = .ok (.goto (-33), 3) := by decide +kernel
theorem dX4_commonDivisor_45 : decode cX4_commonDivisor 45 = .ok (.lload 4, 2) := by decide +kernel
theorem dX4_commonDivisor_47 : decode cX4_commonDivisor 47 = .ok (.lreturn, 1) := by decide +kernel
theorem dX5_init_0 : decode cX5_init 0 = .ok (.aload_n 0, 1) := by decide +kernel
theorem dX5_init_1 : decode cX5_init 1 = .ok (.invokespecial 1, 3) := by decide +kernel
theorem dX5_init_4 : decode cX5_init 4 = .ok (.aload_n 0, 1) := by decide +kernel
theorem dX5_init_5 : decode cX5_init 5 = .ok (.bipush 6, 2) := by decide +kernel
theorem dX5_init_7 : decode cX5_init 7 = .ok (.newarray .int, 2) := by decide +kernel
theorem dX5_init_9 : decode cX5_init 9 = .ok (.putfield 7, 3) := by decide +kernel
theorem dX5_init_12 : decode cX5_init 12 = .ok (.aload_n 0, 1) := by decide +kernel
theorem dX5_init_13 : decode cX5_init 13 = .ok (.bipush 6, 2) := by decide +kernel
theorem dX5_init_15 : decode cX5_init 15 = .ok (.newarray .int, 2) := by decide +kernel
theorem dX5_init_17 : decode cX5_init 17 = .ok (.putfield 13, 3) := by decide +kernel
theorem dX5_init_20 : decode cX5_init 20 = .ok (.aload_n 0, 1) := by decide +kernel
theorem dX5_init_21 : decode cX5_init 21 = .ok (.bipush 34, 2) := by decide +kernel
theorem dX5_init_23 : decode cX5_init 23 = .ok (.newarray .int, 2) := by decide +kernel
theorem dX5_init_25 : decode cX5_init 25 = .ok (.putfield 16, 3) := by decide +kernel
theorem dX5_init_28 : decode cX5_init 28 = .ok (.aload_n 0, 1) := by decide +kernel
theorem dX5_init_29 : decode cX5_init 29 = .ok (.bipush 6, 2) := by decide +kernel
theorem dX5_init_31 : decode cX5_init 31 = .ok (.newarray .int, 2) := by decide +kernel
theorem dX5_init_33 : decode cX5_init 33 = .ok (.putfield 19, 3) := by decide +kernel
theorem dX5_init_36 : decode cX5_init 36 = .ok (.aload_n 0, 1) := by decide +kernel
theorem dX5_init_37 : decode cX5_init 37 = .ok (.bipush 6, 2) := by decide +kernel
theorem dX5_init_39 : decode cX5_init 39 = .ok (.newarray .int, 2) := by decide +kernel
theorem dX5_init_41 : decode cX5_init 41 = .ok (.putfield 22, 3) := by decide +kernel
theorem dX5_init_44 : decode cX5_init 44 = .ok (.aload_n 0, 1) := by decide +kernel
theorem dX5_init_45 : decode cX5_init 45 = .ok (.bipush 6, 2) := by decide +kernel
theorem dX5_init_47 : decode cX5_init 47 = .ok (.newarray .int, 2) := by decide +kernel
theorem dX5_init_49 : decode cX5_init 49 = .ok (.putfield 25, 3) := by decide +kernel
theorem dX5_init_52 : decode cX5_init 52 = .ok (.aload_n 0, 1) := by decide +kernel
theorem dX5_init_53 : decode cX5_init 53 = .ok (.bipush 48, 2) := by decide +kernel
theorem dX5_init_55 : decode cX5_init 55 = .ok (.newarray .int, 2) := by decide +kernel
theorem dX5_init_57 : decode cX5_init 57 = .ok (.putfield 28, 3) := by decide +kernel
theorem dX5_init_60 : decode cX5_init 60 = .ok (.aload_n 0, 1) := by decide +kernel
theorem dX5_init_61 : decode cX5_init 61 = .ok (.sipush 238, 3) := by decide +kernel
theorem dX5_init_64 : decode cX5_init 64 = .ok (.newarray .int, 2) := by decide +kernel
theorem dX5_init_66 : decode cX5_init 66 = .ok (.putfield 31, 3) := by decide +kernel
theorem dX5_init_69 : decode cX5_init 69 = .ok (.aload_n 0, 1) := by decide +kernel
theorem dX5_init_70 : decode cX5_init 70 = .ok (.bipush 64, 2) := by decide +kernel
theorem dX5_init_72 : decode cX5_init 72 = .ok (.newarray .int, 2) := by decide +kernel
theorem dX5_init_74 : decode cX5_init 74 = .ok (.putfield 34, 3) := by decide +kernel
theorem dX5_init_77 : decode cX5_init 77 = .ok (.aload_n 0, 1) := by decide +kernel
theorem dX5_init_78 : decode cX5_init 78 = .ok (.iconst 2, 1) := by decide +kernel
theorem dX5_init_79 : decode cX5_init 79 = .ok (.newarray .boolean, 2) := by decide +kernel
theorem dX5_init_81 : decode cX5_init 81 = .ok (.putfield 37, 3) := by decide +kernel
theorem dX5_init_84 : decode cX5_init 84 = .ok (.aload_n 0, 1) := by decide +kernel
theorem dX5_init_85 : decode cX5_init 85 = .ok (.bipush 34, 2) := by decide +kernel
theorem dX5_init_87 : decode cX5_init 87 = .ok (.newarray .int, 2) := by decide +kernel
theorem dX5_init_89 : decode cX5_init 89 = .ok (.putfield 41, 3) := by decide +kernel
theorem dX5_init_92 : decode cX5_init 92 = .ok (.aload_n 0, 1) := by decide +kernel
theorem dX5_init_93 : decode cX5_init 93 = .ok (.iconst 1, 1) := by decide +kernel
theorem dX5_init_94 : decode cX5_init 94 = .ok (.putfield 44, 3) := by decide +kernel
theorem dX5_init_97 : decode cX5_init 97 = .ok (.return_, 1) := by decide +kernel
theorem dX5_in_0 : decode cX5_in 0 = .ok (.lload_n 0, 1) := by decide +kernel
theorem dX5_in_1 : decode cX5_in 1 = .ok (.lload_n 2, 1) := by decide +kernel
theorem dX5_in_2 : decode cX5_in 2 = .ok (.lcmp, 1) := by decide +kernel
theorem dX5_in_3 : decode cX5_in 3 = .ok (.ifCond .lt 14, 3) := by decide +kernel
theorem dX5_in_6 : decode cX5_in 6 = .ok (.lload_n 0, 1) := by decide +kernel
theorem dX5_in_7 : decode cX5_in 7 = .ok (.lload 4, 2) := by decide +kernel
theorem dX5_in_9 : decode cX5_in 9 = .ok (.lcmp, 1) := by decide +kernel
theorem dX5_in_10 : decode cX5_in 10 = .ok (.ifCond .gt 7, 3) := by decide +kernel
theorem dX5_in_13 : decode cX5_in 13 = .ok (.iconst 1, 1) := by decide +kernel
theorem dX5_in_14 : decode cX5_in 14 = .ok (.goto 4, 3) := by decide +kernel
theorem dX5_in_17 : decode cX5_in 17 = .ok (.iconst 0, 1) := by decide +kernel
theorem dX5_in_18 : decode cX5_in 18 = .ok (.ireturn, 1) := by decide +kernel
theorem dX5_has_0 : decode cX5_has 0 = .ok (.iload_n 0, 1) := by decide +kernel
theorem dX5_has_1 : decode cX5_has 1 = .ok (.iload_n 1, 1) := by decide +kernel
theorem dX5_has_2 : decode cX5_has 2 = .ok (.ishr, 1) := by decide +kernel
theorem dX5_has_3 : decode cX5_has 3 = .ok (.iconst 1, 1) := by decide +kernel
theorem dX5_has_4 : decode cX5_has 4 = .ok (.iand, 1) := by decide +kernel
theorem dX5_has_5 : decode cX5_has 5 = .ok (.iconst 1, 1) := by decide +kernel
theorem dX5_has_6 : decode cX5_has 6 = .ok (.if_icmp .ne 7, 3) := by decide +kernel
theorem dX5_has_9 : decode cX5_has 9 = .ok (.iconst 1, 1) := by decide +kernel
theorem dX5_has_10 : decode cX5_has 10 = .ok (.goto 4, 3) := by decide +kernel
theorem dX5_has_13 : decode cX5_has 13 = .ok (.iconst 0, 1) := by decide +kernel
theorem dX5_has_14 : decode cX5_has 14 = .ok (.ireturn, 1) := by decide +kernel
theorem dX5_ones_0 : decode cX5_ones 0 = .ok (.iconst 0, 1) := by decide +kernel
theorem dX5_ones_1 : decode cX5_ones 1 = .ok (.istore_n 1, 1) := by decide +kernel
theorem dX5_ones_2 : decode cX5_ones 2 = .ok (.iconst 0, 1) := by decide +kernel
theorem dX5_ones_3 : decode cX5_ones 3 = .ok (.istore_n 2, 1) := by decide +kernel
theorem dX5_ones_4 : decode cX5_ones 4 = .ok (.iload_n 2, 1) := by decide +kernel
theorem dX5_ones_5 : decode cX5_ones 5 = .ok (.bipush 6, 2) := by decide +kernel
theorem dX5_ones_7 : decode cX5_ones 7 = .ok (.if_icmp .ge 17, 3) := by decide +kernel
theorem dX5_ones_10 : decode cX5_ones 10 = .ok (.iload_n 1, 1) := by decide +kernel
theorem dX5_ones_11 : decode cX5_ones 11 = .ok (.iload_n 0, 1) := by decide +kernel
theorem dX5_ones_12 : decode cX5_ones 12 = .ok (.iload_n 2, 1) := by decide +kernel
theorem dX5_ones_13 : decode cX5_ones 13 = .ok (.ishr, 1) := by decide +kernel
theorem dX5_ones_14 : decode cX5_ones 14 = .ok (.iconst 1, 1) := by decide +kernel
theorem dX5_ones_15 : decode cX5_ones 15 = .ok (.iand, 1) := by decide +kernel
theorem dX5_ones_16 : decode cX5_ones 16 = .ok (.iadd, 1) := by decide +kernel
theorem dX5_ones_17 : decode cX5_ones 17 = .ok (.istore_n 1, 1) := by decide +kernel
theorem dX5_ones_18 : decode cX5_ones 18 = .ok (.iinc 2 1, 3) := by decide +kernel
theorem dX5_ones_21 : decode cX5_ones 21 = .ok (.goto (-17), 3) := by decide +kernel
theorem dX5_ones_24 : decode cX5_ones 24 = .ok (.iload_n 1, 1) := by decide +kernel
theorem dX5_ones_25 : decode cX5_ones 25 = .ok (.ireturn, 1) := by decide +kernel
theorem dX5_write_0 : decode cX5_write 0 = .ok (.iload_n 1, 1) := by decide +kernel
theorem dX5_write_1 : decode cX5_write 1 = .ok (.i2l, 1) := by decide +kernel
theorem dX5_write_2 : decode cX5_write 2 = .ok (.lconst 0, 1) := by decide +kernel
theorem dX5_write_3 : decode cX5_write 3 = .ok (.ldc2_w 48, 3) := by decide +kernel
theorem dX5_write_6 : decode cX5_write 6 = .ok (.invokestatic 50, 3) := by decide +kernel
theorem dX5_write_9 : decode cX5_write 9 = .ok (.ifCond .ne 6, 3) := by decide +kernel
theorem dX5_write_12 : decode cX5_write 12 = .ok (.bipush (-2), 2) := by decide +kernel
theorem dX5_write_14 : decode cX5_write 14 = .ok (.ireturn, 1) := by decide +kernel
theorem dX5_write_15 : decode cX5_write 15 = .ok (.aload_n 0, 1) := by decide +kernel
theorem dX5_write_16 : decode cX5_write 16 = .ok (.getfield 54, 3) := by decide +kernel
theorem dX5_write_19 : decode cX5_write 19 = .ok (.bipush 48, 2) := by decide +kernel
theorem dX5_write_21 : decode cX5_write 21 = .ok (.if_icmp .ne 6, 3) := by decide +kernel
theorem dX5_write_24 : decode cX5_write 24 = .ok (.bipush (-4), 2) := by decide +kernel
theorem dX5_write_26 : decode cX5_write 26 = .ok (.ireturn, 1) := by decide +kernel
theorem dX5_write_27 : decode cX5_write 27 = .ok (.aload_n 0, 1) := by decide +kernel
theorem dX5_write_28 : decode cX5_write 28 = .ok (.getfield 28, 3) := by decide +kernel
theorem dX5_write_31 : decode cX5_write 31 = .ok (.aload_n 0, 1) := by decide +kernel
theorem dX5_write_32 : decode cX5_write 32 = .ok (.getfield 54, 3) := by decide +kernel
theorem dX5_write_35 : decode cX5_write 35 = .ok (.iload_n 1, 1) := by decide +kernel
theorem dX5_write_36 : decode cX5_write 36 = .ok (.iastore, 1) := by decide +kernel
theorem dX5_write_37 : decode cX5_write 37 = .ok (.aload_n 0, 1) := by decide +kernel
theorem dX5_write_38 : decode cX5_write 38 = .ok (.dup, 1) := by decide +kernel
theorem dX5_write_39 : decode cX5_write 39 = .ok (.getfield 54, 3) := by decide +kernel
theorem dX5_write_42 : decode cX5_write 42 = .ok (.iconst 1, 1) := by decide +kernel
theorem dX5_write_43 : decode cX5_write 43 = .ok (.iadd, 1) := by decide +kernel
theorem dX5_write_44 : decode cX5_write 44 = .ok (.putfield 54, 3) := by decide +kernel
theorem dX5_write_47 : decode cX5_write 47 = .ok (.aload_n 0, 1) := by decide +kernel
theorem dX5_write_48 : decode cX5_write 48 = .ok (.getfield 54, 3) := by decide +kernel
theorem dX5_write_51 : decode cX5_write 51 = .ok (.ireturn, 1) := by decide +kernel
theorem dX5_wipe_0 : decode cX5_wipe 0 = .ok (.aload_n 0, 1) := by decide +kernel
theorem dX5_wipe_1 : decode cX5_wipe 1 = .ok (.getfield 54, 3) := by decide +kernel
theorem dX5_wipe_4 : decode cX5_wipe 4 = .ok (.istore_n 1, 1) := by decide +kernel
theorem dX5_wipe_5 : decode cX5_wipe 5 = .ok (.aload_n 0, 1) := by decide +kernel
theorem dX5_wipe_6 : decode cX5_wipe 6 = .ok (.iconst 0, 1) := by decide +kernel
theorem dX5_wipe_7 : decode cX5_wipe 7 = .ok (.putfield 54, 3) := by decide +kernel
theorem dX5_wipe_10 : decode cX5_wipe 10 = .ok (.iload_n 1, 1) := by decide +kernel
theorem dX5_wipe_11 : decode cX5_wipe 11 = .ok (.ireturn, 1) := by decide +kernel
theorem dX5_figure_0 : decode cX5_figure 0 = .ok (.aload_n 0, 1) := by decide +kernel
theorem dX5_figure_1 : decode cX5_figure 1 = .ok (.getfield 57, 3) := by decide +kernel
theorem dX5_figure_4 : decode cX5_figure 4 = .ok (.bipush (-9), 2) := by decide +kernel
theorem dX5_figure_6 : decode cX5_figure 6 = .ok (.if_icmp .ne 29, 3) := by decide +kernel
theorem dX5_figure_9 : decode cX5_figure 9 = .ok (.aload_n 0, 1) := by decide +kernel
theorem dX5_figure_10 : decode cX5_figure 10 = .ok (.getfield 60, 3) := by decide +kernel
theorem dX5_figure_13 : decode cX5_figure 13 = .ok (.aload_n 0, 1) := by decide +kernel
theorem dX5_figure_14 : decode cX5_figure 14 = .ok (.getfield 54, 3) := by decide +kernel
theorem dX5_figure_17 : decode cX5_figure 17 = .ok (.if_icmp .ge 18, 3) := by decide +kernel
theorem dX5_figure_20 : decode cX5_figure 20 = .ok (.aload_n 0, 1) := by decide +kernel
theorem dX5_figure_21 : decode cX5_figure 21 = .ok (.getfield 28, 3) := by decide +kernel
theorem dX5_figure_24 : decode cX5_figure 24 = .ok (.aload_n 0, 1) := by decide +kernel
theorem dX5_figure_25 : decode cX5_figure 25 = .ok (.getfield 60, 3) := by decide +kernel
theorem dX5_figure_28 : decode cX5_figure 28 = .ok (.iaload, 1) := by decide +kernel
theorem dX5_figure_29 : decode cX5_figure 29 = .ok (.bipush 48, 2) := by decide +kernel
theorem dX5_figure_31 : decode cX5_figure 31 = .ok (.isub, 1) := by decide +kernel
theorem dX5_figure_32 : decode cX5_figure 32 = .ok (.goto 5, 3) := by decide +kernel
theorem dX5_figure_35 : decode cX5_figure 35 = .ok (.bipush (-9), 2) := by decide +kernel
theorem dX5_figure_37 : decode cX5_figure 37 = .ok (.istore_n 3, 1) := by decide +kernel
theorem dX5_figure_38 : decode cX5_figure 38 = .ok (.iload_n 3, 1) := by decide +kernel
theorem dX5_figure_39 : decode cX5_figure 39 = .ok (.i2l, 1) := by decide +kernel
theorem dX5_figure_40 : decode cX5_figure 40 = .ok (.iload_n 1, 1) := by decide +kernel
theorem dX5_figure_41 : decode cX5_figure 41 = .ok (.i2l, 1) := by decide +kernel
theorem dX5_figure_42 : decode cX5_figure 42 = .ok (.iload_n 2, 1) := by decide +kernel
theorem dX5_figure_43 : decode cX5_figure 43 = .ok (.i2l, 1) := by decide +kernel
theorem dX5_figure_44 : decode cX5_figure 44 = .ok (.invokestatic 50, 3) := by decide +kernel
theorem dX5_figure_47 : decode cX5_figure 47 = .ok (.ifCond .ne 29, 3) := by decide +kernel
theorem dX5_figure_50 : decode cX5_figure 50 = .ok (.aload_n 0, 1) := by decide +kernel
theorem dX5_figure_51 : decode cX5_figure 51 = .ok (.aload_n 0, 1) := by decide +kernel
theorem dX5_figure_52 : decode cX5_figure 52 = .ok (.getfield 57, 3) := by decide +kernel
theorem dX5_figure_55 : decode cX5_figure 55 = .ok (.bipush (-9), 2) := by decide +kernel
theorem dX5_figure_57 : decode cX5_figure 57 = .ok (.if_icmp .ne 10, 3) := by decide +kernel
theorem dX5_figure_60 : decode cX5_figure 60 = .ok (.aload_n 0, 1) := by decide +kernel
theorem dX5_figure_61 : decode cX5_figure 61 = .ok (.getfield 60, 3) := by decide +kernel
theorem dX5_figure_64 : decode cX5_figure 64 = .ok (.goto 7, 3) := by decide +kernel
theorem dX5_figure_67 : decode cX5_figure 67 = .ok (.aload_n 0, 1) := by decide +kernel
theorem dX5_figure_68 : decode cX5_figure 68 = .ok (.getfield 57, 3) := by decide +kernel
theorem dX5_figure_71 : decode cX5_figure 71 = .ok (.putfield 57, 3) := by decide +kernel
theorem dX5_figure_74 : decode cX5_figure 74 = .ok (.iload_n 1, 1) := by decide +kernel
theorem dX5_figure_75 : decode cX5_figure 75 = .ok (.ireturn, 1) := by decide +kernel
theorem dX5_figure_76 : decode cX5_figure 76 = .ok (.aload_n 0, 1) := by decide +kernel
theorem dX5_figure_77 : decode cX5_figure 77 = .ok (.dup, 1) := by decide +kernel
theorem dX5_figure_78 : decode cX5_figure 78 = .ok (.getfield 60, 3) := by decide +kernel
theorem dX5_figure_81 : decode cX5_figure 81 = .ok (.iconst 1, 1) := by decide +kernel
theorem dX5_figure_82 : decode cX5_figure 82 = .ok (.iadd, 1) := by decide +kernel
theorem dX5_figure_83 : decode cX5_figure 83 = .ok (.putfield 60, 3) := by decide +kernel
theorem dX5_figure_86 : decode cX5_figure 86 = .ok (.iload_n 3, 1) := by decide +kernel
theorem dX5_figure_87 : decode cX5_figure 87 = .ok (.ireturn, 1) := by decide +kernel
theorem dX5_figureOf_0 : decode cX5_figureOf 0 = .ok (.aload_n 0, 1) := by decide +kernel
theorem dX5_figureOf_1 : decode cX5_figureOf 1 = .ok (.getfield 57, 3) := by decide +kernel
theorem dX5_figureOf_4 : decode cX5_figureOf 4 = .ok (.bipush (-9), 2) := by decide +kernel
theorem dX5_figureOf_6 : decode cX5_figureOf 6 = .ok (.if_icmp .ne 29, 3) := by decide +kernel
theorem dX5_figureOf_9 : decode cX5_figureOf 9 = .ok (.aload_n 0, 1) := by decide +kernel
theorem dX5_figureOf_10 : decode cX5_figureOf 10 = .ok (.getfield 60, 3) := by decide +kernel
theorem dX5_figureOf_13 : decode cX5_figureOf 13 = .ok (.aload_n 0, 1) := by decide +kernel
theorem dX5_figureOf_14 : decode cX5_figureOf 14 = .ok (.getfield 54, 3) := by decide +kernel
theorem dX5_figureOf_17 : decode cX5_figureOf 17 = .ok (.if_icmp .ge 18, 3) := by decide +kernel
theorem dX5_figureOf_20 : decode cX5_figureOf 20 = .ok (.aload_n 0, 1) := by decide +kernel
theorem dX5_figureOf_21 : decode cX5_figureOf 21 = .ok (.getfield 28, 3) := by decide +kernel
theorem dX5_figureOf_24 : decode cX5_figureOf 24 = .ok (.aload_n 0, 1) := by decide +kernel
theorem dX5_figureOf_25 : decode cX5_figureOf 25 = .ok (.getfield 60, 3) := by decide +kernel
theorem dX5_figureOf_28 : decode cX5_figureOf 28 = .ok (.iaload, 1) := by decide +kernel
theorem dX5_figureOf_29 : decode cX5_figureOf 29 = .ok (.bipush 48, 2) := by decide +kernel
theorem dX5_figureOf_31 : decode cX5_figureOf 31 = .ok (.isub, 1) := by decide +kernel
theorem dX5_figureOf_32 : decode cX5_figureOf 32 = .ok (.goto 5, 3) := by decide +kernel
theorem dX5_figureOf_35 : decode cX5_figureOf 35 = .ok (.bipush (-9), 2) := by decide +kernel
theorem dX5_figureOf_37 : decode cX5_figureOf 37 = .ok (.istore_n 2, 1) := by decide +kernel
theorem dX5_figureOf_38 : decode cX5_figureOf 38 = .ok (.iload_n 2, 1) := by decide +kernel
theorem dX5_figureOf_39 : decode cX5_figureOf 39 = .ok (.i2l, 1) := by decide +kernel
theorem dX5_figureOf_40 : decode cX5_figureOf 40 = .ok (.lconst 0, 1) := by decide +kernel
theorem dX5_figureOf_41 : decode cX5_figureOf 41 = .ok (.ldc2_w 63, 3) := by decide +kernel
theorem dX5_figureOf_44 : decode cX5_figureOf 44 = .ok (.invokestatic 50, 3) := by decide +kernel
theorem dX5_figureOf_47 : decode cX5_figureOf 47 = .ok (.ifCond .eq 11, 3) := by decide +kernel
theorem dX5_figureOf_50 : decode cX5_figureOf 50 = .ok (.iload_n 1, 1) := by decide +kernel
theorem dX5_figureOf_51 : decode cX5_figureOf 51 = .ok (.iload_n 2, 1) := by decide +kernel
theorem dX5_figureOf_52 : decode cX5_figureOf 52 = .ok (.invokestatic 65, 3) := by decide +kernel
theorem dX5_figureOf_55 : decode cX5_figureOf 55 = .ok (.ifCond .ne 29, 3) := by decide +kernel
theorem dX5_figureOf_58 : decode cX5_figureOf 58 = .ok (.aload_n 0, 1) := by decide +kernel
theorem dX5_figureOf_59 : decode cX5_figureOf 59 = .ok (.aload_n 0, 1) := by decide +kernel
theorem dX5_figureOf_60 : decode cX5_figureOf 60 = .ok (.getfield 57, 3) := by decide +kernel
theorem dX5_figureOf_63 : decode cX5_figureOf 63 = .ok (.bipush (-9), 2) := by decide +kernel
theorem dX5_figureOf_65 : decode cX5_figureOf 65 = .ok (.if_icmp .ne 10, 3) := by decide +kernel
theorem dX5_figureOf_68 : decode cX5_figureOf 68 = .ok (.aload_n 0, 1) := by decide +kernel
theorem dX5_figureOf_69 : decode cX5_figureOf 69 = .ok (.getfield 60, 3) := by decide +kernel
theorem dX5_figureOf_72 : decode cX5_figureOf 72 = .ok (.goto 7, 3) := by decide +kernel
theorem dX5_figureOf_75 : decode cX5_figureOf 75 = .ok (.aload_n 0, 1) := by decide +kernel
theorem dX5_figureOf_76 : decode cX5_figureOf 76 = .ok (.getfield 57, 3) := by decide +kernel
theorem dX5_figureOf_79 : decode cX5_figureOf 79 = .ok (.putfield 57, 3) := by decide +kernel
theorem dX5_figureOf_82 : decode cX5_figureOf 82 = .ok (.iconst 0, 1) := by decide +kernel
theorem dX5_figureOf_83 : decode cX5_figureOf 83 = .ok (.ireturn, 1) := by decide +kernel
theorem dX5_figureOf_84 : decode cX5_figureOf 84 = .ok (.aload_n 0, 1) := by decide +kernel
theorem dX5_figureOf_85 : decode cX5_figureOf 85 = .ok (.dup, 1) := by decide +kernel
theorem dX5_figureOf_86 : decode cX5_figureOf 86 = .ok (.getfield 60, 3) := by decide +kernel
theorem dX5_figureOf_89 : decode cX5_figureOf 89 = .ok (.iconst 1, 1) := by decide +kernel
theorem dX5_figureOf_90 : decode cX5_figureOf 90 = .ok (.iadd, 1) := by decide +kernel
theorem dX5_figureOf_91 : decode cX5_figureOf 91 = .ok (.putfield 60, 3) := by decide +kernel
theorem dX5_figureOf_94 : decode cX5_figureOf 94 = .ok (.iload_n 2, 1) := by decide +kernel
theorem dX5_figureOf_95 : decode cX5_figureOf 95 = .ok (.ireturn, 1) := by decide +kernel
theorem dX5_left_0 : decode cX5_left 0 = .ok (.iconst 0, 1) := by decide +kernel
theorem dX5_left_1 : decode cX5_left 1 = .ok (.istore_n 2, 1) := by decide +kernel
theorem dX5_left_2 : decode cX5_left 2 = .ok (.iconst 0, 1) := by decide +kernel
theorem dX5_left_3 : decode cX5_left 3 = .ok (.istore_n 3, 1) := by decide +kernel
theorem dX5_left_4 : decode cX5_left 4 = .ok (.iload_n 3, 1) := by decide +kernel
theorem dX5_left_5 : decode cX5_left 5 = .ok (.aload_n 0, 1) := by decide +kernel
theorem dX5_left_6 : decode cX5_left 6 = .ok (.getfield 69, 3) := by decide +kernel
theorem dX5_left_9 : decode cX5_left 9 = .ok (.if_icmp .ge 37, 3) := by decide +kernel
theorem dX5_left_12 : decode cX5_left 12 = .ok (.iload_n 2, 1) := by decide +kernel
theorem dX5_left_13 : decode cX5_left 13 = .ok (.iload_n 3, 1) := by decide +kernel
theorem dX5_left_14 : decode cX5_left 14 = .ok (.iload_n 1, 1) := by decide +kernel
theorem dX5_left_15 : decode cX5_left 15 = .ok (.if_icmp .eq 22, 3) := by decide +kernel
theorem dX5_left_18 : decode cX5_left 18 = .ok (.aload_n 0, 1) := by decide +kernel
theorem dX5_left_19 : decode cX5_left 19 = .ok (.getfield 25, 3) := by decide +kernel
theorem dX5_left_22 : decode cX5_left 22 = .ok (.iload_n 3, 1) := by decide +kernel
theorem dX5_left_23 : decode cX5_left 23 = .ok (.iaload, 1) := by decide +kernel
theorem dX5_left_24 : decode cX5_left 24 = .ok (.iload_n 1, 1) := by decide +kernel
theorem dX5_left_25 : decode cX5_left 25 = .ok (.invokestatic 65, 3) := by decide +kernel
theorem dX5_left_28 : decode cX5_left 28 = .ok (.ifCond .ne 9, 3) := by decide +kernel
theorem dX5_left_31 : decode cX5_left 31 = .ok (.iconst 1, 1) := by decide +kernel
theorem dX5_left_32 : decode cX5_left 32 = .ok (.iload_n 3, 1) := by decide +kernel
theorem dX5_left_33 : decode cX5_left 33 = .ok (.ishl, 1) := by decide +kernel
theorem dX5_left_34 : decode cX5_left 34 = .ok (.goto 4, 3) := by decide +kernel
theorem dX5_left_37 : decode cX5_left 37 = .ok (.iconst 0, 1) := by decide +kernel
theorem dX5_left_38 : decode cX5_left 38 = .ok (.ior, 1) := by decide +kernel
theorem dX5_left_39 : decode cX5_left 39 = .ok (.istore_n 2, 1) := by decide +kernel
theorem dX5_left_40 : decode cX5_left 40 = .ok (.iinc 3 1, 3) := by decide +kernel
theorem dX5_left_43 : decode cX5_left 43 = .ok (.goto (-39), 3) := by decide +kernel
theorem dX5_left_46 : decode cX5_left 46 = .ok (.iload_n 2, 1) := by decide +kernel
theorem dX5_left_47 : decode cX5_left 47 = .ok (.ireturn, 1) := by decide +kernel
theorem dX5_firstsLeft_0 : decode cX5_firstsLeft 0 = .ok (.iconst 0, 1) := by decide +kernel
theorem dX5_firstsLeft_1 : decode cX5_firstsLeft 1 = .ok (.istore_n 1, 1) := by decide +kernel
theorem dX5_firstsLeft_2 : decode cX5_firstsLeft 2 = .ok (.iconst 0, 1) := by decide +kernel
theorem dX5_firstsLeft_3 : decode cX5_firstsLeft 3 = .ok (.istore_n 2, 1) := by decide +kernel
theorem dX5_firstsLeft_4 : decode cX5_firstsLeft 4 = .ok (.iload_n 2, 1) := by decide +kernel
theorem dX5_firstsLeft_5 : decode cX5_firstsLeft 5 = .ok (.aload_n 0, 1) := by decide +kernel
theorem dX5_firstsLeft_6 : decode cX5_firstsLeft 6 = .ok (.getfield 69, 3) := by decide +kernel
theorem dX5_firstsLeft_9 : decode cX5_firstsLeft 9 = .ok (.if_icmp .ge 27, 3) := by decide +kernel
theorem dX5_firstsLeft_12 : decode cX5_firstsLeft 12 = .ok (.iload_n 1, 1) := by decide +kernel
theorem dX5_firstsLeft_13 : decode cX5_firstsLeft 13 = .ok (.aload_n 0, 1) := by decide +kernel
theorem dX5_firstsLeft_14 : decode cX5_firstsLeft 14 = .ok (.iload_n 2, 1) := by decide +kernel
theorem dX5_firstsLeft_15 : decode cX5_firstsLeft 15 = .ok (.invokevirtual 72, 3) := by decide +kernel
theorem dX5_firstsLeft_18 : decode cX5_firstsLeft 18 = .ok (.ifCond .eq 9, 3) := by decide +kernel
theorem dX5_firstsLeft_21 : decode cX5_firstsLeft 21 = .ok (.iconst 1, 1) := by decide +kernel
theorem dX5_firstsLeft_22 : decode cX5_firstsLeft 22 = .ok (.iload_n 2, 1) := by decide +kernel
theorem dX5_firstsLeft_23 : decode cX5_firstsLeft 23 = .ok (.ishl, 1) := by decide +kernel
theorem dX5_firstsLeft_24 : decode cX5_firstsLeft 24 = .ok (.goto 4, 3) := by decide +kernel
theorem dX5_firstsLeft_27 : decode cX5_firstsLeft 27 = .ok (.iconst 0, 1) := by decide +kernel
theorem dX5_firstsLeft_28 : decode cX5_firstsLeft 28 = .ok (.ior, 1) := by decide +kernel
theorem dX5_firstsLeft_29 : decode cX5_firstsLeft 29 = .ok (.istore_n 1, 1) := by decide +kernel
theorem dX5_firstsLeft_30 : decode cX5_firstsLeft 30 = .ok (.iinc 2 1, 3) := by decide +kernel
theorem dX5_firstsLeft_33 : decode cX5_firstsLeft 33 = .ok (.goto (-29), 3) := by decide +kernel
theorem dX5_firstsLeft_36 : decode cX5_firstsLeft 36 = .ok (.iload_n 1, 1) := by decide +kernel
theorem dX5_firstsLeft_37 : decode cX5_firstsLeft 37 = .ok (.ireturn, 1) := by decide +kernel
theorem dX5_readText_0 : decode cX5_readText 0 = .ok (.aload_n 0, 1) := by decide +kernel
theorem dX5_readText_1 : decode cX5_readText 1 = .ok (.iconst 0, 1) := by decide +kernel
theorem dX5_readText_2 : decode cX5_readText 2 = .ok (.putfield 60, 3) := by decide +kernel
theorem dX5_readText_5 : decode cX5_readText 5 = .ok (.aload_n 0, 1) := by decide +kernel
theorem dX5_readText_6 : decode cX5_readText 6 = .ok (.bipush (-9), 2) := by decide +kernel
theorem dX5_readText_8 : decode cX5_readText 8 = .ok (.putfield 57, 3) := by decide +kernel
theorem dX5_readText_11 : decode cX5_readText 11 = .ok (.aload_n 0, 1) := by decide +kernel
theorem dX5_readText_12 : decode cX5_readText 12 = .ok (.iconst 0, 1) := by decide +kernel
theorem dX5_readText_13 : decode cX5_readText 13 = .ok (.putfield 69, 3) := by decide +kernel
theorem dX5_readText_16 : decode cX5_readText 16 = .ok (.iconst 0, 1) := by decide +kernel
theorem dX5_readText_17 : decode cX5_readText 17 = .ok (.istore_n 1, 1) := by decide +kernel
theorem dX5_readText_18 : decode cX5_readText 18 = .ok (.iload_n 1, 1) := by decide +kernel
theorem dX5_readText_19 : decode cX5_readText 19 = .ok (.bipush 6, 2) := by decide +kernel
theorem dX5_readText_21 : decode cX5_readText 21 = .ok (.if_icmp .ge 16, 3) := by decide +kernel
theorem dX5_readText_24 : decode cX5_readText 24 = .ok (.aload_n 0, 1) := by decide +kernel
theorem dX5_readText_25 : decode cX5_readText 25 = .ok (.getfield 25, 3) := by decide +kernel
theorem dX5_readText_28 : decode cX5_readText 28 = .ok (.iload_n 1, 1) := by decide +kernel
theorem dX5_readText_29 : decode cX5_readText 29 = .ok (.iconst 0, 1) := by decide +kernel
theorem dX5_readText_30 : decode cX5_readText 30 = .ok (.iastore, 1) := by decide +kernel
theorem dX5_readText_31 : decode cX5_readText 31 = .ok (.iinc 1 1, 3) := by decide +kernel
theorem dX5_readText_34 : decode cX5_readText 34 = .ok (.goto (-16), 3) := by decide +kernel
theorem dX5_readText_37 : decode cX5_readText 37 = .ok (.aload_n 0, 1) := by decide +kernel
theorem dX5_readText_38 : decode cX5_readText 38 = .ok (.getfield 54, 3) := by decide +kernel
theorem dX5_readText_41 : decode cX5_readText 41 = .ok (.ifCond .eq 14, 3) := by decide +kernel
theorem dX5_readText_44 : decode cX5_readText 44 = .ok (.aload_n 0, 1) := by decide +kernel
theorem dX5_readText_45 : decode cX5_readText 45 = .ok (.getfield 28, 3) := by decide +kernel
theorem dX5_readText_48 : decode cX5_readText 48 = .ok (.iconst 0, 1) := by decide +kernel
theorem dX5_readText_49 : decode cX5_readText 49 = .ok (.iaload, 1) := by decide +kernel
theorem dX5_readText_50 : decode cX5_readText 50 = .ok (.bipush 80, 2) := by decide +kernel
theorem dX5_readText_52 : decode cX5_readText 52 = .ok (.if_icmp .eq 5, 3) := by decide +kernel
theorem dX5_readText_55 : decode cX5_readText 55 = .ok (.iconst 0, 1) := by decide +kernel
theorem dX5_readText_56 : decode cX5_readText 56 = .ok (.ireturn, 1) := by decide +kernel
theorem dX5_readText_57 : decode cX5_readText 57 = .ok (.aload_n 0, 1) := by decide +kernel
theorem dX5_readText_58 : decode cX5_readText 58 = .ok (.iconst 1, 1) := by decide +kernel
theorem dX5_readText_59 : decode cX5_readText 59 = .ok (.putfield 60, 3) := by decide +kernel
theorem dX5_readText_62 : decode cX5_readText 62 = .ok (.aload_n 0, 1) := by decide +kernel
theorem dX5_readText_63 : decode cX5_readText 63 = .ok (.aload_n 0, 1) := by decide +kernel
theorem dX5_readText_64 : decode cX5_readText 64 = .ok (.iconst 0, 1) := by decide +kernel
theorem dX5_readText_65 : decode cX5_readText 65 = .ok (.bipush 9, 2) := by decide +kernel
theorem dX5_readText_67 : decode cX5_readText 67 = .ok (.invokevirtual 76, 3) := by decide +kernel
theorem dX5_readText_70 : decode cX5_readText 70 = .ok (.putfield 80, 3) := by decide +kernel
theorem dX5_readText_73 : decode cX5_readText 73 = .ok (.aload_n 0, 1) := by decide +kernel
theorem dX5_readText_74 : decode cX5_readText 74 = .ok (.aload_n 0, 1) := by decide +kernel
theorem dX5_readText_75 : decode cX5_readText 75 = .ok (.iconst 1, 1) := by decide +kernel
theorem dX5_readText_76 : decode cX5_readText 76 = .ok (.iconst 3, 1) := by decide +kernel
theorem dX5_readText_77 : decode cX5_readText 77 = .ok (.invokevirtual 76, 3) := by decide +kernel
theorem dX5_readText_80 : decode cX5_readText 80 = .ok (.putfield 83, 3) := by decide +kernel
theorem dX5_readText_83 : decode cX5_readText 83 = .ok (.aload_n 0, 1) := by decide +kernel
theorem dX5_readText_84 : decode cX5_readText 84 = .ok (.getfield 57, 3) := by decide +kernel
theorem dX5_readText_87 : decode cX5_readText 87 = .ok (.bipush (-9), 2) := by decide +kernel
theorem dX5_readText_89 : decode cX5_readText 89 = .ok (.if_icmp .ne 180, 3) := by decide +kernel
theorem dX5_readText_92 : decode cX5_readText 92 = .ok (.aload_n 0, 1) := by decide +kernel
theorem dX5_readText_93 : decode cX5_readText 93 = .ok (.getfield 60, 3) := by decide +kernel
theorem dX5_readText_96 : decode cX5_readText 96 = .ok (.aload_n 0, 1) := by decide +kernel
theorem dX5_readText_97 : decode cX5_readText 97 = .ok (.getfield 54, 3) := by decide +kernel
theorem dX5_readText_100 : decode cX5_readText 100 = .ok (.if_icmp .ge 169, 3) := by decide +kernel
theorem dX5_readText_103 : decode cX5_readText 103 = .ok (.aload_n 0, 1) := by decide +kernel
theorem dX5_readText_104 : decode cX5_readText 104 = .ok (.getfield 28, 3) := by decide +kernel
theorem dX5_readText_107 : decode cX5_readText 107 = .ok (.aload_n 0, 1) := by decide +kernel
theorem dX5_readText_108 : decode cX5_readText 108 = .ok (.getfield 60, 3) := by decide +kernel
theorem dX5_readText_111 : decode cX5_readText 111 = .ok (.iaload, 1) := by decide +kernel
theorem dX5_readText_112 : decode cX5_readText 112 = .ok (.bipush 76, 2) := by decide +kernel
theorem dX5_readText_114 : decode cX5_readText 114 = .ok (.if_icmp .ne 66, 3) := by decide +kernel
theorem dX5_readText_117 : decode cX5_readText 117 = .ok (.aload_n 0, 1) := by decide +kernel
theorem dX5_readText_118 : decode cX5_readText 118 = .ok (.getfield 69, 3) := by decide +kernel
theorem dX5_readText_121 : decode cX5_readText 121 = .ok (.bipush 6, 2) := by decide +kernel
theorem dX5_readText_123 : decode cX5_readText 123 = .ok (.if_icmp .ge 57, 3) := by decide +kernel
theorem dX5_readText_126 : decode cX5_readText 126 = .ok (.aload_n 0, 1) := by decide +kernel
theorem dX5_readText_127 : decode cX5_readText 127 = .ok (.dup, 1) := by decide +kernel
theorem dX5_readText_128 : decode cX5_readText 128 = .ok (.getfield 60, 3) := by decide +kernel
theorem dX5_readText_131 : decode cX5_readText 131 = .ok (.iconst 1, 1) := by decide +kernel
theorem dX5_readText_132 : decode cX5_readText 132 = .ok (.iadd, 1) := by decide +kernel
theorem dX5_readText_133 : decode cX5_readText 133 = .ok (.putfield 60, 3) := by decide +kernel
theorem dX5_readText_136 : decode cX5_readText 136 = .ok (.aload_n 0, 1) := by decide +kernel
theorem dX5_readText_137 : decode cX5_readText 137 = .ok (.getfield 19, 3) := by decide +kernel
theorem dX5_readText_140 : decode cX5_readText 140 = .ok (.aload_n 0, 1) := by decide +kernel
theorem dX5_readText_141 : decode cX5_readText 141 = .ok (.getfield 69, 3) := by decide +kernel
theorem dX5_readText_144 : decode cX5_readText 144 = .ok (.aload_n 0, 1) := by decide +kernel
theorem dX5_readText_145 : decode cX5_readText 145 = .ok (.iconst 0, 1) := by decide +kernel
theorem dX5_readText_146 : decode cX5_readText 146 = .ok (.bipush 9, 2) := by decide +kernel
theorem dX5_readText_148 : decode cX5_readText 148 = .ok (.invokevirtual 76, 3) := by decide +kernel
theorem dX5_readText_151 : decode cX5_readText 151 = .ok (.iastore, 1) := by decide +kernel
theorem dX5_readText_152 : decode cX5_readText 152 = .ok (.aload_n 0, 1) := by decide +kernel
theorem dX5_readText_153 : decode cX5_readText 153 = .ok (.getfield 22, 3) := by decide +kernel
theorem dX5_readText_156 : decode cX5_readText 156 = .ok (.aload_n 0, 1) := by decide +kernel
theorem dX5_readText_157 : decode cX5_readText 157 = .ok (.getfield 69, 3) := by decide +kernel
theorem dX5_readText_160 : decode cX5_readText 160 = .ok (.aload_n 0, 1) := by decide +kernel
theorem dX5_readText_161 : decode cX5_readText 161 = .ok (.iconst 0, 1) := by decide +kernel
theorem dX5_readText_162 : decode cX5_readText 162 = .ok (.iconst 3, 1) := by decide +kernel
theorem dX5_readText_163 : decode cX5_readText 163 = .ok (.invokevirtual 76, 3) := by decide +kernel
theorem dX5_readText_166 : decode cX5_readText 166 = .ok (.iastore, 1) := by decide +kernel
theorem dX5_readText_167 : decode cX5_readText 167 = .ok (.aload_n 0, 1) := by decide +kernel
theorem dX5_readText_168 : decode cX5_readText 168 = .ok (.dup, 1) := by decide +kernel
theorem dX5_readText_169 : decode cX5_readText 169 = .ok (.getfield 69, 3) := by decide +kernel
theorem dX5_readText_172 : decode cX5_readText 172 = .ok (.iconst 1, 1) := by decide +kernel
theorem dX5_readText_173 : decode cX5_readText 173 = .ok (.iadd, 1) := by decide +kernel
theorem dX5_readText_174 : decode cX5_readText 174 = .ok (.putfield 69, 3) := by decide +kernel
theorem dX5_readText_177 : decode cX5_readText 177 = .ok (.goto (-94), 3) := by decide +kernel
theorem dX5_readText_180 : decode cX5_readText 180 = .ok (.aload_n 0, 1) := by decide +kernel
theorem dX5_readText_181 : decode cX5_readText 181 = .ok (.getfield 28, 3) := by decide +kernel
theorem dX5_readText_184 : decode cX5_readText 184 = .ok (.aload_n 0, 1) := by decide +kernel
theorem dX5_readText_185 : decode cX5_readText 185 = .ok (.getfield 60, 3) := by decide +kernel
theorem dX5_readText_188 : decode cX5_readText 188 = .ok (.iaload, 1) := by decide +kernel
theorem dX5_readText_189 : decode cX5_readText 189 = .ok (.bipush 69, 2) := by decide +kernel
theorem dX5_readText_191 : decode cX5_readText 191 = .ok (.if_icmp .ne 67, 3) := by decide +kernel
theorem dX5_readText_194 : decode cX5_readText 194 = .ok (.aload_n 0, 1) := by decide +kernel
theorem dX5_readText_195 : decode cX5_readText 195 = .ok (.invokevirtual 86, 3) := by decide +kernel
theorem dX5_readText_198 : decode cX5_readText 198 = .ok (.ifCond .eq 60, 3) := by decide +kernel
theorem dX5_readText_201 : decode cX5_readText 201 = .ok (.aload_n 0, 1) := by decide +kernel
theorem dX5_readText_202 : decode cX5_readText 202 = .ok (.dup, 1) := by decide +kernel
theorem dX5_readText_203 : decode cX5_readText 203 = .ok (.getfield 60, 3) := by decide +kernel
theorem dX5_readText_206 : decode cX5_readText 206 = .ok (.iconst 1, 1) := by decide +kernel
theorem dX5_readText_207 : decode cX5_readText 207 = .ok (.iadd, 1) := by decide +kernel
theorem dX5_readText_208 : decode cX5_readText 208 = .ok (.putfield 60, 3) := by decide +kernel
theorem dX5_readText_211 : decode cX5_readText 211 = .ok (.aload_n 0, 1) := by decide +kernel
theorem dX5_readText_212 : decode cX5_readText 212 = .ok (.aload_n 0, 1) := by decide +kernel
theorem dX5_readText_213 : decode cX5_readText 213 = .ok (.invokevirtual 86, 3) := by decide +kernel
theorem dX5_readText_216 : decode cX5_readText 216 = .ok (.invokevirtual 90, 3) := by decide +kernel
theorem dX5_readText_219 : decode cX5_readText 219 = .ok (.istore_n 1, 1) := by decide +kernel
theorem dX5_readText_220 : decode cX5_readText 220 = .ok (.aload_n 0, 1) := by decide +kernel
theorem dX5_readText_221 : decode cX5_readText 221 = .ok (.aload_n 0, 1) := by decide +kernel
theorem dX5_readText_222 : decode cX5_readText 222 = .ok (.iload_n 1, 1) := by decide +kernel
theorem dX5_readText_223 : decode cX5_readText 223 = .ok (.invokevirtual 72, 3) := by decide +kernel
theorem dX5_readText_226 : decode cX5_readText 226 = .ok (.invokevirtual 90, 3) := by decide +kernel
theorem dX5_readText_229 : decode cX5_readText 229 = .ok (.istore_n 2, 1) := by decide +kernel
theorem dX5_readText_230 : decode cX5_readText 230 = .ok (.aload_n 0, 1) := by decide +kernel
theorem dX5_readText_231 : decode cX5_readText 231 = .ok (.getfield 25, 3) := by decide +kernel
theorem dX5_readText_234 : decode cX5_readText 234 = .ok (.iload_n 2, 1) := by decide +kernel
theorem dX5_readText_235 : decode cX5_readText 235 = .ok (.dup2, 1) := by decide +kernel
theorem dX5_readText_236 : decode cX5_readText 236 = .ok (.iaload, 1) := by decide +kernel
theorem dX5_readText_237 : decode cX5_readText 237 = .ok (.aload_n 0, 1) := by decide +kernel
theorem dX5_readText_238 : decode cX5_readText 238 = .ok (.getfield 57, 3) := by decide +kernel
theorem dX5_readText_241 : decode cX5_readText 241 = .ok (.bipush (-9), 2) := by decide +kernel
theorem dX5_readText_243 : decode cX5_readText 243 = .ok (.if_icmp .ne 9, 3) := by decide +kernel
theorem dX5_readText_246 : decode cX5_readText 246 = .ok (.iconst 1, 1) := by decide +kernel
theorem dX5_readText_247 : decode cX5_readText 247 = .ok (.iload_n 1, 1) := by decide +kernel
theorem dX5_readText_248 : decode cX5_readText 248 = .ok (.ishl, 1) := by decide +kernel
theorem dX5_readText_249 : decode cX5_readText 249 = .ok (.goto 4, 3) := by decide +kernel
theorem dX5_readText_252 : decode cX5_readText 252 = .ok (.iconst 0, 1) := by decide +kernel
theorem dX5_readText_253 : decode cX5_readText 253 = .ok (.ior, 1) := by decide +kernel
theorem dX5_readText_254 : decode cX5_readText 254 = .ok (.iastore, 1) := by decide +kernel
theorem dX5_readText_255 : decode cX5_readText 255 = .ok (.goto (-172), 3) := by decide +kernel
theorem dX5_readText_258 : decode cX5_readText 258 = .ok (.aload_n 0, 1) := by decide +kernel
theorem dX5_readText_259 : decode cX5_readText 259 = .ok (.aload_n 0, 1) := by decide +kernel
theorem dX5_readText_260 : decode cX5_readText 260 = .ok (.getfield 60, 3) := by decide +kernel
theorem dX5_readText_263 : decode cX5_readText 263 = .ok (.putfield 57, 3) := by decide +kernel
theorem dX5_readText_266 : decode cX5_readText 266 = .ok (.goto (-183), 3) := by decide +kernel
theorem dX5_readText_269 : decode cX5_readText 269 = .ok (.aload_n 0, 1) := by decide +kernel
theorem dX5_readText_270 : decode cX5_readText 270 = .ok (.getfield 57, 3) := by decide +kernel
theorem dX5_readText_273 : decode cX5_readText 273 = .ok (.ireturn, 1) := by decide +kernel
theorem dX5_fault_0 : decode cX5_fault 0 = .ok (.aload_n 0, 1) := by decide +kernel
theorem dX5_fault_1 : decode cX5_fault 1 = .ok (.invokevirtual 93, 3) := by decide +kernel
theorem dX5_fault_4 : decode cX5_fault 4 = .ok (.ireturn, 1) := by decide +kernel
theorem dX5_post_0 : decode cX5_post 0 = .ok (.aload_n 0, 1) := by decide +kernel
theorem dX5_post_1 : decode cX5_post 1 = .ok (.invokevirtual 93, 3) := by decide +kernel
theorem dX5_post_4 : decode cX5_post 4 = .ok (.bipush (-9), 2) := by decide +kernel
theorem dX5_post_6 : decode cX5_post 6 = .ok (.if_icmp .eq 6, 3) := by decide +kernel
theorem dX5_post_9 : decode cX5_post 9 = .ok (.bipush (-3), 2) := by decide +kernel
theorem dX5_post_11 : decode cX5_post 11 = .ok (.ireturn, 1) := by decide +kernel
theorem dX5_post_12 : decode cX5_post 12 = .ok (.aload_n 0, 1) := by decide +kernel
theorem dX5_post_13 : decode cX5_post 13 = .ok (.aload_n 0, 1) := by decide +kernel
theorem dX5_post_14 : decode cX5_post 14 = .ok (.getfield 69, 3) := by decide +kernel
theorem dX5_post_17 : decode cX5_post 17 = .ok (.putfield 96, 3) := by decide +kernel
theorem dX5_post_20 : decode cX5_post 20 = .ok (.aload_n 0, 1) := by decide +kernel
theorem dX5_post_21 : decode cX5_post 21 = .ok (.aload_n 0, 1) := by decide +kernel
theorem dX5_post_22 : decode cX5_post 22 = .ok (.getfield 80, 3) := by decide +kernel
theorem dX5_post_25 : decode cX5_post 25 = .ok (.putfield 99, 3) := by decide +kernel
theorem dX5_post_28 : decode cX5_post 28 = .ok (.aload_n 0, 1) := by decide +kernel
theorem dX5_post_29 : decode cX5_post 29 = .ok (.aload_n 0, 1) := by decide +kernel
theorem dX5_post_30 : decode cX5_post 30 = .ok (.getfield 83, 3) := by decide +kernel
theorem dX5_post_33 : decode cX5_post 33 = .ok (.putfield 44, 3) := by decide +kernel
theorem dX5_post_36 : decode cX5_post 36 = .ok (.iconst 0, 1) := by decide +kernel
theorem dX5_post_37 : decode cX5_post 37 = .ok (.istore_n 1, 1) := by decide +kernel
theorem dX5_post_38 : decode cX5_post 38 = .ok (.iload_n 1, 1) := by decide +kernel
theorem dX5_post_39 : decode cX5_post 39 = .ok (.bipush 17, 2) := by decide +kernel
theorem dX5_post_41 : decode cX5_post 41 = .ok (.if_icmp .ge 16, 3) := by decide +kernel
theorem dX5_post_44 : decode cX5_post 44 = .ok (.aload_n 0, 1) := by decide +kernel
theorem dX5_post_45 : decode cX5_post 45 = .ok (.getfield 16, 3) := by decide +kernel
theorem dX5_post_48 : decode cX5_post 48 = .ok (.iload_n 1, 1) := by decide +kernel
theorem dX5_post_49 : decode cX5_post 49 = .ok (.iconst 0, 1) := by decide +kernel
theorem dX5_post_50 : decode cX5_post 50 = .ok (.iastore, 1) := by decide +kernel
theorem dX5_post_51 : decode cX5_post 51 = .ok (.iinc 1 1, 3) := by decide +kernel
theorem dX5_post_54 : decode cX5_post 54 = .ok (.goto (-16), 3) := by decide +kernel
theorem dX5_post_57 : decode cX5_post 57 = .ok (.iconst 0, 1) := by decide +kernel
theorem dX5_post_58 : decode cX5_post 58 = .ok (.istore_n 1, 1) := by decide +kernel
theorem dX5_post_59 : decode cX5_post 59 = .ok (.iload_n 1, 1) := by decide +kernel
theorem dX5_post_60 : decode cX5_post 60 = .ok (.bipush 6, 2) := by decide +kernel
theorem dX5_post_62 : decode cX5_post 62 = .ok (.if_icmp .ge 57, 3) := by decide +kernel
theorem dX5_post_65 : decode cX5_post 65 = .ok (.aload_n 0, 1) := by decide +kernel
theorem dX5_post_66 : decode cX5_post 66 = .ok (.getfield 16, 3) := by decide +kernel
end
section
theorem dX5_post_69 : decode cX5_post 69 = .ok (.iload_n 1, 1) := by decide +kernel
theorem dX5_post_70 : decode cX5_post 70 = .ok (.iload_n 1, 1) := by decide +kernel
theorem dX5_post_71 : decode cX5_post 71 = .ok (.aload_n 0, 1) := by decide +kernel
theorem dX5_post_72 : decode cX5_post 72 = .ok (.getfield 96, 3) := by decide +kernel
theorem dX5_post_75 : decode cX5_post 75 = .ok (.if_icmp .ge 12, 3) := by decide +kernel
theorem dX5_post_78 : decode cX5_post 78 = .ok (.aload_n 0, 1) := by decide +kernel
theorem dX5_post_79 : decode cX5_post 79 = .ok (.getfield 19, 3) := by decide +kernel
theorem dX5_post_82 : decode cX5_post 82 = .ok (.iload_n 1, 1) := by decide +kernel
theorem dX5_post_83 : decode cX5_post 83 = .ok (.iaload, 1) := by decide +kernel
theorem dX5_post_84 : decode cX5_post 84 = .ok (.goto 4, 3) := by decide +kernel
theorem dX5_post_87 : decode cX5_post 87 = .ok (.iconst 0, 1) := by decide +kernel
theorem dX5_post_88 : decode cX5_post 88 = .ok (.iastore, 1) := by decide +kernel
theorem dX5_post_89 : decode cX5_post 89 = .ok (.aload_n 0, 1) := by decide +kernel
theorem dX5_post_90 : decode cX5_post 90 = .ok (.getfield 7, 3) := by decide +kernel
theorem dX5_post_93 : decode cX5_post 93 = .ok (.iload_n 1, 1) := by decide +kernel
theorem dX5_post_94 : decode cX5_post 94 = .ok (.aload_n 0, 1) := by decide +kernel
theorem dX5_post_95 : decode cX5_post 95 = .ok (.getfield 22, 3) := by decide +kernel
theorem dX5_post_98 : decode cX5_post 98 = .ok (.iload_n 1, 1) := by decide +kernel
theorem dX5_post_99 : decode cX5_post 99 = .ok (.iaload, 1) := by decide +kernel
theorem dX5_post_100 : decode cX5_post 100 = .ok (.iastore, 1) := by decide +kernel
theorem dX5_post_101 : decode cX5_post 101 = .ok (.aload_n 0, 1) := by decide +kernel
theorem dX5_post_102 : decode cX5_post 102 = .ok (.getfield 13, 3) := by decide +kernel
theorem dX5_post_105 : decode cX5_post 105 = .ok (.iload_n 1, 1) := by decide +kernel
theorem dX5_post_106 : decode cX5_post 106 = .ok (.aload_n 0, 1) := by decide +kernel
theorem dX5_post_107 : decode cX5_post 107 = .ok (.getfield 25, 3) := by decide +kernel
theorem dX5_post_110 : decode cX5_post 110 = .ok (.iload_n 1, 1) := by decide +kernel
theorem dX5_post_111 : decode cX5_post 111 = .ok (.iaload, 1) := by decide +kernel
theorem dX5_post_112 : decode cX5_post 112 = .ok (.iastore, 1) := by decide +kernel
theorem dX5_post_113 : decode cX5_post 113 = .ok (.iinc 1 1, 3) := by decide +kernel
theorem dX5_post_116 : decode cX5_post 116 = .ok (.goto (-57), 3) := by decide +kernel
theorem dX5_post_119 : decode cX5_post 119 = .ok (.aload_n 0, 1) := by decide +kernel
theorem dX5_post_120 : decode cX5_post 120 = .ok (.iconst 0, 1) := by decide +kernel
theorem dX5_post_121 : decode cX5_post 121 = .ok (.putfield 102, 3) := by decide +kernel
theorem dX5_post_124 : decode cX5_post 124 = .ok (.aload_n 0, 1) := by decide +kernel
theorem dX5_post_125 : decode cX5_post 125 = .ok (.getfield 37, 3) := by decide +kernel
theorem dX5_post_128 : decode cX5_post 128 = .ok (.iconst 0, 1) := by decide +kernel
theorem dX5_post_129 : decode cX5_post 129 = .ok (.iconst 0, 1) := by decide +kernel
theorem dX5_post_130 : decode cX5_post 130 = .ok (.bastore, 1) := by decide +kernel
theorem dX5_post_131 : decode cX5_post 131 = .ok (.aload_n 0, 1) := by decide +kernel
theorem dX5_post_132 : decode cX5_post 132 = .ok (.getfield 37, 3) := by decide +kernel
theorem dX5_post_135 : decode cX5_post 135 = .ok (.iconst 1, 1) := by decide +kernel
theorem dX5_post_136 : decode cX5_post 136 = .ok (.iconst 0, 1) := by decide +kernel
theorem dX5_post_137 : decode cX5_post 137 = .ok (.bastore, 1) := by decide +kernel
theorem dX5_post_138 : decode cX5_post 138 = .ok (.aload_n 0, 1) := by decide +kernel
theorem dX5_post_139 : decode cX5_post 139 = .ok (.getfield 96, 3) := by decide +kernel
theorem dX5_post_142 : decode cX5_post 142 = .ok (.ireturn, 1) := by decide +kernel
theorem dX5_isLetter_0 : decode cX5_isLetter 0 = .ok (.iload_n 1, 1) := by decide +kernel
theorem dX5_isLetter_1 : decode cX5_isLetter 1 = .ok (.i2l, 1) := by decide +kernel
theorem dX5_isLetter_2 : decode cX5_isLetter 2 = .ok (.lconst 0, 1) := by decide +kernel
theorem dX5_isLetter_3 : decode cX5_isLetter 3 = .ok (.aload_n 0, 1) := by decide +kernel
theorem dX5_isLetter_4 : decode cX5_isLetter 4 = .ok (.getfield 96, 3) := by decide +kernel
theorem dX5_isLetter_7 : decode cX5_isLetter 7 = .ok (.iconst 1, 1) := by decide +kernel
theorem dX5_isLetter_8 : decode cX5_isLetter 8 = .ok (.isub, 1) := by decide +kernel
theorem dX5_isLetter_9 : decode cX5_isLetter 9 = .ok (.i2l, 1) := by decide +kernel
theorem dX5_isLetter_10 : decode cX5_isLetter 10 = .ok (.invokestatic 50, 3) := by decide +kernel
theorem dX5_isLetter_13 : decode cX5_isLetter 13 = .ok (.ireturn, 1) := by decide +kernel
theorem dX5_isSent_0 : decode cX5_isSent 0 = .ok (.aload_n 0, 1) := by decide +kernel
theorem dX5_isSent_1 : decode cX5_isSent 1 = .ok (.getfield 16, 3) := by decide +kernel
theorem dX5_isSent_4 : decode cX5_isSent 4 = .ok (.bipush 17, 2) := by decide +kernel
theorem dX5_isSent_6 : decode cX5_isSent 6 = .ok (.iload_n 1, 1) := by decide +kernel
theorem dX5_isSent_7 : decode cX5_isSent 7 = .ok (.imul, 1) := by decide +kernel
theorem dX5_isSent_8 : decode cX5_isSent 8 = .ok (.bipush 13, 2) := by decide +kernel
theorem dX5_isSent_10 : decode cX5_isSent 10 = .ok (.iadd, 1) := by decide +kernel
theorem dX5_isSent_11 : decode cX5_isSent 11 = .ok (.iaload, 1) := by decide +kernel
theorem dX5_isSent_12 : decode cX5_isSent 12 = .ok (.iload_n 2, 1) := by decide +kernel
theorem dX5_isSent_13 : decode cX5_isSent 13 = .ok (.invokestatic 65, 3) := by decide +kernel
theorem dX5_isSent_16 : decode cX5_isSent 16 = .ok (.ireturn, 1) := by decide +kernel
theorem dX5_priceBy_0 : decode cX5_priceBy 0 = .ok (.aload_n 0, 1) := by decide +kernel
theorem dX5_priceBy_1 : decode cX5_priceBy 1 = .ok (.getfield 7, 3) := by decide +kernel
theorem dX5_priceBy_4 : decode cX5_priceBy 4 = .ok (.iload_n 1, 1) := by decide +kernel
theorem dX5_priceBy_5 : decode cX5_priceBy 5 = .ok (.iaload, 1) := by decide +kernel
theorem dX5_priceBy_6 : decode cX5_priceBy 6 = .ok (.iconst 3, 1) := by decide +kernel
theorem dX5_priceBy_7 : decode cX5_priceBy 7 = .ok (.if_icmp .ne 7, 3) := by decide +kernel
theorem dX5_priceBy_10 : decode cX5_priceBy 10 = .ok (.iconst 0, 1) := by decide +kernel
theorem dX5_priceBy_11 : decode cX5_priceBy 11 = .ok (.goto 11, 3) := by decide +kernel
theorem dX5_priceBy_14 : decode cX5_priceBy 14 = .ok (.aload_n 0, 1) := by decide +kernel
theorem dX5_priceBy_15 : decode cX5_priceBy 15 = .ok (.getfield 7, 3) := by decide +kernel
theorem dX5_priceBy_18 : decode cX5_priceBy 18 = .ok (.iload_n 1, 1) := by decide +kernel
theorem dX5_priceBy_19 : decode cX5_priceBy 19 = .ok (.iaload, 1) := by decide +kernel
theorem dX5_priceBy_20 : decode cX5_priceBy 20 = .ok (.iconst 1, 1) := by decide +kernel
theorem dX5_priceBy_21 : decode cX5_priceBy 21 = .ok (.iadd, 1) := by decide +kernel
theorem dX5_priceBy_22 : decode cX5_priceBy 22 = .ok (.istore 6, 2) := by decide +kernel
theorem dX5_priceBy_24 : decode cX5_priceBy 24 = .ok (.iload_n 2, 1) := by decide +kernel
theorem dX5_priceBy_25 : decode cX5_priceBy 25 = .ok (.iload 6, 2) := by decide +kernel
theorem dX5_priceBy_27 : decode cX5_priceBy 27 = .ok (.imul, 1) := by decide +kernel
theorem dX5_priceBy_28 : decode cX5_priceBy 28 = .ok (.iload_n 3, 1) := by decide +kernel
theorem dX5_priceBy_29 : decode cX5_priceBy 29 = .ok (.ifCond .eq 7, 3) := by decide +kernel
theorem dX5_priceBy_32 : decode cX5_priceBy 32 = .ok (.iconst 2, 1) := by decide +kernel
theorem dX5_priceBy_33 : decode cX5_priceBy 33 = .ok (.goto 4, 3) := by decide +kernel
theorem dX5_priceBy_36 : decode cX5_priceBy 36 = .ok (.iconst 1, 1) := by decide +kernel
theorem dX5_priceBy_37 : decode cX5_priceBy 37 = .ok (.imul, 1) := by decide +kernel
theorem dX5_priceBy_38 : decode cX5_priceBy 38 = .ok (.iconst 3, 1) := by decide +kernel
theorem dX5_priceBy_39 : decode cX5_priceBy 39 = .ok (.iload 4, 2) := by decide +kernel
theorem dX5_priceBy_41 : decode cX5_priceBy 41 = .ok (.imul, 1) := by decide +kernel
theorem dX5_priceBy_42 : decode cX5_priceBy 42 = .ok (.isub, 1) := by decide +kernel
theorem dX5_priceBy_43 : decode cX5_priceBy 43 = .ok (.istore 7, 2) := by decide +kernel
theorem dX5_priceBy_45 : decode cX5_priceBy 45 = .ok (.iload 7, 2) := by decide +kernel
theorem dX5_priceBy_47 : decode cX5_priceBy 47 = .ok (.ifCond .ge 7, 3) := by decide +kernel
theorem dX5_priceBy_50 : decode cX5_priceBy 50 = .ok (.iconst 0, 1) := by decide +kernel
theorem dX5_priceBy_51 : decode cX5_priceBy 51 = .ok (.goto 5, 3) := by decide +kernel
theorem dX5_priceBy_54 : decode cX5_priceBy 54 = .ok (.iload 7, 2) := by decide +kernel
theorem dX5_priceBy_56 : decode cX5_priceBy 56 = .ok (.istore 7, 2) := by decide +kernel
theorem dX5_priceBy_58 : decode cX5_priceBy 58 = .ok (.iload 5, 2) := by decide +kernel
theorem dX5_priceBy_60 : decode cX5_priceBy 60 = .ok (.aload_n 0, 1) := by decide +kernel
theorem dX5_priceBy_61 : decode cX5_priceBy 61 = .ok (.getfield 99, 3) := by decide +kernel
theorem dX5_priceBy_64 : decode cX5_priceBy 64 = .ok (.if_icmp .ne 10, 3) := by decide +kernel
theorem dX5_priceBy_67 : decode cX5_priceBy 67 = .ok (.iload 7, 2) := by decide +kernel
theorem dX5_priceBy_69 : decode cX5_priceBy 69 = .ok (.iconst 2, 1) := by decide +kernel
theorem dX5_priceBy_70 : decode cX5_priceBy 70 = .ok (.idiv, 1) := by decide +kernel
theorem dX5_priceBy_71 : decode cX5_priceBy 71 = .ok (.goto 5, 3) := by decide +kernel
theorem dX5_priceBy_74 : decode cX5_priceBy 74 = .ok (.iload 7, 2) := by decide +kernel
theorem dX5_priceBy_76 : decode cX5_priceBy 76 = .ok (.ireturn, 1) := by decide +kernel
theorem dX5_priceOn_0 : decode cX5_priceOn 0 = .ok (.bipush 17, 2) := by decide +kernel
theorem dX5_priceOn_2 : decode cX5_priceOn 2 = .ok (.iload_n 1, 1) := by decide +kernel
theorem dX5_priceOn_3 : decode cX5_priceOn 3 = .ok (.imul, 1) := by decide +kernel
theorem dX5_priceOn_4 : decode cX5_priceOn 4 = .ok (.istore_n 3, 1) := by decide +kernel
theorem dX5_priceOn_5 : decode cX5_priceOn 5 = .ok (.aload_n 0, 1) := by decide +kernel
theorem dX5_priceOn_6 : decode cX5_priceOn 6 = .ok (.iload_n 2, 1) := by decide +kernel
theorem dX5_priceOn_7 : decode cX5_priceOn 7 = .ok (.aload_n 0, 1) := by decide +kernel
theorem dX5_priceOn_8 : decode cX5_priceOn 8 = .ok (.getfield 16, 3) := by decide +kernel
theorem dX5_priceOn_11 : decode cX5_priceOn 11 = .ok (.iload_n 3, 1) := by decide +kernel
theorem dX5_priceOn_12 : decode cX5_priceOn 12 = .ok (.iload_n 2, 1) := by decide +kernel
theorem dX5_priceOn_13 : decode cX5_priceOn 13 = .ok (.iadd, 1) := by decide +kernel
theorem dX5_priceOn_14 : decode cX5_priceOn 14 = .ok (.iaload, 1) := by decide +kernel
theorem dX5_priceOn_15 : decode cX5_priceOn 15 = .ok (.aload_n 0, 1) := by decide +kernel
theorem dX5_priceOn_16 : decode cX5_priceOn 16 = .ok (.getfield 16, 3) := by decide +kernel
theorem dX5_priceOn_19 : decode cX5_priceOn 19 = .ok (.iload_n 3, 1) := by decide +kernel
theorem dX5_priceOn_20 : decode cX5_priceOn 20 = .ok (.bipush 12, 2) := by decide +kernel
theorem dX5_priceOn_22 : decode cX5_priceOn 22 = .ok (.iadd, 1) := by decide +kernel
theorem dX5_priceOn_23 : decode cX5_priceOn 23 = .ok (.iaload, 1) := by decide +kernel
theorem dX5_priceOn_24 : decode cX5_priceOn 24 = .ok (.iload_n 2, 1) := by decide +kernel
theorem dX5_priceOn_25 : decode cX5_priceOn 25 = .ok (.invokestatic 65, 3) := by decide +kernel
theorem dX5_priceOn_28 : decode cX5_priceOn 28 = .ok (.aload_n 0, 1) := by decide +kernel
theorem dX5_priceOn_29 : decode cX5_priceOn 29 = .ok (.getfield 13, 3) := by decide +kernel
theorem dX5_priceOn_32 : decode cX5_priceOn 32 = .ok (.iload_n 2, 1) := by decide +kernel
theorem dX5_priceOn_33 : decode cX5_priceOn 33 = .ok (.iaload, 1) := by decide +kernel
theorem dX5_priceOn_34 : decode cX5_priceOn 34 = .ok (.aload_n 0, 1) := by decide +kernel
theorem dX5_priceOn_35 : decode cX5_priceOn 35 = .ok (.getfield 16, 3) := by decide +kernel
theorem dX5_priceOn_38 : decode cX5_priceOn 38 = .ok (.iload_n 3, 1) := by decide +kernel
theorem dX5_priceOn_39 : decode cX5_priceOn 39 = .ok (.bipush 13, 2) := by decide +kernel
theorem dX5_priceOn_41 : decode cX5_priceOn 41 = .ok (.iadd, 1) := by decide +kernel
theorem dX5_priceOn_42 : decode cX5_priceOn 42 = .ok (.iaload, 1) := by decide +kernel
theorem dX5_priceOn_43 : decode cX5_priceOn 43 = .ok (.iand, 1) := by decide +kernel
theorem dX5_priceOn_44 : decode cX5_priceOn 44 = .ok (.invokestatic 105, 3) := by decide +kernel
theorem dX5_priceOn_47 : decode cX5_priceOn 47 = .ok (.aload_n 0, 1) := by decide +kernel
theorem dX5_priceOn_48 : decode cX5_priceOn 48 = .ok (.getfield 16, 3) := by decide +kernel
theorem dX5_priceOn_51 : decode cX5_priceOn 51 = .ok (.iload_n 3, 1) := by decide +kernel
theorem dX5_priceOn_52 : decode cX5_priceOn 52 = .ok (.bipush 14, 2) := by decide +kernel
theorem dX5_priceOn_54 : decode cX5_priceOn 54 = .ok (.iadd, 1) := by decide +kernel
theorem dX5_priceOn_55 : decode cX5_priceOn 55 = .ok (.iaload, 1) := by decide +kernel
theorem dX5_priceOn_56 : decode cX5_priceOn 56 = .ok (.invokevirtual 108, 3) := by decide +kernel
theorem dX5_priceOn_59 : decode cX5_priceOn 59 = .ok (.ireturn, 1) := by decide +kernel
theorem dX5_letter_0 : decode cX5_letter 0 = .ok (.aload_n 0, 1) := by decide +kernel
theorem dX5_letter_1 : decode cX5_letter 1 = .ok (.iload_n 1, 1) := by decide +kernel
theorem dX5_letter_2 : decode cX5_letter 2 = .ok (.invokevirtual 112, 3) := by decide +kernel
theorem dX5_letter_5 : decode cX5_letter 5 = .ok (.ifCond .ne 5, 3) := by decide +kernel
theorem dX5_letter_8 : decode cX5_letter 8 = .ok (.iconst (-1), 1) := by decide +kernel
theorem dX5_letter_9 : decode cX5_letter 9 = .ok (.ireturn, 1) := by decide +kernel
theorem dX5_letter_10 : decode cX5_letter 10 = .ok (.iload_n 2, 1) := by decide +kernel
theorem dX5_letter_11 : decode cX5_letter 11 = .ok (.tableswitch 117 0 6 #[41, 48, 55, 62, 74, 86, 96], 41) := by decide +kernel
theorem dX5_letter_52 : decode cX5_letter 52 = .ok (.aload_n 0, 1) := by decide +kernel
theorem dX5_letter_53 : decode cX5_letter 53 = .ok (.getfield 16, 3) := by decide +kernel
theorem dX5_letter_56 : decode cX5_letter 56 = .ok (.iload_n 1, 1) := by decide +kernel
theorem dX5_letter_57 : decode cX5_letter 57 = .ok (.iaload, 1) := by decide +kernel
theorem dX5_letter_58 : decode cX5_letter 58 = .ok (.ireturn, 1) := by decide +kernel
theorem dX5_letter_59 : decode cX5_letter 59 = .ok (.aload_n 0, 1) := by decide +kernel
theorem dX5_letter_60 : decode cX5_letter 60 = .ok (.getfield 7, 3) := by decide +kernel
theorem dX5_letter_63 : decode cX5_letter 63 = .ok (.iload_n 1, 1) := by decide +kernel
theorem dX5_letter_64 : decode cX5_letter 64 = .ok (.iaload, 1) := by decide +kernel
theorem dX5_letter_65 : decode cX5_letter 65 = .ok (.ireturn, 1) := by decide +kernel
theorem dX5_letter_66 : decode cX5_letter 66 = .ok (.aload_n 0, 1) := by decide +kernel
theorem dX5_letter_67 : decode cX5_letter 67 = .ok (.getfield 13, 3) := by decide +kernel
theorem dX5_letter_70 : decode cX5_letter 70 = .ok (.iload_n 1, 1) := by decide +kernel
theorem dX5_letter_71 : decode cX5_letter 71 = .ok (.iaload, 1) := by decide +kernel
theorem dX5_letter_72 : decode cX5_letter 72 = .ok (.ireturn, 1) := by decide +kernel
theorem dX5_letter_73 : decode cX5_letter 73 = .ok (.aload_n 0, 1) := by decide +kernel
theorem dX5_letter_74 : decode cX5_letter 74 = .ok (.getfield 16, 3) := by decide +kernel
theorem dX5_letter_77 : decode cX5_letter 77 = .ok (.bipush 13, 2) := by decide +kernel
theorem dX5_letter_79 : decode cX5_letter 79 = .ok (.iaload, 1) := by decide +kernel
theorem dX5_letter_80 : decode cX5_letter 80 = .ok (.iload_n 1, 1) := by decide +kernel
theorem dX5_letter_81 : decode cX5_letter 81 = .ok (.ishr, 1) := by decide +kernel
theorem dX5_letter_82 : decode cX5_letter 82 = .ok (.iconst 1, 1) := by decide +kernel
theorem dX5_letter_83 : decode cX5_letter 83 = .ok (.iand, 1) := by decide +kernel
theorem dX5_letter_84 : decode cX5_letter 84 = .ok (.ireturn, 1) := by decide +kernel
theorem dX5_letter_85 : decode cX5_letter 85 = .ok (.aload_n 0, 1) := by decide +kernel
theorem dX5_letter_86 : decode cX5_letter 86 = .ok (.getfield 16, 3) := by decide +kernel
theorem dX5_letter_89 : decode cX5_letter 89 = .ok (.bipush 12, 2) := by decide +kernel
theorem dX5_letter_91 : decode cX5_letter 91 = .ok (.iaload, 1) := by decide +kernel
theorem dX5_letter_92 : decode cX5_letter 92 = .ok (.iload_n 1, 1) := by decide +kernel
theorem dX5_letter_93 : decode cX5_letter 93 = .ok (.ishr, 1) := by decide +kernel
theorem dX5_letter_94 : decode cX5_letter 94 = .ok (.iconst 1, 1) := by decide +kernel
theorem dX5_letter_95 : decode cX5_letter 95 = .ok (.iand, 1) := by decide +kernel
theorem dX5_letter_96 : decode cX5_letter 96 = .ok (.ireturn, 1) := by decide +kernel
theorem dX5_letter_97 : decode cX5_letter 97 = .ok (.aload_n 0, 1) := by decide +kernel
theorem dX5_letter_98 : decode cX5_letter 98 = .ok (.getfield 16, 3) := by decide +kernel
theorem dX5_letter_101 : decode cX5_letter 101 = .ok (.bipush 6, 2) := by decide +kernel
theorem dX5_letter_103 : decode cX5_letter 103 = .ok (.iload_n 1, 1) := by decide +kernel
theorem dX5_letter_104 : decode cX5_letter 104 = .ok (.iadd, 1) := by decide +kernel
theorem dX5_letter_105 : decode cX5_letter 105 = .ok (.iaload, 1) := by decide +kernel
theorem dX5_letter_106 : decode cX5_letter 106 = .ok (.ireturn, 1) := by decide +kernel
theorem dX5_letter_107 : decode cX5_letter 107 = .ok (.aload_n 0, 1) := by decide +kernel
theorem dX5_letter_108 : decode cX5_letter 108 = .ok (.iconst 0, 1) := by decide +kernel
theorem dX5_letter_109 : decode cX5_letter 109 = .ok (.iload_n 1, 1) := by decide +kernel
theorem dX5_letter_110 : decode cX5_letter 110 = .ok (.invokevirtual 116, 3) := by decide +kernel
theorem dX5_letter_113 : decode cX5_letter 113 = .ok (.ifCond .eq 8, 3) := by decide +kernel
theorem dX5_letter_116 : decode cX5_letter 116 = .ok (.bipush (-9), 2) := by decide +kernel
theorem dX5_letter_118 : decode cX5_letter 118 = .ok (.goto 9, 3) := by decide +kernel
theorem dX5_letter_121 : decode cX5_letter 121 = .ok (.aload_n 0, 1) := by decide +kernel
theorem dX5_letter_122 : decode cX5_letter 122 = .ok (.iconst 0, 1) := by decide +kernel
theorem dX5_letter_123 : decode cX5_letter 123 = .ok (.iload_n 1, 1) := by decide +kernel
theorem dX5_letter_124 : decode cX5_letter 124 = .ok (.invokevirtual 119, 3) := by decide +kernel
theorem dX5_letter_127 : decode cX5_letter 127 = .ok (.ireturn, 1) := by decide +kernel
theorem dX5_letter_128 : decode cX5_letter 128 = .ok (.bipush (-2), 2) := by decide +kernel
theorem dX5_letter_130 : decode cX5_letter 130 = .ok (.ireturn, 1) := by decide +kernel
theorem dX5_canSend_0 : decode cX5_canSend 0 = .ok (.aload_n 0, 1) := by decide +kernel
theorem dX5_canSend_1 : decode cX5_canSend 1 = .ok (.iload_n 2, 1) := by decide +kernel
theorem dX5_canSend_2 : decode cX5_canSend 2 = .ok (.invokevirtual 112, 3) := by decide +kernel
theorem dX5_canSend_5 : decode cX5_canSend 5 = .ok (.ifCond .eq 35, 3) := by decide +kernel
theorem dX5_canSend_8 : decode cX5_canSend 8 = .ok (.aload_n 0, 1) := by decide +kernel
theorem dX5_canSend_9 : decode cX5_canSend 9 = .ok (.iload_n 1, 1) := by decide +kernel
theorem dX5_canSend_10 : decode cX5_canSend 10 = .ok (.iload_n 2, 1) := by decide +kernel
theorem dX5_canSend_11 : decode cX5_canSend 11 = .ok (.invokevirtual 116, 3) := by decide +kernel
theorem dX5_canSend_14 : decode cX5_canSend 14 = .ok (.ifCond .ne 26, 3) := by decide +kernel
theorem dX5_canSend_17 : decode cX5_canSend 17 = .ok (.aload_n 0, 1) := by decide +kernel
theorem dX5_canSend_18 : decode cX5_canSend 18 = .ok (.getfield 16, 3) := by decide +kernel
theorem dX5_canSend_21 : decode cX5_canSend 21 = .ok (.bipush 17, 2) := by decide +kernel
theorem dX5_canSend_23 : decode cX5_canSend 23 = .ok (.iload_n 1, 1) := by decide +kernel
theorem dX5_canSend_24 : decode cX5_canSend 24 = .ok (.imul, 1) := by decide +kernel
theorem dX5_canSend_25 : decode cX5_canSend 25 = .ok (.bipush 15, 2) := by decide +kernel
theorem dX5_canSend_27 : decode cX5_canSend 27 = .ok (.iadd, 1) := by decide +kernel
theorem dX5_canSend_28 : decode cX5_canSend 28 = .ok (.iaload, 1) := by decide +kernel
theorem dX5_canSend_29 : decode cX5_canSend 29 = .ok (.aload_n 0, 1) := by decide +kernel
theorem dX5_canSend_30 : decode cX5_canSend 30 = .ok (.getfield 44, 3) := by decide +kernel
theorem dX5_canSend_33 : decode cX5_canSend 33 = .ok (.if_icmp .ge 7, 3) := by decide +kernel
theorem dX5_canSend_36 : decode cX5_canSend 36 = .ok (.iconst 1, 1) := by decide +kernel
theorem dX5_canSend_37 : decode cX5_canSend 37 = .ok (.goto 4, 3) := by decide +kernel
theorem dX5_canSend_40 : decode cX5_canSend 40 = .ok (.iconst 0, 1) := by decide +kernel
theorem dX5_canSend_41 : decode cX5_canSend 41 = .ok (.ireturn, 1) := by decide +kernel
theorem dX5_sendOn_0 : decode cX5_sendOn 0 = .ok (.bipush 17, 2) := by decide +kernel
theorem dX5_sendOn_2 : decode cX5_sendOn 2 = .ok (.iload_n 1, 1) := by decide +kernel
theorem dX5_sendOn_3 : decode cX5_sendOn 3 = .ok (.imul, 1) := by decide +kernel
theorem dX5_sendOn_4 : decode cX5_sendOn 4 = .ok (.istore_n 3, 1) := by decide +kernel
theorem dX5_sendOn_5 : decode cX5_sendOn 5 = .ok (.aload_n 0, 1) := by decide +kernel
theorem dX5_sendOn_6 : decode cX5_sendOn 6 = .ok (.iload_n 1, 1) := by decide +kernel
theorem dX5_sendOn_7 : decode cX5_sendOn 7 = .ok (.iload_n 2, 1) := by decide +kernel
theorem dX5_sendOn_8 : decode cX5_sendOn 8 = .ok (.invokevirtual 119, 3) := by decide +kernel
theorem dX5_sendOn_11 : decode cX5_sendOn 11 = .ok (.istore 4, 2) := by decide +kernel
theorem dX5_sendOn_13 : decode cX5_sendOn 13 = .ok (.aload_n 0, 1) := by decide +kernel
theorem dX5_sendOn_14 : decode cX5_sendOn 14 = .ok (.getfield 16, 3) := by decide +kernel
theorem dX5_sendOn_17 : decode cX5_sendOn 17 = .ok (.iload_n 3, 1) := by decide +kernel
theorem dX5_sendOn_18 : decode cX5_sendOn 18 = .ok (.bipush 13, 2) := by decide +kernel
theorem dX5_sendOn_20 : decode cX5_sendOn 20 = .ok (.iadd, 1) := by decide +kernel
theorem dX5_sendOn_21 : decode cX5_sendOn 21 = .ok (.dup2, 1) := by decide +kernel
theorem dX5_sendOn_22 : decode cX5_sendOn 22 = .ok (.iaload, 1) := by decide +kernel
theorem dX5_sendOn_23 : decode cX5_sendOn 23 = .ok (.iconst 1, 1) := by decide +kernel
theorem dX5_sendOn_24 : decode cX5_sendOn 24 = .ok (.iload_n 2, 1) := by decide +kernel
theorem dX5_sendOn_25 : decode cX5_sendOn 25 = .ok (.ishl, 1) := by decide +kernel
theorem dX5_sendOn_26 : decode cX5_sendOn 26 = .ok (.ior, 1) := by decide +kernel
theorem dX5_sendOn_27 : decode cX5_sendOn 27 = .ok (.iastore, 1) := by decide +kernel
theorem dX5_sendOn_28 : decode cX5_sendOn 28 = .ok (.aload_n 0, 1) := by decide +kernel
theorem dX5_sendOn_29 : decode cX5_sendOn 29 = .ok (.getfield 16, 3) := by decide +kernel
theorem dX5_sendOn_32 : decode cX5_sendOn 32 = .ok (.iload_n 3, 1) := by decide +kernel
theorem dX5_sendOn_33 : decode cX5_sendOn 33 = .ok (.bipush 15, 2) := by decide +kernel
theorem dX5_sendOn_35 : decode cX5_sendOn 35 = .ok (.iadd, 1) := by decide +kernel
theorem dX5_sendOn_36 : decode cX5_sendOn 36 = .ok (.dup2, 1) := by decide +kernel
theorem dX5_sendOn_37 : decode cX5_sendOn 37 = .ok (.iaload, 1) := by decide +kernel
theorem dX5_sendOn_38 : decode cX5_sendOn 38 = .ok (.iconst 1, 1) := by decide +kernel
theorem dX5_sendOn_39 : decode cX5_sendOn 39 = .ok (.iadd, 1) := by decide +kernel
theorem dX5_sendOn_40 : decode cX5_sendOn 40 = .ok (.iastore, 1) := by decide +kernel
theorem dX5_sendOn_41 : decode cX5_sendOn 41 = .ok (.aload_n 0, 1) := by decide +kernel
theorem dX5_sendOn_42 : decode cX5_sendOn 42 = .ok (.getfield 16, 3) := by decide +kernel
theorem dX5_sendOn_45 : decode cX5_sendOn 45 = .ok (.iload_n 3, 1) := by decide +kernel
theorem dX5_sendOn_46 : decode cX5_sendOn 46 = .ok (.bipush 16, 2) := by decide +kernel
theorem dX5_sendOn_48 : decode cX5_sendOn 48 = .ok (.iadd, 1) := by decide +kernel
theorem dX5_sendOn_49 : decode cX5_sendOn 49 = .ok (.dup2, 1) := by decide +kernel
theorem dX5_sendOn_50 : decode cX5_sendOn 50 = .ok (.iaload, 1) := by decide +kernel
theorem dX5_sendOn_51 : decode cX5_sendOn 51 = .ok (.iload 4, 2) := by decide +kernel
theorem dX5_sendOn_53 : decode cX5_sendOn 53 = .ok (.iadd, 1) := by decide +kernel
theorem dX5_sendOn_54 : decode cX5_sendOn 54 = .ok (.iastore, 1) := by decide +kernel
theorem dX5_sendOn_55 : decode cX5_sendOn 55 = .ok (.iload 4, 2) := by decide +kernel
theorem dX5_sendOn_57 : decode cX5_sendOn 57 = .ok (.ireturn, 1) := by decide +kernel
theorem dX5_passOn_0 : decode cX5_passOn 0 = .ok (.bipush 17, 2) := by decide +kernel
theorem dX5_passOn_2 : decode cX5_passOn 2 = .ok (.iload_n 1, 1) := by decide +kernel
theorem dX5_passOn_3 : decode cX5_passOn 3 = .ok (.imul, 1) := by decide +kernel
theorem dX5_passOn_4 : decode cX5_passOn 4 = .ok (.istore_n 2, 1) := by decide +kernel
theorem dX5_passOn_5 : decode cX5_passOn 5 = .ok (.iconst 0, 1) := by decide +kernel
theorem dX5_passOn_6 : decode cX5_passOn 6 = .ok (.istore_n 3, 1) := by decide +kernel
theorem dX5_passOn_7 : decode cX5_passOn 7 = .ok (.iload_n 3, 1) := by decide +kernel
theorem dX5_passOn_8 : decode cX5_passOn 8 = .ok (.aload_n 0, 1) := by decide +kernel
theorem dX5_passOn_9 : decode cX5_passOn 9 = .ok (.getfield 96, 3) := by decide +kernel
theorem dX5_passOn_12 : decode cX5_passOn 12 = .ok (.if_icmp .ge 75, 3) := by decide +kernel
theorem dX5_passOn_15 : decode cX5_passOn 15 = .ok (.aload_n 0, 1) := by decide +kernel
theorem dX5_passOn_16 : decode cX5_passOn 16 = .ok (.iload_n 1, 1) := by decide +kernel
theorem dX5_passOn_17 : decode cX5_passOn 17 = .ok (.iload_n 3, 1) := by decide +kernel
theorem dX5_passOn_18 : decode cX5_passOn 18 = .ok (.invokevirtual 116, 3) := by decide +kernel
theorem dX5_passOn_21 : decode cX5_passOn 21 = .ok (.ifCond .ne 60, 3) := by decide +kernel
theorem dX5_passOn_24 : decode cX5_passOn 24 = .ok (.aload_n 0, 1) := by decide +kernel
theorem dX5_passOn_25 : decode cX5_passOn 25 = .ok (.getfield 16, 3) := by decide +kernel
theorem dX5_passOn_28 : decode cX5_passOn 28 = .ok (.iload_n 2, 1) := by decide +kernel
theorem dX5_passOn_29 : decode cX5_passOn 29 = .ok (.bipush 6, 2) := by decide +kernel
theorem dX5_passOn_31 : decode cX5_passOn 31 = .ok (.iadd, 1) := by decide +kernel
theorem dX5_passOn_32 : decode cX5_passOn 32 = .ok (.iload_n 3, 1) := by decide +kernel
theorem dX5_passOn_33 : decode cX5_passOn 33 = .ok (.iadd, 1) := by decide +kernel
theorem dX5_passOn_34 : decode cX5_passOn 34 = .ok (.iaload, 1) := by decide +kernel
theorem dX5_passOn_35 : decode cX5_passOn 35 = .ok (.ifCond .le 21, 3) := by decide +kernel
theorem dX5_passOn_38 : decode cX5_passOn 38 = .ok (.aload_n 0, 1) := by decide +kernel
theorem dX5_passOn_39 : decode cX5_passOn 39 = .ok (.getfield 16, 3) := by decide +kernel
theorem dX5_passOn_42 : decode cX5_passOn 42 = .ok (.iload_n 2, 1) := by decide +kernel
theorem dX5_passOn_43 : decode cX5_passOn 43 = .ok (.bipush 6, 2) := by decide +kernel
theorem dX5_passOn_45 : decode cX5_passOn 45 = .ok (.iadd, 1) := by decide +kernel
theorem dX5_passOn_46 : decode cX5_passOn 46 = .ok (.iload_n 3, 1) := by decide +kernel
theorem dX5_passOn_47 : decode cX5_passOn 47 = .ok (.iadd, 1) := by decide +kernel
theorem dX5_passOn_48 : decode cX5_passOn 48 = .ok (.dup2, 1) := by decide +kernel
theorem dX5_passOn_49 : decode cX5_passOn 49 = .ok (.iaload, 1) := by decide +kernel
theorem dX5_passOn_50 : decode cX5_passOn 50 = .ok (.iconst 1, 1) := by decide +kernel
theorem dX5_passOn_51 : decode cX5_passOn 51 = .ok (.isub, 1) := by decide +kernel
theorem dX5_passOn_52 : decode cX5_passOn 52 = .ok (.iastore, 1) := by decide +kernel
theorem dX5_passOn_53 : decode cX5_passOn 53 = .ok (.goto 28, 3) := by decide +kernel
theorem dX5_passOn_56 : decode cX5_passOn 56 = .ok (.aload_n 0, 1) := by decide +kernel
theorem dX5_passOn_57 : decode cX5_passOn 57 = .ok (.getfield 16, 3) := by decide +kernel
theorem dX5_passOn_60 : decode cX5_passOn 60 = .ok (.iload_n 2, 1) := by decide +kernel
theorem dX5_passOn_61 : decode cX5_passOn 61 = .ok (.iload_n 3, 1) := by decide +kernel
theorem dX5_passOn_62 : decode cX5_passOn 62 = .ok (.iadd, 1) := by decide +kernel
theorem dX5_passOn_63 : decode cX5_passOn 63 = .ok (.iaload, 1) := by decide +kernel
theorem dX5_passOn_64 : decode cX5_passOn 64 = .ok (.bipush 99, 2) := by decide +kernel
theorem dX5_passOn_66 : decode cX5_passOn 66 = .ok (.if_icmp .ge 15, 3) := by decide +kernel
theorem dX5_passOn_69 : decode cX5_passOn 69 = .ok (.aload_n 0, 1) := by decide +kernel
theorem dX5_passOn_70 : decode cX5_passOn 70 = .ok (.getfield 16, 3) := by decide +kernel
theorem dX5_passOn_73 : decode cX5_passOn 73 = .ok (.iload_n 2, 1) := by decide +kernel
theorem dX5_passOn_74 : decode cX5_passOn 74 = .ok (.iload_n 3, 1) := by decide +kernel
theorem dX5_passOn_75 : decode cX5_passOn 75 = .ok (.iadd, 1) := by decide +kernel
theorem dX5_passOn_76 : decode cX5_passOn 76 = .ok (.dup2, 1) := by decide +kernel
theorem dX5_passOn_77 : decode cX5_passOn 77 = .ok (.iaload, 1) := by decide +kernel
theorem dX5_passOn_78 : decode cX5_passOn 78 = .ok (.iconst 1, 1) := by decide +kernel
theorem dX5_passOn_79 : decode cX5_passOn 79 = .ok (.iadd, 1) := by decide +kernel
theorem dX5_passOn_80 : decode cX5_passOn 80 = .ok (.iastore, 1) := by decide +kernel
theorem dX5_passOn_81 : decode cX5_passOn 81 = .ok (.iinc 3 1, 3) := by decide +kernel
theorem dX5_passOn_84 : decode cX5_passOn 84 = .ok (.goto (-77), 3) := by decide +kernel
theorem dX5_passOn_87 : decode cX5_passOn 87 = .ok (.aload_n 0, 1) := by decide +kernel
theorem dX5_passOn_88 : decode cX5_passOn 88 = .ok (.getfield 16, 3) := by decide +kernel
theorem dX5_passOn_91 : decode cX5_passOn 91 = .ok (.iload_n 2, 1) := by decide +kernel
theorem dX5_passOn_92 : decode cX5_passOn 92 = .ok (.bipush 14, 2) := by decide +kernel
theorem dX5_passOn_94 : decode cX5_passOn 94 = .ok (.iadd, 1) := by decide +kernel
theorem dX5_passOn_95 : decode cX5_passOn 95 = .ok (.dup2, 1) := by decide +kernel
theorem dX5_passOn_96 : decode cX5_passOn 96 = .ok (.iaload, 1) := by decide +kernel
theorem dX5_passOn_97 : decode cX5_passOn 97 = .ok (.iconst 1, 1) := by decide +kernel
theorem dX5_passOn_98 : decode cX5_passOn 98 = .ok (.iadd, 1) := by decide +kernel
theorem dX5_passOn_99 : decode cX5_passOn 99 = .ok (.iastore, 1) := by decide +kernel
theorem dX5_passOn_100 : decode cX5_passOn 100 = .ok (.aload_n 0, 1) := by decide +kernel
theorem dX5_passOn_101 : decode cX5_passOn 101 = .ok (.getfield 16, 3) := by decide +kernel
theorem dX5_passOn_104 : decode cX5_passOn 104 = .ok (.iload_n 2, 1) := by decide +kernel
theorem dX5_passOn_105 : decode cX5_passOn 105 = .ok (.bipush 15, 2) := by decide +kernel
theorem dX5_passOn_107 : decode cX5_passOn 107 = .ok (.iadd, 1) := by decide +kernel
theorem dX5_passOn_108 : decode cX5_passOn 108 = .ok (.iconst 0, 1) := by decide +kernel
theorem dX5_passOn_109 : decode cX5_passOn 109 = .ok (.iastore, 1) := by decide +kernel
theorem dX5_passOn_110 : decode cX5_passOn 110 = .ok (.return_, 1) := by decide +kernel
theorem dX5_keepAct_0 : decode cX5_keepAct 0 = .ok (.iconst 0, 1) := by decide +kernel
theorem dX5_keepAct_1 : decode cX5_keepAct 1 = .ok (.istore_n 1, 1) := by decide +kernel
theorem dX5_keepAct_2 : decode cX5_keepAct 2 = .ok (.iload_n 1, 1) := by decide +kernel
theorem dX5_keepAct_3 : decode cX5_keepAct 3 = .ok (.bipush 17, 2) := by decide +kernel
theorem dX5_keepAct_5 : decode cX5_keepAct 5 = .ok (.if_icmp .ge 29, 3) := by decide +kernel
theorem dX5_keepAct_8 : decode cX5_keepAct 8 = .ok (.aload_n 0, 1) := by decide +kernel
theorem dX5_keepAct_9 : decode cX5_keepAct 9 = .ok (.getfield 31, 3) := by decide +kernel
theorem dX5_keepAct_12 : decode cX5_keepAct 12 = .ok (.bipush 17, 2) := by decide +kernel
theorem dX5_keepAct_14 : decode cX5_keepAct 14 = .ok (.aload_n 0, 1) := by decide +kernel
theorem dX5_keepAct_15 : decode cX5_keepAct 15 = .ok (.getfield 122, 3) := by decide +kernel
theorem dX5_keepAct_18 : decode cX5_keepAct 18 = .ok (.imul, 1) := by decide +kernel
theorem dX5_keepAct_19 : decode cX5_keepAct 19 = .ok (.iload_n 1, 1) := by decide +kernel
theorem dX5_keepAct_20 : decode cX5_keepAct 20 = .ok (.iadd, 1) := by decide +kernel
theorem dX5_keepAct_21 : decode cX5_keepAct 21 = .ok (.aload_n 0, 1) := by decide +kernel
theorem dX5_keepAct_22 : decode cX5_keepAct 22 = .ok (.getfield 16, 3) := by decide +kernel
theorem dX5_keepAct_25 : decode cX5_keepAct 25 = .ok (.iload_n 1, 1) := by decide +kernel
theorem dX5_keepAct_26 : decode cX5_keepAct 26 = .ok (.iaload, 1) := by decide +kernel
theorem dX5_keepAct_27 : decode cX5_keepAct 27 = .ok (.iastore, 1) := by decide +kernel
theorem dX5_keepAct_28 : decode cX5_keepAct 28 = .ok (.iinc 1 1, 3) := by decide +kernel
theorem dX5_keepAct_31 : decode cX5_keepAct 31 = .ok (.goto (-29), 3) := by decide +kernel
theorem dX5_keepAct_34 : decode cX5_keepAct 34 = .ok (.aload_n 0, 1) := by decide +kernel
theorem dX5_keepAct_35 : decode cX5_keepAct 35 = .ok (.aload_n 0, 1) := by decide +kernel
theorem dX5_keepAct_36 : decode cX5_keepAct 36 = .ok (.getfield 122, 3) := by decide +kernel
theorem dX5_keepAct_39 : decode cX5_keepAct 39 = .ok (.iconst 1, 1) := by decide +kernel
theorem dX5_keepAct_40 : decode cX5_keepAct 40 = .ok (.iadd, 1) := by decide +kernel
theorem dX5_keepAct_41 : decode cX5_keepAct 41 = .ok (.bipush 14, 2) := by decide +kernel
theorem dX5_keepAct_43 : decode cX5_keepAct 43 = .ok (.irem, 1) := by decide +kernel
theorem dX5_keepAct_44 : decode cX5_keepAct 44 = .ok (.putfield 122, 3) := by decide +kernel
theorem dX5_keepAct_47 : decode cX5_keepAct 47 = .ok (.aload_n 0, 1) := by decide +kernel
theorem dX5_keepAct_48 : decode cX5_keepAct 48 = .ok (.aload_n 0, 1) := by decide +kernel
theorem dX5_keepAct_49 : decode cX5_keepAct 49 = .ok (.getfield 102, 3) := by decide +kernel
theorem dX5_keepAct_52 : decode cX5_keepAct 52 = .ok (.bipush 14, 2) := by decide +kernel
theorem dX5_keepAct_54 : decode cX5_keepAct 54 = .ok (.if_icmp .ge 12, 3) := by decide +kernel
theorem dX5_keepAct_57 : decode cX5_keepAct 57 = .ok (.aload_n 0, 1) := by decide +kernel
theorem dX5_keepAct_58 : decode cX5_keepAct 58 = .ok (.getfield 102, 3) := by decide +kernel
theorem dX5_keepAct_61 : decode cX5_keepAct 61 = .ok (.iconst 1, 1) := by decide +kernel
theorem dX5_keepAct_62 : decode cX5_keepAct 62 = .ok (.iadd, 1) := by decide +kernel
theorem dX5_keepAct_63 : decode cX5_keepAct 63 = .ok (.goto 5, 3) := by decide +kernel
theorem dX5_keepAct_66 : decode cX5_keepAct 66 = .ok (.bipush 14, 2) := by decide +kernel
theorem dX5_keepAct_68 : decode cX5_keepAct 68 = .ok (.putfield 102, 3) := by decide +kernel
theorem dX5_keepAct_71 : decode cX5_keepAct 71 = .ok (.return_, 1) := by decide +kernel
theorem dX5_send_0 : decode cX5_send 0 = .ok (.aload_n 0, 1) := by decide +kernel
theorem dX5_send_1 : decode cX5_send 1 = .ok (.iload_n 1, 1) := by decide +kernel
theorem dX5_send_2 : decode cX5_send 2 = .ok (.invokevirtual 112, 3) := by decide +kernel
theorem dX5_send_5 : decode cX5_send 5 = .ok (.ifCond .ne 5, 3) := by decide +kernel
theorem dX5_send_8 : decode cX5_send 8 = .ok (.iconst (-1), 1) := by decide +kernel
theorem dX5_send_9 : decode cX5_send 9 = .ok (.ireturn, 1) := by decide +kernel
theorem dX5_send_10 : decode cX5_send 10 = .ok (.aload_n 0, 1) := by decide +kernel
theorem dX5_send_11 : decode cX5_send 11 = .ok (.iconst 0, 1) := by decide +kernel
theorem dX5_send_12 : decode cX5_send 12 = .ok (.iload_n 1, 1) := by decide +kernel
theorem dX5_send_13 : decode cX5_send 13 = .ok (.invokevirtual 116, 3) := by decide +kernel
theorem dX5_send_16 : decode cX5_send 16 = .ok (.ifCond .eq 6, 3) := by decide +kernel
theorem dX5_send_19 : decode cX5_send 19 = .ok (.bipush (-3), 2) := by decide +kernel
theorem dX5_send_21 : decode cX5_send 21 = .ok (.ireturn, 1) := by decide +kernel
theorem dX5_send_22 : decode cX5_send 22 = .ok (.aload_n 0, 1) := by decide +kernel
theorem dX5_send_23 : decode cX5_send 23 = .ok (.getfield 16, 3) := by decide +kernel
theorem dX5_send_26 : decode cX5_send 26 = .ok (.bipush 15, 2) := by decide +kernel
theorem dX5_send_28 : decode cX5_send 28 = .ok (.iaload, 1) := by decide +kernel
theorem dX5_send_29 : decode cX5_send 29 = .ok (.aload_n 0, 1) := by decide +kernel
theorem dX5_send_30 : decode cX5_send 30 = .ok (.getfield 44, 3) := by decide +kernel
theorem dX5_send_33 : decode cX5_send 33 = .ok (.if_icmp .lt 6, 3) := by decide +kernel
theorem dX5_send_36 : decode cX5_send 36 = .ok (.bipush (-4), 2) := by decide +kernel
theorem dX5_send_38 : decode cX5_send 38 = .ok (.ireturn, 1) := by decide +kernel
theorem dX5_send_39 : decode cX5_send 39 = .ok (.aload_n 0, 1) := by decide +kernel
theorem dX5_send_40 : decode cX5_send 40 = .ok (.invokevirtual 125, 3) := by decide +kernel
theorem dX5_send_43 : decode cX5_send 43 = .ok (.aload_n 0, 1) := by decide +kernel
theorem dX5_send_44 : decode cX5_send 44 = .ok (.iconst 0, 1) := by decide +kernel
theorem dX5_send_45 : decode cX5_send 45 = .ok (.iload_n 1, 1) := by decide +kernel
theorem dX5_send_46 : decode cX5_send 46 = .ok (.invokevirtual 128, 3) := by decide +kernel
theorem dX5_send_49 : decode cX5_send 49 = .ok (.ireturn, 1) := by decide +kernel
theorem dX5_day_0 : decode cX5_day 0 = .ok (.aload_n 0, 1) := by decide +kernel
theorem dX5_day_1 : decode cX5_day 1 = .ok (.invokevirtual 125, 3) := by decide +kernel
theorem dX5_day_4 : decode cX5_day 4 = .ok (.aload_n 0, 1) := by decide +kernel
theorem dX5_day_5 : decode cX5_day 5 = .ok (.iconst 0, 1) := by decide +kernel
theorem dX5_day_6 : decode cX5_day 6 = .ok (.invokevirtual 131, 3) := by decide +kernel
theorem dX5_day_9 : decode cX5_day 9 = .ok (.aload_n 0, 1) := by decide +kernel
theorem dX5_day_10 : decode cX5_day 10 = .ok (.getfield 16, 3) := by decide +kernel
theorem dX5_day_13 : decode cX5_day 13 = .ok (.bipush 14, 2) := by decide +kernel
theorem dX5_day_15 : decode cX5_day 15 = .ok (.iaload, 1) := by decide +kernel
theorem dX5_day_16 : decode cX5_day 16 = .ok (.ireturn, 1) := by decide +kernel
theorem dX5_tear_0 : decode cX5_tear 0 = .ok (.aload_n 0, 1) := by decide +kernel
theorem dX5_tear_1 : decode cX5_tear 1 = .ok (.iload_n 1, 1) := by decide +kernel
theorem dX5_tear_2 : decode cX5_tear 2 = .ok (.invokevirtual 112, 3) := by decide +kernel
theorem dX5_tear_5 : decode cX5_tear 5 = .ok (.ifCond .ne 5, 3) := by decide +kernel
theorem dX5_tear_8 : decode cX5_tear 8 = .ok (.iconst (-1), 1) := by decide +kernel
theorem dX5_tear_9 : decode cX5_tear 9 = .ok (.ireturn, 1) := by decide +kernel
theorem dX5_tear_10 : decode cX5_tear 10 = .ok (.aload_n 0, 1) := by decide +kernel
theorem dX5_tear_11 : decode cX5_tear 11 = .ok (.iconst 0, 1) := by decide +kernel
theorem dX5_tear_12 : decode cX5_tear 12 = .ok (.iload_n 1, 1) := by decide +kernel
theorem dX5_tear_13 : decode cX5_tear 13 = .ok (.invokevirtual 116, 3) := by decide +kernel
theorem dX5_tear_16 : decode cX5_tear 16 = .ok (.ifCond .ne 17, 3) := by decide +kernel
theorem dX5_tear_19 : decode cX5_tear 19 = .ok (.aload_n 0, 1) := by decide +kernel
theorem dX5_tear_20 : decode cX5_tear 20 = .ok (.getfield 16, 3) := by decide +kernel
theorem dX5_tear_23 : decode cX5_tear 23 = .ok (.bipush 12, 2) := by decide +kernel
theorem dX5_tear_25 : decode cX5_tear 25 = .ok (.iaload, 1) := by decide +kernel
theorem dX5_tear_26 : decode cX5_tear 26 = .ok (.iload_n 1, 1) := by decide +kernel
theorem dX5_tear_27 : decode cX5_tear 27 = .ok (.invokestatic 65, 3) := by decide +kernel
theorem dX5_tear_30 : decode cX5_tear 30 = .ok (.ifCond .eq 6, 3) := by decide +kernel
theorem dX5_tear_33 : decode cX5_tear 33 = .ok (.bipush (-3), 2) := by decide +kernel
theorem dX5_tear_35 : decode cX5_tear 35 = .ok (.ireturn, 1) := by decide +kernel
theorem dX5_tear_36 : decode cX5_tear 36 = .ok (.aload_n 0, 1) := by decide +kernel
theorem dX5_tear_37 : decode cX5_tear 37 = .ok (.invokevirtual 125, 3) := by decide +kernel
theorem dX5_tear_40 : decode cX5_tear 40 = .ok (.aload_n 0, 1) := by decide +kernel
theorem dX5_tear_41 : decode cX5_tear 41 = .ok (.getfield 16, 3) := by decide +kernel
theorem dX5_tear_44 : decode cX5_tear 44 = .ok (.iload_n 1, 1) := by decide +kernel
theorem dX5_tear_45 : decode cX5_tear 45 = .ok (.iaload, 1) := by decide +kernel
theorem dX5_tear_46 : decode cX5_tear 46 = .ok (.istore_n 2, 1) := by decide +kernel
theorem dX5_tear_47 : decode cX5_tear 47 = .ok (.aload_n 0, 1) := by decide +kernel
theorem dX5_tear_48 : decode cX5_tear 48 = .ok (.getfield 16, 3) := by decide +kernel
theorem dX5_tear_51 : decode cX5_tear 51 = .ok (.iload_n 1, 1) := by decide +kernel
theorem dX5_tear_52 : decode cX5_tear 52 = .ok (.iconst 0, 1) := by decide +kernel
theorem dX5_tear_53 : decode cX5_tear 53 = .ok (.iastore, 1) := by decide +kernel
theorem dX5_tear_54 : decode cX5_tear 54 = .ok (.aload_n 0, 1) := by decide +kernel
theorem dX5_tear_55 : decode cX5_tear 55 = .ok (.getfield 16, 3) := by decide +kernel
theorem dX5_tear_58 : decode cX5_tear 58 = .ok (.bipush 12, 2) := by decide +kernel
theorem dX5_tear_60 : decode cX5_tear 60 = .ok (.dup2, 1) := by decide +kernel
theorem dX5_tear_61 : decode cX5_tear 61 = .ok (.iaload, 1) := by decide +kernel
theorem dX5_tear_62 : decode cX5_tear 62 = .ok (.iconst 1, 1) := by decide +kernel
theorem dX5_tear_63 : decode cX5_tear 63 = .ok (.iload_n 1, 1) := by decide +kernel
theorem dX5_tear_64 : decode cX5_tear 64 = .ok (.ishl, 1) := by decide +kernel
theorem dX5_tear_65 : decode cX5_tear 65 = .ok (.ior, 1) := by decide +kernel
theorem dX5_tear_66 : decode cX5_tear 66 = .ok (.iastore, 1) := by decide +kernel
theorem dX5_tear_67 : decode cX5_tear 67 = .ok (.iload_n 2, 1) := by decide +kernel
theorem dX5_tear_68 : decode cX5_tear 68 = .ok (.ireturn, 1) := by decide +kernel
theorem dX5_card_0 : decode cX5_card 0 = .ok (.aload_n 0, 1) := by decide +kernel
theorem dX5_card_1 : decode cX5_card 1 = .ok (.iload_n 1, 1) := by decide +kernel
theorem dX5_card_2 : decode cX5_card 2 = .ok (.invokevirtual 112, 3) := by decide +kernel
theorem dX5_card_5 : decode cX5_card 5 = .ok (.ifCond .ne 5, 3) := by decide +kernel
theorem dX5_card_8 : decode cX5_card 8 = .ok (.iconst (-1), 1) := by decide +kernel
theorem dX5_card_9 : decode cX5_card 9 = .ok (.ireturn, 1) := by decide +kernel
theorem dX5_card_10 : decode cX5_card 10 = .ok (.aload_n 0, 1) := by decide +kernel
theorem dX5_card_11 : decode cX5_card 11 = .ok (.iconst 0, 1) := by decide +kernel
theorem dX5_card_12 : decode cX5_card 12 = .ok (.iload_n 1, 1) := by decide +kernel
theorem dX5_card_13 : decode cX5_card 13 = .ok (.invokevirtual 116, 3) := by decide +kernel
theorem dX5_card_16 : decode cX5_card 16 = .ok (.ifCond .ne 15, 3) := by decide +kernel
theorem dX5_card_19 : decode cX5_card 19 = .ok (.aload_n 0, 1) := by decide +kernel
theorem dX5_card_20 : decode cX5_card 20 = .ok (.getfield 16, 3) := by decide +kernel
theorem dX5_card_23 : decode cX5_card 23 = .ok (.bipush 6, 2) := by decide +kernel
theorem dX5_card_25 : decode cX5_card 25 = .ok (.iload_n 1, 1) := by decide +kernel
theorem dX5_card_26 : decode cX5_card 26 = .ok (.iadd, 1) := by decide +kernel
theorem dX5_card_27 : decode cX5_card 27 = .ok (.iaload, 1) := by decide +kernel
theorem dX5_card_28 : decode cX5_card 28 = .ok (.ifCond .le 6, 3) := by decide +kernel
theorem dX5_card_31 : decode cX5_card 31 = .ok (.bipush (-3), 2) := by decide +kernel
theorem dX5_card_33 : decode cX5_card 33 = .ok (.ireturn, 1) := by decide +kernel
theorem dX5_card_34 : decode cX5_card 34 = .ok (.aload_n 0, 1) := by decide +kernel
theorem dX5_card_35 : decode cX5_card 35 = .ok (.invokevirtual 125, 3) := by decide +kernel
theorem dX5_card_38 : decode cX5_card 38 = .ok (.aload_n 0, 1) := by decide +kernel
theorem dX5_card_39 : decode cX5_card 39 = .ok (.getfield 16, 3) := by decide +kernel
theorem dX5_card_42 : decode cX5_card 42 = .ok (.bipush 6, 2) := by decide +kernel
theorem dX5_card_44 : decode cX5_card 44 = .ok (.iload_n 1, 1) := by decide +kernel
theorem dX5_card_45 : decode cX5_card 45 = .ok (.iadd, 1) := by decide +kernel
theorem dX5_card_46 : decode cX5_card 46 = .ok (.iconst 3, 1) := by decide +kernel
theorem dX5_card_47 : decode cX5_card 47 = .ok (.iastore, 1) := by decide +kernel
theorem dX5_card_48 : decode cX5_card 48 = .ok (.aload_n 0, 1) := by decide +kernel
theorem dX5_card_49 : decode cX5_card 49 = .ok (.iconst 0, 1) := by decide +kernel
theorem dX5_card_50 : decode cX5_card 50 = .ok (.iload_n 1, 1) := by decide +kernel
theorem dX5_card_51 : decode cX5_card 51 = .ok (.invokevirtual 119, 3) := by decide +kernel
theorem dX5_card_54 : decode cX5_card 54 = .ok (.ireturn, 1) := by decide +kernel
theorem dX5_undo_0 : decode cX5_undo 0 = .ok (.aload_n 0, 1) := by decide +kernel
theorem dX5_undo_1 : decode cX5_undo 1 = .ok (.getfield 102, 3) := by decide +kernel
theorem dX5_undo_4 : decode cX5_undo 4 = .ok (.ifCond .ne 6, 3) := by decide +kernel
theorem dX5_undo_7 : decode cX5_undo 7 = .ok (.bipush (-3), 2) := by decide +kernel
theorem dX5_undo_9 : decode cX5_undo 9 = .ok (.ireturn, 1) := by decide +kernel
theorem dX5_undo_10 : decode cX5_undo 10 = .ok (.aload_n 0, 1) := by decide +kernel
theorem dX5_undo_11 : decode cX5_undo 11 = .ok (.dup, 1) := by decide +kernel
theorem dX5_undo_12 : decode cX5_undo 12 = .ok (.getfield 102, 3) := by decide +kernel
theorem dX5_undo_15 : decode cX5_undo 15 = .ok (.iconst 1, 1) := by decide +kernel
theorem dX5_undo_16 : decode cX5_undo 16 = .ok (.isub, 1) := by decide +kernel
theorem dX5_undo_17 : decode cX5_undo 17 = .ok (.putfield 102, 3) := by decide +kernel
theorem dX5_undo_20 : decode cX5_undo 20 = .ok (.aload_n 0, 1) := by decide +kernel
theorem dX5_undo_21 : decode cX5_undo 21 = .ok (.aload_n 0, 1) := by decide +kernel
theorem dX5_undo_22 : decode cX5_undo 22 = .ok (.getfield 122, 3) := by decide +kernel
theorem dX5_undo_25 : decode cX5_undo 25 = .ok (.bipush 13, 2) := by decide +kernel
theorem dX5_undo_27 : decode cX5_undo 27 = .ok (.iadd, 1) := by decide +kernel
theorem dX5_undo_28 : decode cX5_undo 28 = .ok (.bipush 14, 2) := by decide +kernel
theorem dX5_undo_30 : decode cX5_undo 30 = .ok (.irem, 1) := by decide +kernel
theorem dX5_undo_31 : decode cX5_undo 31 = .ok (.putfield 122, 3) := by decide +kernel
theorem dX5_undo_34 : decode cX5_undo 34 = .ok (.iconst 0, 1) := by decide +kernel
theorem dX5_undo_35 : decode cX5_undo 35 = .ok (.istore_n 1, 1) := by decide +kernel
theorem dX5_undo_36 : decode cX5_undo 36 = .ok (.iload_n 1, 1) := by decide +kernel
theorem dX5_undo_37 : decode cX5_undo 37 = .ok (.bipush 17, 2) := by decide +kernel
theorem dX5_undo_39 : decode cX5_undo 39 = .ok (.if_icmp .ge 29, 3) := by decide +kernel
theorem dX5_undo_42 : decode cX5_undo 42 = .ok (.aload_n 0, 1) := by decide +kernel
theorem dX5_undo_43 : decode cX5_undo 43 = .ok (.getfield 16, 3) := by decide +kernel
theorem dX5_undo_46 : decode cX5_undo 46 = .ok (.iload_n 1, 1) := by decide +kernel
theorem dX5_undo_47 : decode cX5_undo 47 = .ok (.aload_n 0, 1) := by decide +kernel
theorem dX5_undo_48 : decode cX5_undo 48 = .ok (.getfield 31, 3) := by decide +kernel
theorem dX5_undo_51 : decode cX5_undo 51 = .ok (.bipush 17, 2) := by decide +kernel
theorem dX5_undo_53 : decode cX5_undo 53 = .ok (.aload_n 0, 1) := by decide +kernel
theorem dX5_undo_54 : decode cX5_undo 54 = .ok (.getfield 122, 3) := by decide +kernel
theorem dX5_undo_57 : decode cX5_undo 57 = .ok (.imul, 1) := by decide +kernel
theorem dX5_undo_58 : decode cX5_undo 58 = .ok (.iload_n 1, 1) := by decide +kernel
theorem dX5_undo_59 : decode cX5_undo 59 = .ok (.iadd, 1) := by decide +kernel
theorem dX5_undo_60 : decode cX5_undo 60 = .ok (.iaload, 1) := by decide +kernel
theorem dX5_undo_61 : decode cX5_undo 61 = .ok (.iastore, 1) := by decide +kernel
theorem dX5_undo_62 : decode cX5_undo 62 = .ok (.iinc 1 1, 3) := by decide +kernel
theorem dX5_undo_65 : decode cX5_undo 65 = .ok (.goto (-29), 3) := by decide +kernel
theorem dX5_undo_68 : decode cX5_undo 68 = .ok (.aload_n 0, 1) := by decide +kernel
theorem dX5_undo_69 : decode cX5_undo 69 = .ok (.getfield 102, 3) := by decide +kernel
theorem dX5_undo_72 : decode cX5_undo 72 = .ok (.ireturn, 1) := by decide +kernel
theorem dX5_layTrial_0 : decode cX5_layTrial 0 = .ok (.iconst 0, 1) := by decide +kernel
theorem dX5_layTrial_1 : decode cX5_layTrial 1 = .ok (.istore_n 1, 1) := by decide +kernel
theorem dX5_layTrial_2 : decode cX5_layTrial 2 = .ok (.iload_n 1, 1) := by decide +kernel
theorem dX5_layTrial_3 : decode cX5_layTrial 3 = .ok (.bipush 17, 2) := by decide +kernel
theorem dX5_layTrial_5 : decode cX5_layTrial 5 = .ok (.if_icmp .ge 24, 3) := by decide +kernel
theorem dX5_layTrial_8 : decode cX5_layTrial 8 = .ok (.aload_n 0, 1) := by decide +kernel
theorem dX5_layTrial_9 : decode cX5_layTrial 9 = .ok (.getfield 16, 3) := by decide +kernel
theorem dX5_layTrial_12 : decode cX5_layTrial 12 = .ok (.bipush 17, 2) := by decide +kernel
theorem dX5_layTrial_14 : decode cX5_layTrial 14 = .ok (.iload_n 1, 1) := by decide +kernel
theorem dX5_layTrial_15 : decode cX5_layTrial 15 = .ok (.iadd, 1) := by decide +kernel
theorem dX5_layTrial_16 : decode cX5_layTrial 16 = .ok (.aload_n 0, 1) := by decide +kernel
theorem dX5_layTrial_17 : decode cX5_layTrial 17 = .ok (.getfield 16, 3) := by decide +kernel
theorem dX5_layTrial_20 : decode cX5_layTrial 20 = .ok (.iload_n 1, 1) := by decide +kernel
theorem dX5_layTrial_21 : decode cX5_layTrial 21 = .ok (.iaload, 1) := by decide +kernel
theorem dX5_layTrial_22 : decode cX5_layTrial 22 = .ok (.iastore, 1) := by decide +kernel
theorem dX5_layTrial_23 : decode cX5_layTrial 23 = .ok (.iinc 1 1, 3) := by decide +kernel
theorem dX5_layTrial_26 : decode cX5_layTrial 26 = .ok (.goto (-24), 3) := by decide +kernel
theorem dX5_layTrial_29 : decode cX5_layTrial 29 = .ok (.return_, 1) := by decide +kernel
theorem dX5_priceIn_0 : decode cX5_priceIn 0 = .ok (.aload_n 0, 1) := by decide +kernel
theorem dX5_priceIn_1 : decode cX5_priceIn 1 = .ok (.invokevirtual 135, 3) := by decide +kernel
theorem dX5_priceIn_4 : decode cX5_priceIn 4 = .ok (.iconst 0, 1) := by decide +kernel
theorem dX5_priceIn_5 : decode cX5_priceIn 5 = .ok (.istore_n 3, 1) := by decide +kernel
theorem dX5_priceIn_6 : decode cX5_priceIn 6 = .ok (.iload_n 3, 1) := by decide +kernel
theorem dX5_priceIn_7 : decode cX5_priceIn 7 = .ok (.iload_n 2, 1) := by decide +kernel
theorem dX5_priceIn_8 : decode cX5_priceIn 8 = .ok (.if_icmp .ge 14, 3) := by decide +kernel
theorem dX5_priceIn_11 : decode cX5_priceIn 11 = .ok (.aload_n 0, 1) := by decide +kernel
theorem dX5_priceIn_12 : decode cX5_priceIn 12 = .ok (.iconst 1, 1) := by decide +kernel
theorem dX5_priceIn_13 : decode cX5_priceIn 13 = .ok (.invokevirtual 131, 3) := by decide +kernel
theorem dX5_priceIn_16 : decode cX5_priceIn 16 = .ok (.iinc 3 1, 3) := by decide +kernel
theorem dX5_priceIn_19 : decode cX5_priceIn 19 = .ok (.goto (-13), 3) := by decide +kernel
theorem dX5_priceIn_22 : decode cX5_priceIn 22 = .ok (.aload_n 0, 1) := by decide +kernel
theorem dX5_priceIn_23 : decode cX5_priceIn 23 = .ok (.iconst 1, 1) := by decide +kernel
theorem dX5_priceIn_24 : decode cX5_priceIn 24 = .ok (.iload_n 1, 1) := by decide +kernel
theorem dX5_priceIn_25 : decode cX5_priceIn 25 = .ok (.invokevirtual 119, 3) := by decide +kernel
theorem dX5_priceIn_28 : decode cX5_priceIn 28 = .ok (.ireturn, 1) := by decide +kernel
theorem dX5_price_0 : decode cX5_price 0 = .ok (.aload_n 0, 1) := by decide +kernel
theorem dX5_price_1 : decode cX5_price 1 = .ok (.iload_n 1, 1) := by decide +kernel
theorem dX5_price_2 : decode cX5_price 2 = .ok (.invokevirtual 112, 3) := by decide +kernel
theorem dX5_price_5 : decode cX5_price 5 = .ok (.ifCond .ne 5, 3) := by decide +kernel
theorem dX5_price_8 : decode cX5_price 8 = .ok (.iconst (-1), 1) := by decide +kernel
theorem dX5_price_9 : decode cX5_price 9 = .ok (.ireturn, 1) := by decide +kernel
theorem dX5_price_10 : decode cX5_price 10 = .ok (.iload_n 2, 1) := by decide +kernel
theorem dX5_price_11 : decode cX5_price 11 = .ok (.i2l, 1) := by decide +kernel
theorem dX5_price_12 : decode cX5_price 12 = .ok (.lconst 0, 1) := by decide +kernel
theorem dX5_price_13 : decode cX5_price 13 = .ok (.ldc2_w 63, 3) := by decide +kernel
theorem dX5_price_16 : decode cX5_price 16 = .ok (.invokestatic 50, 3) := by decide +kernel
theorem dX5_price_19 : decode cX5_price 19 = .ok (.ifCond .ne 6, 3) := by decide +kernel
theorem dX5_price_22 : decode cX5_price 22 = .ok (.bipush (-2), 2) := by decide +kernel
theorem dX5_price_24 : decode cX5_price 24 = .ok (.ireturn, 1) := by decide +kernel
theorem dX5_price_25 : decode cX5_price 25 = .ok (.aload_n 0, 1) := by decide +kernel
theorem dX5_price_26 : decode cX5_price 26 = .ok (.iconst 0, 1) := by decide +kernel
theorem dX5_price_27 : decode cX5_price 27 = .ok (.iload_n 1, 1) := by decide +kernel
theorem dX5_price_28 : decode cX5_price 28 = .ok (.invokevirtual 116, 3) := by decide +kernel
theorem dX5_price_31 : decode cX5_price 31 = .ok (.ifCond .eq 8, 3) := by decide +kernel
theorem dX5_price_34 : decode cX5_price 34 = .ok (.bipush (-3), 2) := by decide +kernel
theorem dX5_price_36 : decode cX5_price 36 = .ok (.goto 9, 3) := by decide +kernel
theorem dX5_price_39 : decode cX5_price 39 = .ok (.aload_n 0, 1) := by decide +kernel
theorem dX5_price_40 : decode cX5_price 40 = .ok (.iload_n 1, 1) := by decide +kernel
theorem dX5_price_41 : decode cX5_price 41 = .ok (.iload_n 2, 1) := by decide +kernel
theorem dX5_price_42 : decode cX5_price 42 = .ok (.invokevirtual 138, 3) := by decide +kernel
theorem dX5_price_45 : decode cX5_price 45 = .ok (.ireturn, 1) := by decide +kernel
theorem dX5_cheapest_0 : decode cX5_cheapest 0 = .ok (.aload_n 0, 1) := by decide +kernel
theorem dX5_cheapest_1 : decode cX5_cheapest 1 = .ok (.iload_n 1, 1) := by decide +kernel
theorem dX5_cheapest_2 : decode cX5_cheapest 2 = .ok (.invokevirtual 112, 3) := by decide +kernel
theorem dX5_cheapest_5 : decode cX5_cheapest 5 = .ok (.ifCond .ne 5, 3) := by decide +kernel
theorem dX5_cheapest_8 : decode cX5_cheapest 8 = .ok (.iconst (-1), 1) := by decide +kernel
theorem dX5_cheapest_9 : decode cX5_cheapest 9 = .ok (.ireturn, 1) := by decide +kernel
theorem dX5_cheapest_10 : decode cX5_cheapest 10 = .ok (.aload_n 0, 1) := by decide +kernel
theorem dX5_cheapest_11 : decode cX5_cheapest 11 = .ok (.iconst 0, 1) := by decide +kernel
theorem dX5_cheapest_12 : decode cX5_cheapest 12 = .ok (.iload_n 1, 1) := by decide +kernel
theorem dX5_cheapest_13 : decode cX5_cheapest 13 = .ok (.invokevirtual 116, 3) := by decide +kernel
theorem dX5_cheapest_16 : decode cX5_cheapest 16 = .ok (.ifCond .eq 6, 3) := by decide +kernel
theorem dX5_cheapest_19 : decode cX5_cheapest 19 = .ok (.bipush (-3), 2) := by decide +kernel
theorem dX5_cheapest_21 : decode cX5_cheapest 21 = .ok (.ireturn, 1) := by decide +kernel
theorem dX5_cheapest_22 : decode cX5_cheapest 22 = .ok (.iconst 0, 1) := by decide +kernel
theorem dX5_cheapest_23 : decode cX5_cheapest 23 = .ok (.istore_n 2, 1) := by decide +kernel
theorem dX5_cheapest_24 : decode cX5_cheapest 24 = .ok (.iconst 1, 1) := by decide +kernel
theorem dX5_cheapest_25 : decode cX5_cheapest 25 = .ok (.istore_n 3, 1) := by decide +kernel
theorem dX5_cheapest_26 : decode cX5_cheapest 26 = .ok (.iload_n 3, 1) := by decide +kernel
theorem dX5_cheapest_27 : decode cX5_cheapest 27 = .ok (.bipush 10, 2) := by decide +kernel
theorem dX5_cheapest_29 : decode cX5_cheapest 29 = .ok (.if_icmp .ge 30, 3) := by decide +kernel
theorem dX5_cheapest_32 : decode cX5_cheapest 32 = .ok (.aload_n 0, 1) := by decide +kernel
theorem dX5_cheapest_33 : decode cX5_cheapest 33 = .ok (.iload_n 1, 1) := by decide +kernel
theorem dX5_cheapest_34 : decode cX5_cheapest 34 = .ok (.iload_n 3, 1) := by decide +kernel
theorem dX5_cheapest_35 : decode cX5_cheapest 35 = .ok (.invokevirtual 138, 3) := by decide +kernel
theorem dX5_cheapest_38 : decode cX5_cheapest 38 = .ok (.aload_n 0, 1) := by decide +kernel
theorem dX5_cheapest_39 : decode cX5_cheapest 39 = .ok (.iload_n 1, 1) := by decide +kernel
theorem dX5_cheapest_40 : decode cX5_cheapest 40 = .ok (.iload_n 2, 1) := by decide +kernel
theorem dX5_cheapest_41 : decode cX5_cheapest 41 = .ok (.invokevirtual 138, 3) := by decide +kernel
theorem dX5_cheapest_44 : decode cX5_cheapest 44 = .ok (.if_icmp .ge 7, 3) := by decide +kernel
theorem dX5_cheapest_47 : decode cX5_cheapest 47 = .ok (.iload_n 3, 1) := by decide +kernel
theorem dX5_cheapest_48 : decode cX5_cheapest 48 = .ok (.goto 4, 3) := by decide +kernel
theorem dX5_cheapest_51 : decode cX5_cheapest 51 = .ok (.iload_n 2, 1) := by decide +kernel
theorem dX5_cheapest_52 : decode cX5_cheapest 52 = .ok (.istore_n 2, 1) := by decide +kernel
theorem dX5_cheapest_53 : decode cX5_cheapest 53 = .ok (.iinc 3 1, 3) := by decide +kernel
theorem dX5_cheapest_56 : decode cX5_cheapest 56 = .ok (.goto (-30), 3) := by decide +kernel
theorem dX5_cheapest_59 : decode cX5_cheapest 59 = .ok (.iload_n 2, 1) := by decide +kernel
theorem dX5_cheapest_60 : decode cX5_cheapest 60 = .ok (.ireturn, 1) := by decide +kernel
theorem dX5_fours_0 : decode cX5_fours 0 = .ok (.iconst 1, 1) := by decide +kernel
theorem dX5_fours_1 : decode cX5_fours 1 = .ok (.iconst 2, 1) := by decide +kernel
theorem dX5_fours_2 : decode cX5_fours 2 = .ok (.iload_n 0, 1) := by decide +kernel
theorem dX5_fours_3 : decode cX5_fours 3 = .ok (.imul, 1) := by decide +kernel
theorem dX5_fours_4 : decode cX5_fours 4 = .ok (.ishl, 1) := by decide +kernel
theorem dX5_fours_5 : decode cX5_fours 5 = .ok (.ireturn, 1) := by decide +kernel
theorem dX5_dayOf_0 : decode cX5_dayOf 0 = .ok (.iload_n 0, 1) := by decide +kernel
theorem dX5_dayOf_1 : decode cX5_dayOf 1 = .ok (.iload_n 1, 1) := by decide +kernel
theorem dX5_dayOf_2 : decode cX5_dayOf 2 = .ok (.iconst 1, 1) := by decide +kernel
theorem dX5_dayOf_3 : decode cX5_dayOf 3 = .ok (.isub, 1) := by decide +kernel
theorem dX5_dayOf_4 : decode cX5_dayOf 4 = .ok (.iload_n 2, 1) := by decide +kernel
theorem dX5_dayOf_5 : decode cX5_dayOf 5 = .ok (.isub, 1) := by decide +kernel
theorem dX5_dayOf_6 : decode cX5_dayOf 6 = .ok (.invokestatic 141, 3) := by decide +kernel
theorem dX5_dayOf_9 : decode cX5_dayOf 9 = .ok (.idiv, 1) := by decide +kernel
theorem dX5_dayOf_10 : decode cX5_dayOf 10 = .ok (.iconst 4, 1) := by decide +kernel
theorem dX5_dayOf_11 : decode cX5_dayOf 11 = .ok (.irem, 1) := by decide +kernel
theorem dX5_dayOf_12 : decode cX5_dayOf 12 = .ok (.ireturn, 1) := by decide +kernel
theorem dX5_paidBy_0 : decode cX5_paidBy 0 = .ok (.aload_n 0, 1) := by decide +kernel
theorem dX5_paidBy_1 : decode cX5_paidBy 1 = .ok (.invokevirtual 135, 3) := by decide +kernel
theorem dX5_paidBy_4 : decode cX5_paidBy 4 = .ok (.iload_n 1, 1) := by decide +kernel
theorem dX5_paidBy_5 : decode cX5_paidBy 5 = .ok (.invokestatic 105, 3) := by decide +kernel
theorem dX5_paidBy_8 : decode cX5_paidBy 8 = .ok (.istore_n 3, 1) := by decide +kernel
theorem dX5_paidBy_9 : decode cX5_paidBy 9 = .ok (.iconst 0, 1) := by decide +kernel
theorem dX5_paidBy_10 : decode cX5_paidBy 10 = .ok (.istore 4, 2) := by decide +kernel
theorem dX5_paidBy_12 : decode cX5_paidBy 12 = .ok (.iload 4, 2) := by decide +kernel
theorem dX5_paidBy_14 : decode cX5_paidBy 14 = .ok (.iconst 4, 1) := by decide +kernel
theorem dX5_paidBy_15 : decode cX5_paidBy 15 = .ok (.if_icmp .ge 97, 3) := by decide +kernel
theorem dX5_paidBy_18 : decode cX5_paidBy 18 = .ok (.iconst 0, 1) := by decide +kernel
theorem dX5_paidBy_19 : decode cX5_paidBy 19 = .ok (.istore 5, 2) := by decide +kernel
theorem dX5_paidBy_21 : decode cX5_paidBy 21 = .ok (.iconst 0, 1) := by decide +kernel
theorem dX5_paidBy_22 : decode cX5_paidBy 22 = .ok (.istore 6, 2) := by decide +kernel
theorem dX5_paidBy_24 : decode cX5_paidBy 24 = .ok (.iload 6, 2) := by decide +kernel
theorem dX5_paidBy_26 : decode cX5_paidBy 26 = .ok (.aload_n 0, 1) := by decide +kernel
theorem dX5_paidBy_27 : decode cX5_paidBy 27 = .ok (.getfield 96, 3) := by decide +kernel
theorem dX5_paidBy_30 : decode cX5_paidBy 30 = .ok (.if_icmp .ge 71, 3) := by decide +kernel
theorem dX5_paidBy_33 : decode cX5_paidBy 33 = .ok (.iload_n 1, 1) := by decide +kernel
theorem dX5_paidBy_34 : decode cX5_paidBy 34 = .ok (.iload 6, 2) := by decide +kernel
theorem dX5_paidBy_36 : decode cX5_paidBy 36 = .ok (.invokestatic 65, 3) := by decide +kernel
theorem dX5_paidBy_39 : decode cX5_paidBy 39 = .ok (.ifCond .eq 56, 3) := by decide +kernel
theorem dX5_paidBy_42 : decode cX5_paidBy 42 = .ok (.iload_n 2, 1) := by decide +kernel
theorem dX5_paidBy_43 : decode cX5_paidBy 43 = .ok (.iload_n 3, 1) := by decide +kernel
theorem dX5_paidBy_44 : decode cX5_paidBy 44 = .ok (.iload 5, 2) := by decide +kernel
theorem dX5_paidBy_46 : decode cX5_paidBy 46 = .ok (.invokestatic 144, 3) := by decide +kernel
theorem dX5_paidBy_49 : decode cX5_paidBy 49 = .ok (.iload 4, 2) := by decide +kernel
theorem dX5_paidBy_51 : decode cX5_paidBy 51 = .ok (.if_icmp .ne 7, 3) := by decide +kernel
theorem dX5_paidBy_54 : decode cX5_paidBy 54 = .ok (.iconst 1, 1) := by decide +kernel
theorem dX5_paidBy_55 : decode cX5_paidBy 55 = .ok (.goto 4, 3) := by decide +kernel
theorem dX5_paidBy_58 : decode cX5_paidBy 58 = .ok (.iconst 0, 1) := by decide +kernel
theorem dX5_paidBy_59 : decode cX5_paidBy 59 = .ok (.istore 7, 2) := by decide +kernel
theorem dX5_paidBy_61 : decode cX5_paidBy 61 = .ok (.iinc 5 1, 3) := by decide +kernel
theorem dX5_paidBy_64 : decode cX5_paidBy 64 = .ok (.iload 7, 2) := by decide +kernel
theorem dX5_paidBy_66 : decode cX5_paidBy 66 = .ok (.ifCond .eq 16, 3) := by decide +kernel
theorem dX5_paidBy_69 : decode cX5_paidBy 69 = .ok (.aload_n 0, 1) := by decide +kernel
theorem dX5_paidBy_70 : decode cX5_paidBy 70 = .ok (.iconst 1, 1) := by decide +kernel
theorem dX5_paidBy_71 : decode cX5_paidBy 71 = .ok (.iload 6, 2) := by decide +kernel
theorem dX5_paidBy_73 : decode cX5_paidBy 73 = .ok (.invokevirtual 148, 3) := by decide +kernel
theorem dX5_paidBy_76 : decode cX5_paidBy 76 = .ok (.ifCond .ne 6, 3) := by decide +kernel
theorem dX5_paidBy_79 : decode cX5_paidBy 79 = .ok (.bipush (-9), 2) := by decide +kernel
theorem dX5_paidBy_81 : decode cX5_paidBy 81 = .ok (.ireturn, 1) := by decide +kernel
theorem dX5_paidBy_82 : decode cX5_paidBy 82 = .ok (.iload 7, 2) := by decide +kernel
theorem dX5_paidBy_84 : decode cX5_paidBy 84 = .ok (.ifCond .eq 11, 3) := by decide +kernel
theorem dX5_paidBy_87 : decode cX5_paidBy 87 = .ok (.aload_n 0, 1) := by decide +kernel
theorem dX5_paidBy_88 : decode cX5_paidBy 88 = .ok (.iconst 1, 1) := by decide +kernel
theorem dX5_paidBy_89 : decode cX5_paidBy 89 = .ok (.iload 6, 2) := by decide +kernel
theorem dX5_paidBy_91 : decode cX5_paidBy 91 = .ok (.invokevirtual 128, 3) := by decide +kernel
theorem dX5_paidBy_94 : decode cX5_paidBy 94 = .ok (.pop, 1) := by decide +kernel
theorem dX5_paidBy_95 : decode cX5_paidBy 95 = .ok (.iinc 6 1, 3) := by decide +kernel
theorem dX5_paidBy_98 : decode cX5_paidBy 98 = .ok (.goto (-74), 3) := by decide +kernel
theorem dX5_paidBy_101 : decode cX5_paidBy 101 = .ok (.aload_n 0, 1) := by decide +kernel
theorem dX5_paidBy_102 : decode cX5_paidBy 102 = .ok (.iconst 1, 1) := by decide +kernel
theorem dX5_paidBy_103 : decode cX5_paidBy 103 = .ok (.invokevirtual 131, 3) := by decide +kernel
theorem dX5_paidBy_106 : decode cX5_paidBy 106 = .ok (.iinc 4 1, 3) := by decide +kernel
theorem dX5_paidBy_109 : decode cX5_paidBy 109 = .ok (.goto (-97), 3) := by decide +kernel
theorem dX5_paidBy_112 : decode cX5_paidBy 112 = .ok (.aload_n 0, 1) := by decide +kernel
theorem dX5_paidBy_113 : decode cX5_paidBy 113 = .ok (.getfield 16, 3) := by decide +kernel
theorem dX5_paidBy_116 : decode cX5_paidBy 116 = .ok (.bipush 33, 2) := by decide +kernel
theorem dX5_paidBy_118 : decode cX5_paidBy 118 = .ok (.iaload, 1) := by decide +kernel
theorem dX5_paidBy_119 : decode cX5_paidBy 119 = .ok (.aload_n 0, 1) := by decide +kernel
theorem dX5_paidBy_120 : decode cX5_paidBy 120 = .ok (.getfield 16, 3) := by decide +kernel
theorem dX5_paidBy_123 : decode cX5_paidBy 123 = .ok (.bipush 16, 2) := by decide +kernel
theorem dX5_paidBy_125 : decode cX5_paidBy 125 = .ok (.iaload, 1) := by decide +kernel
theorem dX5_paidBy_126 : decode cX5_paidBy 126 = .ok (.isub, 1) := by decide +kernel
theorem dX5_paidBy_127 : decode cX5_paidBy 127 = .ok (.ireturn, 1) := by decide +kernel
theorem dX5_leastOf_0 : decode cX5_leastOf 0 = .ok (.bipush (-9), 2) := by decide +kernel
theorem dX5_leastOf_2 : decode cX5_leastOf 2 = .ok (.istore_n 2, 1) := by decide +kernel
theorem dX5_leastOf_3 : decode cX5_leastOf 3 = .ok (.aload_n 0, 1) := by decide +kernel
theorem dX5_leastOf_4 : decode cX5_leastOf 4 = .ok (.bipush (-9), 2) := by decide +kernel
theorem dX5_leastOf_6 : decode cX5_leastOf 6 = .ok (.putfield 151, 3) := by decide +kernel
theorem dX5_leastOf_9 : decode cX5_leastOf 9 = .ok (.iconst 0, 1) := by decide +kernel
theorem dX5_leastOf_10 : decode cX5_leastOf 10 = .ok (.istore_n 3, 1) := by decide +kernel
theorem dX5_leastOf_11 : decode cX5_leastOf 11 = .ok (.iload_n 3, 1) := by decide +kernel
theorem dX5_leastOf_12 : decode cX5_leastOf 12 = .ok (.iload_n 1, 1) := by decide +kernel
theorem dX5_leastOf_13 : decode cX5_leastOf 13 = .ok (.invokestatic 105, 3) := by decide +kernel
theorem dX5_leastOf_16 : decode cX5_leastOf 16 = .ok (.invokestatic 141, 3) := by decide +kernel
theorem dX5_leastOf_19 : decode cX5_leastOf 19 = .ok (.if_icmp .ge 44, 3) := by decide +kernel
theorem dX5_leastOf_22 : decode cX5_leastOf 22 = .ok (.aload_n 0, 1) := by decide +kernel
theorem dX5_leastOf_23 : decode cX5_leastOf 23 = .ok (.iload_n 1, 1) := by decide +kernel
theorem dX5_leastOf_24 : decode cX5_leastOf 24 = .ok (.iload_n 3, 1) := by decide +kernel
theorem dX5_leastOf_25 : decode cX5_leastOf 25 = .ok (.invokevirtual 154, 3) := by decide +kernel
theorem dX5_leastOf_28 : decode cX5_leastOf 28 = .ok (.istore 4, 2) := by decide +kernel
theorem dX5_leastOf_30 : decode cX5_leastOf 30 = .ok (.iload 4, 2) := by decide +kernel
theorem dX5_leastOf_32 : decode cX5_leastOf 32 = .ok (.bipush (-9), 2) := by decide +kernel
theorem dX5_leastOf_34 : decode cX5_leastOf 34 = .ok (.if_icmp .eq 23, 3) := by decide +kernel
theorem dX5_leastOf_37 : decode cX5_leastOf 37 = .ok (.iload_n 2, 1) := by decide +kernel
theorem dX5_leastOf_38 : decode cX5_leastOf 38 = .ok (.bipush (-9), 2) := by decide +kernel
theorem dX5_leastOf_40 : decode cX5_leastOf 40 = .ok (.if_icmp .eq 9, 3) := by decide +kernel
theorem dX5_leastOf_43 : decode cX5_leastOf 43 = .ok (.iload 4, 2) := by decide +kernel
theorem dX5_leastOf_45 : decode cX5_leastOf 45 = .ok (.iload_n 2, 1) := by decide +kernel
theorem dX5_leastOf_46 : decode cX5_leastOf 46 = .ok (.if_icmp .ge 11, 3) := by decide +kernel
theorem dX5_leastOf_49 : decode cX5_leastOf 49 = .ok (.iload 4, 2) := by decide +kernel
theorem dX5_leastOf_51 : decode cX5_leastOf 51 = .ok (.istore_n 2, 1) := by decide +kernel
theorem dX5_leastOf_52 : decode cX5_leastOf 52 = .ok (.aload_n 0, 1) := by decide +kernel
theorem dX5_leastOf_53 : decode cX5_leastOf 53 = .ok (.iload_n 3, 1) := by decide +kernel
theorem dX5_leastOf_54 : decode cX5_leastOf 54 = .ok (.putfield 151, 3) := by decide +kernel
theorem dX5_leastOf_57 : decode cX5_leastOf 57 = .ok (.iinc 3 1, 3) := by decide +kernel
theorem dX5_leastOf_60 : decode cX5_leastOf 60 = .ok (.goto (-49), 3) := by decide +kernel
theorem dX5_leastOf_63 : decode cX5_leastOf 63 = .ok (.iload_n 2, 1) := by decide +kernel
theorem dX5_leastOf_64 : decode cX5_leastOf 64 = .ok (.ireturn, 1) := by decide +kernel
theorem dX5_plan_0 : decode cX5_plan 0 = .ok (.iload_n 1, 1) := by decide +kernel
theorem dX5_plan_1 : decode cX5_plan 1 = .ok (.i2l, 1) := by decide +kernel
theorem dX5_plan_2 : decode cX5_plan 2 = .ok (.lconst 0, 1) := by decide +kernel
theorem dX5_plan_3 : decode cX5_plan 3 = .ok (.iconst 1, 1) := by decide +kernel
theorem dX5_plan_4 : decode cX5_plan 4 = .ok (.aload_n 0, 1) := by decide +kernel
theorem dX5_plan_5 : decode cX5_plan 5 = .ok (.getfield 96, 3) := by decide +kernel
theorem dX5_plan_8 : decode cX5_plan 8 = .ok (.ishl, 1) := by decide +kernel
theorem dX5_plan_9 : decode cX5_plan 9 = .ok (.iconst 1, 1) := by decide +kernel
theorem dX5_plan_10 : decode cX5_plan 10 = .ok (.isub, 1) := by decide +kernel
theorem dX5_plan_11 : decode cX5_plan 11 = .ok (.i2l, 1) := by decide +kernel
theorem dX5_plan_12 : decode cX5_plan 12 = .ok (.invokestatic 50, 3) := by decide +kernel
theorem dX5_plan_15 : decode cX5_plan 15 = .ok (.ifCond .ne 6, 3) := by decide +kernel
theorem dX5_plan_18 : decode cX5_plan 18 = .ok (.bipush (-2), 2) := by decide +kernel
theorem dX5_plan_20 : decode cX5_plan 20 = .ok (.ireturn, 1) := by decide +kernel
theorem dX5_plan_21 : decode cX5_plan 21 = .ok (.iload_n 1, 1) := by decide +kernel
theorem dX5_plan_22 : decode cX5_plan 22 = .ok (.aload_n 0, 1) := by decide +kernel
theorem dX5_plan_23 : decode cX5_plan 23 = .ok (.getfield 16, 3) := by decide +kernel
theorem dX5_plan_26 : decode cX5_plan 26 = .ok (.bipush 13, 2) := by decide +kernel
theorem dX5_plan_28 : decode cX5_plan 28 = .ok (.iaload, 1) := by decide +kernel
theorem dX5_plan_29 : decode cX5_plan 29 = .ok (.iand, 1) := by decide +kernel
theorem dX5_plan_30 : decode cX5_plan 30 = .ok (.ifCond .eq 6, 3) := by decide +kernel
theorem dX5_plan_33 : decode cX5_plan 33 = .ok (.bipush (-3), 2) := by decide +kernel
theorem dX5_plan_35 : decode cX5_plan 35 = .ok (.ireturn, 1) := by decide +kernel
theorem dX5_plan_36 : decode cX5_plan 36 = .ok (.aload_n 0, 1) := by decide +kernel
theorem dX5_plan_37 : decode cX5_plan 37 = .ok (.iload_n 1, 1) := by decide +kernel
theorem dX5_plan_38 : decode cX5_plan 38 = .ok (.invokevirtual 157, 3) := by decide +kernel
theorem dX5_plan_41 : decode cX5_plan 41 = .ok (.istore_n 3, 1) := by decide +kernel
theorem dX5_plan_42 : decode cX5_plan 42 = .ok (.iload_n 2, 1) := by decide +kernel
theorem dX5_plan_43 : decode cX5_plan 43 = .ok (.ifCond .eq 9, 3) := by decide +kernel
theorem dX5_plan_46 : decode cX5_plan 46 = .ok (.iload_n 3, 1) := by decide +kernel
theorem dX5_plan_47 : decode cX5_plan 47 = .ok (.bipush (-9), 2) := by decide +kernel
theorem dX5_plan_49 : decode cX5_plan 49 = .ok (.if_icmp .ne 5, 3) := by decide +kernel
theorem dX5_plan_52 : decode cX5_plan 52 = .ok (.iload_n 3, 1) := by decide +kernel
theorem dX5_plan_53 : decode cX5_plan 53 = .ok (.ireturn, 1) := by decide +kernel
theorem dX5_plan_54 : decode cX5_plan 54 = .ok (.iconst 0, 1) := by decide +kernel
theorem dX5_plan_55 : decode cX5_plan 55 = .ok (.istore 4, 2) := by decide +kernel
theorem dX5_plan_57 : decode cX5_plan 57 = .ok (.iconst 0, 1) := by decide +kernel
theorem dX5_plan_58 : decode cX5_plan 58 = .ok (.istore 5, 2) := by decide +kernel
theorem dX5_plan_60 : decode cX5_plan 60 = .ok (.iload 5, 2) := by decide +kernel
theorem dX5_plan_62 : decode cX5_plan 62 = .ok (.iload_n 1, 1) := by decide +kernel
theorem dX5_plan_63 : decode cX5_plan 63 = .ok (.invokestatic 105, 3) := by decide +kernel
theorem dX5_plan_66 : decode cX5_plan 66 = .ok (.if_icmp .ge 30, 3) := by decide +kernel
theorem dX5_plan_69 : decode cX5_plan 69 = .ok (.bipush 10, 2) := by decide +kernel
theorem dX5_plan_71 : decode cX5_plan 71 = .ok (.iload 4, 2) := by decide +kernel
theorem dX5_plan_73 : decode cX5_plan 73 = .ok (.imul, 1) := by decide +kernel
theorem dX5_plan_74 : decode cX5_plan 74 = .ok (.aload_n 0, 1) := by decide +kernel
theorem dX5_plan_75 : decode cX5_plan 75 = .ok (.getfield 151, 3) := by decide +kernel
theorem dX5_plan_78 : decode cX5_plan 78 = .ok (.iload_n 1, 1) := by decide +kernel
theorem dX5_plan_79 : decode cX5_plan 79 = .ok (.invokestatic 105, 3) := by decide +kernel
theorem dX5_plan_82 : decode cX5_plan 82 = .ok (.iload 5, 2) := by decide +kernel
theorem dX5_plan_84 : decode cX5_plan 84 = .ok (.invokestatic 144, 3) := by decide +kernel
theorem dX5_plan_87 : decode cX5_plan 87 = .ok (.iadd, 1) := by decide +kernel
theorem dX5_plan_88 : decode cX5_plan 88 = .ok (.istore 4, 2) := by decide +kernel
theorem dX5_plan_90 : decode cX5_plan 90 = .ok (.iinc 5 1, 3) := by decide +kernel
theorem dX5_plan_93 : decode cX5_plan 93 = .ok (.goto (-33), 3) := by decide +kernel
theorem dX5_plan_96 : decode cX5_plan 96 = .ok (.iload 4, 2) := by decide +kernel
theorem dX5_plan_98 : decode cX5_plan 98 = .ok (.ireturn, 1) := by decide +kernel
theorem dX5_order_0 : decode cX5_order 0 = .ok (.iconst 1, 1) := by decide +kernel
theorem dX5_order_1 : decode cX5_order 1 = .ok (.aload_n 0, 1) := by decide +kernel
theorem dX5_order_2 : decode cX5_order 2 = .ok (.getfield 96, 3) := by decide +kernel
theorem dX5_order_5 : decode cX5_order 5 = .ok (.ishl, 1) := by decide +kernel
theorem dX5_order_6 : decode cX5_order 6 = .ok (.iconst 1, 1) := by decide +kernel
theorem dX5_order_7 : decode cX5_order 7 = .ok (.isub, 1) := by decide +kernel
theorem dX5_order_8 : decode cX5_order 8 = .ok (.aload_n 0, 1) := by decide +kernel
theorem dX5_order_9 : decode cX5_order 9 = .ok (.getfield 16, 3) := by decide +kernel
theorem dX5_order_12 : decode cX5_order 12 = .ok (.bipush 13, 2) := by decide +kernel
theorem dX5_order_14 : decode cX5_order 14 = .ok (.iaload, 1) := by decide +kernel
theorem dX5_order_15 : decode cX5_order 15 = .ok (.iconst (-1), 1) := by decide +kernel
theorem dX5_order_16 : decode cX5_order 16 = .ok (.ixor, 1) := by decide +kernel
theorem dX5_order_17 : decode cX5_order 17 = .ok (.iand, 1) := by decide +kernel
theorem dX5_order_18 : decode cX5_order 18 = .ok (.istore_n 1, 1) := by decide +kernel
theorem dX5_order_19 : decode cX5_order 19 = .ok (.iload_n 1, 1) := by decide +kernel
theorem dX5_order_20 : decode cX5_order 20 = .ok (.ifCond .ne 8, 3) := by decide +kernel
theorem dX5_order_23 : decode cX5_order 23 = .ok (.bipush (-9), 2) := by decide +kernel
theorem dX5_order_25 : decode cX5_order 25 = .ok (.goto 4, 3) := by decide +kernel
theorem dX5_order_28 : decode cX5_order 28 = .ok (.iconst 0, 1) := by decide +kernel
theorem dX5_order_29 : decode cX5_order 29 = .ok (.istore_n 2, 1) := by decide +kernel
theorem dX5_order_30 : decode cX5_order 30 = .ok (.iload_n 1, 1) := by decide +kernel
theorem dX5_order_31 : decode cX5_order 31 = .ok (.ifCond .eq 82, 3) := by decide +kernel
theorem dX5_order_34 : decode cX5_order 34 = .ok (.bipush (-9), 2) := by decide +kernel
theorem dX5_order_36 : decode cX5_order 36 = .ok (.istore_n 3, 1) := by decide +kernel
theorem dX5_order_37 : decode cX5_order 37 = .ok (.aload_n 0, 1) := by decide +kernel
theorem dX5_order_38 : decode cX5_order 38 = .ok (.getfield 96, 3) := by decide +kernel
theorem dX5_order_41 : decode cX5_order 41 = .ok (.iconst 1, 1) := by decide +kernel
theorem dX5_order_42 : decode cX5_order 42 = .ok (.isub, 1) := by decide +kernel
theorem dX5_order_43 : decode cX5_order 43 = .ok (.istore 4, 2) := by decide +kernel
theorem dX5_order_45 : decode cX5_order 45 = .ok (.iload 4, 2) := by decide +kernel
theorem dX5_order_47 : decode cX5_order 47 = .ok (.ifCond .lt 37, 3) := by decide +kernel
theorem dX5_order_50 : decode cX5_order 50 = .ok (.iload_n 1, 1) := by decide +kernel
theorem dX5_order_51 : decode cX5_order 51 = .ok (.iload 4, 2) := by decide +kernel
theorem dX5_order_53 : decode cX5_order 53 = .ok (.invokestatic 65, 3) := by decide +kernel
theorem dX5_order_56 : decode cX5_order 56 = .ok (.ifCond .eq 20, 3) := by decide +kernel
theorem dX5_order_59 : decode cX5_order 59 = .ok (.aload_n 0, 1) := by decide +kernel
theorem dX5_order_60 : decode cX5_order 60 = .ok (.getfield 13, 3) := by decide +kernel
theorem dX5_order_63 : decode cX5_order 63 = .ok (.iload 4, 2) := by decide +kernel
theorem dX5_order_65 : decode cX5_order 65 = .ok (.iaload, 1) := by decide +kernel
theorem dX5_order_66 : decode cX5_order 66 = .ok (.iload_n 1, 1) := by decide +kernel
theorem dX5_order_67 : decode cX5_order 67 = .ok (.iand, 1) := by decide +kernel
theorem dX5_order_68 : decode cX5_order 68 = .ok (.ifCond .ne 8, 3) := by decide +kernel
theorem dX5_order_71 : decode cX5_order 71 = .ok (.iload 4, 2) := by decide +kernel
theorem dX5_order_73 : decode cX5_order 73 = .ok (.goto 4, 3) := by decide +kernel
theorem dX5_order_76 : decode cX5_order 76 = .ok (.iload_n 3, 1) := by decide +kernel
theorem dX5_order_77 : decode cX5_order 77 = .ok (.istore_n 3, 1) := by decide +kernel
theorem dX5_order_78 : decode cX5_order 78 = .ok (.iinc 4 (-1), 3) := by decide +kernel
theorem dX5_order_81 : decode cX5_order 81 = .ok (.goto (-36), 3) := by decide +kernel
theorem dX5_order_84 : decode cX5_order 84 = .ok (.iload_n 3, 1) := by decide +kernel
theorem dX5_order_85 : decode cX5_order 85 = .ok (.bipush (-9), 2) := by decide +kernel
theorem dX5_order_87 : decode cX5_order 87 = .ok (.if_icmp .ne 6, 3) := by decide +kernel
theorem dX5_order_90 : decode cX5_order 90 = .ok (.bipush (-9), 2) := by decide +kernel
theorem dX5_order_92 : decode cX5_order 92 = .ok (.ireturn, 1) := by decide +kernel
theorem dX5_order_93 : decode cX5_order 93 = .ok (.bipush 10, 2) := by decide +kernel
theorem dX5_order_95 : decode cX5_order 95 = .ok (.iload_n 2, 1) := by decide +kernel
theorem dX5_order_96 : decode cX5_order 96 = .ok (.imul, 1) := by decide +kernel
theorem dX5_order_97 : decode cX5_order 97 = .ok (.iload_n 3, 1) := by decide +kernel
theorem dX5_order_98 : decode cX5_order 98 = .ok (.iadd, 1) := by decide +kernel
theorem dX5_order_99 : decode cX5_order 99 = .ok (.iconst 1, 1) := by decide +kernel
theorem dX5_order_100 : decode cX5_order 100 = .ok (.iadd, 1) := by decide +kernel
theorem dX5_order_101 : decode cX5_order 101 = .ok (.istore_n 2, 1) := by decide +kernel
theorem dX5_order_102 : decode cX5_order 102 = .ok (.iload_n 1, 1) := by decide +kernel
theorem dX5_order_103 : decode cX5_order 103 = .ok (.iconst 1, 1) := by decide +kernel
theorem dX5_order_104 : decode cX5_order 104 = .ok (.iload_n 3, 1) := by decide +kernel
theorem dX5_order_105 : decode cX5_order 105 = .ok (.ishl, 1) := by decide +kernel
theorem dX5_order_106 : decode cX5_order 106 = .ok (.iconst (-1), 1) := by decide +kernel
theorem dX5_order_107 : decode cX5_order 107 = .ok (.ixor, 1) := by decide +kernel
theorem dX5_order_108 : decode cX5_order 108 = .ok (.iand, 1) := by decide +kernel
theorem dX5_order_109 : decode cX5_order 109 = .ok (.istore_n 1, 1) := by decide +kernel
theorem dX5_order_110 : decode cX5_order 110 = .ok (.goto (-80), 3) := by decide +kernel
theorem dX5_order_113 : decode cX5_order 113 = .ok (.iload_n 2, 1) := by decide +kernel
theorem dX5_order_114 : decode cX5_order 114 = .ok (.ireturn, 1) := by decide +kernel
theorem dX5_tenTo_0 : decode cX5_tenTo 0 = .ok (.iconst 1, 1) := by decide +kernel
theorem dX5_tenTo_1 : decode cX5_tenTo 1 = .ok (.istore_n 1, 1) := by decide +kernel
theorem dX5_tenTo_2 : decode cX5_tenTo 2 = .ok (.iconst 0, 1) := by decide +kernel
theorem dX5_tenTo_3 : decode cX5_tenTo 3 = .ok (.istore_n 2, 1) := by decide +kernel
theorem dX5_tenTo_4 : decode cX5_tenTo 4 = .ok (.iload_n 2, 1) := by decide +kernel
theorem dX5_tenTo_5 : decode cX5_tenTo 5 = .ok (.iload_n 0, 1) := by decide +kernel
theorem dX5_tenTo_6 : decode cX5_tenTo 6 = .ok (.if_icmp .ge 14, 3) := by decide +kernel
theorem dX5_tenTo_9 : decode cX5_tenTo 9 = .ok (.iload_n 1, 1) := by decide +kernel
theorem dX5_tenTo_10 : decode cX5_tenTo 10 = .ok (.bipush 10, 2) := by decide +kernel
theorem dX5_tenTo_12 : decode cX5_tenTo 12 = .ok (.imul, 1) := by decide +kernel
theorem dX5_tenTo_13 : decode cX5_tenTo 13 = .ok (.istore_n 1, 1) := by decide +kernel
theorem dX5_tenTo_14 : decode cX5_tenTo 14 = .ok (.iinc 2 1, 3) := by decide +kernel
theorem dX5_tenTo_17 : decode cX5_tenTo 17 = .ok (.goto (-13), 3) := by decide +kernel
theorem dX5_tenTo_20 : decode cX5_tenTo 20 = .ok (.iload_n 1, 1) := by decide +kernel
theorem dX5_tenTo_21 : decode cX5_tenTo 21 = .ok (.ireturn, 1) := by decide +kernel
theorem dX5_tryThing_0 : decode cX5_tryThing 0 = .ok (.iload_n 1, 1) := by decide +kernel
theorem dX5_tryThing_1 : decode cX5_tryThing 1 = .ok (.ifCond .ne 11, 3) := by decide +kernel
theorem dX5_tryThing_4 : decode cX5_tryThing 4 = .ok (.aload_n 0, 1) := by decide +kernel
theorem dX5_tryThing_5 : decode cX5_tryThing 5 = .ok (.iconst 1, 1) := by decide +kernel
theorem dX5_tryThing_6 : decode cX5_tryThing 6 = .ok (.invokevirtual 131, 3) := by decide +kernel
theorem dX5_tryThing_9 : decode cX5_tryThing 9 = .ok (.goto 31, 3) := by decide +kernel
theorem dX5_tryThing_12 : decode cX5_tryThing 12 = .ok (.iload_n 1, 1) := by decide +kernel
theorem dX5_tryThing_13 : decode cX5_tryThing 13 = .ok (.bipush 9, 2) := by decide +kernel
theorem dX5_tryThing_15 : decode cX5_tryThing 15 = .ok (.if_icmp .eq 25, 3) := by decide +kernel
theorem dX5_tryThing_18 : decode cX5_tryThing 18 = .ok (.aload_n 0, 1) := by decide +kernel
theorem dX5_tryThing_19 : decode cX5_tryThing 19 = .ok (.iconst 1, 1) := by decide +kernel
theorem dX5_tryThing_20 : decode cX5_tryThing 20 = .ok (.iload_n 1, 1) := by decide +kernel
theorem dX5_tryThing_21 : decode cX5_tryThing 21 = .ok (.iconst 1, 1) := by decide +kernel
theorem dX5_tryThing_22 : decode cX5_tryThing 22 = .ok (.isub, 1) := by decide +kernel
theorem dX5_tryThing_23 : decode cX5_tryThing 23 = .ok (.invokevirtual 148, 3) := by decide +kernel
theorem dX5_tryThing_26 : decode cX5_tryThing 26 = .ok (.ifCond .ne 5, 3) := by decide +kernel
theorem dX5_tryThing_29 : decode cX5_tryThing 29 = .ok (.iconst 0, 1) := by decide +kernel
theorem dX5_tryThing_30 : decode cX5_tryThing 30 = .ok (.ireturn, 1) := by decide +kernel
theorem dX5_tryThing_31 : decode cX5_tryThing 31 = .ok (.aload_n 0, 1) := by decide +kernel
theorem dX5_tryThing_32 : decode cX5_tryThing 32 = .ok (.iconst 1, 1) := by decide +kernel
theorem dX5_tryThing_33 : decode cX5_tryThing 33 = .ok (.iload_n 1, 1) := by decide +kernel
theorem dX5_tryThing_34 : decode cX5_tryThing 34 = .ok (.iconst 1, 1) := by decide +kernel
theorem dX5_tryThing_35 : decode cX5_tryThing 35 = .ok (.isub, 1) := by decide +kernel
theorem dX5_tryThing_36 : decode cX5_tryThing 36 = .ok (.invokevirtual 128, 3) := by decide +kernel
theorem dX5_tryThing_39 : decode cX5_tryThing 39 = .ok (.pop, 1) := by decide +kernel
theorem dX5_tryThing_40 : decode cX5_tryThing 40 = .ok (.iconst 1, 1) := by decide +kernel
theorem dX5_tryThing_41 : decode cX5_tryThing 41 = .ok (.ireturn, 1) := by decide +kernel
theorem dX5_areThings_0 : decode cX5_areThings 0 = .ok (.iload_n 1, 1) := by decide +kernel
theorem dX5_areThings_1 : decode cX5_areThings 1 = .ok (.i2l, 1) := by decide +kernel
theorem dX5_areThings_2 : decode cX5_areThings 2 = .ok (.lconst 1, 1) := by decide +kernel
theorem dX5_areThings_3 : decode cX5_areThings 3 = .ok (.ldc2_w 160, 3) := by decide +kernel
theorem dX5_areThings_6 : decode cX5_areThings 6 = .ok (.invokestatic 50, 3) := by decide +kernel
theorem dX5_areThings_9 : decode cX5_areThings 9 = .ok (.ifCond .eq 23, 3) := by decide +kernel
theorem dX5_areThings_12 : decode cX5_areThings 12 = .ok (.iload_n 2, 1) := by decide +kernel
theorem dX5_areThings_13 : decode cX5_areThings 13 = .ok (.i2l, 1) := by decide +kernel
theorem dX5_areThings_14 : decode cX5_areThings 14 = .ok (.lconst 0, 1) := by decide +kernel
theorem dX5_areThings_15 : decode cX5_areThings 15 = .ok (.iload_n 1, 1) := by decide +kernel
theorem dX5_areThings_16 : decode cX5_areThings 16 = .ok (.invokestatic 162, 3) := by decide +kernel
theorem dX5_areThings_19 : decode cX5_areThings 19 = .ok (.iconst 1, 1) := by decide +kernel
theorem dX5_areThings_20 : decode cX5_areThings 20 = .ok (.isub, 1) := by decide +kernel
theorem dX5_areThings_21 : decode cX5_areThings 21 = .ok (.i2l, 1) := by decide +kernel
theorem dX5_areThings_22 : decode cX5_areThings 22 = .ok (.invokestatic 50, 3) := by decide +kernel
theorem dX5_areThings_25 : decode cX5_areThings 25 = .ok (.ifCond .eq 7, 3) := by decide +kernel
theorem dX5_areThings_28 : decode cX5_areThings 28 = .ok (.iconst 1, 1) := by decide +kernel
theorem dX5_areThings_29 : decode cX5_areThings 29 = .ok (.goto 4, 3) := by decide +kernel
theorem dX5_areThings_32 : decode cX5_areThings 32 = .ok (.iconst 0, 1) := by decide +kernel
theorem dX5_areThings_33 : decode cX5_areThings 33 = .ok (.ireturn, 1) := by decide +kernel
theorem dX5_judge_0 : decode cX5_judge 0 = .ok (.aload_n 0, 1) := by decide +kernel
theorem dX5_judge_1 : decode cX5_judge 1 = .ok (.iload_n 1, 1) := by decide +kernel
theorem dX5_judge_2 : decode cX5_judge 2 = .ok (.iload_n 2, 1) := by decide +kernel
theorem dX5_judge_3 : decode cX5_judge 3 = .ok (.invokevirtual 165, 3) := by decide +kernel
theorem dX5_judge_6 : decode cX5_judge 6 = .ok (.ifCond .ne 6, 3) := by decide +kernel
theorem dX5_judge_9 : decode cX5_judge 9 = .ok (.bipush (-2), 2) := by decide +kernel
theorem dX5_judge_11 : decode cX5_judge 11 = .ok (.ireturn, 1) := by decide +kernel
theorem dX5_judge_12 : decode cX5_judge 12 = .ok (.aload_n 0, 1) := by decide +kernel
theorem dX5_judge_13 : decode cX5_judge 13 = .ok (.invokevirtual 135, 3) := by decide +kernel
theorem dX5_judge_16 : decode cX5_judge 16 = .ok (.iconst 0, 1) := by decide +kernel
theorem dX5_judge_17 : decode cX5_judge 17 = .ok (.istore_n 3, 1) := by decide +kernel
theorem dX5_judge_18 : decode cX5_judge 18 = .ok (.iload_n 3, 1) := by decide +kernel
theorem dX5_judge_19 : decode cX5_judge 19 = .ok (.iload_n 1, 1) := by decide +kernel
theorem dX5_judge_20 : decode cX5_judge 20 = .ok (.if_icmp .ge 31, 3) := by decide +kernel
theorem dX5_judge_23 : decode cX5_judge 23 = .ok (.aload_n 0, 1) := by decide +kernel
theorem dX5_judge_24 : decode cX5_judge 24 = .ok (.iload_n 2, 1) := by decide +kernel
theorem dX5_judge_25 : decode cX5_judge 25 = .ok (.iload_n 1, 1) := by decide +kernel
theorem dX5_judge_26 : decode cX5_judge 26 = .ok (.iconst 1, 1) := by decide +kernel
theorem dX5_judge_27 : decode cX5_judge 27 = .ok (.isub, 1) := by decide +kernel
theorem dX5_judge_28 : decode cX5_judge 28 = .ok (.iload_n 3, 1) := by decide +kernel
theorem dX5_judge_29 : decode cX5_judge 29 = .ok (.isub, 1) := by decide +kernel
theorem dX5_judge_30 : decode cX5_judge 30 = .ok (.invokestatic 162, 3) := by decide +kernel
theorem dX5_judge_33 : decode cX5_judge 33 = .ok (.idiv, 1) := by decide +kernel
theorem dX5_judge_34 : decode cX5_judge 34 = .ok (.bipush 10, 2) := by decide +kernel
theorem dX5_judge_36 : decode cX5_judge 36 = .ok (.irem, 1) := by decide +kernel
theorem dX5_judge_37 : decode cX5_judge 37 = .ok (.invokevirtual 168, 3) := by decide +kernel
theorem dX5_judge_40 : decode cX5_judge 40 = .ok (.ifCond .ne 5, 3) := by decide +kernel
theorem dX5_judge_43 : decode cX5_judge 43 = .ok (.iload_n 3, 1) := by decide +kernel
theorem dX5_judge_44 : decode cX5_judge 44 = .ok (.ireturn, 1) := by decide +kernel
theorem dX5_judge_45 : decode cX5_judge 45 = .ok (.iinc 3 1, 3) := by decide +kernel
theorem dX5_judge_48 : decode cX5_judge 48 = .ok (.goto (-30), 3) := by decide +kernel
theorem dX5_judge_51 : decode cX5_judge 51 = .ok (.bipush (-9), 2) := by decide +kernel
theorem dX5_judge_53 : decode cX5_judge 53 = .ok (.ireturn, 1) := by decide +kernel
theorem dX5_cost_0 : decode cX5_cost 0 = .ok (.aload_n 0, 1) := by decide +kernel
theorem dX5_cost_1 : decode cX5_cost 1 = .ok (.iload_n 1, 1) := by decide +kernel
theorem dX5_cost_2 : decode cX5_cost 2 = .ok (.iload_n 2, 1) := by decide +kernel
theorem dX5_cost_3 : decode cX5_cost 3 = .ok (.invokevirtual 165, 3) := by decide +kernel
theorem dX5_cost_6 : decode cX5_cost 6 = .ok (.ifCond .ne 6, 3) := by decide +kernel
theorem dX5_cost_9 : decode cX5_cost 9 = .ok (.bipush (-2), 2) := by decide +kernel
theorem dX5_cost_11 : decode cX5_cost 11 = .ok (.ireturn, 1) := by decide +kernel
theorem dX5_cost_12 : decode cX5_cost 12 = .ok (.aload_n 0, 1) := by decide +kernel
theorem dX5_cost_13 : decode cX5_cost 13 = .ok (.invokevirtual 135, 3) := by decide +kernel
theorem dX5_cost_16 : decode cX5_cost 16 = .ok (.iconst 0, 1) := by decide +kernel
theorem dX5_cost_17 : decode cX5_cost 17 = .ok (.istore_n 3, 1) := by decide +kernel
theorem dX5_cost_18 : decode cX5_cost 18 = .ok (.iload_n 3, 1) := by decide +kernel
theorem dX5_cost_19 : decode cX5_cost 19 = .ok (.iload_n 1, 1) := by decide +kernel
theorem dX5_cost_20 : decode cX5_cost 20 = .ok (.if_icmp .ge 27, 3) := by decide +kernel
theorem dX5_cost_23 : decode cX5_cost 23 = .ok (.aload_n 0, 1) := by decide +kernel
theorem dX5_cost_24 : decode cX5_cost 24 = .ok (.iload_n 2, 1) := by decide +kernel
theorem dX5_cost_25 : decode cX5_cost 25 = .ok (.iload_n 1, 1) := by decide +kernel
theorem dX5_cost_26 : decode cX5_cost 26 = .ok (.iconst 1, 1) := by decide +kernel
theorem dX5_cost_27 : decode cX5_cost 27 = .ok (.isub, 1) := by decide +kernel
theorem dX5_cost_28 : decode cX5_cost 28 = .ok (.iload_n 3, 1) := by decide +kernel
theorem dX5_cost_29 : decode cX5_cost 29 = .ok (.isub, 1) := by decide +kernel
theorem dX5_cost_30 : decode cX5_cost 30 = .ok (.invokestatic 162, 3) := by decide +kernel
theorem dX5_cost_33 : decode cX5_cost 33 = .ok (.idiv, 1) := by decide +kernel
theorem dX5_cost_34 : decode cX5_cost 34 = .ok (.bipush 10, 2) := by decide +kernel
theorem dX5_cost_36 : decode cX5_cost 36 = .ok (.irem, 1) := by decide +kernel
theorem dX5_cost_37 : decode cX5_cost 37 = .ok (.invokevirtual 168, 3) := by decide +kernel
theorem dX5_cost_40 : decode cX5_cost 40 = .ok (.pop, 1) := by decide +kernel
theorem dX5_cost_41 : decode cX5_cost 41 = .ok (.iinc 3 1, 3) := by decide +kernel
theorem dX5_cost_44 : decode cX5_cost 44 = .ok (.goto (-26), 3) := by decide +kernel
theorem dX5_cost_47 : decode cX5_cost 47 = .ok (.aload_n 0, 1) := by decide +kernel
theorem dX5_cost_48 : decode cX5_cost 48 = .ok (.getfield 16, 3) := by decide +kernel
theorem dX5_cost_51 : decode cX5_cost 51 = .ok (.bipush 33, 2) := by decide +kernel
theorem dX5_cost_53 : decode cX5_cost 53 = .ok (.iaload, 1) := by decide +kernel
theorem dX5_cost_54 : decode cX5_cost 54 = .ok (.aload_n 0, 1) := by decide +kernel
theorem dX5_cost_55 : decode cX5_cost 55 = .ok (.getfield 16, 3) := by decide +kernel
theorem dX5_cost_58 : decode cX5_cost 58 = .ok (.bipush 16, 2) := by decide +kernel
theorem dX5_cost_60 : decode cX5_cost 60 = .ok (.iaload, 1) := by decide +kernel
theorem dX5_cost_61 : decode cX5_cost 61 = .ok (.isub, 1) := by decide +kernel
theorem dX5_cost_62 : decode cX5_cost 62 = .ok (.ireturn, 1) := by decide +kernel
theorem dX5_waits_0 : decode cX5_waits 0 = .ok (.aload_n 0, 1) := by decide +kernel
theorem dX5_waits_1 : decode cX5_waits 1 = .ok (.iload_n 1, 1) := by decide +kernel
theorem dX5_waits_2 : decode cX5_waits 2 = .ok (.invokevirtual 112, 3) := by decide +kernel
theorem dX5_waits_5 : decode cX5_waits 5 = .ok (.ifCond .ne 5, 3) := by decide +kernel
theorem dX5_waits_8 : decode cX5_waits 8 = .ok (.iconst (-1), 1) := by decide +kernel
theorem dX5_waits_9 : decode cX5_waits 9 = .ok (.ireturn, 1) := by decide +kernel
theorem dX5_waits_10 : decode cX5_waits 10 = .ok (.iload_n 2, 1) := by decide +kernel
theorem dX5_waits_11 : decode cX5_waits 11 = .ok (.i2l, 1) := by decide +kernel
theorem dX5_waits_12 : decode cX5_waits 12 = .ok (.lconst 0, 1) := by decide +kernel
theorem dX5_waits_13 : decode cX5_waits 13 = .ok (.ldc2_w 171, 3) := by decide +kernel
theorem dX5_waits_16 : decode cX5_waits 16 = .ok (.invokestatic 50, 3) := by decide +kernel
theorem dX5_waits_19 : decode cX5_waits 19 = .ok (.ifCond .ne 6, 3) := by decide +kernel
theorem dX5_waits_22 : decode cX5_waits 22 = .ok (.bipush (-2), 2) := by decide +kernel
theorem dX5_waits_24 : decode cX5_waits 24 = .ok (.ireturn, 1) := by decide +kernel
theorem dX5_waits_25 : decode cX5_waits 25 = .ok (.aload_n 0, 1) := by decide +kernel
theorem dX5_waits_26 : decode cX5_waits 26 = .ok (.iconst 0, 1) := by decide +kernel
theorem dX5_waits_27 : decode cX5_waits 27 = .ok (.iload_n 1, 1) := by decide +kernel
theorem dX5_waits_28 : decode cX5_waits 28 = .ok (.invokevirtual 116, 3) := by decide +kernel
theorem dX5_waits_31 : decode cX5_waits 31 = .ok (.ifCond .eq 6, 3) := by decide +kernel
theorem dX5_waits_34 : decode cX5_waits 34 = .ok (.bipush (-3), 2) := by decide +kernel
theorem dX5_waits_36 : decode cX5_waits 36 = .ok (.ireturn, 1) := by decide +kernel
theorem dX5_waits_37 : decode cX5_waits 37 = .ok (.iconst 0, 1) := by decide +kernel
theorem dX5_waits_38 : decode cX5_waits 38 = .ok (.istore_n 3, 1) := by decide +kernel
theorem dX5_waits_39 : decode cX5_waits 39 = .ok (.iconst 0, 1) := by decide +kernel
theorem dX5_waits_40 : decode cX5_waits 40 = .ok (.istore 4, 2) := by decide +kernel
theorem dX5_waits_42 : decode cX5_waits 42 = .ok (.iload 4, 2) := by decide +kernel
theorem dX5_waits_44 : decode cX5_waits 44 = .ok (.bipush 10, 2) := by decide +kernel
theorem dX5_waits_46 : decode cX5_waits 46 = .ok (.if_icmp .ge 70, 3) := by decide +kernel
theorem dX5_waits_49 : decode cX5_waits 49 = .ok (.aload_n 0, 1) := by decide +kernel
theorem dX5_waits_50 : decode cX5_waits 50 = .ok (.iload_n 1, 1) := by decide +kernel
theorem dX5_waits_51 : decode cX5_waits 51 = .ok (.iload 4, 2) := by decide +kernel
theorem dX5_waits_53 : decode cX5_waits 53 = .ok (.aload_n 0, 1) := by decide +kernel
theorem dX5_waits_54 : decode cX5_waits 54 = .ok (.getfield 16, 3) := by decide +kernel
theorem dX5_waits_57 : decode cX5_waits 57 = .ok (.bipush 12, 2) := by decide +kernel
theorem dX5_waits_59 : decode cX5_waits 59 = .ok (.iaload, 1) := by decide +kernel
theorem dX5_waits_60 : decode cX5_waits 60 = .ok (.iload_n 1, 1) := by decide +kernel
theorem dX5_waits_61 : decode cX5_waits 61 = .ok (.invokestatic 65, 3) := by decide +kernel
theorem dX5_waits_64 : decode cX5_waits 64 = .ok (.aload_n 0, 1) := by decide +kernel
theorem dX5_waits_65 : decode cX5_waits 65 = .ok (.getfield 13, 3) := by decide +kernel
theorem dX5_waits_68 : decode cX5_waits 68 = .ok (.iload_n 1, 1) := by decide +kernel
theorem dX5_waits_69 : decode cX5_waits 69 = .ok (.iaload, 1) := by decide +kernel
theorem dX5_waits_70 : decode cX5_waits 70 = .ok (.aload_n 0, 1) := by decide +kernel
theorem dX5_waits_71 : decode cX5_waits 71 = .ok (.getfield 16, 3) := by decide +kernel
theorem dX5_waits_74 : decode cX5_waits 74 = .ok (.bipush 13, 2) := by decide +kernel
theorem dX5_waits_76 : decode cX5_waits 76 = .ok (.iaload, 1) := by decide +kernel
theorem dX5_waits_77 : decode cX5_waits 77 = .ok (.iand, 1) := by decide +kernel
theorem dX5_waits_78 : decode cX5_waits 78 = .ok (.invokestatic 105, 3) := by decide +kernel
theorem dX5_waits_81 : decode cX5_waits 81 = .ok (.aload_n 0, 1) := by decide +kernel
theorem dX5_waits_82 : decode cX5_waits 82 = .ok (.getfield 16, 3) := by decide +kernel
theorem dX5_waits_85 : decode cX5_waits 85 = .ok (.bipush 14, 2) := by decide +kernel
theorem dX5_waits_87 : decode cX5_waits 87 = .ok (.iaload, 1) := by decide +kernel
theorem dX5_waits_88 : decode cX5_waits 88 = .ok (.invokevirtual 108, 3) := by decide +kernel
theorem dX5_waits_91 : decode cX5_waits 91 = .ok (.istore 5, 2) := by decide +kernel
theorem dX5_waits_93 : decode cX5_waits 93 = .ok (.iload_n 3, 1) := by decide +kernel
theorem dX5_waits_94 : decode cX5_waits 94 = .ok (.iload 5, 2) := by decide +kernel
theorem dX5_waits_96 : decode cX5_waits 96 = .ok (.iload_n 2, 1) := by decide +kernel
theorem dX5_waits_97 : decode cX5_waits 97 = .ok (.if_icmp .ne 10, 3) := by decide +kernel
theorem dX5_waits_100 : decode cX5_waits 100 = .ok (.iconst 1, 1) := by decide +kernel
theorem dX5_waits_101 : decode cX5_waits 101 = .ok (.iload 4, 2) := by decide +kernel
theorem dX5_waits_103 : decode cX5_waits 103 = .ok (.ishl, 1) := by decide +kernel
theorem dX5_waits_104 : decode cX5_waits 104 = .ok (.goto 4, 3) := by decide +kernel
theorem dX5_waits_107 : decode cX5_waits 107 = .ok (.iconst 0, 1) := by decide +kernel
theorem dX5_waits_108 : decode cX5_waits 108 = .ok (.ior, 1) := by decide +kernel
theorem dX5_waits_109 : decode cX5_waits 109 = .ok (.istore_n 3, 1) := by decide +kernel
theorem dX5_waits_110 : decode cX5_waits 110 = .ok (.iinc 4 1, 3) := by decide +kernel
theorem dX5_waits_113 : decode cX5_waits 113 = .ok (.goto (-71), 3) := by decide +kernel
theorem dX5_waits_116 : decode cX5_waits 116 = .ok (.iload_n 3, 1) := by decide +kernel
theorem dX5_waits_117 : decode cX5_waits 117 = .ok (.ireturn, 1) := by decide +kernel
theorem dX5_priceWith_0 : decode cX5_priceWith 0 = .ok (.aload_n 0, 1) := by decide +kernel
theorem dX5_priceWith_1 : decode cX5_priceWith 1 = .ok (.iload_n 1, 1) := by decide +kernel
theorem dX5_priceWith_2 : decode cX5_priceWith 2 = .ok (.aload_n 0, 1) := by decide +kernel
theorem dX5_priceWith_3 : decode cX5_priceWith 3 = .ok (.getfield 16, 3) := by decide +kernel
theorem dX5_priceWith_6 : decode cX5_priceWith 6 = .ok (.iload_n 1, 1) := by decide +kernel
theorem dX5_priceWith_7 : decode cX5_priceWith 7 = .ok (.iaload, 1) := by decide +kernel
theorem dX5_priceWith_8 : decode cX5_priceWith 8 = .ok (.aload_n 0, 1) := by decide +kernel
theorem dX5_priceWith_9 : decode cX5_priceWith 9 = .ok (.getfield 16, 3) := by decide +kernel
theorem dX5_priceWith_12 : decode cX5_priceWith 12 = .ok (.bipush 12, 2) := by decide +kernel
theorem dX5_priceWith_14 : decode cX5_priceWith 14 = .ok (.iaload, 1) := by decide +kernel
theorem dX5_priceWith_15 : decode cX5_priceWith 15 = .ok (.iload_n 1, 1) := by decide +kernel
theorem dX5_priceWith_16 : decode cX5_priceWith 16 = .ok (.invokestatic 65, 3) := by decide +kernel
theorem dX5_priceWith_19 : decode cX5_priceWith 19 = .ok (.iload_n 2, 1) := by decide +kernel
theorem dX5_priceWith_20 : decode cX5_priceWith 20 = .ok (.invokestatic 105, 3) := by decide +kernel
theorem dX5_priceWith_23 : decode cX5_priceWith 23 = .ok (.aload_n 0, 1) := by decide +kernel
theorem dX5_priceWith_24 : decode cX5_priceWith 24 = .ok (.getfield 16, 3) := by decide +kernel
theorem dX5_priceWith_27 : decode cX5_priceWith 27 = .ok (.bipush 14, 2) := by decide +kernel
theorem dX5_priceWith_29 : decode cX5_priceWith 29 = .ok (.iaload, 1) := by decide +kernel
theorem dX5_priceWith_30 : decode cX5_priceWith 30 = .ok (.invokevirtual 108, 3) := by decide +kernel
theorem dX5_priceWith_33 : decode cX5_priceWith 33 = .ok (.ireturn, 1) := by decide +kernel
theorem dX5_who_0 : decode cX5_who 0 = .ok (.aload_n 0, 1) := by decide +kernel
theorem dX5_who_1 : decode cX5_who 1 = .ok (.iload_n 1, 1) := by decide +kernel
theorem dX5_who_2 : decode cX5_who 2 = .ok (.invokevirtual 112, 3) := by decide +kernel
theorem dX5_who_5 : decode cX5_who 5 = .ok (.ifCond .ne 5, 3) := by decide +kernel
theorem dX5_who_8 : decode cX5_who 8 = .ok (.iconst (-1), 1) := by decide +kernel
theorem dX5_who_9 : decode cX5_who 9 = .ok (.ireturn, 1) := by decide +kernel
theorem dX5_who_10 : decode cX5_who 10 = .ok (.iload_n 2, 1) := by decide +kernel
theorem dX5_who_11 : decode cX5_who 11 = .ok (.i2l, 1) := by decide +kernel
theorem dX5_who_12 : decode cX5_who 12 = .ok (.lconst 0, 1) := by decide +kernel
theorem dX5_who_13 : decode cX5_who 13 = .ok (.ldc2_w 171, 3) := by decide +kernel
theorem dX5_who_16 : decode cX5_who 16 = .ok (.invokestatic 50, 3) := by decide +kernel
theorem dX5_who_19 : decode cX5_who 19 = .ok (.ifCond .eq 15, 3) := by decide +kernel
theorem dX5_who_22 : decode cX5_who 22 = .ok (.iload_n 3, 1) := by decide +kernel
theorem dX5_who_23 : decode cX5_who 23 = .ok (.i2l, 1) := by decide +kernel
theorem dX5_who_24 : decode cX5_who 24 = .ok (.lconst 0, 1) := by decide +kernel
theorem dX5_who_25 : decode cX5_who 25 = .ok (.ldc2_w 173, 3) := by decide +kernel
theorem dX5_who_28 : decode cX5_who 28 = .ok (.invokestatic 50, 3) := by decide +kernel
theorem dX5_who_31 : decode cX5_who 31 = .ok (.ifCond .ne 6, 3) := by decide +kernel
theorem dX5_who_34 : decode cX5_who 34 = .ok (.bipush (-2), 2) := by decide +kernel
theorem dX5_who_36 : decode cX5_who 36 = .ok (.ireturn, 1) := by decide +kernel
theorem dX5_who_37 : decode cX5_who 37 = .ok (.aload_n 0, 1) := by decide +kernel
theorem dX5_who_38 : decode cX5_who 38 = .ok (.iconst 0, 1) := by decide +kernel
theorem dX5_who_39 : decode cX5_who 39 = .ok (.iload_n 1, 1) := by decide +kernel
theorem dX5_who_40 : decode cX5_who 40 = .ok (.invokevirtual 116, 3) := by decide +kernel
theorem dX5_who_43 : decode cX5_who 43 = .ok (.ifCond .eq 6, 3) := by decide +kernel
theorem dX5_who_46 : decode cX5_who 46 = .ok (.bipush (-3), 2) := by decide +kernel
theorem dX5_who_48 : decode cX5_who 48 = .ok (.ireturn, 1) := by decide +kernel
theorem dX5_who_49 : decode cX5_who 49 = .ok (.iconst 0, 1) := by decide +kernel
theorem dX5_who_50 : decode cX5_who 50 = .ok (.istore 4, 2) := by decide +kernel
theorem dX5_who_52 : decode cX5_who 52 = .ok (.aload_n 0, 1) := by decide +kernel
theorem dX5_who_53 : decode cX5_who 53 = .ok (.getfield 13, 3) := by decide +kernel
theorem dX5_who_56 : decode cX5_who 56 = .ok (.iload_n 1, 1) := by decide +kernel
theorem dX5_who_57 : decode cX5_who 57 = .ok (.iaload, 1) := by decide +kernel
theorem dX5_who_58 : decode cX5_who 58 = .ok (.istore 5, 2) := by decide +kernel
theorem dX5_who_60 : decode cX5_who 60 = .ok (.iconst 0, 1) := by decide +kernel
theorem dX5_who_61 : decode cX5_who 61 = .ok (.istore 6, 2) := by decide +kernel
theorem dX5_who_63 : decode cX5_who 63 = .ok (.iconst 0, 1) := by decide +kernel
theorem dX5_who_64 : decode cX5_who 64 = .ok (.istore 7, 2) := by decide +kernel
theorem dX5_who_66 : decode cX5_who 66 = .ok (.iload 7, 2) := by decide +kernel
theorem dX5_who_68 : decode cX5_who 68 = .ok (.bipush 64, 2) := by decide +kernel
theorem dX5_who_70 : decode cX5_who 70 = .ok (.if_icmp .ge 51, 3) := by decide +kernel
theorem dX5_who_73 : decode cX5_who 73 = .ok (.iload 7, 2) := by decide +kernel
theorem dX5_who_75 : decode cX5_who 75 = .ok (.aload_n 0, 1) := by decide +kernel
theorem dX5_who_76 : decode cX5_who 76 = .ok (.getfield 13, 3) := by decide +kernel
theorem dX5_who_79 : decode cX5_who 79 = .ok (.iload_n 1, 1) := by decide +kernel
theorem dX5_who_80 : decode cX5_who 80 = .ok (.iaload, 1) := by decide +kernel
theorem dX5_who_81 : decode cX5_who 81 = .ok (.iconst (-1), 1) := by decide +kernel
theorem dX5_who_82 : decode cX5_who 82 = .ok (.ixor, 1) := by decide +kernel
theorem dX5_who_83 : decode cX5_who 83 = .ok (.iand, 1) := by decide +kernel
theorem dX5_who_84 : decode cX5_who 84 = .ok (.ifCond .ne 31, 3) := by decide +kernel
theorem dX5_who_87 : decode cX5_who 87 = .ok (.aload_n 0, 1) := by decide +kernel
theorem dX5_who_88 : decode cX5_who 88 = .ok (.iload_n 1, 1) := by decide +kernel
theorem dX5_who_89 : decode cX5_who 89 = .ok (.iload 7, 2) := by decide +kernel
theorem dX5_who_91 : decode cX5_who 91 = .ok (.invokevirtual 175, 3) := by decide +kernel
theorem dX5_who_94 : decode cX5_who 94 = .ok (.iload_n 2, 1) := by decide +kernel
theorem dX5_who_95 : decode cX5_who 95 = .ok (.if_icmp .ne 20, 3) := by decide +kernel
theorem dX5_who_98 : decode cX5_who 98 = .ok (.iinc 4 1, 3) := by decide +kernel
theorem dX5_who_101 : decode cX5_who 101 = .ok (.iload 5, 2) := by decide +kernel
theorem dX5_who_103 : decode cX5_who 103 = .ok (.iload 7, 2) := by decide +kernel
theorem dX5_who_105 : decode cX5_who 105 = .ok (.iand, 1) := by decide +kernel
theorem dX5_who_106 : decode cX5_who 106 = .ok (.istore 5, 2) := by decide +kernel
theorem dX5_who_108 : decode cX5_who 108 = .ok (.iload 6, 2) := by decide +kernel
theorem dX5_who_110 : decode cX5_who 110 = .ok (.iload 7, 2) := by decide +kernel
theorem dX5_who_112 : decode cX5_who 112 = .ok (.ior, 1) := by decide +kernel
theorem dX5_who_113 : decode cX5_who 113 = .ok (.istore 6, 2) := by decide +kernel
theorem dX5_who_115 : decode cX5_who 115 = .ok (.iinc 7 1, 3) := by decide +kernel
theorem dX5_who_118 : decode cX5_who 118 = .ok (.goto (-52), 3) := by decide +kernel
theorem dX5_who_121 : decode cX5_who 121 = .ok (.iload_n 3, 1) := by decide +kernel
theorem dX5_who_122 : decode cX5_who 122 = .ok (.ifCond .ne 8, 3) := by decide +kernel
theorem dX5_who_125 : decode cX5_who 125 = .ok (.iload 4, 2) := by decide +kernel
theorem dX5_who_127 : decode cX5_who 127 = .ok (.goto 34, 3) := by decide +kernel
theorem dX5_who_130 : decode cX5_who 130 = .ok (.iload 4, 2) := by decide +kernel
theorem dX5_who_132 : decode cX5_who 132 = .ok (.ifCond .ne 8, 3) := by decide +kernel
theorem dX5_who_135 : decode cX5_who 135 = .ok (.bipush (-9), 2) := by decide +kernel
theorem dX5_who_137 : decode cX5_who 137 = .ok (.goto 24, 3) := by decide +kernel
theorem dX5_who_140 : decode cX5_who 140 = .ok (.iload_n 3, 1) := by decide +kernel
theorem dX5_who_141 : decode cX5_who 141 = .ok (.iconst 1, 1) := by decide +kernel
theorem dX5_who_142 : decode cX5_who 142 = .ok (.if_icmp .ne 8, 3) := by decide +kernel
theorem dX5_who_145 : decode cX5_who 145 = .ok (.iload 5, 2) := by decide +kernel
theorem dX5_who_147 : decode cX5_who 147 = .ok (.goto 14, 3) := by decide +kernel
theorem dX5_who_150 : decode cX5_who 150 = .ok (.aload_n 0, 1) := by decide +kernel
theorem dX5_who_151 : decode cX5_who 151 = .ok (.getfield 13, 3) := by decide +kernel
theorem dX5_who_154 : decode cX5_who 154 = .ok (.iload_n 1, 1) := by decide +kernel
theorem dX5_who_155 : decode cX5_who 155 = .ok (.iaload, 1) := by decide +kernel
theorem dX5_who_156 : decode cX5_who 156 = .ok (.iload 6, 2) := by decide +kernel
theorem dX5_who_158 : decode cX5_who 158 = .ok (.iconst (-1), 1) := by decide +kernel
theorem dX5_who_159 : decode cX5_who 159 = .ok (.ixor, 1) := by decide +kernel
theorem dX5_who_160 : decode cX5_who 160 = .ok (.iand, 1) := by decide +kernel
theorem dX5_who_161 : decode cX5_who 161 = .ok (.ireturn, 1) := by decide +kernel
theorem dX5_factorial_0 : decode cX5_factorial 0 = .ok (.iconst 1, 1) := by decide +kernel
theorem dX5_factorial_1 : decode cX5_factorial 1 = .ok (.istore_n 1, 1) := by decide +kernel
theorem dX5_factorial_2 : decode cX5_factorial 2 = .ok (.iconst 2, 1) := by decide +kernel
theorem dX5_factorial_3 : decode cX5_factorial 3 = .ok (.istore_n 2, 1) := by decide +kernel
theorem dX5_factorial_4 : decode cX5_factorial 4 = .ok (.iload_n 2, 1) := by decide +kernel
theorem dX5_factorial_5 : decode cX5_factorial 5 = .ok (.iload_n 0, 1) := by decide +kernel
theorem dX5_factorial_6 : decode cX5_factorial 6 = .ok (.if_icmp .gt 13, 3) := by decide +kernel
theorem dX5_factorial_9 : decode cX5_factorial 9 = .ok (.iload_n 1, 1) := by decide +kernel
theorem dX5_factorial_10 : decode cX5_factorial 10 = .ok (.iload_n 2, 1) := by decide +kernel
theorem dX5_factorial_11 : decode cX5_factorial 11 = .ok (.imul, 1) := by decide +kernel
theorem dX5_factorial_12 : decode cX5_factorial 12 = .ok (.istore_n 1, 1) := by decide +kernel
theorem dX5_factorial_13 : decode cX5_factorial 13 = .ok (.iinc 2 1, 3) := by decide +kernel
theorem dX5_factorial_16 : decode cX5_factorial 16 = .ok (.goto (-12), 3) := by decide +kernel
theorem dX5_factorial_19 : decode cX5_factorial 19 = .ok (.iload_n 1, 1) := by decide +kernel
theorem dX5_factorial_20 : decode cX5_factorial 20 = .ok (.ireturn, 1) := by decide +kernel
theorem dX5_common_0 : decode cX5_common 0 = .ok (.iload_n 0, 1) := by decide +kernel
theorem dX5_common_1 : decode cX5_common 1 = .ok (.ifCond .ge 8, 3) := by decide +kernel
theorem dX5_common_4 : decode cX5_common 4 = .ok (.iload_n 0, 1) := by decide +kernel
theorem dX5_common_5 : decode cX5_common 5 = .ok (.ineg, 1) := by decide +kernel
theorem dX5_common_6 : decode cX5_common 6 = .ok (.goto 4, 3) := by decide +kernel
theorem dX5_common_9 : decode cX5_common 9 = .ok (.iload_n 0, 1) := by decide +kernel
theorem dX5_common_10 : decode cX5_common 10 = .ok (.istore_n 2, 1) := by decide +kernel
theorem dX5_common_11 : decode cX5_common 11 = .ok (.iload_n 1, 1) := by decide +kernel
theorem dX5_common_12 : decode cX5_common 12 = .ok (.istore_n 3, 1) := by decide +kernel
theorem dX5_common_13 : decode cX5_common 13 = .ok (.iload_n 3, 1) := by decide +kernel
theorem dX5_common_14 : decode cX5_common 14 = .ok (.ifCond .eq 16, 3) := by decide +kernel
theorem dX5_common_17 : decode cX5_common 17 = .ok (.iload_n 2, 1) := by decide +kernel
theorem dX5_common_18 : decode cX5_common 18 = .ok (.iload_n 3, 1) := by decide +kernel
theorem dX5_common_19 : decode cX5_common 19 = .ok (.irem, 1) := by decide +kernel
theorem dX5_common_20 : decode cX5_common 20 = .ok (.istore 4, 2) := by decide +kernel
theorem dX5_common_22 : decode cX5_common 22 = .ok (.iload_n 3, 1) := by decide +kernel
theorem dX5_common_23 : decode cX5_common 23 = .ok (.istore_n 2, 1) := by decide +kernel
theorem dX5_common_24 : decode cX5_common 24 = .ok (.iload 4, 2) := by decide +kernel
theorem dX5_common_26 : decode cX5_common 26 = .ok (.istore_n 3, 1) := by decide +kernel
theorem dX5_common_27 : decode cX5_common 27 = .ok (.goto (-14), 3) := by decide +kernel
theorem dX5_common_30 : decode cX5_common 30 = .ok (.iload_n 2, 1) := by decide +kernel
theorem dX5_common_31 : decode cX5_common 31 = .ok (.ireturn, 1) := by decide +kernel
theorem dX5_share_0 : decode cX5_share 0 = .ok (.aload_n 0, 1) := by decide +kernel
theorem dX5_share_1 : decode cX5_share 1 = .ok (.iload_n 1, 1) := by decide +kernel
theorem dX5_share_2 : decode cX5_share 2 = .ok (.invokevirtual 112, 3) := by decide +kernel
theorem dX5_share_5 : decode cX5_share 5 = .ok (.ifCond .ne 5, 3) := by decide +kernel
theorem dX5_share_8 : decode cX5_share 8 = .ok (.iconst (-1), 1) := by decide +kernel
theorem dX5_share_9 : decode cX5_share 9 = .ok (.ireturn, 1) := by decide +kernel
theorem dX5_share_10 : decode cX5_share 10 = .ok (.aload_n 0, 1) := by decide +kernel
theorem dX5_share_11 : decode cX5_share 11 = .ok (.iconst 0, 1) := by decide +kernel
theorem dX5_share_12 : decode cX5_share 12 = .ok (.iload_n 1, 1) := by decide +kernel
theorem dX5_share_13 : decode cX5_share 13 = .ok (.invokevirtual 116, 3) := by decide +kernel
theorem dX5_share_16 : decode cX5_share 16 = .ok (.ifCond .eq 13, 3) := by decide +kernel
theorem dX5_share_19 : decode cX5_share 19 = .ok (.iload_n 2, 1) := by decide +kernel
theorem dX5_share_20 : decode cX5_share 20 = .ok (.ifCond .eq 7, 3) := by decide +kernel
theorem dX5_share_23 : decode cX5_share 23 = .ok (.iconst 0, 1) := by decide +kernel
theorem dX5_share_24 : decode cX5_share 24 = .ok (.goto 4, 3) := by decide +kernel
theorem dX5_share_27 : decode cX5_share 27 = .ok (.iconst 1, 1) := by decide +kernel
theorem dX5_share_28 : decode cX5_share 28 = .ok (.ireturn, 1) := by decide +kernel
theorem dX5_share_29 : decode cX5_share 29 = .ok (.iconst 1, 1) := by decide +kernel
theorem dX5_share_30 : decode cX5_share 30 = .ok (.aload_n 0, 1) := by decide +kernel
theorem dX5_share_31 : decode cX5_share 31 = .ok (.getfield 96, 3) := by decide +kernel
theorem dX5_share_34 : decode cX5_share 34 = .ok (.ishl, 1) := by decide +kernel
theorem dX5_share_35 : decode cX5_share 35 = .ok (.iconst 1, 1) := by decide +kernel
theorem dX5_share_36 : decode cX5_share 36 = .ok (.isub, 1) := by decide +kernel
theorem dX5_share_37 : decode cX5_share 37 = .ok (.aload_n 0, 1) := by decide +kernel
theorem dX5_share_38 : decode cX5_share 38 = .ok (.getfield 16, 3) := by decide +kernel
theorem dX5_share_41 : decode cX5_share 41 = .ok (.bipush 13, 2) := by decide +kernel
theorem dX5_share_43 : decode cX5_share 43 = .ok (.iaload, 1) := by decide +kernel
theorem dX5_share_44 : decode cX5_share 44 = .ok (.iconst (-1), 1) := by decide +kernel
theorem dX5_share_45 : decode cX5_share 45 = .ok (.ixor, 1) := by decide +kernel
theorem dX5_share_46 : decode cX5_share 46 = .ok (.iand, 1) := by decide +kernel
theorem dX5_share_47 : decode cX5_share 47 = .ok (.istore_n 3, 1) := by decide +kernel
theorem dX5_share_48 : decode cX5_share 48 = .ok (.iconst 0, 1) := by decide +kernel
theorem dX5_share_49 : decode cX5_share 49 = .ok (.istore 4, 2) := by decide +kernel
theorem dX5_share_51 : decode cX5_share 51 = .ok (.iload 4, 2) := by decide +kernel
theorem dX5_share_53 : decode cX5_share 53 = .ok (.iload_n 3, 1) := by decide +kernel
theorem dX5_share_54 : decode cX5_share 54 = .ok (.if_icmp .gt 52, 3) := by decide +kernel
theorem dX5_share_57 : decode cX5_share 57 = .ok (.iload 4, 2) := by decide +kernel
theorem dX5_share_59 : decode cX5_share 59 = .ok (.iload_n 3, 1) := by decide +kernel
theorem dX5_share_60 : decode cX5_share 60 = .ok (.iconst (-1), 1) := by decide +kernel
theorem dX5_share_61 : decode cX5_share 61 = .ok (.ixor, 1) := by decide +kernel
theorem dX5_share_62 : decode cX5_share 62 = .ok (.iand, 1) := by decide +kernel
theorem dX5_share_63 : decode cX5_share 63 = .ok (.ifCond .ne 12, 3) := by decide +kernel
theorem dX5_share_66 : decode cX5_share 66 = .ok (.aload_n 0, 1) := by decide +kernel
theorem dX5_share_67 : decode cX5_share 67 = .ok (.iload 4, 2) := by decide +kernel
theorem dX5_share_69 : decode cX5_share 69 = .ok (.invokevirtual 157, 3) := by decide +kernel
theorem dX5_share_72 : decode cX5_share 72 = .ok (.goto 4, 3) := by decide +kernel
theorem dX5_share_75 : decode cX5_share 75 = .ok (.iconst 0, 1) := by decide +kernel
theorem dX5_share_76 : decode cX5_share 76 = .ok (.istore 5, 2) := by decide +kernel
theorem dX5_share_78 : decode cX5_share 78 = .ok (.aload_n 0, 1) := by decide +kernel
theorem dX5_share_79 : decode cX5_share 79 = .ok (.getfield 34, 3) := by decide +kernel
theorem dX5_share_82 : decode cX5_share 82 = .ok (.iload 4, 2) := by decide +kernel
theorem dX5_share_84 : decode cX5_share 84 = .ok (.iload 5, 2) := by decide +kernel
theorem dX5_share_86 : decode cX5_share 86 = .ok (.bipush (-9), 2) := by decide +kernel
theorem dX5_share_88 : decode cX5_share 88 = .ok (.if_icmp .ne 9, 3) := by decide +kernel
theorem dX5_share_91 : decode cX5_share 91 = .ok (.sipush 999, 3) := by decide +kernel
theorem dX5_share_94 : decode cX5_share 94 = .ok (.goto 5, 3) := by decide +kernel
theorem dX5_share_97 : decode cX5_share 97 = .ok (.iload 5, 2) := by decide +kernel
theorem dX5_share_99 : decode cX5_share 99 = .ok (.iastore, 1) := by decide +kernel
theorem dX5_share_100 : decode cX5_share 100 = .ok (.iinc 4 1, 3) := by decide +kernel
theorem dX5_share_103 : decode cX5_share 103 = .ok (.goto (-52), 3) := by decide +kernel
theorem dX5_share_106 : decode cX5_share 106 = .ok (.iconst 0, 1) := by decide +kernel
theorem dX5_share_107 : decode cX5_share 107 = .ok (.istore 4, 2) := by decide +kernel
theorem dX5_share_109 : decode cX5_share 109 = .ok (.iconst 0, 1) := by decide +kernel
theorem dX5_share_110 : decode cX5_share 110 = .ok (.istore 5, 2) := by decide +kernel
theorem dX5_share_112 : decode cX5_share 112 = .ok (.iload 5, 2) := by decide +kernel
theorem dX5_share_114 : decode cX5_share 114 = .ok (.iload_n 3, 1) := by decide +kernel
theorem dX5_share_115 : decode cX5_share 115 = .ok (.if_icmp .gt 80, 3) := by decide +kernel
theorem dX5_share_118 : decode cX5_share 118 = .ok (.iload 5, 2) := by decide +kernel
theorem dX5_share_120 : decode cX5_share 120 = .ok (.iload_n 3, 1) := by decide +kernel
theorem dX5_share_121 : decode cX5_share 121 = .ok (.iconst (-1), 1) := by decide +kernel
theorem dX5_share_122 : decode cX5_share 122 = .ok (.ixor, 1) := by decide +kernel
theorem dX5_share_123 : decode cX5_share 123 = .ok (.iand, 1) := by decide +kernel
theorem dX5_share_124 : decode cX5_share 124 = .ok (.ifCond .ne 65, 3) := by decide +kernel
theorem dX5_share_127 : decode cX5_share 127 = .ok (.iload 5, 2) := by decide +kernel
theorem dX5_share_129 : decode cX5_share 129 = .ok (.iload_n 1, 1) := by decide +kernel
theorem dX5_share_130 : decode cX5_share 130 = .ok (.invokestatic 65, 3) := by decide +kernel
theorem dX5_share_133 : decode cX5_share 133 = .ok (.ifCond .ne 56, 3) := by decide +kernel
theorem dX5_share_136 : decode cX5_share 136 = .ok (.iload 5, 2) := by decide +kernel
theorem dX5_share_138 : decode cX5_share 138 = .ok (.invokestatic 105, 3) := by decide +kernel
theorem dX5_share_141 : decode cX5_share 141 = .ok (.invokestatic 178, 3) := by decide +kernel
theorem dX5_share_144 : decode cX5_share 144 = .ok (.iload_n 3, 1) := by decide +kernel
theorem dX5_share_145 : decode cX5_share 145 = .ok (.invokestatic 105, 3) := by decide +kernel
theorem dX5_share_148 : decode cX5_share 148 = .ok (.iconst 1, 1) := by decide +kernel
theorem dX5_share_149 : decode cX5_share 149 = .ok (.isub, 1) := by decide +kernel
theorem dX5_share_150 : decode cX5_share 150 = .ok (.iload 5, 2) := by decide +kernel
theorem dX5_share_152 : decode cX5_share 152 = .ok (.invokestatic 105, 3) := by decide +kernel
theorem dX5_share_155 : decode cX5_share 155 = .ok (.isub, 1) := by decide +kernel
theorem dX5_share_156 : decode cX5_share 156 = .ok (.invokestatic 178, 3) := by decide +kernel
theorem dX5_share_159 : decode cX5_share 159 = .ok (.imul, 1) := by decide +kernel
theorem dX5_share_160 : decode cX5_share 160 = .ok (.istore 6, 2) := by decide +kernel
theorem dX5_share_162 : decode cX5_share 162 = .ok (.iload 4, 2) := by decide +kernel
theorem dX5_share_164 : decode cX5_share 164 = .ok (.iload 6, 2) := by decide +kernel
theorem dX5_share_166 : decode cX5_share 166 = .ok (.aload_n 0, 1) := by decide +kernel
theorem dX5_share_167 : decode cX5_share 167 = .ok (.getfield 34, 3) := by decide +kernel
theorem dX5_share_170 : decode cX5_share 170 = .ok (.iload 5, 2) := by decide +kernel
theorem dX5_share_172 : decode cX5_share 172 = .ok (.iconst 1, 1) := by decide +kernel
theorem dX5_share_173 : decode cX5_share 173 = .ok (.iload_n 1, 1) := by decide +kernel
theorem dX5_share_174 : decode cX5_share 174 = .ok (.ishl, 1) := by decide +kernel
theorem dX5_share_175 : decode cX5_share 175 = .ok (.ior, 1) := by decide +kernel
theorem dX5_share_176 : decode cX5_share 176 = .ok (.iaload, 1) := by decide +kernel
theorem dX5_share_177 : decode cX5_share 177 = .ok (.aload_n 0, 1) := by decide +kernel
theorem dX5_share_178 : decode cX5_share 178 = .ok (.getfield 34, 3) := by decide +kernel
theorem dX5_share_181 : decode cX5_share 181 = .ok (.iload 5, 2) := by decide +kernel
theorem dX5_share_183 : decode cX5_share 183 = .ok (.iaload, 1) := by decide +kernel
theorem dX5_share_184 : decode cX5_share 184 = .ok (.isub, 1) := by decide +kernel
theorem dX5_share_185 : decode cX5_share 185 = .ok (.imul, 1) := by decide +kernel
theorem dX5_share_186 : decode cX5_share 186 = .ok (.iadd, 1) := by decide +kernel
theorem dX5_share_187 : decode cX5_share 187 = .ok (.istore 4, 2) := by decide +kernel
theorem dX5_share_189 : decode cX5_share 189 = .ok (.iinc 5 1, 3) := by decide +kernel
theorem dX5_share_192 : decode cX5_share 192 = .ok (.goto (-80), 3) := by decide +kernel
theorem dX5_share_195 : decode cX5_share 195 = .ok (.iload 4, 2) := by decide +kernel
theorem dX5_share_197 : decode cX5_share 197 = .ok (.iload_n 3, 1) := by decide +kernel
theorem dX5_share_198 : decode cX5_share 198 = .ok (.invokestatic 105, 3) := by decide +kernel
theorem dX5_share_201 : decode cX5_share 201 = .ok (.invokestatic 178, 3) := by decide +kernel
theorem dX5_share_204 : decode cX5_share 204 = .ok (.invokestatic 181, 3) := by decide +kernel
theorem dX5_share_207 : decode cX5_share 207 = .ok (.istore 5, 2) := by decide +kernel
theorem dX5_share_209 : decode cX5_share 209 = .ok (.iload_n 2, 1) := by decide +kernel
theorem dX5_share_210 : decode cX5_share 210 = .ok (.ifCond .eq 11, 3) := by decide +kernel
theorem dX5_share_213 : decode cX5_share 213 = .ok (.iload 4, 2) := by decide +kernel
theorem dX5_share_215 : decode cX5_share 215 = .ok (.iload 5, 2) := by decide +kernel
theorem dX5_share_217 : decode cX5_share 217 = .ok (.idiv, 1) := by decide +kernel
theorem dX5_share_218 : decode cX5_share 218 = .ok (.goto 13, 3) := by decide +kernel
theorem dX5_share_221 : decode cX5_share 221 = .ok (.iload_n 3, 1) := by decide +kernel
theorem dX5_share_222 : decode cX5_share 222 = .ok (.invokestatic 105, 3) := by decide +kernel
theorem dX5_share_225 : decode cX5_share 225 = .ok (.invokestatic 178, 3) := by decide +kernel
theorem dX5_share_228 : decode cX5_share 228 = .ok (.iload 5, 2) := by decide +kernel
theorem dX5_share_230 : decode cX5_share 230 = .ok (.idiv, 1) := by decide +kernel
theorem dX5_share_231 : decode cX5_share 231 = .ok (.ireturn, 1) := by decide +kernel
theorem dX5_paysIf_0 : decode cX5_paysIf 0 = .ok (.aload_n 0, 1) := by decide +kernel
theorem dX5_paysIf_1 : decode cX5_paysIf 1 = .ok (.invokevirtual 135, 3) := by decide +kernel
theorem dX5_paysIf_4 : decode cX5_paysIf 4 = .ok (.iconst 0, 1) := by decide +kernel
theorem dX5_paysIf_5 : decode cX5_paysIf 5 = .ok (.istore 5, 2) := by decide +kernel
theorem dX5_paysIf_7 : decode cX5_paysIf 7 = .ok (.iload 5, 2) := by decide +kernel
theorem dX5_paysIf_9 : decode cX5_paysIf 9 = .ok (.iload_n 3, 1) := by decide +kernel
theorem dX5_paysIf_10 : decode cX5_paysIf 10 = .ok (.if_icmp .ge 14, 3) := by decide +kernel
theorem dX5_paysIf_13 : decode cX5_paysIf 13 = .ok (.aload_n 0, 1) := by decide +kernel
theorem dX5_paysIf_14 : decode cX5_paysIf 14 = .ok (.iconst 1, 1) := by decide +kernel
theorem dX5_paysIf_15 : decode cX5_paysIf 15 = .ok (.invokevirtual 131, 3) := by decide +kernel
theorem dX5_paysIf_18 : decode cX5_paysIf 18 = .ok (.iinc 5 1, 3) := by decide +kernel
theorem dX5_paysIf_21 : decode cX5_paysIf 21 = .ok (.goto (-14), 3) := by decide +kernel
theorem dX5_paysIf_24 : decode cX5_paysIf 24 = .ok (.aload_n 0, 1) := by decide +kernel
theorem dX5_paysIf_25 : decode cX5_paysIf 25 = .ok (.getfield 13, 3) := by decide +kernel
theorem dX5_paysIf_28 : decode cX5_paysIf 28 = .ok (.iload_n 1, 1) := by decide +kernel
theorem dX5_paysIf_29 : decode cX5_paysIf 29 = .ok (.iaload, 1) := by decide +kernel
theorem dX5_paysIf_30 : decode cX5_paysIf 30 = .ok (.aload_n 0, 1) := by decide +kernel
theorem dX5_paysIf_31 : decode cX5_paysIf 31 = .ok (.getfield 16, 3) := by decide +kernel
theorem dX5_paysIf_34 : decode cX5_paysIf 34 = .ok (.bipush 13, 2) := by decide +kernel
theorem dX5_paysIf_36 : decode cX5_paysIf 36 = .ok (.iaload, 1) := by decide +kernel
theorem dX5_paysIf_37 : decode cX5_paysIf 37 = .ok (.iand, 1) := by decide +kernel
theorem dX5_paysIf_38 : decode cX5_paysIf 38 = .ok (.invokestatic 105, 3) := by decide +kernel
theorem dX5_paysIf_41 : decode cX5_paysIf 41 = .ok (.iload 4, 2) := by decide +kernel
theorem dX5_paysIf_43 : decode cX5_paysIf 43 = .ok (.iload_n 3, 1) := by decide +kernel
theorem dX5_paysIf_44 : decode cX5_paysIf 44 = .ok (.if_icmp .ge 20, 3) := by decide +kernel
theorem dX5_paysIf_47 : decode cX5_paysIf 47 = .ok (.aload_n 0, 1) := by decide +kernel
theorem dX5_paysIf_48 : decode cX5_paysIf 48 = .ok (.getfield 13, 3) := by decide +kernel
theorem dX5_paysIf_51 : decode cX5_paysIf 51 = .ok (.iload_n 1, 1) := by decide +kernel
theorem dX5_paysIf_52 : decode cX5_paysIf 52 = .ok (.iaload, 1) := by decide +kernel
theorem dX5_paysIf_53 : decode cX5_paysIf 53 = .ok (.iload_n 2, 1) := by decide +kernel
theorem dX5_paysIf_54 : decode cX5_paysIf 54 = .ok (.invokestatic 65, 3) := by decide +kernel
theorem dX5_paysIf_57 : decode cX5_paysIf 57 = .ok (.ifCond .eq 7, 3) := by decide +kernel
theorem dX5_paysIf_60 : decode cX5_paysIf 60 = .ok (.iconst 1, 1) := by decide +kernel
theorem dX5_paysIf_61 : decode cX5_paysIf 61 = .ok (.goto 4, 3) := by decide +kernel
theorem dX5_paysIf_64 : decode cX5_paysIf 64 = .ok (.iconst 0, 1) := by decide +kernel
theorem dX5_paysIf_65 : decode cX5_paysIf 65 = .ok (.iadd, 1) := by decide +kernel
theorem dX5_paysIf_66 : decode cX5_paysIf 66 = .ok (.istore 5, 2) := by decide +kernel
theorem dX5_paysIf_68 : decode cX5_paysIf 68 = .ok (.aload_n 0, 1) := by decide +kernel
theorem dX5_paysIf_69 : decode cX5_paysIf 69 = .ok (.iload_n 1, 1) := by decide +kernel
theorem dX5_paysIf_70 : decode cX5_paysIf 70 = .ok (.aload_n 0, 1) := by decide +kernel
theorem dX5_paysIf_71 : decode cX5_paysIf 71 = .ok (.getfield 16, 3) := by decide +kernel
theorem dX5_paysIf_74 : decode cX5_paysIf 74 = .ok (.bipush 17, 2) := by decide +kernel
theorem dX5_paysIf_76 : decode cX5_paysIf 76 = .ok (.iload_n 1, 1) := by decide +kernel
theorem dX5_paysIf_77 : decode cX5_paysIf 77 = .ok (.iadd, 1) := by decide +kernel
theorem dX5_paysIf_78 : decode cX5_paysIf 78 = .ok (.iaload, 1) := by decide +kernel
theorem dX5_paysIf_79 : decode cX5_paysIf 79 = .ok (.aload_n 0, 1) := by decide +kernel
theorem dX5_paysIf_80 : decode cX5_paysIf 80 = .ok (.getfield 16, 3) := by decide +kernel
theorem dX5_paysIf_83 : decode cX5_paysIf 83 = .ok (.bipush 12, 2) := by decide +kernel
theorem dX5_paysIf_85 : decode cX5_paysIf 85 = .ok (.iaload, 1) := by decide +kernel
theorem dX5_paysIf_86 : decode cX5_paysIf 86 = .ok (.iload_n 1, 1) := by decide +kernel
theorem dX5_paysIf_87 : decode cX5_paysIf 87 = .ok (.invokestatic 65, 3) := by decide +kernel
theorem dX5_paysIf_90 : decode cX5_paysIf 90 = .ok (.iload 5, 2) := by decide +kernel
theorem dX5_paysIf_92 : decode cX5_paysIf 92 = .ok (.aload_n 0, 1) := by decide +kernel
theorem dX5_paysIf_93 : decode cX5_paysIf 93 = .ok (.getfield 16, 3) := by decide +kernel
theorem dX5_paysIf_96 : decode cX5_paysIf 96 = .ok (.bipush 31, 2) := by decide +kernel
theorem dX5_paysIf_98 : decode cX5_paysIf 98 = .ok (.iaload, 1) := by decide +kernel
theorem dX5_paysIf_99 : decode cX5_paysIf 99 = .ok (.invokevirtual 108, 3) := by decide +kernel
theorem dX5_paysIf_102 : decode cX5_paysIf 102 = .ok (.istore 6, 2) := by decide +kernel
theorem dX5_paysIf_104 : decode cX5_paysIf 104 = .ok (.iload_n 3, 1) := by decide +kernel
theorem dX5_paysIf_105 : decode cX5_paysIf 105 = .ok (.iload 4, 2) := by decide +kernel
theorem dX5_paysIf_107 : decode cX5_paysIf 107 = .ok (.if_icmp .ne 10, 3) := by decide +kernel
theorem dX5_paysIf_110 : decode cX5_paysIf 110 = .ok (.iload 6, 2) := by decide +kernel
theorem dX5_paysIf_112 : decode cX5_paysIf 112 = .ok (.iconst 2, 1) := by decide +kernel
theorem dX5_paysIf_113 : decode cX5_paysIf 113 = .ok (.iadd, 1) := by decide +kernel
theorem dX5_paysIf_114 : decode cX5_paysIf 114 = .ok (.goto 5, 3) := by decide +kernel
theorem dX5_paysIf_117 : decode cX5_paysIf 117 = .ok (.iload 6, 2) := by decide +kernel
theorem dX5_paysIf_119 : decode cX5_paysIf 119 = .ok (.ireturn, 1) := by decide +kernel
theorem dX5_isRest_0 : decode cX5_isRest 0 = .ok (.iconst 1, 1) := by decide +kernel
theorem dX5_isRest_1 : decode cX5_isRest 1 = .ok (.istore 5, 2) := by decide +kernel
theorem dX5_isRest_3 : decode cX5_isRest 3 = .ok (.iconst 0, 1) := by decide +kernel
theorem dX5_isRest_4 : decode cX5_isRest 4 = .ok (.istore 6, 2) := by decide +kernel
theorem dX5_isRest_6 : decode cX5_isRest 6 = .ok (.iload 6, 2) := by decide +kernel
theorem dX5_isRest_8 : decode cX5_isRest 8 = .ok (.iconst 4, 1) := by decide +kernel
theorem dX5_isRest_9 : decode cX5_isRest 9 = .ok (.if_icmp .ge 64, 3) := by decide +kernel
theorem dX5_isRest_12 : decode cX5_isRest 12 = .ok (.iload 5, 2) := by decide +kernel
theorem dX5_isRest_14 : decode cX5_isRest 14 = .ok (.ifCond .eq 50, 3) := by decide +kernel
theorem dX5_isRest_17 : decode cX5_isRest 17 = .ok (.aload_n 0, 1) := by decide +kernel
theorem dX5_isRest_18 : decode cX5_isRest 18 = .ok (.iload_n 1, 1) := by decide +kernel
theorem dX5_isRest_19 : decode cX5_isRest 19 = .ok (.iload_n 2, 1) := by decide +kernel
theorem dX5_isRest_20 : decode cX5_isRest 20 = .ok (.iload 6, 2) := by decide +kernel
theorem dX5_isRest_22 : decode cX5_isRest 22 = .ok (.iload 4, 2) := by decide +kernel
theorem dX5_isRest_24 : decode cX5_isRest 24 = .ok (.invokevirtual 184, 3) := by decide +kernel
theorem dX5_isRest_27 : decode cX5_isRest 27 = .ok (.aload_n 0, 1) := by decide +kernel
theorem dX5_isRest_28 : decode cX5_isRest 28 = .ok (.iload_n 1, 1) := by decide +kernel
theorem dX5_isRest_29 : decode cX5_isRest 29 = .ok (.iload_n 2, 1) := by decide +kernel
theorem dX5_isRest_30 : decode cX5_isRest 30 = .ok (.iload_n 3, 1) := by decide +kernel
theorem dX5_isRest_31 : decode cX5_isRest 31 = .ok (.iload 4, 2) := by decide +kernel
theorem dX5_isRest_33 : decode cX5_isRest 33 = .ok (.invokevirtual 184, 3) := by decide +kernel
theorem dX5_isRest_36 : decode cX5_isRest 36 = .ok (.if_icmp .lt 28, 3) := by decide +kernel
theorem dX5_isRest_39 : decode cX5_isRest 39 = .ok (.aload_n 0, 1) := by decide +kernel
theorem dX5_isRest_40 : decode cX5_isRest 40 = .ok (.iload_n 2, 1) := by decide +kernel
theorem dX5_isRest_41 : decode cX5_isRest 41 = .ok (.iload_n 1, 1) := by decide +kernel
theorem dX5_isRest_42 : decode cX5_isRest 42 = .ok (.iload 6, 2) := by decide +kernel
theorem dX5_isRest_44 : decode cX5_isRest 44 = .ok (.iload_n 3, 1) := by decide +kernel
theorem dX5_isRest_45 : decode cX5_isRest 45 = .ok (.invokevirtual 184, 3) := by decide +kernel
theorem dX5_isRest_48 : decode cX5_isRest 48 = .ok (.aload_n 0, 1) := by decide +kernel
theorem dX5_isRest_49 : decode cX5_isRest 49 = .ok (.iload_n 2, 1) := by decide +kernel
theorem dX5_isRest_50 : decode cX5_isRest 50 = .ok (.iload_n 1, 1) := by decide +kernel
theorem dX5_isRest_51 : decode cX5_isRest 51 = .ok (.iload 4, 2) := by decide +kernel
theorem dX5_isRest_53 : decode cX5_isRest 53 = .ok (.iload_n 3, 1) := by decide +kernel
theorem dX5_isRest_54 : decode cX5_isRest 54 = .ok (.invokevirtual 184, 3) := by decide +kernel
theorem dX5_isRest_57 : decode cX5_isRest 57 = .ok (.if_icmp .lt 7, 3) := by decide +kernel
theorem dX5_isRest_60 : decode cX5_isRest 60 = .ok (.iconst 1, 1) := by decide +kernel
theorem dX5_isRest_61 : decode cX5_isRest 61 = .ok (.goto 4, 3) := by decide +kernel
theorem dX5_isRest_64 : decode cX5_isRest 64 = .ok (.iconst 0, 1) := by decide +kernel
theorem dX5_isRest_65 : decode cX5_isRest 65 = .ok (.istore 5, 2) := by decide +kernel
theorem dX5_isRest_67 : decode cX5_isRest 67 = .ok (.iinc 6 1, 3) := by decide +kernel
theorem dX5_isRest_70 : decode cX5_isRest 70 = .ok (.goto (-64), 3) := by decide +kernel
theorem dX5_isRest_73 : decode cX5_isRest 73 = .ok (.iload 5, 2) := by decide +kernel
theorem dX5_isRest_75 : decode cX5_isRest 75 = .ok (.ireturn, 1) := by decide +kernel
theorem dX5_rests_0 : decode cX5_rests 0 = .ok (.aload_n 0, 1) := by decide +kernel
theorem dX5_rests_1 : decode cX5_rests 1 = .ok (.iload_n 1, 1) := by decide +kernel
theorem dX5_rests_2 : decode cX5_rests 2 = .ok (.invokevirtual 112, 3) := by decide +kernel
theorem dX5_rests_5 : decode cX5_rests 5 = .ok (.ifCond .eq 11, 3) := by decide +kernel
theorem dX5_rests_8 : decode cX5_rests 8 = .ok (.aload_n 0, 1) := by decide +kernel
theorem dX5_rests_9 : decode cX5_rests 9 = .ok (.iload_n 2, 1) := by decide +kernel
theorem dX5_rests_10 : decode cX5_rests 10 = .ok (.invokevirtual 112, 3) := by decide +kernel
theorem dX5_rests_13 : decode cX5_rests 13 = .ok (.ifCond .ne 5, 3) := by decide +kernel
theorem dX5_rests_16 : decode cX5_rests 16 = .ok (.iconst (-1), 1) := by decide +kernel
theorem dX5_rests_17 : decode cX5_rests 17 = .ok (.ireturn, 1) := by decide +kernel
theorem dX5_rests_18 : decode cX5_rests 18 = .ok (.iload_n 1, 1) := by decide +kernel
theorem dX5_rests_19 : decode cX5_rests 19 = .ok (.iload_n 2, 1) := by decide +kernel
theorem dX5_rests_20 : decode cX5_rests 20 = .ok (.if_icmp .eq 13, 3) := by decide +kernel
end
section
theorem dX5_rests_23 : decode cX5_rests 23 = .ok (.iload_n 3, 1) := by decide +kernel
theorem dX5_rests_24 : decode cX5_rests 24 = .ok (.i2l, 1) := by decide +kernel
theorem dX5_rests_25 : decode cX5_rests 25 = .ok (.lconst 0, 1) := by decide +kernel
theorem dX5_rests_26 : decode cX5_rests 26 = .ok (.lconst 1, 1) := by decide +kernel
theorem dX5_rests_27 : decode cX5_rests 27 = .ok (.invokestatic 50, 3) := by decide +kernel
theorem dX5_rests_30 : decode cX5_rests 30 = .ok (.ifCond .ne 6, 3) := by decide +kernel
theorem dX5_rests_33 : decode cX5_rests 33 = .ok (.bipush (-2), 2) := by decide +kernel
theorem dX5_rests_35 : decode cX5_rests 35 = .ok (.ireturn, 1) := by decide +kernel
theorem dX5_rests_36 : decode cX5_rests 36 = .ok (.aload_n 0, 1) := by decide +kernel
theorem dX5_rests_37 : decode cX5_rests 37 = .ok (.iconst 0, 1) := by decide +kernel
theorem dX5_rests_38 : decode cX5_rests 38 = .ok (.iload_n 1, 1) := by decide +kernel
theorem dX5_rests_39 : decode cX5_rests 39 = .ok (.invokevirtual 116, 3) := by decide +kernel
theorem dX5_rests_42 : decode cX5_rests 42 = .ok (.ifCond .ne 12, 3) := by decide +kernel
theorem dX5_rests_45 : decode cX5_rests 45 = .ok (.aload_n 0, 1) := by decide +kernel
theorem dX5_rests_46 : decode cX5_rests 46 = .ok (.iconst 0, 1) := by decide +kernel
theorem dX5_rests_47 : decode cX5_rests 47 = .ok (.iload_n 2, 1) := by decide +kernel
theorem dX5_rests_48 : decode cX5_rests 48 = .ok (.invokevirtual 116, 3) := by decide +kernel
theorem dX5_rests_51 : decode cX5_rests 51 = .ok (.ifCond .eq 6, 3) := by decide +kernel
theorem dX5_rests_54 : decode cX5_rests 54 = .ok (.bipush (-3), 2) := by decide +kernel
theorem dX5_rests_56 : decode cX5_rests 56 = .ok (.ireturn, 1) := by decide +kernel
theorem dX5_rests_57 : decode cX5_rests 57 = .ok (.iconst 0, 1) := by decide +kernel
theorem dX5_rests_58 : decode cX5_rests 58 = .ok (.istore 4, 2) := by decide +kernel
theorem dX5_rests_60 : decode cX5_rests 60 = .ok (.bipush (-9), 2) := by decide +kernel
theorem dX5_rests_62 : decode cX5_rests 62 = .ok (.istore 5, 2) := by decide +kernel
theorem dX5_rests_64 : decode cX5_rests 64 = .ok (.iconst 0, 1) := by decide +kernel
theorem dX5_rests_65 : decode cX5_rests 65 = .ok (.istore 6, 2) := by decide +kernel
theorem dX5_rests_67 : decode cX5_rests 67 = .ok (.iload 6, 2) := by decide +kernel
theorem dX5_rests_69 : decode cX5_rests 69 = .ok (.bipush 16, 2) := by decide +kernel
theorem dX5_rests_71 : decode cX5_rests 71 = .ok (.if_icmp .ge 53, 3) := by decide +kernel
theorem dX5_rests_74 : decode cX5_rests 74 = .ok (.aload_n 0, 1) := by decide +kernel
theorem dX5_rests_75 : decode cX5_rests 75 = .ok (.iload_n 1, 1) := by decide +kernel
theorem dX5_rests_76 : decode cX5_rests 76 = .ok (.iload_n 2, 1) := by decide +kernel
theorem dX5_rests_77 : decode cX5_rests 77 = .ok (.iload 6, 2) := by decide +kernel
theorem dX5_rests_79 : decode cX5_rests 79 = .ok (.iconst 4, 1) := by decide +kernel
theorem dX5_rests_80 : decode cX5_rests 80 = .ok (.idiv, 1) := by decide +kernel
theorem dX5_rests_81 : decode cX5_rests 81 = .ok (.iload 6, 2) := by decide +kernel
theorem dX5_rests_83 : decode cX5_rests 83 = .ok (.iconst 4, 1) := by decide +kernel
theorem dX5_rests_84 : decode cX5_rests 84 = .ok (.irem, 1) := by decide +kernel
theorem dX5_rests_85 : decode cX5_rests 85 = .ok (.invokevirtual 188, 3) := by decide +kernel
theorem dX5_rests_88 : decode cX5_rests 88 = .ok (.ifCond .eq 30, 3) := by decide +kernel
theorem dX5_rests_91 : decode cX5_rests 91 = .ok (.iload 4, 2) := by decide +kernel
theorem dX5_rests_93 : decode cX5_rests 93 = .ok (.ifCond .ne 18, 3) := by decide +kernel
theorem dX5_rests_96 : decode cX5_rests 96 = .ok (.bipush 10, 2) := by decide +kernel
theorem dX5_rests_98 : decode cX5_rests 98 = .ok (.iload 6, 2) := by decide +kernel
theorem dX5_rests_100 : decode cX5_rests 100 = .ok (.iconst 4, 1) := by decide +kernel
theorem dX5_rests_101 : decode cX5_rests 101 = .ok (.idiv, 1) := by decide +kernel
theorem dX5_rests_102 : decode cX5_rests 102 = .ok (.imul, 1) := by decide +kernel
theorem dX5_rests_103 : decode cX5_rests 103 = .ok (.iload 6, 2) := by decide +kernel
theorem dX5_rests_105 : decode cX5_rests 105 = .ok (.iconst 4, 1) := by decide +kernel
theorem dX5_rests_106 : decode cX5_rests 106 = .ok (.irem, 1) := by decide +kernel
theorem dX5_rests_107 : decode cX5_rests 107 = .ok (.iadd, 1) := by decide +kernel
theorem dX5_rests_108 : decode cX5_rests 108 = .ok (.goto 5, 3) := by decide +kernel
theorem dX5_rests_111 : decode cX5_rests 111 = .ok (.iload 5, 2) := by decide +kernel
theorem dX5_rests_113 : decode cX5_rests 113 = .ok (.istore 5, 2) := by decide +kernel
theorem dX5_rests_115 : decode cX5_rests 115 = .ok (.iinc 4 1, 3) := by decide +kernel
theorem dX5_rests_118 : decode cX5_rests 118 = .ok (.iinc 6 1, 3) := by decide +kernel
theorem dX5_rests_121 : decode cX5_rests 121 = .ok (.goto (-54), 3) := by decide +kernel
theorem dX5_rests_124 : decode cX5_rests 124 = .ok (.iload_n 3, 1) := by decide +kernel
theorem dX5_rests_125 : decode cX5_rests 125 = .ok (.ifCond .ne 8, 3) := by decide +kernel
theorem dX5_rests_128 : decode cX5_rests 128 = .ok (.iload 4, 2) := by decide +kernel
theorem dX5_rests_130 : decode cX5_rests 130 = .ok (.goto 5, 3) := by decide +kernel
theorem dX5_rests_133 : decode cX5_rests 133 = .ok (.iload 5, 2) := by decide +kernel
theorem dX5_rests_135 : decode cX5_rests 135 = .ok (.ireturn, 1) := by decide +kernel
theorem dX5_power_0 : decode cX5_power 0 = .ok (.iconst 1, 1) := by decide +kernel
theorem dX5_power_1 : decode cX5_power 1 = .ok (.istore_n 2, 1) := by decide +kernel
theorem dX5_power_2 : decode cX5_power 2 = .ok (.iconst 0, 1) := by decide +kernel
theorem dX5_power_3 : decode cX5_power 3 = .ok (.istore_n 3, 1) := by decide +kernel
theorem dX5_power_4 : decode cX5_power 4 = .ok (.iload_n 3, 1) := by decide +kernel
theorem dX5_power_5 : decode cX5_power 5 = .ok (.iload_n 1, 1) := by decide +kernel
theorem dX5_power_6 : decode cX5_power 6 = .ok (.if_icmp .ge 13, 3) := by decide +kernel
theorem dX5_power_9 : decode cX5_power 9 = .ok (.iload_n 2, 1) := by decide +kernel
theorem dX5_power_10 : decode cX5_power 10 = .ok (.iload_n 0, 1) := by decide +kernel
theorem dX5_power_11 : decode cX5_power 11 = .ok (.imul, 1) := by decide +kernel
theorem dX5_power_12 : decode cX5_power 12 = .ok (.istore_n 2, 1) := by decide +kernel
theorem dX5_power_13 : decode cX5_power 13 = .ok (.iinc 3 1, 3) := by decide +kernel
theorem dX5_power_16 : decode cX5_power 16 = .ok (.goto (-12), 3) := by decide +kernel
theorem dX5_power_19 : decode cX5_power 19 = .ok (.iload_n 2, 1) := by decide +kernel
theorem dX5_power_20 : decode cX5_power 20 = .ok (.ireturn, 1) := by decide +kernel
theorem dX5_lost_0 : decode cX5_lost 0 = .ok (.aload_n 0, 1) := by decide +kernel
theorem dX5_lost_1 : decode cX5_lost 1 = .ok (.iload_n 1, 1) := by decide +kernel
theorem dX5_lost_2 : decode cX5_lost 2 = .ok (.invokevirtual 112, 3) := by decide +kernel
theorem dX5_lost_5 : decode cX5_lost 5 = .ok (.ifCond .ne 5, 3) := by decide +kernel
theorem dX5_lost_8 : decode cX5_lost 8 = .ok (.iconst (-1), 1) := by decide +kernel
theorem dX5_lost_9 : decode cX5_lost 9 = .ok (.ireturn, 1) := by decide +kernel
theorem dX5_lost_10 : decode cX5_lost 10 = .ok (.iload_n 2, 1) := by decide +kernel
theorem dX5_lost_11 : decode cX5_lost 11 = .ok (.i2l, 1) := by decide +kernel
theorem dX5_lost_12 : decode cX5_lost 12 = .ok (.lconst 0, 1) := by decide +kernel
theorem dX5_lost_13 : decode cX5_lost 13 = .ok (.ldc2_w 171, 3) := by decide +kernel
theorem dX5_lost_16 : decode cX5_lost 16 = .ok (.invokestatic 50, 3) := by decide +kernel
theorem dX5_lost_19 : decode cX5_lost 19 = .ok (.ifCond .eq 15, 3) := by decide +kernel
theorem dX5_lost_22 : decode cX5_lost 22 = .ok (.iload_n 3, 1) := by decide +kernel
theorem dX5_lost_23 : decode cX5_lost 23 = .ok (.i2l, 1) := by decide +kernel
theorem dX5_lost_24 : decode cX5_lost 24 = .ok (.lconst 0, 1) := by decide +kernel
theorem dX5_lost_25 : decode cX5_lost 25 = .ok (.ldc2_w 192, 3) := by decide +kernel
theorem dX5_lost_28 : decode cX5_lost 28 = .ok (.invokestatic 50, 3) := by decide +kernel
theorem dX5_lost_31 : decode cX5_lost 31 = .ok (.ifCond .ne 6, 3) := by decide +kernel
theorem dX5_lost_34 : decode cX5_lost 34 = .ok (.bipush (-2), 2) := by decide +kernel
theorem dX5_lost_36 : decode cX5_lost 36 = .ok (.ireturn, 1) := by decide +kernel
theorem dX5_lost_37 : decode cX5_lost 37 = .ok (.aload_n 0, 1) := by decide +kernel
theorem dX5_lost_38 : decode cX5_lost 38 = .ok (.iconst 0, 1) := by decide +kernel
theorem dX5_lost_39 : decode cX5_lost 39 = .ok (.iload_n 1, 1) := by decide +kernel
theorem dX5_lost_40 : decode cX5_lost 40 = .ok (.invokevirtual 116, 3) := by decide +kernel
theorem dX5_lost_43 : decode cX5_lost 43 = .ok (.ifCond .eq 6, 3) := by decide +kernel
theorem dX5_lost_46 : decode cX5_lost 46 = .ok (.bipush (-3), 2) := by decide +kernel
theorem dX5_lost_48 : decode cX5_lost 48 = .ok (.ireturn, 1) := by decide +kernel
theorem dX5_lost_49 : decode cX5_lost 49 = .ok (.aload_n 0, 1) := by decide +kernel
theorem dX5_lost_50 : decode cX5_lost 50 = .ok (.getfield 13, 3) := by decide +kernel
theorem dX5_lost_53 : decode cX5_lost 53 = .ok (.iload_n 1, 1) := by decide +kernel
theorem dX5_lost_54 : decode cX5_lost 54 = .ok (.iaload, 1) := by decide +kernel
theorem dX5_lost_55 : decode cX5_lost 55 = .ok (.aload_n 0, 1) := by decide +kernel
theorem dX5_lost_56 : decode cX5_lost 56 = .ok (.getfield 16, 3) := by decide +kernel
theorem dX5_lost_59 : decode cX5_lost 59 = .ok (.bipush 13, 2) := by decide +kernel
theorem dX5_lost_61 : decode cX5_lost 61 = .ok (.iaload, 1) := by decide +kernel
theorem dX5_lost_62 : decode cX5_lost 62 = .ok (.iand, 1) := by decide +kernel
theorem dX5_lost_63 : decode cX5_lost 63 = .ok (.istore 5, 2) := by decide +kernel
theorem dX5_lost_65 : decode cX5_lost 65 = .ok (.iconst 0, 1) := by decide +kernel
theorem dX5_lost_66 : decode cX5_lost 66 = .ok (.istore 6, 2) := by decide +kernel
theorem dX5_lost_68 : decode cX5_lost 68 = .ok (.iconst 0, 1) := by decide +kernel
theorem dX5_lost_69 : decode cX5_lost 69 = .ok (.istore 7, 2) := by decide +kernel
theorem dX5_lost_71 : decode cX5_lost 71 = .ok (.iconst 0, 1) := by decide +kernel
theorem dX5_lost_72 : decode cX5_lost 72 = .ok (.istore 8, 2) := by decide +kernel
theorem dX5_lost_74 : decode cX5_lost 74 = .ok (.iload 8, 2) := by decide +kernel
theorem dX5_lost_76 : decode cX5_lost 76 = .ok (.bipush 64, 2) := by decide +kernel
theorem dX5_lost_78 : decode cX5_lost 78 = .ok (.if_icmp .ge 83, 3) := by decide +kernel
theorem dX5_lost_81 : decode cX5_lost 81 = .ok (.iload 8, 2) := by decide +kernel
theorem dX5_lost_83 : decode cX5_lost 83 = .ok (.iload 5, 2) := by decide +kernel
theorem dX5_lost_85 : decode cX5_lost 85 = .ok (.iconst (-1), 1) := by decide +kernel
theorem dX5_lost_86 : decode cX5_lost 86 = .ok (.ixor, 1) := by decide +kernel
theorem dX5_lost_87 : decode cX5_lost 87 = .ok (.iand, 1) := by decide +kernel
theorem dX5_lost_88 : decode cX5_lost 88 = .ok (.ifCond .ne 67, 3) := by decide +kernel
theorem dX5_lost_91 : decode cX5_lost 91 = .ok (.iload_n 3, 1) := by decide +kernel
theorem dX5_lost_92 : decode cX5_lost 92 = .ok (.iload 8, 2) := by decide +kernel
theorem dX5_lost_94 : decode cX5_lost 94 = .ok (.invokestatic 105, 3) := by decide +kernel
theorem dX5_lost_97 : decode cX5_lost 97 = .ok (.invokestatic 194, 3) := by decide +kernel
theorem dX5_lost_100 : decode cX5_lost 100 = .ok (.bipush 10, 2) := by decide +kernel
theorem dX5_lost_102 : decode cX5_lost 102 = .ok (.iload_n 3, 1) := by decide +kernel
theorem dX5_lost_103 : decode cX5_lost 103 = .ok (.isub, 1) := by decide +kernel
theorem dX5_lost_104 : decode cX5_lost 104 = .ok (.iload 5, 2) := by decide +kernel
theorem dX5_lost_106 : decode cX5_lost 106 = .ok (.invokestatic 105, 3) := by decide +kernel
theorem dX5_lost_109 : decode cX5_lost 109 = .ok (.iload 8, 2) := by decide +kernel
theorem dX5_lost_111 : decode cX5_lost 111 = .ok (.invokestatic 105, 3) := by decide +kernel
theorem dX5_lost_114 : decode cX5_lost 114 = .ok (.isub, 1) := by decide +kernel
theorem dX5_lost_115 : decode cX5_lost 115 = .ok (.invokestatic 194, 3) := by decide +kernel
theorem dX5_lost_118 : decode cX5_lost 118 = .ok (.imul, 1) := by decide +kernel
theorem dX5_lost_119 : decode cX5_lost 119 = .ok (.istore 9, 2) := by decide +kernel
theorem dX5_lost_121 : decode cX5_lost 121 = .ok (.iload 7, 2) := by decide +kernel
theorem dX5_lost_123 : decode cX5_lost 123 = .ok (.iload 9, 2) := by decide +kernel
theorem dX5_lost_125 : decode cX5_lost 125 = .ok (.iadd, 1) := by decide +kernel
theorem dX5_lost_126 : decode cX5_lost 126 = .ok (.istore 7, 2) := by decide +kernel
theorem dX5_lost_128 : decode cX5_lost 128 = .ok (.iload 6, 2) := by decide +kernel
theorem dX5_lost_130 : decode cX5_lost 130 = .ok (.aload_n 0, 1) := by decide +kernel
theorem dX5_lost_131 : decode cX5_lost 131 = .ok (.iload_n 1, 1) := by decide +kernel
theorem dX5_lost_132 : decode cX5_lost 132 = .ok (.iload 5, 2) := by decide +kernel
theorem dX5_lost_134 : decode cX5_lost 134 = .ok (.iload 8, 2) := by decide +kernel
theorem dX5_lost_136 : decode cX5_lost 136 = .ok (.iconst (-1), 1) := by decide +kernel
theorem dX5_lost_137 : decode cX5_lost 137 = .ok (.ixor, 1) := by decide +kernel
theorem dX5_lost_138 : decode cX5_lost 138 = .ok (.iand, 1) := by decide +kernel
theorem dX5_lost_139 : decode cX5_lost 139 = .ok (.invokevirtual 175, 3) := by decide +kernel
theorem dX5_lost_142 : decode cX5_lost 142 = .ok (.iload_n 2, 1) := by decide +kernel
theorem dX5_lost_143 : decode cX5_lost 143 = .ok (.if_icmp .gt 8, 3) := by decide +kernel
theorem dX5_lost_146 : decode cX5_lost 146 = .ok (.iload 9, 2) := by decide +kernel
theorem dX5_lost_148 : decode cX5_lost 148 = .ok (.goto 4, 3) := by decide +kernel
theorem dX5_lost_151 : decode cX5_lost 151 = .ok (.iconst 0, 1) := by decide +kernel
theorem dX5_lost_152 : decode cX5_lost 152 = .ok (.iadd, 1) := by decide +kernel
theorem dX5_lost_153 : decode cX5_lost 153 = .ok (.istore 6, 2) := by decide +kernel
theorem dX5_lost_155 : decode cX5_lost 155 = .ok (.iinc 8 1, 3) := by decide +kernel
theorem dX5_lost_158 : decode cX5_lost 158 = .ok (.goto (-84), 3) := by decide +kernel
theorem dX5_lost_161 : decode cX5_lost 161 = .ok (.iload 6, 2) := by decide +kernel
theorem dX5_lost_163 : decode cX5_lost 163 = .ok (.iload 7, 2) := by decide +kernel
theorem dX5_lost_165 : decode cX5_lost 165 = .ok (.invokestatic 181, 3) := by decide +kernel
theorem dX5_lost_168 : decode cX5_lost 168 = .ok (.istore 8, 2) := by decide +kernel
theorem dX5_lost_170 : decode cX5_lost 170 = .ok (.iload 4, 2) := by decide +kernel
theorem dX5_lost_172 : decode cX5_lost 172 = .ok (.ifCond .eq 11, 3) := by decide +kernel
theorem dX5_lost_175 : decode cX5_lost 175 = .ok (.iload 6, 2) := by decide +kernel
theorem dX5_lost_177 : decode cX5_lost 177 = .ok (.iload 8, 2) := by decide +kernel
theorem dX5_lost_179 : decode cX5_lost 179 = .ok (.idiv, 1) := by decide +kernel
theorem dX5_lost_180 : decode cX5_lost 180 = .ok (.goto 8, 3) := by decide +kernel
theorem dX5_lost_183 : decode cX5_lost 183 = .ok (.iload 7, 2) := by decide +kernel
theorem dX5_lost_185 : decode cX5_lost 185 = .ok (.iload 8, 2) := by decide +kernel
theorem dX5_lost_187 : decode cX5_lost 187 = .ok (.idiv, 1) := by decide +kernel
theorem dX5_lost_188 : decode cX5_lost 188 = .ok (.ireturn, 1) := by decide +kernel
theorem dX5_seed_0 : decode cX5_seed 0 = .ok (.aload_n 0, 1) := by decide +kernel
theorem dX5_seed_1 : decode cX5_seed 1 = .ok (.getfield 197, 3) := by decide +kernel
theorem dX5_seed_4 : decode cX5_seed 4 = .ok (.lstore_n 3, 1) := by decide +kernel
theorem dX5_seed_5 : decode cX5_seed 5 = .ok (.aload_n 0, 1) := by decide +kernel
theorem dX5_seed_6 : decode cX5_seed 6 = .ok (.lload_n 1, 1) := by decide +kernel
theorem dX5_seed_7 : decode cX5_seed 7 = .ok (.putfield 197, 3) := by decide +kernel
theorem dX5_seed_10 : decode cX5_seed 10 = .ok (.lload_n 3, 1) := by decide +kernel
theorem dX5_seed_11 : decode cX5_seed 11 = .ok (.lreturn, 1) := by decide +kernel
theorem dX5_years_0 : decode cX5_years 0 = .ok (.iload_n 1, 1) := by decide +kernel
theorem dX5_years_1 : decode cX5_years 1 = .ok (.i2l, 1) := by decide +kernel
theorem dX5_years_2 : decode cX5_years 2 = .ok (.lconst 1, 1) := by decide +kernel
theorem dX5_years_3 : decode cX5_years 3 = .ok (.ldc2_w 201, 3) := by decide +kernel
theorem dX5_years_6 : decode cX5_years 6 = .ok (.invokestatic 50, 3) := by decide +kernel
theorem dX5_years_9 : decode cX5_years 9 = .ok (.ifCond .ne 6, 3) := by decide +kernel
theorem dX5_years_12 : decode cX5_years 12 = .ok (.bipush (-2), 2) := by decide +kernel
theorem dX5_years_14 : decode cX5_years 14 = .ok (.ireturn, 1) := by decide +kernel
theorem dX5_years_15 : decode cX5_years 15 = .ok (.aload_n 0, 1) := by decide +kernel
theorem dX5_years_16 : decode cX5_years 16 = .ok (.invokevirtual 135, 3) := by decide +kernel
theorem dX5_years_19 : decode cX5_years 19 = .ok (.iconst 0, 1) := by decide +kernel
theorem dX5_years_20 : decode cX5_years 20 = .ok (.istore_n 2, 1) := by decide +kernel
theorem dX5_years_21 : decode cX5_years 21 = .ok (.iload_n 2, 1) := by decide +kernel
theorem dX5_years_22 : decode cX5_years 22 = .ok (.iload_n 1, 1) := by decide +kernel
theorem dX5_years_23 : decode cX5_years 23 = .ok (.if_icmp .ge 67, 3) := by decide +kernel
theorem dX5_years_26 : decode cX5_years 26 = .ok (.aload_n 0, 1) := by decide +kernel
theorem dX5_years_27 : decode cX5_years 27 = .ok (.aload_n 0, 1) := by decide +kernel
theorem dX5_years_28 : decode cX5_years 28 = .ok (.getfield 197, 3) := by decide +kernel
theorem dX5_years_31 : decode cX5_years 31 = .ok (.ldc2_w 203, 3) := by decide +kernel
theorem dX5_years_34 : decode cX5_years 34 = .ok (.lmul, 1) := by decide +kernel
theorem dX5_years_35 : decode cX5_years 35 = .ok (.ldc2_w 205, 3) := by decide +kernel
theorem dX5_years_38 : decode cX5_years 38 = .ok (.ladd, 1) := by decide +kernel
theorem dX5_years_39 : decode cX5_years 39 = .ok (.putfield 197, 3) := by decide +kernel
theorem dX5_years_42 : decode cX5_years 42 = .ok (.aload_n 0, 1) := by decide +kernel
theorem dX5_years_43 : decode cX5_years 43 = .ok (.getfield 197, 3) := by decide +kernel
theorem dX5_years_46 : decode cX5_years 46 = .ok (.bipush 33, 2) := by decide +kernel
theorem dX5_years_48 : decode cX5_years 48 = .ok (.lushr, 1) := by decide +kernel
theorem dX5_years_49 : decode cX5_years 49 = .ok (.ldc2_w 63, 3) := by decide +kernel
theorem dX5_years_52 : decode cX5_years 52 = .ok (.lrem, 1) := by decide +kernel
theorem dX5_years_53 : decode cX5_years 53 = .ok (.l2i, 1) := by decide +kernel
theorem dX5_years_54 : decode cX5_years 54 = .ok (.istore_n 3, 1) := by decide +kernel
theorem dX5_years_55 : decode cX5_years 55 = .ok (.iload_n 3, 1) := by decide +kernel
theorem dX5_years_56 : decode cX5_years 56 = .ok (.iconst 5, 1) := by decide +kernel
theorem dX5_years_57 : decode cX5_years 57 = .ok (.if_icmp .le 11, 3) := by decide +kernel
theorem dX5_years_60 : decode cX5_years 60 = .ok (.aload_n 0, 1) := by decide +kernel
theorem dX5_years_61 : decode cX5_years 61 = .ok (.iconst 1, 1) := by decide +kernel
theorem dX5_years_62 : decode cX5_years 62 = .ok (.invokevirtual 131, 3) := by decide +kernel
theorem dX5_years_65 : decode cX5_years 65 = .ok (.goto 19, 3) := by decide +kernel
theorem dX5_years_68 : decode cX5_years 68 = .ok (.aload_n 0, 1) := by decide +kernel
theorem dX5_years_69 : decode cX5_years 69 = .ok (.iconst 1, 1) := by decide +kernel
theorem dX5_years_70 : decode cX5_years 70 = .ok (.iload_n 3, 1) := by decide +kernel
theorem dX5_years_71 : decode cX5_years 71 = .ok (.invokevirtual 148, 3) := by decide +kernel
theorem dX5_years_74 : decode cX5_years 74 = .ok (.ifCond .eq 10, 3) := by decide +kernel
theorem dX5_years_77 : decode cX5_years 77 = .ok (.aload_n 0, 1) := by decide +kernel
theorem dX5_years_78 : decode cX5_years 78 = .ok (.iconst 1, 1) := by decide +kernel
theorem dX5_years_79 : decode cX5_years 79 = .ok (.iload_n 3, 1) := by decide +kernel
theorem dX5_years_80 : decode cX5_years 80 = .ok (.invokevirtual 128, 3) := by decide +kernel
theorem dX5_years_83 : decode cX5_years 83 = .ok (.pop, 1) := by decide +kernel
theorem dX5_years_84 : decode cX5_years 84 = .ok (.iinc 2 1, 3) := by decide +kernel
theorem dX5_years_87 : decode cX5_years 87 = .ok (.goto (-66), 3) := by decide +kernel
theorem dX5_years_90 : decode cX5_years 90 = .ok (.aload_n 0, 1) := by decide +kernel
theorem dX5_years_91 : decode cX5_years 91 = .ok (.getfield 16, 3) := by decide +kernel
theorem dX5_years_94 : decode cX5_years 94 = .ok (.bipush 33, 2) := by decide +kernel
theorem dX5_years_96 : decode cX5_years 96 = .ok (.iaload, 1) := by decide +kernel
theorem dX5_years_97 : decode cX5_years 97 = .ok (.aload_n 0, 1) := by decide +kernel
theorem dX5_years_98 : decode cX5_years 98 = .ok (.getfield 16, 3) := by decide +kernel
theorem dX5_years_101 : decode cX5_years 101 = .ok (.bipush 16, 2) := by decide +kernel
theorem dX5_years_103 : decode cX5_years 103 = .ok (.iaload, 1) := by decide +kernel
theorem dX5_years_104 : decode cX5_years 104 = .ok (.isub, 1) := by decide +kernel
theorem dX5_years_105 : decode cX5_years 105 = .ok (.ireturn, 1) := by decide +kernel
theorem dX5_keep_0 : decode cX5_keep 0 = .ok (.iload_n 1, 1) := by decide +kernel
theorem dX5_keep_1 : decode cX5_keep 1 = .ok (.i2l, 1) := by decide +kernel
theorem dX5_keep_2 : decode cX5_keep 2 = .ok (.lconst 0, 1) := by decide +kernel
theorem dX5_keep_3 : decode cX5_keep 3 = .ok (.lconst 1, 1) := by decide +kernel
theorem dX5_keep_4 : decode cX5_keep 4 = .ok (.invokestatic 50, 3) := by decide +kernel
theorem dX5_keep_7 : decode cX5_keep 7 = .ok (.ifCond .ne 5, 3) := by decide +kernel
theorem dX5_keep_10 : decode cX5_keep 10 = .ok (.iconst (-1), 1) := by decide +kernel
theorem dX5_keep_11 : decode cX5_keep 11 = .ok (.ireturn, 1) := by decide +kernel
theorem dX5_keep_12 : decode cX5_keep 12 = .ok (.aload_n 0, 1) := by decide +kernel
theorem dX5_keep_13 : decode cX5_keep 13 = .ok (.getfield 37, 3) := by decide +kernel
theorem dX5_keep_16 : decode cX5_keep 16 = .ok (.iload_n 1, 1) := by decide +kernel
theorem dX5_keep_17 : decode cX5_keep 17 = .ok (.iconst 1, 1) := by decide +kernel
theorem dX5_keep_18 : decode cX5_keep 18 = .ok (.bastore, 1) := by decide +kernel
theorem dX5_keep_19 : decode cX5_keep 19 = .ok (.iconst 0, 1) := by decide +kernel
theorem dX5_keep_20 : decode cX5_keep 20 = .ok (.istore_n 2, 1) := by decide +kernel
theorem dX5_keep_21 : decode cX5_keep 21 = .ok (.iload_n 2, 1) := by decide +kernel
theorem dX5_keep_22 : decode cX5_keep 22 = .ok (.bipush 17, 2) := by decide +kernel
theorem dX5_keep_24 : decode cX5_keep 24 = .ok (.if_icmp .ge 26, 3) := by decide +kernel
theorem dX5_keep_27 : decode cX5_keep 27 = .ok (.aload_n 0, 1) := by decide +kernel
theorem dX5_keep_28 : decode cX5_keep 28 = .ok (.getfield 41, 3) := by decide +kernel
theorem dX5_keep_31 : decode cX5_keep 31 = .ok (.bipush 17, 2) := by decide +kernel
theorem dX5_keep_33 : decode cX5_keep 33 = .ok (.iload_n 1, 1) := by decide +kernel
theorem dX5_keep_34 : decode cX5_keep 34 = .ok (.imul, 1) := by decide +kernel
theorem dX5_keep_35 : decode cX5_keep 35 = .ok (.iload_n 2, 1) := by decide +kernel
theorem dX5_keep_36 : decode cX5_keep 36 = .ok (.iadd, 1) := by decide +kernel
theorem dX5_keep_37 : decode cX5_keep 37 = .ok (.aload_n 0, 1) := by decide +kernel
theorem dX5_keep_38 : decode cX5_keep 38 = .ok (.getfield 16, 3) := by decide +kernel
theorem dX5_keep_41 : decode cX5_keep 41 = .ok (.iload_n 2, 1) := by decide +kernel
theorem dX5_keep_42 : decode cX5_keep 42 = .ok (.iaload, 1) := by decide +kernel
theorem dX5_keep_43 : decode cX5_keep 43 = .ok (.iastore, 1) := by decide +kernel
theorem dX5_keep_44 : decode cX5_keep 44 = .ok (.iinc 2 1, 3) := by decide +kernel
theorem dX5_keep_47 : decode cX5_keep 47 = .ok (.goto (-26), 3) := by decide +kernel
theorem dX5_keep_50 : decode cX5_keep 50 = .ok (.aload_n 0, 1) := by decide +kernel
theorem dX5_keep_51 : decode cX5_keep 51 = .ok (.getfield 16, 3) := by decide +kernel
theorem dX5_keep_54 : decode cX5_keep 54 = .ok (.bipush 14, 2) := by decide +kernel
theorem dX5_keep_56 : decode cX5_keep 56 = .ok (.iaload, 1) := by decide +kernel
theorem dX5_keep_57 : decode cX5_keep 57 = .ok (.ireturn, 1) := by decide +kernel
theorem dX5_again_0 : decode cX5_again 0 = .ok (.iload_n 1, 1) := by decide +kernel
theorem dX5_again_1 : decode cX5_again 1 = .ok (.i2l, 1) := by decide +kernel
theorem dX5_again_2 : decode cX5_again 2 = .ok (.lconst 0, 1) := by decide +kernel
theorem dX5_again_3 : decode cX5_again 3 = .ok (.lconst 1, 1) := by decide +kernel
theorem dX5_again_4 : decode cX5_again 4 = .ok (.invokestatic 50, 3) := by decide +kernel
theorem dX5_again_7 : decode cX5_again 7 = .ok (.ifCond .ne 5, 3) := by decide +kernel
theorem dX5_again_10 : decode cX5_again 10 = .ok (.iconst (-1), 1) := by decide +kernel
theorem dX5_again_11 : decode cX5_again 11 = .ok (.ireturn, 1) := by decide +kernel
theorem dX5_again_12 : decode cX5_again 12 = .ok (.aload_n 0, 1) := by decide +kernel
theorem dX5_again_13 : decode cX5_again 13 = .ok (.getfield 37, 3) := by decide +kernel
theorem dX5_again_16 : decode cX5_again 16 = .ok (.iload_n 1, 1) := by decide +kernel
theorem dX5_again_17 : decode cX5_again 17 = .ok (.baload, 1) := by decide +kernel
theorem dX5_again_18 : decode cX5_again 18 = .ok (.ifCond .ne 6, 3) := by decide +kernel
theorem dX5_again_21 : decode cX5_again 21 = .ok (.bipush (-3), 2) := by decide +kernel
theorem dX5_again_23 : decode cX5_again 23 = .ok (.ireturn, 1) := by decide +kernel
theorem dX5_again_24 : decode cX5_again 24 = .ok (.iconst 0, 1) := by decide +kernel
theorem dX5_again_25 : decode cX5_again 25 = .ok (.istore_n 2, 1) := by decide +kernel
theorem dX5_again_26 : decode cX5_again 26 = .ok (.iload_n 2, 1) := by decide +kernel
theorem dX5_again_27 : decode cX5_again 27 = .ok (.bipush 17, 2) := by decide +kernel
theorem dX5_again_29 : decode cX5_again 29 = .ok (.if_icmp .ge 26, 3) := by decide +kernel
theorem dX5_again_32 : decode cX5_again 32 = .ok (.aload_n 0, 1) := by decide +kernel
theorem dX5_again_33 : decode cX5_again 33 = .ok (.getfield 16, 3) := by decide +kernel
theorem dX5_again_36 : decode cX5_again 36 = .ok (.iload_n 2, 1) := by decide +kernel
theorem dX5_again_37 : decode cX5_again 37 = .ok (.aload_n 0, 1) := by decide +kernel
theorem dX5_again_38 : decode cX5_again 38 = .ok (.getfield 41, 3) := by decide +kernel
theorem dX5_again_41 : decode cX5_again 41 = .ok (.bipush 17, 2) := by decide +kernel
theorem dX5_again_43 : decode cX5_again 43 = .ok (.iload_n 1, 1) := by decide +kernel
theorem dX5_again_44 : decode cX5_again 44 = .ok (.imul, 1) := by decide +kernel
theorem dX5_again_45 : decode cX5_again 45 = .ok (.iload_n 2, 1) := by decide +kernel
theorem dX5_again_46 : decode cX5_again 46 = .ok (.iadd, 1) := by decide +kernel
theorem dX5_again_47 : decode cX5_again 47 = .ok (.iaload, 1) := by decide +kernel
theorem dX5_again_48 : decode cX5_again 48 = .ok (.iastore, 1) := by decide +kernel
theorem dX5_again_49 : decode cX5_again 49 = .ok (.iinc 2 1, 3) := by decide +kernel
theorem dX5_again_52 : decode cX5_again 52 = .ok (.goto (-26), 3) := by decide +kernel
theorem dX5_again_55 : decode cX5_again 55 = .ok (.aload_n 0, 1) := by decide +kernel
theorem dX5_again_56 : decode cX5_again 56 = .ok (.iconst 0, 1) := by decide +kernel
theorem dX5_again_57 : decode cX5_again 57 = .ok (.putfield 102, 3) := by decide +kernel
theorem dX5_again_60 : decode cX5_again 60 = .ok (.aload_n 0, 1) := by decide +kernel
theorem dX5_again_61 : decode cX5_again 61 = .ok (.getfield 16, 3) := by decide +kernel
theorem dX5_again_64 : decode cX5_again 64 = .ok (.bipush 14, 2) := by decide +kernel
theorem dX5_again_66 : decode cX5_again 66 = .ok (.iaload, 1) := by decide +kernel
theorem dX5_again_67 : decode cX5_again 67 = .ok (.ireturn, 1) := by decide +kernel
theorem dX5_count_0 : decode cX5_count 0 = .ok (.iconst 0, 1) := by decide +kernel
theorem dX5_count_1 : decode cX5_count 1 = .ok (.istore_n 2, 1) := by decide +kernel
theorem dX5_count_2 : decode cX5_count 2 = .ok (.iconst 0, 1) := by decide +kernel
theorem dX5_count_3 : decode cX5_count 3 = .ok (.istore_n 3, 1) := by decide +kernel
theorem dX5_count_4 : decode cX5_count 4 = .ok (.iload_n 3, 1) := by decide +kernel
theorem dX5_count_5 : decode cX5_count 5 = .ok (.aload_n 0, 1) := by decide +kernel
theorem dX5_count_6 : decode cX5_count 6 = .ok (.getfield 96, 3) := by decide +kernel
theorem dX5_count_9 : decode cX5_count 9 = .ok (.if_icmp .ge 31, 3) := by decide +kernel
theorem dX5_count_12 : decode cX5_count 12 = .ok (.iload_n 2, 1) := by decide +kernel
theorem dX5_count_13 : decode cX5_count 13 = .ok (.aload_n 0, 1) := by decide +kernel
theorem dX5_count_14 : decode cX5_count 14 = .ok (.iconst 0, 1) := by decide +kernel
theorem dX5_count_15 : decode cX5_count 15 = .ok (.iload_n 3, 1) := by decide +kernel
theorem dX5_count_16 : decode cX5_count 16 = .ok (.invokevirtual 116, 3) := by decide +kernel
theorem dX5_count_19 : decode cX5_count 19 = .ok (.ifCond .eq 7, 3) := by decide +kernel
theorem dX5_count_22 : decode cX5_count 22 = .ok (.iconst 0, 1) := by decide +kernel
theorem dX5_count_23 : decode cX5_count 23 = .ok (.goto 9, 3) := by decide +kernel
theorem dX5_count_26 : decode cX5_count 26 = .ok (.aload_n 0, 1) := by decide +kernel
theorem dX5_count_27 : decode cX5_count 27 = .ok (.iconst 0, 1) := by decide +kernel
theorem dX5_count_28 : decode cX5_count 28 = .ok (.iload_n 3, 1) := by decide +kernel
theorem dX5_count_29 : decode cX5_count 29 = .ok (.invokevirtual 119, 3) := by decide +kernel
theorem dX5_count_32 : decode cX5_count 32 = .ok (.iadd, 1) := by decide +kernel
theorem dX5_count_33 : decode cX5_count 33 = .ok (.istore_n 2, 1) := by decide +kernel
theorem dX5_count_34 : decode cX5_count 34 = .ok (.iinc 3 1, 3) := by decide +kernel
theorem dX5_count_37 : decode cX5_count 37 = .ok (.goto (-33), 3) := by decide +kernel
theorem dX5_count_40 : decode cX5_count 40 = .ok (.iload_n 1, 1) := by decide +kernel
theorem dX5_count_41 : decode cX5_count 41 = .ok (.tableswitch 114 0 9 #[55, 60, 65, 70, 75, 83, 91, 99, 107, 109], 55) := by decide +kernel
theorem dX5_count_96 : decode cX5_count 96 = .ok (.aload_n 0, 1) := by decide +kernel
theorem dX5_count_97 : decode cX5_count 97 = .ok (.getfield 54, 3) := by decide +kernel
theorem dX5_count_100 : decode cX5_count 100 = .ok (.ireturn, 1) := by decide +kernel
theorem dX5_count_101 : decode cX5_count 101 = .ok (.aload_n 0, 1) := by decide +kernel
theorem dX5_count_102 : decode cX5_count 102 = .ok (.getfield 96, 3) := by decide +kernel
theorem dX5_count_105 : decode cX5_count 105 = .ok (.ireturn, 1) := by decide +kernel
theorem dX5_count_106 : decode cX5_count 106 = .ok (.aload_n 0, 1) := by decide +kernel
theorem dX5_count_107 : decode cX5_count 107 = .ok (.getfield 99, 3) := by decide +kernel
theorem dX5_count_110 : decode cX5_count 110 = .ok (.ireturn, 1) := by decide +kernel
theorem dX5_count_111 : decode cX5_count 111 = .ok (.aload_n 0, 1) := by decide +kernel
theorem dX5_count_112 : decode cX5_count 112 = .ok (.getfield 44, 3) := by decide +kernel
theorem dX5_count_115 : decode cX5_count 115 = .ok (.ireturn, 1) := by decide +kernel
theorem dX5_count_116 : decode cX5_count 116 = .ok (.aload_n 0, 1) := by decide +kernel
theorem dX5_count_117 : decode cX5_count 117 = .ok (.getfield 16, 3) := by decide +kernel
theorem dX5_count_120 : decode cX5_count 120 = .ok (.bipush 14, 2) := by decide +kernel
theorem dX5_count_122 : decode cX5_count 122 = .ok (.iaload, 1) := by decide +kernel
theorem dX5_count_123 : decode cX5_count 123 = .ok (.ireturn, 1) := by decide +kernel
theorem dX5_count_124 : decode cX5_count 124 = .ok (.aload_n 0, 1) := by decide +kernel
theorem dX5_count_125 : decode cX5_count 125 = .ok (.getfield 16, 3) := by decide +kernel
theorem dX5_count_128 : decode cX5_count 128 = .ok (.bipush 13, 2) := by decide +kernel
theorem dX5_count_130 : decode cX5_count 130 = .ok (.iaload, 1) := by decide +kernel
theorem dX5_count_131 : decode cX5_count 131 = .ok (.ireturn, 1) := by decide +kernel
theorem dX5_count_132 : decode cX5_count 132 = .ok (.aload_n 0, 1) := by decide +kernel
theorem dX5_count_133 : decode cX5_count 133 = .ok (.getfield 16, 3) := by decide +kernel
theorem dX5_count_136 : decode cX5_count 136 = .ok (.bipush 15, 2) := by decide +kernel
theorem dX5_count_138 : decode cX5_count 138 = .ok (.iaload, 1) := by decide +kernel
theorem dX5_count_139 : decode cX5_count 139 = .ok (.ireturn, 1) := by decide +kernel
theorem dX5_count_140 : decode cX5_count 140 = .ok (.aload_n 0, 1) := by decide +kernel
theorem dX5_count_141 : decode cX5_count 141 = .ok (.getfield 16, 3) := by decide +kernel
theorem dX5_count_144 : decode cX5_count 144 = .ok (.bipush 16, 2) := by decide +kernel
theorem dX5_count_146 : decode cX5_count 146 = .ok (.iaload, 1) := by decide +kernel
theorem dX5_count_147 : decode cX5_count 147 = .ok (.ireturn, 1) := by decide +kernel
theorem dX5_count_148 : decode cX5_count 148 = .ok (.iload_n 2, 1) := by decide +kernel
theorem dX5_count_149 : decode cX5_count 149 = .ok (.ireturn, 1) := by decide +kernel
theorem dX5_count_150 : decode cX5_count 150 = .ok (.aload_n 0, 1) := by decide +kernel
theorem dX5_count_151 : decode cX5_count 151 = .ok (.getfield 102, 3) := by decide +kernel
theorem dX5_count_154 : decode cX5_count 154 = .ok (.ireturn, 1) := by decide +kernel
theorem dX5_count_155 : decode cX5_count 155 = .ok (.bipush (-2), 2) := by decide +kernel
theorem dX5_count_157 : decode cX5_count 157 = .ok (.ireturn, 1) := by decide +kernel
theorem dJ6_bitCount_0f7a4_0 : decode cJ6_bitCount_0f7a4 0 = .ok (.iload_n 0, 1) := by decide +kernel
theorem dJ6_bitCount_0f7a4_1 : decode cJ6_bitCount_0f7a4 1 = .ok (.iload_n 0, 1) := by decide +kernel
theorem dJ6_bitCount_0f7a4_2 : decode cJ6_bitCount_0f7a4 2 = .ok (.iconst 1, 1) := by decide +kernel
theorem dJ6_bitCount_0f7a4_3 : decode cJ6_bitCount_0f7a4 3 = .ok (.iushr, 1) := by decide +kernel
theorem dJ6_bitCount_0f7a4_4 : decode cJ6_bitCount_0f7a4 4 = .ok (.ldc_w 265, 3) := by decide +kernel
theorem dJ6_bitCount_0f7a4_7 : decode cJ6_bitCount_0f7a4 7 = .ok (.iand, 1) := by decide +kernel
theorem dJ6_bitCount_0f7a4_8 : decode cJ6_bitCount_0f7a4 8 = .ok (.isub, 1) := by decide +kernel
theorem dJ6_bitCount_0f7a4_9 : decode cJ6_bitCount_0f7a4 9 = .ok (.istore_n 0, 1) := by decide +kernel
theorem dJ6_bitCount_0f7a4_10 : decode cJ6_bitCount_0f7a4 10 = .ok (.iload_n 0, 1) := by decide +kernel
theorem dJ6_bitCount_0f7a4_11 : decode cJ6_bitCount_0f7a4 11 = .ok (.ldc_w 266, 3) := by decide +kernel
theorem dJ6_bitCount_0f7a4_14 : decode cJ6_bitCount_0f7a4 14 = .ok (.iand, 1) := by decide +kernel
theorem dJ6_bitCount_0f7a4_15 : decode cJ6_bitCount_0f7a4 15 = .ok (.iload_n 0, 1) := by decide +kernel
theorem dJ6_bitCount_0f7a4_16 : decode cJ6_bitCount_0f7a4 16 = .ok (.iconst 2, 1) := by decide +kernel
theorem dJ6_bitCount_0f7a4_17 : decode cJ6_bitCount_0f7a4 17 = .ok (.iushr, 1) := by decide +kernel
theorem dJ6_bitCount_0f7a4_18 : decode cJ6_bitCount_0f7a4 18 = .ok (.ldc_w 266, 3) := by decide +kernel
theorem dJ6_bitCount_0f7a4_21 : decode cJ6_bitCount_0f7a4 21 = .ok (.iand, 1) := by decide +kernel
theorem dJ6_bitCount_0f7a4_22 : decode cJ6_bitCount_0f7a4 22 = .ok (.iadd, 1) := by decide +kernel
theorem dJ6_bitCount_0f7a4_23 : decode cJ6_bitCount_0f7a4 23 = .ok (.istore_n 0, 1) := by decide +kernel
theorem dJ6_bitCount_0f7a4_24 : decode cJ6_bitCount_0f7a4 24 = .ok (.iload_n 0, 1) := by decide +kernel
theorem dJ6_bitCount_0f7a4_25 : decode cJ6_bitCount_0f7a4 25 = .ok (.iload_n 0, 1) := by decide +kernel
theorem dJ6_bitCount_0f7a4_26 : decode cJ6_bitCount_0f7a4 26 = .ok (.iconst 4, 1) := by decide +kernel
theorem dJ6_bitCount_0f7a4_27 : decode cJ6_bitCount_0f7a4 27 = .ok (.iushr, 1) := by decide +kernel
theorem dJ6_bitCount_0f7a4_28 : decode cJ6_bitCount_0f7a4 28 = .ok (.iadd, 1) := by decide +kernel
theorem dJ6_bitCount_0f7a4_29 : decode cJ6_bitCount_0f7a4 29 = .ok (.ldc_w 267, 3) := by decide +kernel
theorem dJ6_bitCount_0f7a4_32 : decode cJ6_bitCount_0f7a4 32 = .ok (.iand, 1) := by decide +kernel
theorem dJ6_bitCount_0f7a4_33 : decode cJ6_bitCount_0f7a4 33 = .ok (.istore_n 0, 1) := by decide +kernel
theorem dJ6_bitCount_0f7a4_34 : decode cJ6_bitCount_0f7a4 34 = .ok (.iload_n 0, 1) := by decide +kernel
theorem dJ6_bitCount_0f7a4_35 : decode cJ6_bitCount_0f7a4 35 = .ok (.iload_n 0, 1) := by decide +kernel
theorem dJ6_bitCount_0f7a4_36 : decode cJ6_bitCount_0f7a4 36 = .ok (.bipush 8, 2) := by decide +kernel
theorem dJ6_bitCount_0f7a4_38 : decode cJ6_bitCount_0f7a4 38 = .ok (.iushr, 1) := by decide +kernel
theorem dJ6_bitCount_0f7a4_39 : decode cJ6_bitCount_0f7a4 39 = .ok (.iadd, 1) := by decide +kernel
theorem dJ6_bitCount_0f7a4_40 : decode cJ6_bitCount_0f7a4 40 = .ok (.istore_n 0, 1) := by decide +kernel
theorem dJ6_bitCount_0f7a4_41 : decode cJ6_bitCount_0f7a4 41 = .ok (.iload_n 0, 1) := by decide +kernel
theorem dJ6_bitCount_0f7a4_42 : decode cJ6_bitCount_0f7a4 42 = .ok (.iload_n 0, 1) := by decide +kernel
theorem dJ6_bitCount_0f7a4_43 : decode cJ6_bitCount_0f7a4 43 = .ok (.bipush 16, 2) := by decide +kernel
theorem dJ6_bitCount_0f7a4_45 : decode cJ6_bitCount_0f7a4 45 = .ok (.iushr, 1) := by decide +kernel
theorem dJ6_bitCount_0f7a4_46 : decode cJ6_bitCount_0f7a4 46 = .ok (.iadd, 1) := by decide +kernel
theorem dJ6_bitCount_0f7a4_47 : decode cJ6_bitCount_0f7a4 47 = .ok (.istore_n 0, 1) := by decide +kernel
theorem dJ6_bitCount_0f7a4_48 : decode cJ6_bitCount_0f7a4 48 = .ok (.iload_n 0, 1) := by decide +kernel
theorem dJ6_bitCount_0f7a4_49 : decode cJ6_bitCount_0f7a4 49 = .ok (.bipush 63, 2) := by decide +kernel
theorem dJ6_bitCount_0f7a4_51 : decode cJ6_bitCount_0f7a4 51 = .ok (.iand, 1) := by decide +kernel
theorem dJ6_bitCount_0f7a4_52 : decode cJ6_bitCount_0f7a4 52 = .ok (.ireturn, 1) := by decide +kernel
theorem dJ9_abs_067f4_0 : decode cJ9_abs_067f4 0 = .ok (.lload_n 0, 1) := by decide +kernel
theorem dJ9_abs_067f4_1 : decode cJ9_abs_067f4 1 = .ok (.lconst 0, 1) := by decide +kernel
theorem dJ9_abs_067f4_2 : decode cJ9_abs_067f4 2 = .ok (.lcmp, 1) := by decide +kernel
theorem dJ9_abs_067f4_3 : decode cJ9_abs_067f4 3 = .ok (.ifCond .ge 8, 3) := by decide +kernel
theorem dJ9_abs_067f4_6 : decode cJ9_abs_067f4 6 = .ok (.lload_n 0, 1) := by decide +kernel
theorem dJ9_abs_067f4_7 : decode cJ9_abs_067f4 7 = .ok (.lneg, 1) := by decide +kernel
theorem dJ9_abs_067f4_8 : decode cJ9_abs_067f4 8 = .ok (.goto 4, 3) := by decide +kernel
theorem dJ9_abs_067f4_11 : decode cJ9_abs_067f4 11 = .ok (.lload_n 0, 1) := by decide +kernel
theorem dJ9_abs_067f4_12 : decode cJ9_abs_067f4 12 = .ok (.lreturn, 1) := by decide +kernel
theorem dJ9_max_7cf53_0 : decode cJ9_max_7cf53 0 = .ok (.iload_n 0, 1) := by decide +kernel
theorem dJ9_max_7cf53_1 : decode cJ9_max_7cf53 1 = .ok (.iload_n 1, 1) := by decide +kernel
theorem dJ9_max_7cf53_2 : decode cJ9_max_7cf53 2 = .ok (.if_icmp .lt 7, 3) := by decide +kernel
theorem dJ9_max_7cf53_5 : decode cJ9_max_7cf53 5 = .ok (.iload_n 0, 1) := by decide +kernel
theorem dJ9_max_7cf53_6 : decode cJ9_max_7cf53 6 = .ok (.goto 4, 3) := by decide +kernel
theorem dJ9_max_7cf53_9 : decode cJ9_max_7cf53 9 = .ok (.iload_n 1, 1) := by decide +kernel
theorem dJ9_max_7cf53_10 : decode cJ9_max_7cf53 10 = .ok (.ireturn, 1) := by decide +kernel
theorem dJ9_min_7cf53_0 : decode cJ9_min_7cf53 0 = .ok (.iload_n 0, 1) := by decide +kernel
theorem dJ9_min_7cf53_1 : decode cJ9_min_7cf53 1 = .ok (.iload_n 1, 1) := by decide +kernel
theorem dJ9_min_7cf53_2 : decode cJ9_min_7cf53 2 = .ok (.if_icmp .gt 7, 3) := by decide +kernel
theorem dJ9_min_7cf53_5 : decode cJ9_min_7cf53 5 = .ok (.iload_n 0, 1) := by decide +kernel
theorem dJ9_min_7cf53_6 : decode cJ9_min_7cf53 6 = .ok (.goto 4, 3) := by decide +kernel
theorem dJ9_min_7cf53_9 : decode cJ9_min_7cf53 9 = .ok (.iload_n 1, 1) := by decide +kernel
theorem dJ9_min_7cf53_10 : decode cJ9_min_7cf53 10 = .ok (.ireturn, 1) := by decide +kernel
theorem dJ7_fill_d0a16_0 : decode cJ7_fill_d0a16 0 = .ok (.iconst 0, 1) := by decide +kernel
theorem dJ7_fill_d0a16_1 : decode cJ7_fill_d0a16 1 = .ok (.istore_n 3, 1) := by decide +kernel
theorem dJ7_fill_d0a16_2 : decode cJ7_fill_d0a16 2 = .ok (.aload_n 0, 1) := by decide +kernel
theorem dJ7_fill_d0a16_3 : decode cJ7_fill_d0a16 3 = .ok (.arraylength, 1) := by decide +kernel
theorem dJ7_fill_d0a16_4 : decode cJ7_fill_d0a16 4 = .ok (.istore 4, 2) := by decide +kernel
theorem dJ7_fill_d0a16_6 : decode cJ7_fill_d0a16 6 = .ok (.iload_n 3, 1) := by decide +kernel
theorem dJ7_fill_d0a16_7 : decode cJ7_fill_d0a16 7 = .ok (.iload 4, 2) := by decide +kernel
theorem dJ7_fill_d0a16_9 : decode cJ7_fill_d0a16 9 = .ok (.if_icmp .ge 13, 3) := by decide +kernel
theorem dJ7_fill_d0a16_12 : decode cJ7_fill_d0a16 12 = .ok (.aload_n 0, 1) := by decide +kernel
theorem dJ7_fill_d0a16_13 : decode cJ7_fill_d0a16 13 = .ok (.iload_n 3, 1) := by decide +kernel
theorem dJ7_fill_d0a16_14 : decode cJ7_fill_d0a16 14 = .ok (.lload_n 1, 1) := by decide +kernel
theorem dJ7_fill_d0a16_15 : decode cJ7_fill_d0a16 15 = .ok (.lastore, 1) := by decide +kernel
theorem dJ7_fill_d0a16_16 : decode cJ7_fill_d0a16 16 = .ok (.iinc 3 1, 3) := by decide +kernel
theorem dJ7_fill_d0a16_19 : decode cJ7_fill_d0a16 19 = .ok (.goto (-13), 3) := by decide +kernel
theorem dJ7_fill_d0a16_22 : decode cJ7_fill_d0a16 22 = .ok (.return_, 1) := by decide +kernel
theorem dJ7_fill_53178_0 : decode cJ7_fill_53178 0 = .ok (.iconst 0, 1) := by decide +kernel
theorem dJ7_fill_53178_1 : decode cJ7_fill_53178 1 = .ok (.istore_n 2, 1) := by decide +kernel
theorem dJ7_fill_53178_2 : decode cJ7_fill_53178 2 = .ok (.aload_n 0, 1) := by decide +kernel
theorem dJ7_fill_53178_3 : decode cJ7_fill_53178 3 = .ok (.arraylength, 1) := by decide +kernel
theorem dJ7_fill_53178_4 : decode cJ7_fill_53178 4 = .ok (.istore_n 3, 1) := by decide +kernel
theorem dJ7_fill_53178_5 : decode cJ7_fill_53178 5 = .ok (.iload_n 2, 1) := by decide +kernel
theorem dJ7_fill_53178_6 : decode cJ7_fill_53178 6 = .ok (.iload_n 3, 1) := by decide +kernel
theorem dJ7_fill_53178_7 : decode cJ7_fill_53178 7 = .ok (.if_icmp .ge 13, 3) := by decide +kernel
theorem dJ7_fill_53178_10 : decode cJ7_fill_53178 10 = .ok (.aload_n 0, 1) := by decide +kernel
theorem dJ7_fill_53178_11 : decode cJ7_fill_53178 11 = .ok (.iload_n 2, 1) := by decide +kernel
theorem dJ7_fill_53178_12 : decode cJ7_fill_53178 12 = .ok (.iload_n 1, 1) := by decide +kernel
theorem dJ7_fill_53178_13 : decode cJ7_fill_53178 13 = .ok (.iastore, 1) := by decide +kernel
theorem dJ7_fill_53178_14 : decode cJ7_fill_53178 14 = .ok (.iinc 2 1, 3) := by decide +kernel
theorem dJ7_fill_53178_17 : decode cJ7_fill_53178 17 = .ok (.goto (-12), 3) := by decide +kernel
theorem dJ7_fill_53178_20 : decode cJ7_fill_53178 20 = .ok (.return_, 1) := by decide +kernel
theorem dL_law_0 : decode cL_law 0 = .ok (.new 7, 3) := by decide +kernel
theorem dL_law_3 : decode cL_law 3 = .ok (.dup, 1) := by decide +kernel
theorem dL_law_4 : decode cL_law 4 = .ok (.invokespecial 9, 3) := by decide +kernel
theorem dL_law_7 : decode cL_law 7 = .ok (.astore_n 1, 1) := by decide +kernel
theorem dL_law_8 : decode cL_law 8 = .ok (.new 10, 3) := by decide +kernel
theorem dL_law_11 : decode cL_law 11 = .ok (.dup, 1) := by decide +kernel
theorem dL_law_12 : decode cL_law 12 = .ok (.invokespecial 12, 3) := by decide +kernel
theorem dL_law_15 : decode cL_law 15 = .ok (.astore_n 2, 1) := by decide +kernel
theorem dL_law_16 : decode cL_law 16 = .ok (.iconst 0, 1) := by decide +kernel
theorem dL_law_17 : decode cL_law 17 = .ok (.istore_n 3, 1) := by decide +kernel
theorem dL_law_18 : decode cL_law 18 = .ok (.iload_n 3, 1) := by decide +kernel
theorem dL_law_19 : decode cL_law 19 = .ok (.aload_n 0, 1) := by decide +kernel
theorem dL_law_20 : decode cL_law 20 = .ok (.arraylength, 1) := by decide +kernel
theorem dL_law_21 : decode cL_law 21 = .ok (.iconst 5, 1) := by decide +kernel
theorem dL_law_22 : decode cL_law 22 = .ok (.isub, 1) := by decide +kernel
theorem dL_law_23 : decode cL_law 23 = .ok (.if_icmp .gt 892, 3) := by decide +kernel
theorem dL_law_26 : decode cL_law 26 = .ok (.aload_n 0, 1) := by decide +kernel
theorem dL_law_27 : decode cL_law 27 = .ok (.iload_n 3, 1) := by decide +kernel
theorem dL_law_28 : decode cL_law 28 = .ok (.iaload, 1) := by decide +kernel
theorem dL_law_29 : decode cL_law 29 = .ok (.bipush 31, 2) := by decide +kernel
theorem dL_law_31 : decode cL_law 31 = .ok (.iand, 1) := by decide +kernel
theorem dL_law_32 : decode cL_law 32 = .ok (.tableswitch 877 0 25 #[120, 143, 156, 169, 182, 215, 238, 251, 274, 297, 310, 343, 366, 415, 428, 461, 494, 527, 570, 619, 662, 731, 785, 808, 831, 854], 120) := by decide +kernel
theorem dL_law_152 : decode cL_law 152 = .ok (.aload_n 1, 1) := by decide +kernel
theorem dL_law_153 : decode cL_law 153 = .ok (.aload_n 0, 1) := by decide +kernel
theorem dL_law_154 : decode cL_law 154 = .ok (.iload_n 3, 1) := by decide +kernel
theorem dL_law_155 : decode cL_law 155 = .ok (.iconst 1, 1) := by decide +kernel
theorem dL_law_156 : decode cL_law 156 = .ok (.iadd, 1) := by decide +kernel
theorem dL_law_157 : decode cL_law 157 = .ok (.iaload, 1) := by decide +kernel
theorem dL_law_158 : decode cL_law 158 = .ok (.invokevirtual 13, 3) := by decide +kernel
theorem dL_law_161 : decode cL_law 161 = .ok (.aload_n 2, 1) := by decide +kernel
theorem dL_law_162 : decode cL_law 162 = .ok (.aload_n 0, 1) := by decide +kernel
theorem dL_law_163 : decode cL_law 163 = .ok (.iload_n 3, 1) := by decide +kernel
theorem dL_law_164 : decode cL_law 164 = .ok (.iconst 1, 1) := by decide +kernel
theorem dL_law_165 : decode cL_law 165 = .ok (.iadd, 1) := by decide +kernel
theorem dL_law_166 : decode cL_law 166 = .ok (.iaload, 1) := by decide +kernel
theorem dL_law_167 : decode cL_law 167 = .ok (.invokevirtual 17, 3) := by decide +kernel
theorem dL_law_170 : decode cL_law 170 = .ok (.if_icmp .eq 739, 3) := by decide +kernel
theorem dL_law_173 : decode cL_law 173 = .ok (.iconst 0, 1) := by decide +kernel
theorem dL_law_174 : decode cL_law 174 = .ok (.ireturn, 1) := by decide +kernel
theorem dL_law_175 : decode cL_law 175 = .ok (.aload_n 1, 1) := by decide +kernel
theorem dL_law_176 : decode cL_law 176 = .ok (.invokevirtual 18, 3) := by decide +kernel
theorem dL_law_179 : decode cL_law 179 = .ok (.aload_n 2, 1) := by decide +kernel
theorem dL_law_180 : decode cL_law 180 = .ok (.invokevirtual 22, 3) := by decide +kernel
theorem dL_law_183 : decode cL_law 183 = .ok (.if_icmp .eq 726, 3) := by decide +kernel
theorem dL_law_186 : decode cL_law 186 = .ok (.iconst 0, 1) := by decide +kernel
theorem dL_law_187 : decode cL_law 187 = .ok (.ireturn, 1) := by decide +kernel
theorem dL_law_188 : decode cL_law 188 = .ok (.aload_n 1, 1) := by decide +kernel
theorem dL_law_189 : decode cL_law 189 = .ok (.invokevirtual 23, 3) := by decide +kernel
theorem dL_law_192 : decode cL_law 192 = .ok (.aload_n 2, 1) := by decide +kernel
theorem dL_law_193 : decode cL_law 193 = .ok (.invokevirtual 26, 3) := by decide +kernel
theorem dL_law_196 : decode cL_law 196 = .ok (.if_icmp .eq 713, 3) := by decide +kernel
theorem dL_law_199 : decode cL_law 199 = .ok (.iconst 0, 1) := by decide +kernel
theorem dL_law_200 : decode cL_law 200 = .ok (.ireturn, 1) := by decide +kernel
theorem dL_law_201 : decode cL_law 201 = .ok (.aload_n 1, 1) := by decide +kernel
theorem dL_law_202 : decode cL_law 202 = .ok (.invokevirtual 27, 3) := by decide +kernel
theorem dL_law_205 : decode cL_law 205 = .ok (.aload_n 2, 1) := by decide +kernel
theorem dL_law_206 : decode cL_law 206 = .ok (.invokevirtual 30, 3) := by decide +kernel
theorem dL_law_209 : decode cL_law 209 = .ok (.if_icmp .eq 700, 3) := by decide +kernel
theorem dL_law_212 : decode cL_law 212 = .ok (.iconst 0, 1) := by decide +kernel
theorem dL_law_213 : decode cL_law 213 = .ok (.ireturn, 1) := by decide +kernel
theorem dL_law_214 : decode cL_law 214 = .ok (.aload_n 1, 1) := by decide +kernel
theorem dL_law_215 : decode cL_law 215 = .ok (.aload_n 0, 1) := by decide +kernel
theorem dL_law_216 : decode cL_law 216 = .ok (.iload_n 3, 1) := by decide +kernel
theorem dL_law_217 : decode cL_law 217 = .ok (.iconst 1, 1) := by decide +kernel
theorem dL_law_218 : decode cL_law 218 = .ok (.iadd, 1) := by decide +kernel
theorem dL_law_219 : decode cL_law 219 = .ok (.iaload, 1) := by decide +kernel
theorem dL_law_220 : decode cL_law 220 = .ok (.aload_n 0, 1) := by decide +kernel
theorem dL_law_221 : decode cL_law 221 = .ok (.iload_n 3, 1) := by decide +kernel
theorem dL_law_222 : decode cL_law 222 = .ok (.iconst 2, 1) := by decide +kernel
theorem dL_law_223 : decode cL_law 223 = .ok (.iadd, 1) := by decide +kernel
theorem dL_law_224 : decode cL_law 224 = .ok (.iaload, 1) := by decide +kernel
theorem dL_law_225 : decode cL_law 225 = .ok (.invokevirtual 31, 3) := by decide +kernel
theorem dL_law_228 : decode cL_law 228 = .ok (.aload_n 2, 1) := by decide +kernel
theorem dL_law_229 : decode cL_law 229 = .ok (.aload_n 0, 1) := by decide +kernel
theorem dL_law_230 : decode cL_law 230 = .ok (.iload_n 3, 1) := by decide +kernel
theorem dL_law_231 : decode cL_law 231 = .ok (.iconst 1, 1) := by decide +kernel
theorem dL_law_232 : decode cL_law 232 = .ok (.iadd, 1) := by decide +kernel
theorem dL_law_233 : decode cL_law 233 = .ok (.iaload, 1) := by decide +kernel
theorem dL_law_234 : decode cL_law 234 = .ok (.aload_n 0, 1) := by decide +kernel
theorem dL_law_235 : decode cL_law 235 = .ok (.iload_n 3, 1) := by decide +kernel
theorem dL_law_236 : decode cL_law 236 = .ok (.iconst 2, 1) := by decide +kernel
theorem dL_law_237 : decode cL_law 237 = .ok (.iadd, 1) := by decide +kernel
theorem dL_law_238 : decode cL_law 238 = .ok (.iaload, 1) := by decide +kernel
theorem dL_law_239 : decode cL_law 239 = .ok (.invokevirtual 35, 3) := by decide +kernel
theorem dL_law_242 : decode cL_law 242 = .ok (.if_icmp .eq 667, 3) := by decide +kernel
theorem dL_law_245 : decode cL_law 245 = .ok (.iconst 0, 1) := by decide +kernel
theorem dL_law_246 : decode cL_law 246 = .ok (.ireturn, 1) := by decide +kernel
theorem dL_law_247 : decode cL_law 247 = .ok (.aload_n 1, 1) := by decide +kernel
theorem dL_law_248 : decode cL_law 248 = .ok (.aload_n 0, 1) := by decide +kernel
theorem dL_law_249 : decode cL_law 249 = .ok (.iload_n 3, 1) := by decide +kernel
theorem dL_law_250 : decode cL_law 250 = .ok (.iconst 1, 1) := by decide +kernel
theorem dL_law_251 : decode cL_law 251 = .ok (.iadd, 1) := by decide +kernel
theorem dL_law_252 : decode cL_law 252 = .ok (.iaload, 1) := by decide +kernel
theorem dL_law_253 : decode cL_law 253 = .ok (.invokevirtual 36, 3) := by decide +kernel
theorem dL_law_256 : decode cL_law 256 = .ok (.aload_n 2, 1) := by decide +kernel
theorem dL_law_257 : decode cL_law 257 = .ok (.aload_n 0, 1) := by decide +kernel
theorem dL_law_258 : decode cL_law 258 = .ok (.iload_n 3, 1) := by decide +kernel
theorem dL_law_259 : decode cL_law 259 = .ok (.iconst 1, 1) := by decide +kernel
theorem dL_law_260 : decode cL_law 260 = .ok (.iadd, 1) := by decide +kernel
theorem dL_law_261 : decode cL_law 261 = .ok (.iaload, 1) := by decide +kernel
theorem dL_law_262 : decode cL_law 262 = .ok (.invokevirtual 39, 3) := by decide +kernel
theorem dL_law_265 : decode cL_law 265 = .ok (.if_icmp .eq 644, 3) := by decide +kernel
theorem dL_law_268 : decode cL_law 268 = .ok (.iconst 0, 1) := by decide +kernel
theorem dL_law_269 : decode cL_law 269 = .ok (.ireturn, 1) := by decide +kernel
theorem dL_law_270 : decode cL_law 270 = .ok (.aload_n 1, 1) := by decide +kernel
theorem dL_law_271 : decode cL_law 271 = .ok (.invokevirtual 40, 3) := by decide +kernel
theorem dL_law_274 : decode cL_law 274 = .ok (.aload_n 2, 1) := by decide +kernel
theorem dL_law_275 : decode cL_law 275 = .ok (.invokevirtual 43, 3) := by decide +kernel
theorem dL_law_278 : decode cL_law 278 = .ok (.if_icmp .eq 631, 3) := by decide +kernel
theorem dL_law_281 : decode cL_law 281 = .ok (.iconst 0, 1) := by decide +kernel
theorem dL_law_282 : decode cL_law 282 = .ok (.ireturn, 1) := by decide +kernel
theorem dL_law_283 : decode cL_law 283 = .ok (.aload_n 1, 1) := by decide +kernel
theorem dL_law_284 : decode cL_law 284 = .ok (.aload_n 0, 1) := by decide +kernel
theorem dL_law_285 : decode cL_law 285 = .ok (.iload_n 3, 1) := by decide +kernel
theorem dL_law_286 : decode cL_law 286 = .ok (.iconst 1, 1) := by decide +kernel
theorem dL_law_287 : decode cL_law 287 = .ok (.iadd, 1) := by decide +kernel
theorem dL_law_288 : decode cL_law 288 = .ok (.iaload, 1) := by decide +kernel
theorem dL_law_289 : decode cL_law 289 = .ok (.invokevirtual 44, 3) := by decide +kernel
theorem dL_law_292 : decode cL_law 292 = .ok (.aload_n 2, 1) := by decide +kernel
theorem dL_law_293 : decode cL_law 293 = .ok (.aload_n 0, 1) := by decide +kernel
theorem dL_law_294 : decode cL_law 294 = .ok (.iload_n 3, 1) := by decide +kernel
theorem dL_law_295 : decode cL_law 295 = .ok (.iconst 1, 1) := by decide +kernel
theorem dL_law_296 : decode cL_law 296 = .ok (.iadd, 1) := by decide +kernel
theorem dL_law_297 : decode cL_law 297 = .ok (.iaload, 1) := by decide +kernel
theorem dL_law_298 : decode cL_law 298 = .ok (.invokevirtual 47, 3) := by decide +kernel
theorem dL_law_301 : decode cL_law 301 = .ok (.if_icmp .eq 608, 3) := by decide +kernel
theorem dL_law_304 : decode cL_law 304 = .ok (.iconst 0, 1) := by decide +kernel
theorem dL_law_305 : decode cL_law 305 = .ok (.ireturn, 1) := by decide +kernel
theorem dL_law_306 : decode cL_law 306 = .ok (.aload_n 1, 1) := by decide +kernel
theorem dL_law_307 : decode cL_law 307 = .ok (.aload_n 0, 1) := by decide +kernel
theorem dL_law_308 : decode cL_law 308 = .ok (.iload_n 3, 1) := by decide +kernel
theorem dL_law_309 : decode cL_law 309 = .ok (.iconst 1, 1) := by decide +kernel
theorem dL_law_310 : decode cL_law 310 = .ok (.iadd, 1) := by decide +kernel
theorem dL_law_311 : decode cL_law 311 = .ok (.iaload, 1) := by decide +kernel
theorem dL_law_312 : decode cL_law 312 = .ok (.invokevirtual 48, 3) := by decide +kernel
theorem dL_law_315 : decode cL_law 315 = .ok (.aload_n 2, 1) := by decide +kernel
theorem dL_law_316 : decode cL_law 316 = .ok (.aload_n 0, 1) := by decide +kernel
theorem dL_law_317 : decode cL_law 317 = .ok (.iload_n 3, 1) := by decide +kernel
theorem dL_law_318 : decode cL_law 318 = .ok (.iconst 1, 1) := by decide +kernel
theorem dL_law_319 : decode cL_law 319 = .ok (.iadd, 1) := by decide +kernel
theorem dL_law_320 : decode cL_law 320 = .ok (.iaload, 1) := by decide +kernel
theorem dL_law_321 : decode cL_law 321 = .ok (.invokevirtual 51, 3) := by decide +kernel
theorem dL_law_324 : decode cL_law 324 = .ok (.if_icmp .eq 585, 3) := by decide +kernel
theorem dL_law_327 : decode cL_law 327 = .ok (.iconst 0, 1) := by decide +kernel
theorem dL_law_328 : decode cL_law 328 = .ok (.ireturn, 1) := by decide +kernel
theorem dL_law_329 : decode cL_law 329 = .ok (.aload_n 1, 1) := by decide +kernel
theorem dL_law_330 : decode cL_law 330 = .ok (.invokevirtual 52, 3) := by decide +kernel
theorem dL_law_333 : decode cL_law 333 = .ok (.aload_n 2, 1) := by decide +kernel
theorem dL_law_334 : decode cL_law 334 = .ok (.invokevirtual 55, 3) := by decide +kernel
theorem dL_law_337 : decode cL_law 337 = .ok (.if_icmp .eq 572, 3) := by decide +kernel
theorem dL_law_340 : decode cL_law 340 = .ok (.iconst 0, 1) := by decide +kernel
theorem dL_law_341 : decode cL_law 341 = .ok (.ireturn, 1) := by decide +kernel
theorem dL_law_342 : decode cL_law 342 = .ok (.aload_n 1, 1) := by decide +kernel
theorem dL_law_343 : decode cL_law 343 = .ok (.aload_n 0, 1) := by decide +kernel
theorem dL_law_344 : decode cL_law 344 = .ok (.iload_n 3, 1) := by decide +kernel
theorem dL_law_345 : decode cL_law 345 = .ok (.iconst 1, 1) := by decide +kernel
theorem dL_law_346 : decode cL_law 346 = .ok (.iadd, 1) := by decide +kernel
theorem dL_law_347 : decode cL_law 347 = .ok (.iaload, 1) := by decide +kernel
theorem dL_law_348 : decode cL_law 348 = .ok (.aload_n 0, 1) := by decide +kernel
theorem dL_law_349 : decode cL_law 349 = .ok (.iload_n 3, 1) := by decide +kernel
theorem dL_law_350 : decode cL_law 350 = .ok (.iconst 2, 1) := by decide +kernel
theorem dL_law_351 : decode cL_law 351 = .ok (.iadd, 1) := by decide +kernel
theorem dL_law_352 : decode cL_law 352 = .ok (.iaload, 1) := by decide +kernel
theorem dL_law_353 : decode cL_law 353 = .ok (.invokevirtual 56, 3) := by decide +kernel
theorem dL_law_356 : decode cL_law 356 = .ok (.aload_n 2, 1) := by decide +kernel
theorem dL_law_357 : decode cL_law 357 = .ok (.aload_n 0, 1) := by decide +kernel
theorem dL_law_358 : decode cL_law 358 = .ok (.iload_n 3, 1) := by decide +kernel
theorem dL_law_359 : decode cL_law 359 = .ok (.iconst 1, 1) := by decide +kernel
theorem dL_law_360 : decode cL_law 360 = .ok (.iadd, 1) := by decide +kernel
theorem dL_law_361 : decode cL_law 361 = .ok (.iaload, 1) := by decide +kernel
theorem dL_law_362 : decode cL_law 362 = .ok (.aload_n 0, 1) := by decide +kernel
theorem dL_law_363 : decode cL_law 363 = .ok (.iload_n 3, 1) := by decide +kernel
theorem dL_law_364 : decode cL_law 364 = .ok (.iconst 2, 1) := by decide +kernel
theorem dL_law_365 : decode cL_law 365 = .ok (.iadd, 1) := by decide +kernel
theorem dL_law_366 : decode cL_law 366 = .ok (.iaload, 1) := by decide +kernel
theorem dL_law_367 : decode cL_law 367 = .ok (.invokevirtual 59, 3) := by decide +kernel
theorem dL_law_370 : decode cL_law 370 = .ok (.if_icmp .eq 539, 3) := by decide +kernel
theorem dL_law_373 : decode cL_law 373 = .ok (.iconst 0, 1) := by decide +kernel
theorem dL_law_374 : decode cL_law 374 = .ok (.ireturn, 1) := by decide +kernel
theorem dL_law_375 : decode cL_law 375 = .ok (.aload_n 1, 1) := by decide +kernel
theorem dL_law_376 : decode cL_law 376 = .ok (.aload_n 0, 1) := by decide +kernel
theorem dL_law_377 : decode cL_law 377 = .ok (.iload_n 3, 1) := by decide +kernel
theorem dL_law_378 : decode cL_law 378 = .ok (.iconst 1, 1) := by decide +kernel
theorem dL_law_379 : decode cL_law 379 = .ok (.iadd, 1) := by decide +kernel
theorem dL_law_380 : decode cL_law 380 = .ok (.iaload, 1) := by decide +kernel
theorem dL_law_381 : decode cL_law 381 = .ok (.invokevirtual 60, 3) := by decide +kernel
theorem dL_law_384 : decode cL_law 384 = .ok (.aload_n 2, 1) := by decide +kernel
theorem dL_law_385 : decode cL_law 385 = .ok (.aload_n 0, 1) := by decide +kernel
theorem dL_law_386 : decode cL_law 386 = .ok (.iload_n 3, 1) := by decide +kernel
theorem dL_law_387 : decode cL_law 387 = .ok (.iconst 1, 1) := by decide +kernel
theorem dL_law_388 : decode cL_law 388 = .ok (.iadd, 1) := by decide +kernel
theorem dL_law_389 : decode cL_law 389 = .ok (.iaload, 1) := by decide +kernel
theorem dL_law_390 : decode cL_law 390 = .ok (.invokevirtual 63, 3) := by decide +kernel
theorem dL_law_393 : decode cL_law 393 = .ok (.if_icmp .eq 516, 3) := by decide +kernel
theorem dL_law_396 : decode cL_law 396 = .ok (.iconst 0, 1) := by decide +kernel
theorem dL_law_397 : decode cL_law 397 = .ok (.ireturn, 1) := by decide +kernel
theorem dL_law_398 : decode cL_law 398 = .ok (.aload_n 1, 1) := by decide +kernel
theorem dL_law_399 : decode cL_law 399 = .ok (.aload_n 0, 1) := by decide +kernel
theorem dL_law_400 : decode cL_law 400 = .ok (.iload_n 3, 1) := by decide +kernel
theorem dL_law_401 : decode cL_law 401 = .ok (.iconst 1, 1) := by decide +kernel
theorem dL_law_402 : decode cL_law 402 = .ok (.iadd, 1) := by decide +kernel
theorem dL_law_403 : decode cL_law 403 = .ok (.iaload, 1) := by decide +kernel
theorem dL_law_404 : decode cL_law 404 = .ok (.aload_n 0, 1) := by decide +kernel
theorem dL_law_405 : decode cL_law 405 = .ok (.iload_n 3, 1) := by decide +kernel
theorem dL_law_406 : decode cL_law 406 = .ok (.iconst 2, 1) := by decide +kernel
theorem dL_law_407 : decode cL_law 407 = .ok (.iadd, 1) := by decide +kernel
theorem dL_law_408 : decode cL_law 408 = .ok (.iaload, 1) := by decide +kernel
theorem dL_law_409 : decode cL_law 409 = .ok (.ifCond .eq 7, 3) := by decide +kernel
theorem dL_law_412 : decode cL_law 412 = .ok (.iconst 1, 1) := by decide +kernel
theorem dL_law_413 : decode cL_law 413 = .ok (.goto 4, 3) := by decide +kernel
theorem dL_law_416 : decode cL_law 416 = .ok (.iconst 0, 1) := by decide +kernel
theorem dL_law_417 : decode cL_law 417 = .ok (.invokevirtual 64, 3) := by decide +kernel
theorem dL_law_420 : decode cL_law 420 = .ok (.aload_n 2, 1) := by decide +kernel
theorem dL_law_421 : decode cL_law 421 = .ok (.aload_n 0, 1) := by decide +kernel
theorem dL_law_422 : decode cL_law 422 = .ok (.iload_n 3, 1) := by decide +kernel
theorem dL_law_423 : decode cL_law 423 = .ok (.iconst 1, 1) := by decide +kernel
theorem dL_law_424 : decode cL_law 424 = .ok (.iadd, 1) := by decide +kernel
theorem dL_law_425 : decode cL_law 425 = .ok (.iaload, 1) := by decide +kernel
theorem dL_law_426 : decode cL_law 426 = .ok (.aload_n 0, 1) := by decide +kernel
theorem dL_law_427 : decode cL_law 427 = .ok (.iload_n 3, 1) := by decide +kernel
theorem dL_law_428 : decode cL_law 428 = .ok (.iconst 2, 1) := by decide +kernel
theorem dL_law_429 : decode cL_law 429 = .ok (.iadd, 1) := by decide +kernel
theorem dL_law_430 : decode cL_law 430 = .ok (.iaload, 1) := by decide +kernel
theorem dL_law_431 : decode cL_law 431 = .ok (.ifCond .eq 7, 3) := by decide +kernel
theorem dL_law_434 : decode cL_law 434 = .ok (.iconst 1, 1) := by decide +kernel
theorem dL_law_435 : decode cL_law 435 = .ok (.goto 4, 3) := by decide +kernel
theorem dL_law_438 : decode cL_law 438 = .ok (.iconst 0, 1) := by decide +kernel
theorem dL_law_439 : decode cL_law 439 = .ok (.invokevirtual 68, 3) := by decide +kernel
theorem dL_law_442 : decode cL_law 442 = .ok (.if_icmp .eq 467, 3) := by decide +kernel
theorem dL_law_445 : decode cL_law 445 = .ok (.iconst 0, 1) := by decide +kernel
theorem dL_law_446 : decode cL_law 446 = .ok (.ireturn, 1) := by decide +kernel
theorem dL_law_447 : decode cL_law 447 = .ok (.aload_n 1, 1) := by decide +kernel
theorem dL_law_448 : decode cL_law 448 = .ok (.invokevirtual 69, 3) := by decide +kernel
theorem dL_law_451 : decode cL_law 451 = .ok (.aload_n 2, 1) := by decide +kernel
theorem dL_law_452 : decode cL_law 452 = .ok (.invokevirtual 72, 3) := by decide +kernel
theorem dL_law_455 : decode cL_law 455 = .ok (.if_icmp .eq 454, 3) := by decide +kernel
theorem dL_law_458 : decode cL_law 458 = .ok (.iconst 0, 1) := by decide +kernel
theorem dL_law_459 : decode cL_law 459 = .ok (.ireturn, 1) := by decide +kernel
theorem dL_law_460 : decode cL_law 460 = .ok (.aload_n 1, 1) := by decide +kernel
theorem dL_law_461 : decode cL_law 461 = .ok (.aload_n 0, 1) := by decide +kernel
theorem dL_law_462 : decode cL_law 462 = .ok (.iload_n 3, 1) := by decide +kernel
theorem dL_law_463 : decode cL_law 463 = .ok (.iconst 1, 1) := by decide +kernel
theorem dL_law_464 : decode cL_law 464 = .ok (.iadd, 1) := by decide +kernel
theorem dL_law_465 : decode cL_law 465 = .ok (.iaload, 1) := by decide +kernel
theorem dL_law_466 : decode cL_law 466 = .ok (.aload_n 0, 1) := by decide +kernel
theorem dL_law_467 : decode cL_law 467 = .ok (.iload_n 3, 1) := by decide +kernel
theorem dL_law_468 : decode cL_law 468 = .ok (.iconst 2, 1) := by decide +kernel
theorem dL_law_469 : decode cL_law 469 = .ok (.iadd, 1) := by decide +kernel
theorem dL_law_470 : decode cL_law 470 = .ok (.iaload, 1) := by decide +kernel
theorem dL_law_471 : decode cL_law 471 = .ok (.invokevirtual 73, 3) := by decide +kernel
theorem dL_law_474 : decode cL_law 474 = .ok (.aload_n 2, 1) := by decide +kernel
theorem dL_law_475 : decode cL_law 475 = .ok (.aload_n 0, 1) := by decide +kernel
theorem dL_law_476 : decode cL_law 476 = .ok (.iload_n 3, 1) := by decide +kernel
theorem dL_law_477 : decode cL_law 477 = .ok (.iconst 1, 1) := by decide +kernel
theorem dL_law_478 : decode cL_law 478 = .ok (.iadd, 1) := by decide +kernel
theorem dL_law_479 : decode cL_law 479 = .ok (.iaload, 1) := by decide +kernel
theorem dL_law_480 : decode cL_law 480 = .ok (.aload_n 0, 1) := by decide +kernel
theorem dL_law_481 : decode cL_law 481 = .ok (.iload_n 3, 1) := by decide +kernel
theorem dL_law_482 : decode cL_law 482 = .ok (.iconst 2, 1) := by decide +kernel
theorem dL_law_483 : decode cL_law 483 = .ok (.iadd, 1) := by decide +kernel
theorem dL_law_484 : decode cL_law 484 = .ok (.iaload, 1) := by decide +kernel
theorem dL_law_485 : decode cL_law 485 = .ok (.invokevirtual 76, 3) := by decide +kernel
theorem dL_law_488 : decode cL_law 488 = .ok (.if_icmp .eq 421, 3) := by decide +kernel
theorem dL_law_491 : decode cL_law 491 = .ok (.iconst 0, 1) := by decide +kernel
theorem dL_law_492 : decode cL_law 492 = .ok (.ireturn, 1) := by decide +kernel
theorem dL_law_493 : decode cL_law 493 = .ok (.aload_n 1, 1) := by decide +kernel
theorem dL_law_494 : decode cL_law 494 = .ok (.aload_n 0, 1) := by decide +kernel
theorem dL_law_495 : decode cL_law 495 = .ok (.iload_n 3, 1) := by decide +kernel
theorem dL_law_496 : decode cL_law 496 = .ok (.iconst 1, 1) := by decide +kernel
theorem dL_law_497 : decode cL_law 497 = .ok (.iadd, 1) := by decide +kernel
theorem dL_law_498 : decode cL_law 498 = .ok (.iaload, 1) := by decide +kernel
theorem dL_law_499 : decode cL_law 499 = .ok (.aload_n 0, 1) := by decide +kernel
theorem dL_law_500 : decode cL_law 500 = .ok (.iload_n 3, 1) := by decide +kernel
theorem dL_law_501 : decode cL_law 501 = .ok (.iconst 2, 1) := by decide +kernel
theorem dL_law_502 : decode cL_law 502 = .ok (.iadd, 1) := by decide +kernel
theorem dL_law_503 : decode cL_law 503 = .ok (.iaload, 1) := by decide +kernel
theorem dL_law_504 : decode cL_law 504 = .ok (.invokevirtual 77, 3) := by decide +kernel
theorem dL_law_507 : decode cL_law 507 = .ok (.aload_n 2, 1) := by decide +kernel
theorem dL_law_508 : decode cL_law 508 = .ok (.aload_n 0, 1) := by decide +kernel
theorem dL_law_509 : decode cL_law 509 = .ok (.iload_n 3, 1) := by decide +kernel
theorem dL_law_510 : decode cL_law 510 = .ok (.iconst 1, 1) := by decide +kernel
theorem dL_law_511 : decode cL_law 511 = .ok (.iadd, 1) := by decide +kernel
theorem dL_law_512 : decode cL_law 512 = .ok (.iaload, 1) := by decide +kernel
theorem dL_law_513 : decode cL_law 513 = .ok (.aload_n 0, 1) := by decide +kernel
theorem dL_law_514 : decode cL_law 514 = .ok (.iload_n 3, 1) := by decide +kernel
theorem dL_law_515 : decode cL_law 515 = .ok (.iconst 2, 1) := by decide +kernel
theorem dL_law_516 : decode cL_law 516 = .ok (.iadd, 1) := by decide +kernel
theorem dL_law_517 : decode cL_law 517 = .ok (.iaload, 1) := by decide +kernel
theorem dL_law_518 : decode cL_law 518 = .ok (.invokevirtual 80, 3) := by decide +kernel
theorem dL_law_521 : decode cL_law 521 = .ok (.if_icmp .eq 388, 3) := by decide +kernel
theorem dL_law_524 : decode cL_law 524 = .ok (.iconst 0, 1) := by decide +kernel
theorem dL_law_525 : decode cL_law 525 = .ok (.ireturn, 1) := by decide +kernel
theorem dL_law_526 : decode cL_law 526 = .ok (.aload_n 1, 1) := by decide +kernel
theorem dL_law_527 : decode cL_law 527 = .ok (.aload_n 0, 1) := by decide +kernel
theorem dL_law_528 : decode cL_law 528 = .ok (.iload_n 3, 1) := by decide +kernel
theorem dL_law_529 : decode cL_law 529 = .ok (.iconst 1, 1) := by decide +kernel
theorem dL_law_530 : decode cL_law 530 = .ok (.iadd, 1) := by decide +kernel
theorem dL_law_531 : decode cL_law 531 = .ok (.iaload, 1) := by decide +kernel
theorem dL_law_532 : decode cL_law 532 = .ok (.aload_n 0, 1) := by decide +kernel
theorem dL_law_533 : decode cL_law 533 = .ok (.iload_n 3, 1) := by decide +kernel
theorem dL_law_534 : decode cL_law 534 = .ok (.iconst 2, 1) := by decide +kernel
theorem dL_law_535 : decode cL_law 535 = .ok (.iadd, 1) := by decide +kernel
theorem dL_law_536 : decode cL_law 536 = .ok (.iaload, 1) := by decide +kernel
theorem dL_law_537 : decode cL_law 537 = .ok (.invokevirtual 81, 3) := by decide +kernel
theorem dL_law_540 : decode cL_law 540 = .ok (.aload_n 2, 1) := by decide +kernel
theorem dL_law_541 : decode cL_law 541 = .ok (.aload_n 0, 1) := by decide +kernel
theorem dL_law_542 : decode cL_law 542 = .ok (.iload_n 3, 1) := by decide +kernel
theorem dL_law_543 : decode cL_law 543 = .ok (.iconst 1, 1) := by decide +kernel
theorem dL_law_544 : decode cL_law 544 = .ok (.iadd, 1) := by decide +kernel
theorem dL_law_545 : decode cL_law 545 = .ok (.iaload, 1) := by decide +kernel
theorem dL_law_546 : decode cL_law 546 = .ok (.aload_n 0, 1) := by decide +kernel
theorem dL_law_547 : decode cL_law 547 = .ok (.iload_n 3, 1) := by decide +kernel
theorem dL_law_548 : decode cL_law 548 = .ok (.iconst 2, 1) := by decide +kernel
theorem dL_law_549 : decode cL_law 549 = .ok (.iadd, 1) := by decide +kernel
theorem dL_law_550 : decode cL_law 550 = .ok (.iaload, 1) := by decide +kernel
theorem dL_law_551 : decode cL_law 551 = .ok (.invokevirtual 84, 3) := by decide +kernel
theorem dL_law_554 : decode cL_law 554 = .ok (.if_icmp .eq 355, 3) := by decide +kernel
theorem dL_law_557 : decode cL_law 557 = .ok (.iconst 0, 1) := by decide +kernel
theorem dL_law_558 : decode cL_law 558 = .ok (.ireturn, 1) := by decide +kernel
theorem dL_law_559 : decode cL_law 559 = .ok (.aload_n 1, 1) := by decide +kernel
theorem dL_law_560 : decode cL_law 560 = .ok (.aload_n 0, 1) := by decide +kernel
theorem dL_law_561 : decode cL_law 561 = .ok (.iload_n 3, 1) := by decide +kernel
theorem dL_law_562 : decode cL_law 562 = .ok (.iconst 1, 1) := by decide +kernel
theorem dL_law_563 : decode cL_law 563 = .ok (.iadd, 1) := by decide +kernel
theorem dL_law_564 : decode cL_law 564 = .ok (.iaload, 1) := by decide +kernel
theorem dL_law_565 : decode cL_law 565 = .ok (.aload_n 0, 1) := by decide +kernel
theorem dL_law_566 : decode cL_law 566 = .ok (.iload_n 3, 1) := by decide +kernel
theorem dL_law_567 : decode cL_law 567 = .ok (.iconst 2, 1) := by decide +kernel
theorem dL_law_568 : decode cL_law 568 = .ok (.iadd, 1) := by decide +kernel
theorem dL_law_569 : decode cL_law 569 = .ok (.iaload, 1) := by decide +kernel
theorem dL_law_570 : decode cL_law 570 = .ok (.aload_n 0, 1) := by decide +kernel
theorem dL_law_571 : decode cL_law 571 = .ok (.iload_n 3, 1) := by decide +kernel
theorem dL_law_572 : decode cL_law 572 = .ok (.iconst 3, 1) := by decide +kernel
theorem dL_law_573 : decode cL_law 573 = .ok (.iadd, 1) := by decide +kernel
theorem dL_law_574 : decode cL_law 574 = .ok (.iaload, 1) := by decide +kernel
theorem dL_law_575 : decode cL_law 575 = .ok (.invokevirtual 85, 3) := by decide +kernel
theorem dL_law_578 : decode cL_law 578 = .ok (.aload_n 2, 1) := by decide +kernel
theorem dL_law_579 : decode cL_law 579 = .ok (.aload_n 0, 1) := by decide +kernel
theorem dL_law_580 : decode cL_law 580 = .ok (.iload_n 3, 1) := by decide +kernel
theorem dL_law_581 : decode cL_law 581 = .ok (.iconst 1, 1) := by decide +kernel
theorem dL_law_582 : decode cL_law 582 = .ok (.iadd, 1) := by decide +kernel
theorem dL_law_583 : decode cL_law 583 = .ok (.iaload, 1) := by decide +kernel
theorem dL_law_584 : decode cL_law 584 = .ok (.aload_n 0, 1) := by decide +kernel
theorem dL_law_585 : decode cL_law 585 = .ok (.iload_n 3, 1) := by decide +kernel
theorem dL_law_586 : decode cL_law 586 = .ok (.iconst 2, 1) := by decide +kernel
theorem dL_law_587 : decode cL_law 587 = .ok (.iadd, 1) := by decide +kernel
theorem dL_law_588 : decode cL_law 588 = .ok (.iaload, 1) := by decide +kernel
theorem dL_law_589 : decode cL_law 589 = .ok (.aload_n 0, 1) := by decide +kernel
theorem dL_law_590 : decode cL_law 590 = .ok (.iload_n 3, 1) := by decide +kernel
theorem dL_law_591 : decode cL_law 591 = .ok (.iconst 3, 1) := by decide +kernel
theorem dL_law_592 : decode cL_law 592 = .ok (.iadd, 1) := by decide +kernel
theorem dL_law_593 : decode cL_law 593 = .ok (.iaload, 1) := by decide +kernel
theorem dL_law_594 : decode cL_law 594 = .ok (.invokevirtual 89, 3) := by decide +kernel
theorem dL_law_597 : decode cL_law 597 = .ok (.if_icmp .eq 312, 3) := by decide +kernel
theorem dL_law_600 : decode cL_law 600 = .ok (.iconst 0, 1) := by decide +kernel
theorem dL_law_601 : decode cL_law 601 = .ok (.ireturn, 1) := by decide +kernel
theorem dL_law_602 : decode cL_law 602 = .ok (.aload_n 1, 1) := by decide +kernel
theorem dL_law_603 : decode cL_law 603 = .ok (.aload_n 0, 1) := by decide +kernel
theorem dL_law_604 : decode cL_law 604 = .ok (.iload_n 3, 1) := by decide +kernel
theorem dL_law_605 : decode cL_law 605 = .ok (.iconst 1, 1) := by decide +kernel
theorem dL_law_606 : decode cL_law 606 = .ok (.iadd, 1) := by decide +kernel
theorem dL_law_607 : decode cL_law 607 = .ok (.iaload, 1) := by decide +kernel
theorem dL_law_608 : decode cL_law 608 = .ok (.aload_n 0, 1) := by decide +kernel
theorem dL_law_609 : decode cL_law 609 = .ok (.iload_n 3, 1) := by decide +kernel
theorem dL_law_610 : decode cL_law 610 = .ok (.iconst 2, 1) := by decide +kernel
theorem dL_law_611 : decode cL_law 611 = .ok (.iadd, 1) := by decide +kernel
theorem dL_law_612 : decode cL_law 612 = .ok (.iaload, 1) := by decide +kernel
theorem dL_law_613 : decode cL_law 613 = .ok (.ifCond .eq 7, 3) := by decide +kernel
theorem dL_law_616 : decode cL_law 616 = .ok (.iconst 1, 1) := by decide +kernel
theorem dL_law_617 : decode cL_law 617 = .ok (.goto 4, 3) := by decide +kernel
theorem dL_law_620 : decode cL_law 620 = .ok (.iconst 0, 1) := by decide +kernel
theorem dL_law_621 : decode cL_law 621 = .ok (.invokevirtual 90, 3) := by decide +kernel
theorem dL_law_624 : decode cL_law 624 = .ok (.aload_n 2, 1) := by decide +kernel
theorem dL_law_625 : decode cL_law 625 = .ok (.aload_n 0, 1) := by decide +kernel
theorem dL_law_626 : decode cL_law 626 = .ok (.iload_n 3, 1) := by decide +kernel
theorem dL_law_627 : decode cL_law 627 = .ok (.iconst 1, 1) := by decide +kernel
theorem dL_law_628 : decode cL_law 628 = .ok (.iadd, 1) := by decide +kernel
theorem dL_law_629 : decode cL_law 629 = .ok (.iaload, 1) := by decide +kernel
theorem dL_law_630 : decode cL_law 630 = .ok (.aload_n 0, 1) := by decide +kernel
theorem dL_law_631 : decode cL_law 631 = .ok (.iload_n 3, 1) := by decide +kernel
theorem dL_law_632 : decode cL_law 632 = .ok (.iconst 2, 1) := by decide +kernel
theorem dL_law_633 : decode cL_law 633 = .ok (.iadd, 1) := by decide +kernel
theorem dL_law_634 : decode cL_law 634 = .ok (.iaload, 1) := by decide +kernel
theorem dL_law_635 : decode cL_law 635 = .ok (.ifCond .eq 7, 3) := by decide +kernel
theorem dL_law_638 : decode cL_law 638 = .ok (.iconst 1, 1) := by decide +kernel
theorem dL_law_639 : decode cL_law 639 = .ok (.goto 4, 3) := by decide +kernel
theorem dL_law_642 : decode cL_law 642 = .ok (.iconst 0, 1) := by decide +kernel
theorem dL_law_643 : decode cL_law 643 = .ok (.invokevirtual 93, 3) := by decide +kernel
theorem dL_law_646 : decode cL_law 646 = .ok (.if_icmp .eq 263, 3) := by decide +kernel
theorem dL_law_649 : decode cL_law 649 = .ok (.iconst 0, 1) := by decide +kernel
theorem dL_law_650 : decode cL_law 650 = .ok (.ireturn, 1) := by decide +kernel
theorem dL_law_651 : decode cL_law 651 = .ok (.aload_n 1, 1) := by decide +kernel
theorem dL_law_652 : decode cL_law 652 = .ok (.aload_n 0, 1) := by decide +kernel
theorem dL_law_653 : decode cL_law 653 = .ok (.iload_n 3, 1) := by decide +kernel
theorem dL_law_654 : decode cL_law 654 = .ok (.iconst 1, 1) := by decide +kernel
theorem dL_law_655 : decode cL_law 655 = .ok (.iadd, 1) := by decide +kernel
theorem dL_law_656 : decode cL_law 656 = .ok (.iaload, 1) := by decide +kernel
theorem dL_law_657 : decode cL_law 657 = .ok (.aload_n 0, 1) := by decide +kernel
theorem dL_law_658 : decode cL_law 658 = .ok (.iload_n 3, 1) := by decide +kernel
theorem dL_law_659 : decode cL_law 659 = .ok (.iconst 2, 1) := by decide +kernel
theorem dL_law_660 : decode cL_law 660 = .ok (.iadd, 1) := by decide +kernel
theorem dL_law_661 : decode cL_law 661 = .ok (.iaload, 1) := by decide +kernel
theorem dL_law_662 : decode cL_law 662 = .ok (.aload_n 0, 1) := by decide +kernel
theorem dL_law_663 : decode cL_law 663 = .ok (.iload_n 3, 1) := by decide +kernel
theorem dL_law_664 : decode cL_law 664 = .ok (.iconst 3, 1) := by decide +kernel
theorem dL_law_665 : decode cL_law 665 = .ok (.iadd, 1) := by decide +kernel
theorem dL_law_666 : decode cL_law 666 = .ok (.iaload, 1) := by decide +kernel
theorem dL_law_667 : decode cL_law 667 = .ok (.invokevirtual 94, 3) := by decide +kernel
theorem dL_law_670 : decode cL_law 670 = .ok (.aload_n 2, 1) := by decide +kernel
theorem dL_law_671 : decode cL_law 671 = .ok (.aload_n 0, 1) := by decide +kernel
theorem dL_law_672 : decode cL_law 672 = .ok (.iload_n 3, 1) := by decide +kernel
theorem dL_law_673 : decode cL_law 673 = .ok (.iconst 1, 1) := by decide +kernel
theorem dL_law_674 : decode cL_law 674 = .ok (.iadd, 1) := by decide +kernel
theorem dL_law_675 : decode cL_law 675 = .ok (.iaload, 1) := by decide +kernel
theorem dL_law_676 : decode cL_law 676 = .ok (.aload_n 0, 1) := by decide +kernel
theorem dL_law_677 : decode cL_law 677 = .ok (.iload_n 3, 1) := by decide +kernel
theorem dL_law_678 : decode cL_law 678 = .ok (.iconst 2, 1) := by decide +kernel
theorem dL_law_679 : decode cL_law 679 = .ok (.iadd, 1) := by decide +kernel
theorem dL_law_680 : decode cL_law 680 = .ok (.iaload, 1) := by decide +kernel
theorem dL_law_681 : decode cL_law 681 = .ok (.aload_n 0, 1) := by decide +kernel
theorem dL_law_682 : decode cL_law 682 = .ok (.iload_n 3, 1) := by decide +kernel
theorem dL_law_683 : decode cL_law 683 = .ok (.iconst 3, 1) := by decide +kernel
theorem dL_law_684 : decode cL_law 684 = .ok (.iadd, 1) := by decide +kernel
theorem dL_law_685 : decode cL_law 685 = .ok (.iaload, 1) := by decide +kernel
theorem dL_law_686 : decode cL_law 686 = .ok (.invokevirtual 97, 3) := by decide +kernel
theorem dL_law_689 : decode cL_law 689 = .ok (.if_icmp .eq 220, 3) := by decide +kernel
theorem dL_law_692 : decode cL_law 692 = .ok (.iconst 0, 1) := by decide +kernel
theorem dL_law_693 : decode cL_law 693 = .ok (.ireturn, 1) := by decide +kernel
theorem dL_law_694 : decode cL_law 694 = .ok (.aload_n 1, 1) := by decide +kernel
theorem dL_law_695 : decode cL_law 695 = .ok (.aload_n 0, 1) := by decide +kernel
theorem dL_law_696 : decode cL_law 696 = .ok (.iload_n 3, 1) := by decide +kernel
theorem dL_law_697 : decode cL_law 697 = .ok (.iconst 1, 1) := by decide +kernel
theorem dL_law_698 : decode cL_law 698 = .ok (.iadd, 1) := by decide +kernel
theorem dL_law_699 : decode cL_law 699 = .ok (.iaload, 1) := by decide +kernel
theorem dL_law_700 : decode cL_law 700 = .ok (.aload_n 0, 1) := by decide +kernel
theorem dL_law_701 : decode cL_law 701 = .ok (.iload_n 3, 1) := by decide +kernel
theorem dL_law_702 : decode cL_law 702 = .ok (.iconst 2, 1) := by decide +kernel
theorem dL_law_703 : decode cL_law 703 = .ok (.iadd, 1) := by decide +kernel
theorem dL_law_704 : decode cL_law 704 = .ok (.iaload, 1) := by decide +kernel
theorem dL_law_705 : decode cL_law 705 = .ok (.aload_n 0, 1) := by decide +kernel
theorem dL_law_706 : decode cL_law 706 = .ok (.iload_n 3, 1) := by decide +kernel
theorem dL_law_707 : decode cL_law 707 = .ok (.iconst 3, 1) := by decide +kernel
theorem dL_law_708 : decode cL_law 708 = .ok (.iadd, 1) := by decide +kernel
theorem dL_law_709 : decode cL_law 709 = .ok (.iaload, 1) := by decide +kernel
theorem dL_law_710 : decode cL_law 710 = .ok (.aload_n 0, 1) := by decide +kernel
theorem dL_law_711 : decode cL_law 711 = .ok (.iload_n 3, 1) := by decide +kernel
theorem dL_law_712 : decode cL_law 712 = .ok (.iconst 4, 1) := by decide +kernel
theorem dL_law_713 : decode cL_law 713 = .ok (.iadd, 1) := by decide +kernel
theorem dL_law_714 : decode cL_law 714 = .ok (.iaload, 1) := by decide +kernel
theorem dL_law_715 : decode cL_law 715 = .ok (.ifCond .eq 7, 3) := by decide +kernel
theorem dL_law_718 : decode cL_law 718 = .ok (.iconst 1, 1) := by decide +kernel
theorem dL_law_719 : decode cL_law 719 = .ok (.goto 4, 3) := by decide +kernel
theorem dL_law_722 : decode cL_law 722 = .ok (.iconst 0, 1) := by decide +kernel
theorem dL_law_723 : decode cL_law 723 = .ok (.invokevirtual 98, 3) := by decide +kernel
theorem dL_law_726 : decode cL_law 726 = .ok (.aload_n 2, 1) := by decide +kernel
theorem dL_law_727 : decode cL_law 727 = .ok (.aload_n 0, 1) := by decide +kernel
theorem dL_law_728 : decode cL_law 728 = .ok (.iload_n 3, 1) := by decide +kernel
theorem dL_law_729 : decode cL_law 729 = .ok (.iconst 1, 1) := by decide +kernel
theorem dL_law_730 : decode cL_law 730 = .ok (.iadd, 1) := by decide +kernel
theorem dL_law_731 : decode cL_law 731 = .ok (.iaload, 1) := by decide +kernel
theorem dL_law_732 : decode cL_law 732 = .ok (.aload_n 0, 1) := by decide +kernel
theorem dL_law_733 : decode cL_law 733 = .ok (.iload_n 3, 1) := by decide +kernel
theorem dL_law_734 : decode cL_law 734 = .ok (.iconst 2, 1) := by decide +kernel
theorem dL_law_735 : decode cL_law 735 = .ok (.iadd, 1) := by decide +kernel
theorem dL_law_736 : decode cL_law 736 = .ok (.iaload, 1) := by decide +kernel
theorem dL_law_737 : decode cL_law 737 = .ok (.aload_n 0, 1) := by decide +kernel
theorem dL_law_738 : decode cL_law 738 = .ok (.iload_n 3, 1) := by decide +kernel
theorem dL_law_739 : decode cL_law 739 = .ok (.iconst 3, 1) := by decide +kernel
theorem dL_law_740 : decode cL_law 740 = .ok (.iadd, 1) := by decide +kernel
theorem dL_law_741 : decode cL_law 741 = .ok (.iaload, 1) := by decide +kernel
theorem dL_law_742 : decode cL_law 742 = .ok (.aload_n 0, 1) := by decide +kernel
theorem dL_law_743 : decode cL_law 743 = .ok (.iload_n 3, 1) := by decide +kernel
theorem dL_law_744 : decode cL_law 744 = .ok (.iconst 4, 1) := by decide +kernel
theorem dL_law_745 : decode cL_law 745 = .ok (.iadd, 1) := by decide +kernel
theorem dL_law_746 : decode cL_law 746 = .ok (.iaload, 1) := by decide +kernel
theorem dL_law_747 : decode cL_law 747 = .ok (.ifCond .eq 7, 3) := by decide +kernel
theorem dL_law_750 : decode cL_law 750 = .ok (.iconst 1, 1) := by decide +kernel
theorem dL_law_751 : decode cL_law 751 = .ok (.goto 4, 3) := by decide +kernel
theorem dL_law_754 : decode cL_law 754 = .ok (.iconst 0, 1) := by decide +kernel
theorem dL_law_755 : decode cL_law 755 = .ok (.invokevirtual 102, 3) := by decide +kernel
theorem dL_law_758 : decode cL_law 758 = .ok (.if_icmp .eq 151, 3) := by decide +kernel
theorem dL_law_761 : decode cL_law 761 = .ok (.iconst 0, 1) := by decide +kernel
theorem dL_law_762 : decode cL_law 762 = .ok (.ireturn, 1) := by decide +kernel
theorem dL_law_763 : decode cL_law 763 = .ok (.aload_n 1, 1) := by decide +kernel
theorem dL_law_764 : decode cL_law 764 = .ok (.aload_n 0, 1) := by decide +kernel
theorem dL_law_765 : decode cL_law 765 = .ok (.iload_n 3, 1) := by decide +kernel
theorem dL_law_766 : decode cL_law 766 = .ok (.iconst 1, 1) := by decide +kernel
theorem dL_law_767 : decode cL_law 767 = .ok (.iadd, 1) := by decide +kernel
theorem dL_law_768 : decode cL_law 768 = .ok (.iaload, 1) := by decide +kernel
theorem dL_law_769 : decode cL_law 769 = .ok (.i2l, 1) := by decide +kernel
theorem dL_law_770 : decode cL_law 770 = .ok (.bipush 32, 2) := by decide +kernel
theorem dL_law_772 : decode cL_law 772 = .ok (.lshl, 1) := by decide +kernel
theorem dL_law_773 : decode cL_law 773 = .ok (.aload_n 0, 1) := by decide +kernel
theorem dL_law_774 : decode cL_law 774 = .ok (.iload_n 3, 1) := by decide +kernel
theorem dL_law_775 : decode cL_law 775 = .ok (.iconst 2, 1) := by decide +kernel
theorem dL_law_776 : decode cL_law 776 = .ok (.iadd, 1) := by decide +kernel
theorem dL_law_777 : decode cL_law 777 = .ok (.iaload, 1) := by decide +kernel
theorem dL_law_778 : decode cL_law 778 = .ok (.i2l, 1) := by decide +kernel
theorem dL_law_779 : decode cL_law 779 = .ok (.ldc2_w 103, 3) := by decide +kernel
theorem dL_law_782 : decode cL_law 782 = .ok (.land, 1) := by decide +kernel
theorem dL_law_783 : decode cL_law 783 = .ok (.lor, 1) := by decide +kernel
theorem dL_law_784 : decode cL_law 784 = .ok (.invokevirtual 105, 3) := by decide +kernel
theorem dL_law_787 : decode cL_law 787 = .ok (.aload_n 2, 1) := by decide +kernel
theorem dL_law_788 : decode cL_law 788 = .ok (.aload_n 0, 1) := by decide +kernel
theorem dL_law_789 : decode cL_law 789 = .ok (.iload_n 3, 1) := by decide +kernel
theorem dL_law_790 : decode cL_law 790 = .ok (.iconst 1, 1) := by decide +kernel
theorem dL_law_791 : decode cL_law 791 = .ok (.iadd, 1) := by decide +kernel
theorem dL_law_792 : decode cL_law 792 = .ok (.iaload, 1) := by decide +kernel
theorem dL_law_793 : decode cL_law 793 = .ok (.i2l, 1) := by decide +kernel
theorem dL_law_794 : decode cL_law 794 = .ok (.bipush 32, 2) := by decide +kernel
theorem dL_law_796 : decode cL_law 796 = .ok (.lshl, 1) := by decide +kernel
theorem dL_law_797 : decode cL_law 797 = .ok (.aload_n 0, 1) := by decide +kernel
theorem dL_law_798 : decode cL_law 798 = .ok (.iload_n 3, 1) := by decide +kernel
theorem dL_law_799 : decode cL_law 799 = .ok (.iconst 2, 1) := by decide +kernel
theorem dL_law_800 : decode cL_law 800 = .ok (.iadd, 1) := by decide +kernel
theorem dL_law_801 : decode cL_law 801 = .ok (.iaload, 1) := by decide +kernel
theorem dL_law_802 : decode cL_law 802 = .ok (.i2l, 1) := by decide +kernel
theorem dL_law_803 : decode cL_law 803 = .ok (.ldc2_w 103, 3) := by decide +kernel
theorem dL_law_806 : decode cL_law 806 = .ok (.land, 1) := by decide +kernel
theorem dL_law_807 : decode cL_law 807 = .ok (.lor, 1) := by decide +kernel
theorem dL_law_808 : decode cL_law 808 = .ok (.invokevirtual 109, 3) := by decide +kernel
theorem dL_law_811 : decode cL_law 811 = .ok (.lcmp, 1) := by decide +kernel
theorem dL_law_812 : decode cL_law 812 = .ok (.ifCond .eq 97, 3) := by decide +kernel
theorem dL_law_815 : decode cL_law 815 = .ok (.iconst 0, 1) := by decide +kernel
theorem dL_law_816 : decode cL_law 816 = .ok (.ireturn, 1) := by decide +kernel
theorem dL_law_817 : decode cL_law 817 = .ok (.aload_n 1, 1) := by decide +kernel
theorem dL_law_818 : decode cL_law 818 = .ok (.aload_n 0, 1) := by decide +kernel
theorem dL_law_819 : decode cL_law 819 = .ok (.iload_n 3, 1) := by decide +kernel
theorem dL_law_820 : decode cL_law 820 = .ok (.iconst 1, 1) := by decide +kernel
theorem dL_law_821 : decode cL_law 821 = .ok (.iadd, 1) := by decide +kernel
theorem dL_law_822 : decode cL_law 822 = .ok (.iaload, 1) := by decide +kernel
theorem dL_law_823 : decode cL_law 823 = .ok (.invokevirtual 110, 3) := by decide +kernel
theorem dL_law_826 : decode cL_law 826 = .ok (.aload_n 2, 1) := by decide +kernel
theorem dL_law_827 : decode cL_law 827 = .ok (.aload_n 0, 1) := by decide +kernel
theorem dL_law_828 : decode cL_law 828 = .ok (.iload_n 3, 1) := by decide +kernel
theorem dL_law_829 : decode cL_law 829 = .ok (.iconst 1, 1) := by decide +kernel
theorem dL_law_830 : decode cL_law 830 = .ok (.iadd, 1) := by decide +kernel
theorem dL_law_831 : decode cL_law 831 = .ok (.iaload, 1) := by decide +kernel
theorem dL_law_832 : decode cL_law 832 = .ok (.invokevirtual 113, 3) := by decide +kernel
theorem dL_law_835 : decode cL_law 835 = .ok (.if_icmp .eq 74, 3) := by decide +kernel
theorem dL_law_838 : decode cL_law 838 = .ok (.iconst 0, 1) := by decide +kernel
theorem dL_law_839 : decode cL_law 839 = .ok (.ireturn, 1) := by decide +kernel
theorem dL_law_840 : decode cL_law 840 = .ok (.aload_n 1, 1) := by decide +kernel
theorem dL_law_841 : decode cL_law 841 = .ok (.aload_n 0, 1) := by decide +kernel
theorem dL_law_842 : decode cL_law 842 = .ok (.iload_n 3, 1) := by decide +kernel
theorem dL_law_843 : decode cL_law 843 = .ok (.iconst 1, 1) := by decide +kernel
theorem dL_law_844 : decode cL_law 844 = .ok (.iadd, 1) := by decide +kernel
theorem dL_law_845 : decode cL_law 845 = .ok (.iaload, 1) := by decide +kernel
theorem dL_law_846 : decode cL_law 846 = .ok (.invokevirtual 114, 3) := by decide +kernel
theorem dL_law_849 : decode cL_law 849 = .ok (.aload_n 2, 1) := by decide +kernel
theorem dL_law_850 : decode cL_law 850 = .ok (.aload_n 0, 1) := by decide +kernel
theorem dL_law_851 : decode cL_law 851 = .ok (.iload_n 3, 1) := by decide +kernel
theorem dL_law_852 : decode cL_law 852 = .ok (.iconst 1, 1) := by decide +kernel
theorem dL_law_853 : decode cL_law 853 = .ok (.iadd, 1) := by decide +kernel
theorem dL_law_854 : decode cL_law 854 = .ok (.iaload, 1) := by decide +kernel
theorem dL_law_855 : decode cL_law 855 = .ok (.invokevirtual 117, 3) := by decide +kernel
theorem dL_law_858 : decode cL_law 858 = .ok (.if_icmp .eq 51, 3) := by decide +kernel
theorem dL_law_861 : decode cL_law 861 = .ok (.iconst 0, 1) := by decide +kernel
theorem dL_law_862 : decode cL_law 862 = .ok (.ireturn, 1) := by decide +kernel
theorem dL_law_863 : decode cL_law 863 = .ok (.aload_n 1, 1) := by decide +kernel
theorem dL_law_864 : decode cL_law 864 = .ok (.aload_n 0, 1) := by decide +kernel
theorem dL_law_865 : decode cL_law 865 = .ok (.iload_n 3, 1) := by decide +kernel
theorem dL_law_866 : decode cL_law 866 = .ok (.iconst 1, 1) := by decide +kernel
theorem dL_law_867 : decode cL_law 867 = .ok (.iadd, 1) := by decide +kernel
theorem dL_law_868 : decode cL_law 868 = .ok (.iaload, 1) := by decide +kernel
theorem dL_law_869 : decode cL_law 869 = .ok (.invokevirtual 118, 3) := by decide +kernel
theorem dL_law_872 : decode cL_law 872 = .ok (.aload_n 2, 1) := by decide +kernel
theorem dL_law_873 : decode cL_law 873 = .ok (.aload_n 0, 1) := by decide +kernel
theorem dL_law_874 : decode cL_law 874 = .ok (.iload_n 3, 1) := by decide +kernel
theorem dL_law_875 : decode cL_law 875 = .ok (.iconst 1, 1) := by decide +kernel
theorem dL_law_876 : decode cL_law 876 = .ok (.iadd, 1) := by decide +kernel
theorem dL_law_877 : decode cL_law 877 = .ok (.iaload, 1) := by decide +kernel
theorem dL_law_878 : decode cL_law 878 = .ok (.invokevirtual 121, 3) := by decide +kernel
theorem dL_law_881 : decode cL_law 881 = .ok (.if_icmp .eq 28, 3) := by decide +kernel
theorem dL_law_884 : decode cL_law 884 = .ok (.iconst 0, 1) := by decide +kernel
theorem dL_law_885 : decode cL_law 885 = .ok (.ireturn, 1) := by decide +kernel
theorem dL_law_886 : decode cL_law 886 = .ok (.aload_n 1, 1) := by decide +kernel
theorem dL_law_887 : decode cL_law 887 = .ok (.aload_n 0, 1) := by decide +kernel
theorem dL_law_888 : decode cL_law 888 = .ok (.iload_n 3, 1) := by decide +kernel
theorem dL_law_889 : decode cL_law 889 = .ok (.iconst 1, 1) := by decide +kernel
theorem dL_law_890 : decode cL_law 890 = .ok (.iadd, 1) := by decide +kernel
theorem dL_law_891 : decode cL_law 891 = .ok (.iaload, 1) := by decide +kernel
theorem dL_law_892 : decode cL_law 892 = .ok (.invokevirtual 122, 3) := by decide +kernel
theorem dL_law_895 : decode cL_law 895 = .ok (.aload_n 2, 1) := by decide +kernel
theorem dL_law_896 : decode cL_law 896 = .ok (.aload_n 0, 1) := by decide +kernel
theorem dL_law_897 : decode cL_law 897 = .ok (.iload_n 3, 1) := by decide +kernel
theorem dL_law_898 : decode cL_law 898 = .ok (.iconst 1, 1) := by decide +kernel
theorem dL_law_899 : decode cL_law 899 = .ok (.iadd, 1) := by decide +kernel
theorem dL_law_900 : decode cL_law 900 = .ok (.iaload, 1) := by decide +kernel
theorem dL_law_901 : decode cL_law 901 = .ok (.invokevirtual 125, 3) := by decide +kernel
theorem dL_law_904 : decode cL_law 904 = .ok (.if_icmp .eq 5, 3) := by decide +kernel
theorem dL_law_907 : decode cL_law 907 = .ok (.iconst 0, 1) := by decide +kernel
theorem dL_law_908 : decode cL_law 908 = .ok (.ireturn, 1) := by decide +kernel
theorem dL_law_909 : decode cL_law 909 = .ok (.iinc 3 5, 3) := by decide +kernel
theorem dL_law_912 : decode cL_law 912 = .ok (.goto (-894), 3) := by decide +kernel
theorem dL_law_915 : decode cL_law 915 = .ok (.iconst 1, 1) := by decide +kernel
theorem dL_law_916 : decode cL_law 916 = .ok (.ireturn, 1) := by decide +kernel
end
section
/-! ===== the judgement X: a method's frame over one world; cell 0 is the static table, cell a+1 lies at base + a ===== -/
abbrev xC : Type := Nat × Nat × Nat × va_G × ClassId × ClassId × ClassId × ClassId
abbrev xLy : Type := Nat → (Nat × Nat) ⊕ (Nat × List Nat)
abbrev xT : Type := (Nat → Nat → Int32) × (Nat → Nat → Int64) × (Nat → Nat → Nat)
abbrev xP : Type := Nat × Nat × xLy
abbrev xY : Type := MethodName × ByteArray × Nat × Option FieldType × Room
/-- where a cell of the world lies -/
def xad (cx : xC) (a : Nat) : Nat := match a with | 0 => cx.2.2.1 | a + 1 => cx.1 + a
def xup (cx : xC) (v : Value) : Value := match v with | .ref a => .ref (xad cx a) | v => v
def xup2 (cx : xC) (q : Nat × Value) : Nat × Value := (q.1, xup cx q.2)
theorem xup_int (cx : xC) (x : Int32) : xup cx (.int x) = .int x := rfl
theorem xup_long (cx : xC) (x : Int64) : xup cx (.long x) = .long x := rfl
theorem xup_ref (cx : xC) (a : Nat) : xup cx (.ref a) = .ref (xad cx a) := rfl
theorem xup_cat (cx : xC) (v : Value) : (xup cx v).category = v.category := by cases v <;> rfl
def xtys (cx : xC) : List (ClassId × FieldType) := [(cx.2.2.2.2.1, .int), (cx.2.2.2.2.2.1, .long), (cx.2.2.2.2.2.2.1, .boolean), (cx.2.2.2.2.2.2.2, .object "WaitedPost$Standing")]
def xrate (j : Nat) : Int32 := match j with | 0 => 1 | 1 => 2 | 2 => 3 | _ => 0
def xnM : List (String × Nat × MethodName × String) := [("WaitedPost$Planner", 33, ⟨"WaitedPost", "has", "(II)Z"⟩, "WaitedPost"), ("WaitedPost$Planner", 56, ⟨"WaitedPost", "power", "(II)J"⟩, "WaitedPost"), ("WaitedPost$Planner", 60, ⟨"WaitedPost", "within", "(II)Z"⟩, "WaitedPost"), ("WaitedPost$Planner", 72, ⟨"WaitedPost", "bit", "(I)I"⟩, "WaitedPost"), ("WaitedPost$Reader", 80, ⟨"WaitedPost", "at", "([II)I"⟩, "WaitedPost"), ("WaitedPost$Reader", 84, ⟨"WaitedPost", "has", "(II)Z"⟩, "WaitedPost"), ("WaitedPost$Reader", 88, ⟨"WaitedPost", "bit", "(I)I"⟩, "WaitedPost"), ("WaitedPost$Reader", 92, ⟨"WaitedPost", "put", "([III)V"⟩, "WaitedPost"), ("WaitedPost$Standing", 43, ⟨"WaitedPost", "copyRow", "([I[I)V"⟩, "WaitedPost"), ("WaitedPost$Standing", 47, ⟨"WaitedPost", "has", "(II)Z"⟩, "WaitedPost"), ("WaitedPost$Standing", 51, ⟨"WaitedPost", "at", "([II)I"⟩, "WaitedPost"), ("WaitedPost$Standing", 55, ⟨"WaitedPost", "put", "([III)V"⟩, "WaitedPost"), ("WaitedPost$Told", 37, ⟨"WaitedPost", "copyRow", "([I[I)V"⟩, "WaitedPost"), ("WaitedPost$Told", 41, ⟨"WaitedPost", "put", "([III)V"⟩, "WaitedPost"), ("WaitedPost$Told", 45, ⟨"WaitedPost", "at", "([II)I"⟩, "WaitedPost"), ("WaitedPost$Told", 49, ⟨"WaitedPost", "has", "(II)Z"⟩, "WaitedPost")]
def xnF : List (String × Nat × String × String × String × String) := [("WaitedPost$Reader", 66, "WaitedPost", "RATES", "[I", "WaitedPost"), ("WaitedPost$Told", 78, "WaitedPost", "RATES", "[I", "WaitedPost")]
def xNest (U : State) : Prop := (∀ q ∈ xnM, va_Nw (.methodLinkNest q.1 q.2.1 q.2.2.1 q.2.2.2) U) ∧ ∀ q ∈ xnF, va_Nw (.fieldLinkNest q.1 q.2.1 q.2.2.1 q.2.2.2.1 q.2.2.2.2.1 q.2.2.2.2.2) U
/-- what is known of the tables and of the static table -/
def xK (cx : xC) (U : State) : Prop := va_K cx.2.2.2.1 vwCl (xtys cx) U ∧ xNest U ∧ va_Z "WaitedPost" "RATES" "[I" (.ref cx.2.2.1) (fun q => cx.1 ≤ q) U U.heap ∧ va_T .int cx.2.2.1 4 (fun j => .int (xrate j)) (fun q => cx.1 ≤ q) U U.heap ∧ va_AO "WaitedPost$Standing" U
/-- a field: 0 an int, 1 a long, 2 null, j + 3 the cell j -/
def xfv (τ : xT) (a k kd : Nat) : Value := match kd with | 0 => .int (τ.1 a k) | 1 => .long (τ.2.1 a k) | 2 => .null | j + 3 => .ref j
def xrf (r : Nat) : Value := if r = 0 then .null else .ref r
def xcell (cx : xC) (ly : xLy) (τ : xT) (a : Nat) : va_E := match ly a with
  | .inl (0, n) => .inl (cx.2.2.2.2.1, n, .inl (τ.1 a))
  | .inl (1, n) => .inl (cx.2.2.2.2.2.1, n, .inr (.inl (τ.2.1 a)))
  | .inl (2, n) => .inl (cx.2.2.2.2.2.2.1, n, .inl (τ.1 a))
  | .inl (_, n) => .inl (cx.2.2.2.2.2.2.2, n, .inr (.inr (.inr (.inr (fun j => if τ.2.2 a j = 0 then none else some (xad cx (τ.2.2 a j)))))))
  | .inr (ci, fks) => .inr (ci, (List.range fks.length).map (fun k => xup cx (xfv τ a k (fks.getD k 0))))
def xws (cx : xC) (P : xP) (τ : xT) : va_W := (List.range P.1).map (fun a => (cx.1 + a, xcell cx P.2.2 τ (a + 1)))
/-- the world stands in the heap -/
def xH (cx : xC) (P : xP) (τ : xT) (H : Heap) : Prop := H.size = cx.1 + P.1 + cx.2.1 ∧ P.2.2 0 = .inl (4, 4) ∧ (∀ j, τ.1 0 j = xrate j) ∧ va_P cx.2.2.2.1 vwCl (xws cx P τ) H
def xtbl : List Cond := lw_tbl.filter goodWord
def xyw (M : xY) : List Cond := Cond.code M.1 M.2.1 M.2.2.1 M.2.2.2.1 :: xtbl
def xCtx (cx : xC) (M : xY) (P0 : xP) (p : Program) (s : State) (m : MethodId) (args : Array Value) (meth : Method) (c : Code) : Prop :=
  p.tables.exec = Jvm.exec ∧ c.code = M.2.1 ∧ c.maxLocals = M.2.2.1 ∧ meth.sig.returnType = M.2.2.2.1 ∧ meth.locks = false ∧ s.vm.findClass M.1.cls = some m.cls ∧ meth.name = M.1.name ∧ (∀ w ∈ xyw M, w.before args s = true) ∧ xK cx s ∧ s.heap.size = cx.1 + P0.1 + cx.2.1
def xFr (cx : xC) (P0 : xP) (H0 H : Heap) : Prop := ∀ q : Nat, cx.1 + P0.1 ≤ q → q < cx.1 + P0.1 + cx.2.1 → H[q]? = H0[q]?
def xMo (cx : xC) (P0 P : xP) : Prop := P0.1 ≤ P.1 ∧ P0.2.1 ≤ P.2.1 ∧ (P0.1 = P.1 ∨ cx.2.1 = 0)
def xQc (cx : xC) (M : xY) (P : xP) (Q : Option Value → xP → xT → Prop) : Array Value → State → Outcome → State → Prop := fun _ st oc t =>
  ∃ (r : Option Value) (P' : xP) (τ' : xT), oc = .returned (r.map (xup cx)) ∧ Q r P' τ' ∧ P'.1 = P.1 + M.2.2.2.2.cells ∧ P'.2.1 = P.2.1 + M.2.2.2.2.slots ∧ (P.1 = P'.1 ∨ cx.2.1 = 0) ∧ xH cx P' τ' t.heap ∧ (∀ q : Nat, q < st.heap.size → q < cx.1 → t.heap[q]? = st.heap[q]?) ∧ xFr cx P st.heap t.heap
def xPc (cx : xC) (P : xP) (τ : xT) (vs : List Value) : Array Value → State → Prop := fun v U => v = (vs.map (xup cx)).toArray ∧ xH cx P τ U.heap ∧ xK cx U
/-- a method's contract: on these arguments, in this world, it returns, and Q holds of its answer and of the world behind it -/
def Ct (cx : xC) (M : xY) (vs : List Value) (P : xP) (τ : xT) (Q : Option Value → xP → xT → Prop) : Prop :=
  ∀ l : Launch, Met l M.1 (xyw M) M.2.2.2.2 (xPc cx P τ vs) (xQc cx M P Q) M.2.2.2.2.cells M.2.2.2.2.slots (fun q => cx.1 ≤ q)
def X (cx : xC) (M : xY) (P0 : xP) (Q : Option Value → xP → xT → Prop) (pc : Nat) (lv : List (Nat × Value)) (st : List Value) (P : xP) (τ : xT) : Prop :=
  ∀ (p : Program) (l : Launch) (e : Env) (s : State) (m : MethodId) (args : Array Value) (below : List Frame) (meth : Method) (c : Code) (H : Heap) (locs : List Loc) (ls : Array Slot),
    xCtx cx M P0 p s m args meth c → xH cx P τ H ∧ xMo cx P0 P → va_S (fun q => cx.1 ≤ q) s.heap H locs → xFr cx P0 s.heap H → lv_has ls M.2.2.1 (lv.map (xup2 cx)) →
    W p l e M.2.2.2.2 s m args below meth c H locs (P.1 - P0.1) (P.2.1 - P0.2.1) (MQ below (xQc cx M P0 Q) args s M.2.2.2.2.cells M.2.2.2.2.slots (fun q => cx.1 ≤ q)) (F0 m pc ls (st.map (xup cx)))
/-- what stands at a local's place -/
def xlk (lv : List (Nat × Value)) (i : Nat) : Option Value := match lv with | [] => none | q :: r => if q.1 = i then some q.2 else xlk r i
theorem xlk_mem {lv : List (Nat × Value)} {i : Nat} {v : Value} (h : xlk lv i = some v) : (i, v) ∈ lv := by
  induction lv with
  | nil => cases h
  | cons q r ih =>
    unfold xlk at h
    split at h
    · rename_i hq
      cases h
      rw [← hq]
      exact List.mem_cons_self
    · exact List.mem_cons_of_mem _ (ih h)
theorem xlk_at {cx : xC} {ls : Array Slot} {nL : Nat} {lv : List (Nat × Value)} {i : Nat} {v : Value} (h : lv_has ls nL (lv.map (xup2 cx))) (hk : xlk lv i = some v) : ls[i]? = some (.val (xup cx v)) :=
  h.2.2 (i, xup cx v) (List.mem_map.mpr ⟨(i, v), xlk_mem hk, rfl⟩)
def xst1 (lv : List (Nat × Value)) (i : Nat) (v : Value) : List (Nat × Value) := (i, v) :: lv.filter (fun q => !(q.1 == i) && !(q.1 + 1 == i && q.2.category == 2))
def xst2 (lv : List (Nat × Value)) (i : Nat) (v : Value) : List (Nat × Value) := (i, v) :: lv.filter (fun q => !(q.1 == i) && (!(q.1 == i + 1) && !(q.1 + 1 == i && q.2.category == 2)))
theorem xst1_up (cx : xC) (lv : List (Nat × Value)) (i : Nat) (v : Value) : (i, xup cx v) :: (lv.map (xup2 cx)).filter (fun q => !(q.1 == i) && !(q.1 + 1 == i && q.2.category == 2)) = (xst1 lv i v).map (xup2 cx) := by
  simp only [xst1, List.map_cons, List.filter_map]
  congr 2
  apply List.filter_congr
  intro q _
  simp [xup2, xup_cat]
theorem xst2_up (cx : xC) (lv : List (Nat × Value)) (i : Nat) (v : Value) : (i, xup cx v) :: (lv.map (xup2 cx)).filter (fun q => !(q.1 == i) && (!(q.1 == i + 1) && !(q.1 + 1 == i && q.2.category == 2))) = (xst2 lv i v).map (xup2 cx) := by
  simp only [xst2, List.map_cons, List.filter_map]
  congr 2
  apply List.filter_congr
  intro q _
  simp [xup2, xup_cat]
theorem xws_get {cx : xC} {P : xP} {τ : xT} {a : Nat} (h : a < P.1) : (xws cx P τ)[a]? = some (cx.1 + a, xcell cx P.2.2 τ (a + 1)) := by
  simp [xws, h]
theorem xws_in {cx : xC} {P : xP} {τ : xT} {k : Nat} {q : Nat × va_E} (h : (xws cx P τ)[k]? = some q) : k < P.1 ∧ q = (cx.1 + k, xcell cx P.2.2 τ (k + 1)) := by
  have hk : k < P.1 := by
    have := (List.getElem?_eq_some_iff.mp h).1
    simpa [xws] using this
  rw [xws_get hk] at h
  exact ⟨hk, (Option.some.inj h).symm⟩
theorem xH.at {cx : xC} {P : xP} {τ : xT} {H : Heap} (h : xH cx P τ H) {a : Nat} (ha : a < P.1) : va_at cx.2.2.2.1 vwCl (cx.1 + a, xcell cx P.2.2 τ (a + 1)) H := h.2.2.2 a _ (xws_get ha)
/-- one cell is written -/
theorem xH.set {cx : xC} {P : xP} {τ τ' : xT} {H H1 : Heap} (h : xH cx P τ H) {a : Nat} (ha : a < P.1) (ly' : xLy) (hz : H1.size = H.size) (ho : ∀ q : Nat, q ≠ cx.1 + a → H1[q]? = H[q]?) (he : va_at cx.2.2.2.1 vwCl (cx.1 + a, xcell cx ly' τ' (a + 1)) H1) (h0 : ly' 0 = P.2.2 0) (h1 : ∀ j, τ'.1 0 j = τ.1 0 j) (hk : ∀ j, j ≠ a + 1 → xcell cx ly' τ' j = xcell cx P.2.2 τ j) : xH cx (P.1, P.2.1, ly') τ' H1 := by
  refine ⟨hz.trans h.1, h0.trans h.2.1, fun j => (h1 j).trans (h.2.2.1 j), fun k q hq => ?_⟩
  obtain ⟨hk1, rfl⟩ := xws_in hq
  have hk1 : k < P.1 := hk1
  by_cases hka : k = a
  · subst hka
    exact he
  · show va_at _ _ (cx.1 + k, xcell cx ly' τ' (k + 1)) H1
    rw [hk (k + 1) (by omega)]
    exact (h.at hk1).kept (ho _ (by show cx.1 + k ≠ cx.1 + a; omega))
theorem xH.push {cx : xC} {P : xP} {τ : xT} {H H1 : Heap} {S : Nat} (h : xH cx P τ H) (h0 : cx.2.1 = 0) (ly' : xLy) (hz : H1.size = H.size + 1) (ho : ∀ q : Nat, q < H.size → H1[q]? = H[q]?) (τ' : xT) (he : va_at cx.2.2.2.1 vwCl (cx.1 + P.1, xcell cx ly' τ' (P.1 + 1)) H1) (hl0 : ly' 0 = P.2.2 0) (h1 : ∀ j, τ'.1 0 j = τ.1 0 j) (hk : ∀ j, j ≠ P.1 + 1 → xcell cx ly' τ' j = xcell cx P.2.2 τ j) : xH cx (P.1 + 1, S, ly') τ' H1 := by
  refine ⟨by rw [hz, h.1]; simp only [h0]; omega, hl0.trans h.2.1, fun j => (h1 j).trans (h.2.2.1 j), fun k q hq => ?_⟩
  obtain ⟨hk1, rfl⟩ := xws_in hq
  have hk1 : k < P.1 + 1 := hk1
  by_cases hka : k = P.1
  · subst hka
    exact he
  · show va_at _ _ (cx.1 + k, xcell cx ly' τ' (k + 1)) H1
    rw [hk (k + 1) (by omega)]
    have hk2 : k < P.1 := by omega
    exact (h.at hk2).kept (ho _ (by show cx.1 + k < H.size; rw [h.1]; omega))
theorem xS.put {A : Nat → Prop} {H0 H H1 : Heap} {locs : List Loc} {a k : Nat} (h : va_S A H0 H locs) (z : H1.size = H.size) (oq : ∀ q : Nat, q ≠ a → H1[q]? = H[q]?) (ha : A a) : va_S A H0 H1 (locs ++ [⟨a, k⟩]) := va_S.put h z oq ha
theorem xFr.put {cx : xC} {P0 P : xP} {H0 H H1 : Heap} {a : Nat} (h : xFr cx P0 H0 H) (hm : xMo cx P0 P) (ha : a < P.1) (oq : ∀ q : Nat, q ≠ cx.1 + a → H1[q]? = H[q]?) : xFr cx P0 H0 H1 := by
  intro q h1 h2
  rw [oq q ?_]
  · exact h q h1 h2
  · rcases hm.2.2 with z | z
    · omega
    · omega

theorem X_iadd {cx : xC} {M : xY} {P0 : xP} {Q : Option Value → xP → xT → Prop} {pc pc' : Nat} {lv : List (Nat × Value)} {st : List Value} {P : xP} {τ : xT} {x y : Int32} (hd : decode M.2.1 pc = .ok (.iadd, 1)) (hp : pc + 1 = pc')  (k : X cx M P0 Q pc' lv (.int (x + y) :: st) P τ) : X cx M P0 Q pc lv (.int y :: .int x :: st) P τ := by
  subst hp
  exact fun p l e s m args below meth c H locs ls C hH hS hF hl => lv_iadd C.1 C.2.1 hd (k p l e s m args below meth c H locs ls C hH hS hF hl)
theorem X_isub {cx : xC} {M : xY} {P0 : xP} {Q : Option Value → xP → xT → Prop} {pc pc' : Nat} {lv : List (Nat × Value)} {st : List Value} {P : xP} {τ : xT} {x y : Int32} (hd : decode M.2.1 pc = .ok (.isub, 1)) (hp : pc + 1 = pc')  (k : X cx M P0 Q pc' lv (.int (x - y) :: st) P τ) : X cx M P0 Q pc lv (.int y :: .int x :: st) P τ := by
  subst hp
  exact fun p l e s m args below meth c H locs ls C hH hS hF hl => lv_isub C.1 C.2.1 hd (k p l e s m args below meth c H locs ls C hH hS hF hl)
theorem X_imul {cx : xC} {M : xY} {P0 : xP} {Q : Option Value → xP → xT → Prop} {pc pc' : Nat} {lv : List (Nat × Value)} {st : List Value} {P : xP} {τ : xT} {x y : Int32} (hd : decode M.2.1 pc = .ok (.imul, 1)) (hp : pc + 1 = pc')  (k : X cx M P0 Q pc' lv (.int (x * y) :: st) P τ) : X cx M P0 Q pc lv (.int y :: .int x :: st) P τ := by
  subst hp
  exact fun p l e s m args below meth c H locs ls C hH hS hF hl => lv_imul C.1 C.2.1 hd (k p l e s m args below meth c H locs ls C hH hS hF hl)
theorem X_iand {cx : xC} {M : xY} {P0 : xP} {Q : Option Value → xP → xT → Prop} {pc pc' : Nat} {lv : List (Nat × Value)} {st : List Value} {P : xP} {τ : xT} {x y : Int32} (hd : decode M.2.1 pc = .ok (.iand, 1)) (hp : pc + 1 = pc')  (k : X cx M P0 Q pc' lv (.int (x &&& y) :: st) P τ) : X cx M P0 Q pc lv (.int y :: .int x :: st) P τ := by
  subst hp
  exact fun p l e s m args below meth c H locs ls C hH hS hF hl => lv_iand C.1 C.2.1 hd (k p l e s m args below meth c H locs ls C hH hS hF hl)
theorem X_ior {cx : xC} {M : xY} {P0 : xP} {Q : Option Value → xP → xT → Prop} {pc pc' : Nat} {lv : List (Nat × Value)} {st : List Value} {P : xP} {τ : xT} {x y : Int32} (hd : decode M.2.1 pc = .ok (.ior, 1)) (hp : pc + 1 = pc')  (k : X cx M P0 Q pc' lv (.int (x ||| y) :: st) P τ) : X cx M P0 Q pc lv (.int y :: .int x :: st) P τ := by
  subst hp
  exact fun p l e s m args below meth c H locs ls C hH hS hF hl => lv_ior C.1 C.2.1 hd (k p l e s m args below meth c H locs ls C hH hS hF hl)
theorem X_ixor {cx : xC} {M : xY} {P0 : xP} {Q : Option Value → xP → xT → Prop} {pc pc' : Nat} {lv : List (Nat × Value)} {st : List Value} {P : xP} {τ : xT} {x y : Int32} (hd : decode M.2.1 pc = .ok (.ixor, 1)) (hp : pc + 1 = pc')  (k : X cx M P0 Q pc' lv (.int (x ^^^ y) :: st) P τ) : X cx M P0 Q pc lv (.int y :: .int x :: st) P τ := by
  subst hp
  exact fun p l e s m args below meth c H locs ls C hH hS hF hl => lv_ixor C.1 C.2.1 hd (k p l e s m args below meth c H locs ls C hH hS hF hl)
theorem X_ishl {cx : xC} {M : xY} {P0 : xP} {Q : Option Value → xP → xT → Prop} {pc pc' : Nat} {lv : List (Nat × Value)} {st : List Value} {P : xP} {τ : xT} {x y : Int32} (hd : decode M.2.1 pc = .ok (.ishl, 1)) (hp : pc + 1 = pc')  (k : X cx M P0 Q pc' lv (.int (x <<< (y &&& 31)) :: st) P τ) : X cx M P0 Q pc lv (.int y :: .int x :: st) P τ := by
  subst hp
  exact fun p l e s m args below meth c H locs ls C hH hS hF hl => lv_ishl C.1 C.2.1 hd (k p l e s m args below meth c H locs ls C hH hS hF hl)
theorem X_ishr {cx : xC} {M : xY} {P0 : xP} {Q : Option Value → xP → xT → Prop} {pc pc' : Nat} {lv : List (Nat × Value)} {st : List Value} {P : xP} {τ : xT} {x y : Int32} (hd : decode M.2.1 pc = .ok (.ishr, 1)) (hp : pc + 1 = pc')  (k : X cx M P0 Q pc' lv (.int (x >>> (y &&& 31)) :: st) P τ) : X cx M P0 Q pc lv (.int y :: .int x :: st) P τ := by
  subst hp
  exact fun p l e s m args below meth c H locs ls C hH hS hF hl => lv_ishr C.1 C.2.1 hd (k p l e s m args below meth c H locs ls C hH hS hF hl)
theorem X_iushr {cx : xC} {M : xY} {P0 : xP} {Q : Option Value → xP → xT → Prop} {pc pc' : Nat} {lv : List (Nat × Value)} {st : List Value} {P : xP} {τ : xT} {x y : Int32} (hd : decode M.2.1 pc = .ok (.iushr, 1)) (hp : pc + 1 = pc')  (k : X cx M P0 Q pc' lv (.int (x.toUInt32 >>> (y.toUInt32 &&& Int32.toUInt32 31)).toInt32 :: st) P τ) : X cx M P0 Q pc lv (.int y :: .int x :: st) P τ := by
  subst hp
  exact fun p l e s m args below meth c H locs ls C hH hS hF hl => lv_iushr C.1 C.2.1 hd rfl (k p l e s m args below meth c H locs ls C hH hS hF hl)
theorem X_idiv {cx : xC} {M : xY} {P0 : xP} {Q : Option Value → xP → xT → Prop} {pc pc' : Nat} {lv : List (Nat × Value)} {st : List Value} {P : xP} {τ : xT} {x y : Int32} (hd : decode M.2.1 pc = .ok (.idiv, 1)) (hp : pc + 1 = pc') (hne : ¬ y = 0) (k : X cx M P0 Q pc' lv (.int (x / y) :: st) P τ) : X cx M P0 Q pc lv (.int y :: .int x :: st) P τ := by
  subst hp
  exact fun p l e s m args below meth c H locs ls C hH hS hF hl => lv_idiv C.1 C.2.1 hd hne (k p l e s m args below meth c H locs ls C hH hS hF hl)
theorem X_irem {cx : xC} {M : xY} {P0 : xP} {Q : Option Value → xP → xT → Prop} {pc pc' : Nat} {lv : List (Nat × Value)} {st : List Value} {P : xP} {τ : xT} {x y : Int32} (hd : decode M.2.1 pc = .ok (.irem, 1)) (hp : pc + 1 = pc') (hne : ¬ y = 0) (k : X cx M P0 Q pc' lv (.int (x - x / y * y) :: st) P τ) : X cx M P0 Q pc lv (.int y :: .int x :: st) P τ := by
  subst hp
  exact fun p l e s m args below meth c H locs ls C hH hS hF hl => lv_irem C.1 C.2.1 hd hne (k p l e s m args below meth c H locs ls C hH hS hF hl)
theorem X_ineg {cx : xC} {M : xY} {P0 : xP} {Q : Option Value → xP → xT → Prop} {pc pc' : Nat} {lv : List (Nat × Value)} {st : List Value} {P : xP} {τ : xT} {x : Int32} (hd : decode M.2.1 pc = .ok (.ineg, 1)) (hp : pc + 1 = pc')  (k : X cx M P0 Q pc' lv (.int (-x) :: st) P τ) : X cx M P0 Q pc lv (.int x :: st) P τ := by
  subst hp
  exact fun p l e s m args below meth c H locs ls C hH hS hF hl => lv_ineg C.1 C.2.1 hd (k p l e s m args below meth c H locs ls C hH hS hF hl)
theorem X_ladd {cx : xC} {M : xY} {P0 : xP} {Q : Option Value → xP → xT → Prop} {pc pc' : Nat} {lv : List (Nat × Value)} {st : List Value} {P : xP} {τ : xT} {x y : Int64} (hd : decode M.2.1 pc = .ok (.ladd, 1)) (hp : pc + 1 = pc')  (k : X cx M P0 Q pc' lv (.long (x + y) :: st) P τ) : X cx M P0 Q pc lv (.long y :: .long x :: st) P τ := by
  subst hp
  exact fun p l e s m args below meth c H locs ls C hH hS hF hl => lv_ladd C.1 C.2.1 hd (k p l e s m args below meth c H locs ls C hH hS hF hl)
theorem X_lsub {cx : xC} {M : xY} {P0 : xP} {Q : Option Value → xP → xT → Prop} {pc pc' : Nat} {lv : List (Nat × Value)} {st : List Value} {P : xP} {τ : xT} {x y : Int64} (hd : decode M.2.1 pc = .ok (.lsub, 1)) (hp : pc + 1 = pc')  (k : X cx M P0 Q pc' lv (.long (x - y) :: st) P τ) : X cx M P0 Q pc lv (.long y :: .long x :: st) P τ := by
  subst hp
  exact fun p l e s m args below meth c H locs ls C hH hS hF hl => lv_lsub C.1 C.2.1 hd (k p l e s m args below meth c H locs ls C hH hS hF hl)
theorem X_lmul {cx : xC} {M : xY} {P0 : xP} {Q : Option Value → xP → xT → Prop} {pc pc' : Nat} {lv : List (Nat × Value)} {st : List Value} {P : xP} {τ : xT} {x y : Int64} (hd : decode M.2.1 pc = .ok (.lmul, 1)) (hp : pc + 1 = pc')  (k : X cx M P0 Q pc' lv (.long (x * y) :: st) P τ) : X cx M P0 Q pc lv (.long y :: .long x :: st) P τ := by
  subst hp
  exact fun p l e s m args below meth c H locs ls C hH hS hF hl => lv_lmul C.1 C.2.1 hd (k p l e s m args below meth c H locs ls C hH hS hF hl)
theorem X_land {cx : xC} {M : xY} {P0 : xP} {Q : Option Value → xP → xT → Prop} {pc pc' : Nat} {lv : List (Nat × Value)} {st : List Value} {P : xP} {τ : xT} {x y : Int64} (hd : decode M.2.1 pc = .ok (.land, 1)) (hp : pc + 1 = pc')  (k : X cx M P0 Q pc' lv (.long (x &&& y) :: st) P τ) : X cx M P0 Q pc lv (.long y :: .long x :: st) P τ := by
  subst hp
  exact fun p l e s m args below meth c H locs ls C hH hS hF hl => lv_land C.1 C.2.1 hd (k p l e s m args below meth c H locs ls C hH hS hF hl)
theorem X_lor {cx : xC} {M : xY} {P0 : xP} {Q : Option Value → xP → xT → Prop} {pc pc' : Nat} {lv : List (Nat × Value)} {st : List Value} {P : xP} {τ : xT} {x y : Int64} (hd : decode M.2.1 pc = .ok (.lor, 1)) (hp : pc + 1 = pc')  (k : X cx M P0 Q pc' lv (.long (x ||| y) :: st) P τ) : X cx M P0 Q pc lv (.long y :: .long x :: st) P τ := by
  subst hp
  exact fun p l e s m args below meth c H locs ls C hH hS hF hl => lv_lor C.1 C.2.1 hd (k p l e s m args below meth c H locs ls C hH hS hF hl)
theorem X_lneg {cx : xC} {M : xY} {P0 : xP} {Q : Option Value → xP → xT → Prop} {pc pc' : Nat} {lv : List (Nat × Value)} {st : List Value} {P : xP} {τ : xT} {x : Int64} (hd : decode M.2.1 pc = .ok (.lneg, 1)) (hp : pc + 1 = pc')  (k : X cx M P0 Q pc' lv (.long (-x) :: st) P τ) : X cx M P0 Q pc lv (.long x :: st) P τ := by
  subst hp
  exact fun p l e s m args below meth c H locs ls C hH hS hF hl => lv_lneg C.1 C.2.1 hd (k p l e s m args below meth c H locs ls C hH hS hF hl)
theorem X_ldiv {cx : xC} {M : xY} {P0 : xP} {Q : Option Value → xP → xT → Prop} {pc pc' : Nat} {lv : List (Nat × Value)} {st : List Value} {P : xP} {τ : xT} {x y : Int64} (hd : decode M.2.1 pc = .ok (.ldiv, 1)) (hp : pc + 1 = pc') (hne : ¬ y = 0) (k : X cx M P0 Q pc' lv (.long (x / y) :: st) P τ) : X cx M P0 Q pc lv (.long y :: .long x :: st) P τ := by
  subst hp
  exact fun p l e s m args below meth c H locs ls C hH hS hF hl => lv_ldiv C.1 C.2.1 hd hne (k p l e s m args below meth c H locs ls C hH hS hF hl)
theorem X_lrem {cx : xC} {M : xY} {P0 : xP} {Q : Option Value → xP → xT → Prop} {pc pc' : Nat} {lv : List (Nat × Value)} {st : List Value} {P : xP} {τ : xT} {x y : Int64} (hd : decode M.2.1 pc = .ok (.lrem, 1)) (hp : pc + 1 = pc') (hne : ¬ y = 0) (k : X cx M P0 Q pc' lv (.long (x - x / y * y) :: st) P τ) : X cx M P0 Q pc lv (.long y :: .long x :: st) P τ := by
  subst hp
  exact fun p l e s m args below meth c H locs ls C hH hS hF hl => lv_lrem C.1 C.2.1 hd hne (k p l e s m args below meth c H locs ls C hH hS hF hl)
theorem X_lushr {cx : xC} {M : xY} {P0 : xP} {Q : Option Value → xP → xT → Prop} {pc pc' : Nat} {lv : List (Nat × Value)} {st : List Value} {P : xP} {τ : xT} {x : Int64} {y : Int32} (hd : decode M.2.1 pc = .ok (.lushr, 1)) (hp : pc + 1 = pc')  (k : X cx M P0 Q pc' lv (.long (x.toUInt64 >>> (y.toInt64.toUInt64 &&& Int64.toUInt64 63)).toInt64 :: st) P τ) : X cx M P0 Q pc lv (.int y :: .long x :: st) P τ := by
  subst hp
  exact fun p l e s m args below meth c H locs ls C hH hS hF hl => lv_lushr C.1 C.2.1 hd rfl (k p l e s m args below meth c H locs ls C hH hS hF hl)
theorem X_lshl {cx : xC} {M : xY} {P0 : xP} {Q : Option Value → xP → xT → Prop} {pc pc' : Nat} {lv : List (Nat × Value)} {st : List Value} {P : xP} {τ : xT} {x : Int64} {y : Int32} (hd : decode M.2.1 pc = .ok (.lshl, 1)) (hp : pc + 1 = pc')  (k : X cx M P0 Q pc' lv (.long (x <<< (y.toInt64 &&& 63)) :: st) P τ) : X cx M P0 Q pc lv (.int y :: .long x :: st) P τ := by
  subst hp
  exact fun p l e s m args below meth c H locs ls C hH hS hF hl => lv_lshl C.1 C.2.1 hd rfl (k p l e s m args below meth c H locs ls C hH hS hF hl)
theorem X_lcmp {cx : xC} {M : xY} {P0 : xP} {Q : Option Value → xP → xT → Prop} {pc pc' : Nat} {lv : List (Nat × Value)} {st : List Value} {P : xP} {τ : xT} {x y : Int64} (hd : decode M.2.1 pc = .ok (.lcmp, 1)) (hp : pc + 1 = pc')  (k : X cx M P0 Q pc' lv (.int (lg_cmp x y) :: st) P τ) : X cx M P0 Q pc lv (.long y :: .long x :: st) P τ := by
  subst hp
  exact fun p l e s m args below meth c H locs ls C hH hS hF hl => W.lcmp C.1 C.2.1 hd (k p l e s m args below meth c H locs ls C hH hS hF hl)
theorem X_i2l {cx : xC} {M : xY} {P0 : xP} {Q : Option Value → xP → xT → Prop} {pc pc' : Nat} {lv : List (Nat × Value)} {st : List Value} {P : xP} {τ : xT} {x : Int32} (hd : decode M.2.1 pc = .ok (.i2l, 1)) (hp : pc + 1 = pc')  (k : X cx M P0 Q pc' lv (.long x.toInt64 :: st) P τ) : X cx M P0 Q pc lv (.int x :: st) P τ := by
  subst hp
  exact fun p l e s m args below meth c H locs ls C hH hS hF hl => lv_i2l C.1 C.2.1 hd rfl (k p l e s m args below meth c H locs ls C hH hS hF hl)
theorem X_l2i {cx : xC} {M : xY} {P0 : xP} {Q : Option Value → xP → xT → Prop} {pc pc' : Nat} {lv : List (Nat × Value)} {st : List Value} {P : xP} {τ : xT} {x : Int64} (hd : decode M.2.1 pc = .ok (.l2i, 1)) (hp : pc + 1 = pc')  (k : X cx M P0 Q pc' lv (.int x.toInt32 :: st) P τ) : X cx M P0 Q pc lv (.long x :: st) P τ := by
  subst hp
  exact fun p l e s m args below meth c H locs ls C hH hS hF hl => lv_l2i C.1 C.2.1 hd rfl (k p l e s m args below meth c H locs ls C hH hS hF hl)
theorem X_iconst {cx : xC} {M : xY} {P0 : xP} {Q : Option Value → xP → xT → Prop} {pc pc' : Nat} {lv : List (Nat × Value)} {st : List Value} {P : xP} {τ : xT} {n : Int} {v : Int32} (hd : decode M.2.1 pc = .ok (.iconst n, 1)) (hp : pc + 1 = pc') (hv : Int32.ofInt n = v) (k : X cx M P0 Q pc' lv (.int v :: st) P τ) : X cx M P0 Q pc lv (st) P τ := by
  subst hp
  exact fun p l e s m args below meth c H locs ls C hH hS hF hl => lv_iconst C.1 C.2.1 hd hv (k p l e s m args below meth c H locs ls C hH hS hF hl)
theorem X_bipush {cx : xC} {M : xY} {P0 : xP} {Q : Option Value → xP → xT → Prop} {pc pc' : Nat} {lv : List (Nat × Value)} {st : List Value} {P : xP} {τ : xT} {n : Int} {v : Int32} (hd : decode M.2.1 pc = .ok (.bipush n, 2)) (hp : pc + 2 = pc') (hv : (Int8.ofInt n).toInt32 = v) (k : X cx M P0 Q pc' lv (.int v :: st) P τ) : X cx M P0 Q pc lv (st) P τ := by
  subst hp
  exact fun p l e s m args below meth c H locs ls C hH hS hF hl => lv_bipush C.1 C.2.1 hd hv (k p l e s m args below meth c H locs ls C hH hS hF hl)
theorem X_sipush {cx : xC} {M : xY} {P0 : xP} {Q : Option Value → xP → xT → Prop} {pc pc' : Nat} {lv : List (Nat × Value)} {st : List Value} {P : xP} {τ : xT} {n : Int} {v : Int32} (hd : decode M.2.1 pc = .ok (.sipush n, 3)) (hp : pc + 3 = pc') (hv : (Int16.ofInt n).toInt32 = v) (k : X cx M P0 Q pc' lv (.int v :: st) P τ) : X cx M P0 Q pc lv (st) P τ := by
  subst hp
  exact fun p l e s m args below meth c H locs ls C hH hS hF hl => lv_sipush C.1 C.2.1 hd hv (k p l e s m args below meth c H locs ls C hH hS hF hl)
theorem X_lconst {cx : xC} {M : xY} {P0 : xP} {Q : Option Value → xP → xT → Prop} {pc pc' : Nat} {lv : List (Nat × Value)} {st : List Value} {P : xP} {τ : xT} {n : Fin 2} {v : Int64} (hd : decode M.2.1 pc = .ok (.lconst n, 1)) (hp : pc + 1 = pc') (hv : Int64.ofNat (n : Nat) = v) (k : X cx M P0 Q pc' lv (.long v :: st) P τ) : X cx M P0 Q pc lv (st) P τ := by
  subst hp
  exact fun p l e s m args below meth c H locs ls C hH hS hF hl => lv_lconst C.1 C.2.1 hd hv (k p l e s m args below meth c H locs ls C hH hS hF hl)
theorem X_ldcw {cx : xC} {M : xY} {P0 : xP} {Q : Option Value → xP → xT → Prop} {pc pc' : Nat} {lv : List (Nat × Value)} {st : List Value} {P : xP} {τ : xT} {idx : Nat} {v : Int32} (hd : decode M.2.1 pc = .ok (.ldc_w idx, 3)) (hp : pc + 3 = pc') (hw : Cond.constant M.1.cls idx v ∈ xtbl) (k : X cx M P0 Q pc' lv (.int v :: st) P τ) : X cx M P0 Q pc lv (st) P τ := by
  subst hp
  exact fun p l e s m args below meth c H locs ls C hH hS hF hl => lv_ldcw C.1 C.2.1 C.2.2.2.2.2.1 (C.2.2.2.2.2.2.2.1 _ (List.mem_cons_of_mem _ hw)) hd (k p l e s m args below meth c H locs ls C hH hS hF hl)
theorem X_ldc2 {cx : xC} {M : xY} {P0 : xP} {Q : Option Value → xP → xT → Prop} {pc pc' : Nat} {lv : List (Nat × Value)} {st : List Value} {P : xP} {τ : xT} {idx : Nat} {v : Int64} (hd : decode M.2.1 pc = .ok (.ldc2_w idx, 3)) (hp : pc + 3 = pc') (hw : Cond.constantLong M.1.cls idx v ∈ xtbl) (k : X cx M P0 Q pc' lv (.long v :: st) P τ) : X cx M P0 Q pc lv (st) P τ := by
  subst hp
  exact fun p l e s m args below meth c H locs ls C hH hS hF hl => lv_ldc2 C.1 C.2.1 C.2.2.2.2.2.1 (C.2.2.2.2.2.2.2.1 _ (List.mem_cons_of_mem _ hw)) hd (k p l e s m args below meth c H locs ls C hH hS hF hl)
theorem X_null {cx : xC} {M : xY} {P0 : xP} {Q : Option Value → xP → xT → Prop} {pc pc' : Nat} {lv : List (Nat × Value)} {st : List Value} {P : xP} {τ : xT}  (hd : decode M.2.1 pc = .ok (.aconst_null, 1)) (hp : pc + 1 = pc')  (k : X cx M P0 Q pc' lv (.null :: st) P τ) : X cx M P0 Q pc lv (st) P τ := by
  subst hp
  exact fun p l e s m args below meth c H locs ls C hH hS hF hl => lv_null C.1 C.2.1 hd (k p l e s m args below meth c H locs ls C hH hS hF hl)
theorem X_iload_n {cx : xC} {M : xY} {P0 : xP} {Q : Option Value → xP → xT → Prop} {pc pc' : Nat} {lv : List (Nat × Value)} {st : List Value} {P : xP} {τ : xT} {j : Fin 4} {i : Nat} {x : Int32} (hd : decode M.2.1 pc = .ok (.iload_n j, 1)) (hp : pc + 1 = pc') (hi : (j : Nat) = i) (hx : xlk lv i = some (.int x)) (k : X cx M P0 Q pc' lv (.int x :: st) P τ) : X cx M P0 Q pc lv (st) P τ := by
  subst hp
  exact fun p l e s m args below meth c H locs ls C hH hS hF hl => lv_iload_n C.1 C.2.1 hd hi (xlk_at hl hx) (k p l e s m args below meth c H locs ls C hH hS hF hl)
theorem X_iload {cx : xC} {M : xY} {P0 : xP} {Q : Option Value → xP → xT → Prop} {pc pc' : Nat} {lv : List (Nat × Value)} {st : List Value} {P : xP} {τ : xT} {i : Nat} {x : Int32} (hd : decode M.2.1 pc = .ok (.iload i, 2)) (hp : pc + 2 = pc') (hx : xlk lv i = some (.int x)) (k : X cx M P0 Q pc' lv (.int x :: st) P τ) : X cx M P0 Q pc lv (st) P τ := by
  subst hp
  exact fun p l e s m args below meth c H locs ls C hH hS hF hl => lv_iload C.1 C.2.1 hd (xlk_at hl hx) (k p l e s m args below meth c H locs ls C hH hS hF hl)
theorem X_lload_n {cx : xC} {M : xY} {P0 : xP} {Q : Option Value → xP → xT → Prop} {pc pc' : Nat} {lv : List (Nat × Value)} {st : List Value} {P : xP} {τ : xT} {j : Fin 4} {i : Nat} {x : Int64} (hd : decode M.2.1 pc = .ok (.lload_n j, 1)) (hp : pc + 1 = pc') (hi : (j : Nat) = i) (hx : xlk lv i = some (.long x)) (k : X cx M P0 Q pc' lv (.long x :: st) P τ) : X cx M P0 Q pc lv (st) P τ := by
  subst hp
  exact fun p l e s m args below meth c H locs ls C hH hS hF hl => lv_lload_n C.1 C.2.1 hd hi (xlk_at hl hx) (k p l e s m args below meth c H locs ls C hH hS hF hl)
theorem X_lload {cx : xC} {M : xY} {P0 : xP} {Q : Option Value → xP → xT → Prop} {pc pc' : Nat} {lv : List (Nat × Value)} {st : List Value} {P : xP} {τ : xT} {i : Nat} {x : Int64} (hd : decode M.2.1 pc = .ok (.lload i, 2)) (hp : pc + 2 = pc') (hx : xlk lv i = some (.long x)) (k : X cx M P0 Q pc' lv (.long x :: st) P τ) : X cx M P0 Q pc lv (st) P τ := by
  subst hp
  exact fun p l e s m args below meth c H locs ls C hH hS hF hl => lv_lload C.1 C.2.1 hd (xlk_at hl hx) (k p l e s m args below meth c H locs ls C hH hS hF hl)
theorem X_aload_n {cx : xC} {M : xY} {P0 : xP} {Q : Option Value → xP → xT → Prop} {pc pc' : Nat} {lv : List (Nat × Value)} {st : List Value} {P : xP} {τ : xT} {j : Fin 4} {i : Nat} {x : Nat} (hd : decode M.2.1 pc = .ok (.aload_n j, 1)) (hp : pc + 1 = pc') (hi : (j : Nat) = i) (hx : xlk lv i = some (.ref x)) (k : X cx M P0 Q pc' lv (.ref x :: st) P τ) : X cx M P0 Q pc lv (st) P τ := by
  subst hp
  exact fun p l e s m args below meth c H locs ls C hH hS hF hl => lv_aload_n C.1 C.2.1 hd hi (xlk_at hl hx) (k p l e s m args below meth c H locs ls C hH hS hF hl)
theorem X_aload {cx : xC} {M : xY} {P0 : xP} {Q : Option Value → xP → xT → Prop} {pc pc' : Nat} {lv : List (Nat × Value)} {st : List Value} {P : xP} {τ : xT} {i : Nat} {x : Nat} (hd : decode M.2.1 pc = .ok (.aload i, 2)) (hp : pc + 2 = pc') (hx : xlk lv i = some (.ref x)) (k : X cx M P0 Q pc' lv (.ref x :: st) P τ) : X cx M P0 Q pc lv (st) P τ := by
  subst hp
  exact fun p l e s m args below meth c H locs ls C hH hS hF hl => lv_aload C.1 C.2.1 hd (xlk_at hl hx) (k p l e s m args below meth c H locs ls C hH hS hF hl)
theorem X_istore_n {cx : xC} {M : xY} {P0 : xP} {Q : Option Value → xP → xT → Prop} {pc pc' : Nat} {lv lv' : List (Nat × Value)} {st : List Value} {P : xP} {τ : xT} {j : Fin 4} {i : Nat} {x : Int32} (hd : decode M.2.1 pc = .ok (.istore_n j, 1)) (hp : pc + 1 = pc') (hi : (j : Nat) = i) (hn : i < M.2.2.1) (hlv : xst1 lv i (.int x) = lv') (k : X cx M P0 Q pc' lv' st P τ) : X cx M P0 Q pc lv (.int x :: st) P τ := by
  subst hp; subst hlv
  exact fun p l e s m args below meth c H locs ls C hH hS hF hl => lv_istore_n C.1 C.2.1 hd hi hl hn (xst1_up cx lv i (.int x)) (fun ls' hl' => k p l e s m args below meth c H locs ls' C hH hS hF hl')
theorem X_istore {cx : xC} {M : xY} {P0 : xP} {Q : Option Value → xP → xT → Prop} {pc pc' : Nat} {lv lv' : List (Nat × Value)} {st : List Value} {P : xP} {τ : xT}  {i : Nat} {x : Int32} (hd : decode M.2.1 pc = .ok (.istore i, 2)) (hp : pc + 2 = pc')  (hn : i < M.2.2.1) (hlv : xst1 lv i (.int x) = lv') (k : X cx M P0 Q pc' lv' st P τ) : X cx M P0 Q pc lv (.int x :: st) P τ := by
  subst hp; subst hlv
  exact fun p l e s m args below meth c H locs ls C hH hS hF hl => lv_istore C.1 C.2.1 hd  hl hn (xst1_up cx lv i (.int x)) (fun ls' hl' => k p l e s m args below meth c H locs ls' C hH hS hF hl')
theorem X_lstore_n {cx : xC} {M : xY} {P0 : xP} {Q : Option Value → xP → xT → Prop} {pc pc' : Nat} {lv lv' : List (Nat × Value)} {st : List Value} {P : xP} {τ : xT} {j : Fin 4} {i : Nat} {x : Int64} (hd : decode M.2.1 pc = .ok (.lstore_n j, 1)) (hp : pc + 1 = pc') (hi : (j : Nat) = i) (hn : i + 1 < M.2.2.1) (hlv : xst2 lv i (.long x) = lv') (k : X cx M P0 Q pc' lv' st P τ) : X cx M P0 Q pc lv (.long x :: st) P τ := by
  subst hp; subst hlv
  exact fun p l e s m args below meth c H locs ls C hH hS hF hl => lv_lstore_n C.1 C.2.1 hd hi hl hn (xst2_up cx lv i (.long x)) (fun ls' hl' => k p l e s m args below meth c H locs ls' C hH hS hF hl')
theorem X_lstore {cx : xC} {M : xY} {P0 : xP} {Q : Option Value → xP → xT → Prop} {pc pc' : Nat} {lv lv' : List (Nat × Value)} {st : List Value} {P : xP} {τ : xT}  {i : Nat} {x : Int64} (hd : decode M.2.1 pc = .ok (.lstore i, 2)) (hp : pc + 2 = pc')  (hn : i + 1 < M.2.2.1) (hlv : xst2 lv i (.long x) = lv') (k : X cx M P0 Q pc' lv' st P τ) : X cx M P0 Q pc lv (.long x :: st) P τ := by
  subst hp; subst hlv
  exact fun p l e s m args below meth c H locs ls C hH hS hF hl => lv_lstore C.1 C.2.1 hd  hl hn (xst2_up cx lv i (.long x)) (fun ls' hl' => k p l e s m args below meth c H locs ls' C hH hS hF hl')
theorem X_astore_n {cx : xC} {M : xY} {P0 : xP} {Q : Option Value → xP → xT → Prop} {pc pc' : Nat} {lv lv' : List (Nat × Value)} {st : List Value} {P : xP} {τ : xT} {j : Fin 4} {i : Nat} {x : Nat} (hd : decode M.2.1 pc = .ok (.astore_n j, 1)) (hp : pc + 1 = pc') (hi : (j : Nat) = i) (hn : i < M.2.2.1) (hlv : xst1 lv i (.ref x) = lv') (k : X cx M P0 Q pc' lv' st P τ) : X cx M P0 Q pc lv (.ref x :: st) P τ := by
  subst hp; subst hlv
  exact fun p l e s m args below meth c H locs ls C hH hS hF hl => lv_astore_n C.1 C.2.1 hd hi hl hn (xst1_up cx lv i (.ref x)) (fun ls' hl' => k p l e s m args below meth c H locs ls' C hH hS hF hl')
theorem X_astore {cx : xC} {M : xY} {P0 : xP} {Q : Option Value → xP → xT → Prop} {pc pc' : Nat} {lv lv' : List (Nat × Value)} {st : List Value} {P : xP} {τ : xT}  {i : Nat} {x : Nat} (hd : decode M.2.1 pc = .ok (.astore i, 2)) (hp : pc + 2 = pc')  (hn : i < M.2.2.1) (hlv : xst1 lv i (.ref x) = lv') (k : X cx M P0 Q pc' lv' st P τ) : X cx M P0 Q pc lv (.ref x :: st) P τ := by
  subst hp; subst hlv
  exact fun p l e s m args below meth c H locs ls C hH hS hF hl => lv_astore C.1 C.2.1 hd  hl hn (xst1_up cx lv i (.ref x)) (fun ls' hl' => k p l e s m args below meth c H locs ls' C hH hS hF hl')
theorem X_iinc {cx : xC} {M : xY} {P0 : xP} {Q : Option Value → xP → xT → Prop} {pc pc' : Nat} {lv : List (Nat × Value)} {st : List Value} {P : xP} {τ : xT} {lv' : List (Nat × Value)} {i : Nat} {n : Int} {x v : Int32} (hd : decode M.2.1 pc = .ok (.iinc i n, 3)) (hp : pc + 3 = pc') (hx : xlk lv i = some (.int x)) (hv : x + Int32.ofInt n = v) (hn : i < M.2.2.1) (hlv : xst1 lv i (.int v) = lv') (k : X cx M P0 Q pc' lv' st P τ) : X cx M P0 Q pc lv st P τ := by
  subst hp; subst hlv
  intro p l e s m args below meth c H locs ls C hH hS hF hl
  obtain ⟨j, hj⟩ := List.getElem?_of_mem (List.mem_map.mpr ⟨(i, .int x), xlk_mem hx, rfl⟩ : (i, xup cx (.int x)) ∈ lv.map (xup2 cx))
  exact lv_iinc C.1 C.2.1 hd hl hj hv hn (xst1_up cx lv i (.int v)) (fun ls' hl' => k p l e s m args below meth c H locs ls' C hH hS hF hl')
theorem X_dup {cx : xC} {M : xY} {P0 : xP} {Q : Option Value → xP → xT → Prop} {pc pc' : Nat} {lv : List (Nat × Value)} {st : List Value} {P : xP} {τ : xT} {v : Value} (hd : decode M.2.1 pc = .ok (.dup, 1)) (hp : pc + 1 = pc') (hc : v.category = 1) (k : X cx M P0 Q pc' lv (v :: v :: st) P τ) : X cx M P0 Q pc lv (v :: st) P τ := by
  subst hp
  exact fun p l e s m args below meth c H locs ls C hH hS hF hl => lv_dup C.1 C.2.1 hd ((xup_cat cx v).trans hc) (k p l e s m args below meth c H locs ls C hH hS hF hl)
theorem X_dup2 {cx : xC} {M : xY} {P0 : xP} {Q : Option Value → xP → xT → Prop} {pc pc' : Nat} {lv : List (Nat × Value)} {st : List Value} {P : xP} {τ : xT} {v w : Value} (hd : decode M.2.1 pc = .ok (.dup2, 1)) (hp : pc + 1 = pc') (hc : v.category = 1) (hc2 : w.category = 1) (k : X cx M P0 Q pc' lv (v :: w :: v :: w :: st) P τ) : X cx M P0 Q pc lv (v :: w :: st) P τ := by
  subst hp
  exact fun p l e s m args below meth c H locs ls C hH hS hF hl => lv_dup2_11 C.1 C.2.1 hd ((xup_cat cx v).trans hc) ((xup_cat cx w).trans hc2) (k p l e s m args below meth c H locs ls C hH hS hF hl)
theorem X_pop {cx : xC} {M : xY} {P0 : xP} {Q : Option Value → xP → xT → Prop} {pc pc' : Nat} {lv : List (Nat × Value)} {st : List Value} {P : xP} {τ : xT} {v : Value} (hd : decode M.2.1 pc = .ok (.pop, 1)) (hp : pc + 1 = pc') (hc : v.category = 1) (k : X cx M P0 Q pc' lv (st) P τ) : X cx M P0 Q pc lv (v :: st) P τ := by
  subst hp
  exact fun p l e s m args below meth c H locs ls C hH hS hF hl => lv_pop C.1 C.2.1 hd ((xup_cat cx v).trans hc) (k p l e s m args below meth c H locs ls C hH hS hF hl)
-- BRANCHES
theorem X_if_eq {cx : xC} {M : xY} {P0 : xP} {Q : Option Value → xP → xT → Prop} {pc pc' tgt : Nat} {lv : List (Nat × Value)} {st : List Value} {P : xP} {τ : xT} {off : Int} {x : Int32} (hd : decode M.2.1 pc = .ok (.ifCond .eq off, 3)) (hp : pc + 3 = pc') (ht : (pc : Int) + off = (tgt : Int)) (kt : x = 0 → X cx M P0 Q tgt lv st P τ) (kf : ¬ x = 0 → X cx M P0 Q pc' lv st P τ) : X cx M P0 Q pc lv (.int x :: st) P τ := by
  subst hp
  exact fun p l e s m args below meth c H locs ls C hH hS hF hl => lv_if_eq C.1 C.2.1 hd ht (fun h => kt h p l e s m args below meth c H locs ls C hH hS hF hl) (fun h => kf h p l e s m args below meth c H locs ls C hH hS hF hl)
theorem X_icmp_eq {cx : xC} {M : xY} {P0 : xP} {Q : Option Value → xP → xT → Prop} {pc pc' tgt : Nat} {lv : List (Nat × Value)} {st : List Value} {P : xP} {τ : xT} {off : Int} {x y : Int32} (hd : decode M.2.1 pc = .ok (.if_icmp .eq off, 3)) (hp : pc + 3 = pc') (ht : (pc : Int) + off = (tgt : Int)) (kt : x = y → X cx M P0 Q tgt lv st P τ) (kf : ¬ x = y → X cx M P0 Q pc' lv st P τ) : X cx M P0 Q pc lv (.int y :: .int x :: st) P τ := by
  subst hp
  exact fun p l e s m args below meth c H locs ls C hH hS hF hl => lv_icmp_eq C.1 C.2.1 hd ht (fun h => kt h p l e s m args below meth c H locs ls C hH hS hF hl) (fun h => kf h p l e s m args below meth c H locs ls C hH hS hF hl)
theorem X_if_ne {cx : xC} {M : xY} {P0 : xP} {Q : Option Value → xP → xT → Prop} {pc pc' tgt : Nat} {lv : List (Nat × Value)} {st : List Value} {P : xP} {τ : xT} {off : Int} {x : Int32} (hd : decode M.2.1 pc = .ok (.ifCond .ne off, 3)) (hp : pc + 3 = pc') (ht : (pc : Int) + off = (tgt : Int)) (kt : ¬ x = 0 → X cx M P0 Q tgt lv st P τ) (kf : x = 0 → X cx M P0 Q pc' lv st P τ) : X cx M P0 Q pc lv (.int x :: st) P τ := by
  subst hp
  exact fun p l e s m args below meth c H locs ls C hH hS hF hl => lv_if_ne C.1 C.2.1 hd ht (fun h => kt h p l e s m args below meth c H locs ls C hH hS hF hl) (fun h => kf h p l e s m args below meth c H locs ls C hH hS hF hl)
theorem X_icmp_ne {cx : xC} {M : xY} {P0 : xP} {Q : Option Value → xP → xT → Prop} {pc pc' tgt : Nat} {lv : List (Nat × Value)} {st : List Value} {P : xP} {τ : xT} {off : Int} {x y : Int32} (hd : decode M.2.1 pc = .ok (.if_icmp .ne off, 3)) (hp : pc + 3 = pc') (ht : (pc : Int) + off = (tgt : Int)) (kt : ¬ x = y → X cx M P0 Q tgt lv st P τ) (kf : x = y → X cx M P0 Q pc' lv st P τ) : X cx M P0 Q pc lv (.int y :: .int x :: st) P τ := by
  subst hp
  exact fun p l e s m args below meth c H locs ls C hH hS hF hl => lv_icmp_ne C.1 C.2.1 hd ht (fun h => kt h p l e s m args below meth c H locs ls C hH hS hF hl) (fun h => kf h p l e s m args below meth c H locs ls C hH hS hF hl)
theorem X_if_lt {cx : xC} {M : xY} {P0 : xP} {Q : Option Value → xP → xT → Prop} {pc pc' tgt : Nat} {lv : List (Nat × Value)} {st : List Value} {P : xP} {τ : xT} {off : Int} {x : Int32} (hd : decode M.2.1 pc = .ok (.ifCond .lt off, 3)) (hp : pc + 3 = pc') (ht : (pc : Int) + off = (tgt : Int)) (kt : x < 0 → X cx M P0 Q tgt lv st P τ) (kf : ¬ x < 0 → X cx M P0 Q pc' lv st P τ) : X cx M P0 Q pc lv (.int x :: st) P τ := by
  subst hp
  exact fun p l e s m args below meth c H locs ls C hH hS hF hl => lv_if_lt C.1 C.2.1 hd ht (fun h => kt h p l e s m args below meth c H locs ls C hH hS hF hl) (fun h => kf h p l e s m args below meth c H locs ls C hH hS hF hl)
theorem X_icmp_lt {cx : xC} {M : xY} {P0 : xP} {Q : Option Value → xP → xT → Prop} {pc pc' tgt : Nat} {lv : List (Nat × Value)} {st : List Value} {P : xP} {τ : xT} {off : Int} {x y : Int32} (hd : decode M.2.1 pc = .ok (.if_icmp .lt off, 3)) (hp : pc + 3 = pc') (ht : (pc : Int) + off = (tgt : Int)) (kt : x < y → X cx M P0 Q tgt lv st P τ) (kf : ¬ x < y → X cx M P0 Q pc' lv st P τ) : X cx M P0 Q pc lv (.int y :: .int x :: st) P τ := by
  subst hp
  exact fun p l e s m args below meth c H locs ls C hH hS hF hl => lv_icmp_lt C.1 C.2.1 hd ht (fun h => kt h p l e s m args below meth c H locs ls C hH hS hF hl) (fun h => kf h p l e s m args below meth c H locs ls C hH hS hF hl)
theorem X_if_ge {cx : xC} {M : xY} {P0 : xP} {Q : Option Value → xP → xT → Prop} {pc pc' tgt : Nat} {lv : List (Nat × Value)} {st : List Value} {P : xP} {τ : xT} {off : Int} {x : Int32} (hd : decode M.2.1 pc = .ok (.ifCond .ge off, 3)) (hp : pc + 3 = pc') (ht : (pc : Int) + off = (tgt : Int)) (kt : 0 ≤ x → X cx M P0 Q tgt lv st P τ) (kf : ¬ 0 ≤ x → X cx M P0 Q pc' lv st P τ) : X cx M P0 Q pc lv (.int x :: st) P τ := by
  subst hp
  exact fun p l e s m args below meth c H locs ls C hH hS hF hl => lv_if_ge C.1 C.2.1 hd ht (fun h => kt h p l e s m args below meth c H locs ls C hH hS hF hl) (fun h => kf h p l e s m args below meth c H locs ls C hH hS hF hl)
theorem X_icmp_ge {cx : xC} {M : xY} {P0 : xP} {Q : Option Value → xP → xT → Prop} {pc pc' tgt : Nat} {lv : List (Nat × Value)} {st : List Value} {P : xP} {τ : xT} {off : Int} {x y : Int32} (hd : decode M.2.1 pc = .ok (.if_icmp .ge off, 3)) (hp : pc + 3 = pc') (ht : (pc : Int) + off = (tgt : Int)) (kt : y ≤ x → X cx M P0 Q tgt lv st P τ) (kf : ¬ y ≤ x → X cx M P0 Q pc' lv st P τ) : X cx M P0 Q pc lv (.int y :: .int x :: st) P τ := by
  subst hp
  exact fun p l e s m args below meth c H locs ls C hH hS hF hl => lv_icmp_ge C.1 C.2.1 hd ht (fun h => kt h p l e s m args below meth c H locs ls C hH hS hF hl) (fun h => kf h p l e s m args below meth c H locs ls C hH hS hF hl)
theorem X_if_gt {cx : xC} {M : xY} {P0 : xP} {Q : Option Value → xP → xT → Prop} {pc pc' tgt : Nat} {lv : List (Nat × Value)} {st : List Value} {P : xP} {τ : xT} {off : Int} {x : Int32} (hd : decode M.2.1 pc = .ok (.ifCond .gt off, 3)) (hp : pc + 3 = pc') (ht : (pc : Int) + off = (tgt : Int)) (kt : 0 < x → X cx M P0 Q tgt lv st P τ) (kf : ¬ 0 < x → X cx M P0 Q pc' lv st P τ) : X cx M P0 Q pc lv (.int x :: st) P τ := by
  subst hp
  exact fun p l e s m args below meth c H locs ls C hH hS hF hl => lv_if_gt C.1 C.2.1 hd ht (fun h => kt h p l e s m args below meth c H locs ls C hH hS hF hl) (fun h => kf h p l e s m args below meth c H locs ls C hH hS hF hl)
theorem X_icmp_gt {cx : xC} {M : xY} {P0 : xP} {Q : Option Value → xP → xT → Prop} {pc pc' tgt : Nat} {lv : List (Nat × Value)} {st : List Value} {P : xP} {τ : xT} {off : Int} {x y : Int32} (hd : decode M.2.1 pc = .ok (.if_icmp .gt off, 3)) (hp : pc + 3 = pc') (ht : (pc : Int) + off = (tgt : Int)) (kt : y < x → X cx M P0 Q tgt lv st P τ) (kf : ¬ y < x → X cx M P0 Q pc' lv st P τ) : X cx M P0 Q pc lv (.int y :: .int x :: st) P τ := by
  subst hp
  exact fun p l e s m args below meth c H locs ls C hH hS hF hl => lv_icmp_gt C.1 C.2.1 hd ht (fun h => kt h p l e s m args below meth c H locs ls C hH hS hF hl) (fun h => kf h p l e s m args below meth c H locs ls C hH hS hF hl)
theorem X_if_le {cx : xC} {M : xY} {P0 : xP} {Q : Option Value → xP → xT → Prop} {pc pc' tgt : Nat} {lv : List (Nat × Value)} {st : List Value} {P : xP} {τ : xT} {off : Int} {x : Int32} (hd : decode M.2.1 pc = .ok (.ifCond .le off, 3)) (hp : pc + 3 = pc') (ht : (pc : Int) + off = (tgt : Int)) (kt : x ≤ 0 → X cx M P0 Q tgt lv st P τ) (kf : ¬ x ≤ 0 → X cx M P0 Q pc' lv st P τ) : X cx M P0 Q pc lv (.int x :: st) P τ := by
  subst hp
  exact fun p l e s m args below meth c H locs ls C hH hS hF hl => lv_if_le C.1 C.2.1 hd ht (fun h => kt h p l e s m args below meth c H locs ls C hH hS hF hl) (fun h => kf h p l e s m args below meth c H locs ls C hH hS hF hl)
theorem X_icmp_le {cx : xC} {M : xY} {P0 : xP} {Q : Option Value → xP → xT → Prop} {pc pc' tgt : Nat} {lv : List (Nat × Value)} {st : List Value} {P : xP} {τ : xT} {off : Int} {x y : Int32} (hd : decode M.2.1 pc = .ok (.if_icmp .le off, 3)) (hp : pc + 3 = pc') (ht : (pc : Int) + off = (tgt : Int)) (kt : x ≤ y → X cx M P0 Q tgt lv st P τ) (kf : ¬ x ≤ y → X cx M P0 Q pc' lv st P τ) : X cx M P0 Q pc lv (.int y :: .int x :: st) P τ := by
  subst hp
  exact fun p l e s m args below meth c H locs ls C hH hS hF hl => lv_icmp_le C.1 C.2.1 hd ht (fun h => kt h p l e s m args below meth c H locs ls C hH hS hF hl) (fun h => kf h p l e s m args below meth c H locs ls C hH hS hF hl)
theorem X_goto {cx : xC} {M : xY} {P0 : xP} {Q : Option Value → xP → xT → Prop} {pc pc' tgt : Nat} {lv : List (Nat × Value)} {st : List Value} {P : xP} {τ : xT} {off : Int} (hd : decode M.2.1 pc = .ok (.goto off, 3)) (ht : (pc : Int) + off = (tgt : Int)) (k : X cx M P0 Q tgt lv st P τ) : X cx M P0 Q pc lv st P τ := fun p l e s m args below meth c H locs ls C hH hS hF hl => lv_goto C.1 C.2.1 hd ht (k p l e s m args below meth c H locs ls C hH hS hF hl)
theorem X_ifnull {cx : xC} {M : xY} {P0 : xP} {Q : Option Value → xP → xT → Prop} {pc pc' : Nat} {lv : List (Nat × Value)} {st : List Value} {P : xP} {τ : xT} {off : Int} {a : Nat} (hd : decode M.2.1 pc = .ok (.ifnull off, 3)) (hp : pc + 3 = pc') (k : X cx M P0 Q pc' lv st P τ) : X cx M P0 Q pc lv (.ref a :: st) P τ := by
  subst hp
  exact fun p l e s m args below meth c H locs ls C hH hS hF hl => lv_ifnull C.1 C.2.1 hd (k p l e s m args below meth c H locs ls C hH hS hF hl)
theorem X_ifnonnull {cx : xC} {M : xY} {P0 : xP} {Q : Option Value → xP → xT → Prop} {pc pc' tgt : Nat} {lv : List (Nat × Value)} {st : List Value} {P : xP} {τ : xT} {off : Int} {a : Nat} (hd : decode M.2.1 pc = .ok (.ifnonnull off, 3)) (ht : (pc : Int) + off = (tgt : Int)) (k : X cx M P0 Q tgt lv st P τ) : X cx M P0 Q pc lv (.ref a :: st) P τ := fun p l e s m args below meth c H locs ls C hH hS hF hl => lv_ifnonnull C.1 C.2.1 hd ht (k p l e s m args below meth c H locs ls C hH hS hF hl)
theorem X_tabIn {cx : xC} {M : xY} {P0 : xP} {Q : Option Value → xP → xT → Prop} {pc pc' tgt : Nat} {lv : List (Nat × Value)} {st : List Value} {P : xP} {τ : xT} {dflt lo hi : Int} {offs : Array Int} {len : Nat} {x : Int32} {off : Int} (hd : decode M.2.1 pc = .ok (.tableswitch dflt lo hi offs, len)) (h1 : ¬ x.toInt < lo) (h2 : ¬ hi < x.toInt) (ho : offs[(x.toInt - lo).toNat]? = some off) (ht : (pc : Int) + off = (tgt : Int)) (k : X cx M P0 Q tgt lv st P τ) : X cx M P0 Q pc lv (.int x :: st) P τ := fun p l e s m args below meth c H locs ls C hH hS hF hl => lv_tableIn C.1 C.2.1 hd h1 h2 ho ht (k p l e s m args below meth c H locs ls C hH hS hF hl)
theorem X_tabOut {cx : xC} {M : xY} {P0 : xP} {Q : Option Value → xP → xT → Prop} {pc pc' tgt : Nat} {lv : List (Nat × Value)} {st : List Value} {P : xP} {τ : xT} {dflt lo hi : Int} {offs : Array Int} {len : Nat} {x : Int32} (hd : decode M.2.1 pc = .ok (.tableswitch dflt lo hi offs, len)) (h : x.toInt < lo ∨ hi < x.toInt) (ht : (pc : Int) + dflt = (tgt : Int)) (k : X cx M P0 Q tgt lv st P τ) : X cx M P0 Q pc lv (.int x :: st) P τ := fun p l e s m args below meth c H locs ls C hH hS hF hl => lv_tableOut C.1 C.2.1 hd h ht (k p l e s m args below meth c H locs ls C hH hS hF hl)
end
section
/-! ===== the judgement's rows over the heap, its ends, its calls ===== -/
def xsi (τ : xT) (a k : Nat) (v : Int32) : xT := (fun a' => if a' = a then upd (τ.1 a) k v else τ.1 a', τ.2)
def xsl (τ : xT) (a k : Nat) (v : Int64) : xT := (τ.1, fun a' => if a' = a then vp_updL (τ.2.1 a) k v else τ.2.1 a', τ.2.2)
def xsr (τ : xT) (a k : Nat) (v : Nat) : xT := (τ.1, τ.2.1, fun a' j => if a' = a ∧ j = k then v else τ.2.2 a' j)
/-- an object's place, an array's place -/
def xO (P : xP) (a ci : Nat) (fks : List Nat) : Prop := (∃ a', a = a' + 1 ∧ a' < P.1) ∧ P.2.2 a = .inr (ci, fks)
def xR (P : xP) (a kd n : Nat) : Prop := (∃ a', a = a' + 1 ∧ a' < P.1) ∧ P.2.2 a = .inl (kd, n) ∧ n < 100000
/-- an array of ints, perhaps the static table -/
def xI (P : xP) (a n : Nat) : Prop := xR P a 0 n ∨ (a = 0 ∧ n = 4)
def xCl (ci : Nat) (C : String) (T : u_T) (N : Nat) (ty : Nat → FieldType) : Prop :=
  vwCl[ci]? = some (C, T, N) ∧ (∀ w ∈ u_ws C T N, w ∈ xtbl) ∧ (∀ k, k < N → parseFieldDescriptor (T k).2.2.1 = some (ty k)) ∧ (∀ a, a < N → ∀ b, b < N → a ≠ b → (T a).2.1 ≠ (T b).2.1) ∧ (∀ k, k < N → (T k).1 = C)
def xGF (M : xY) (idx ci k : Nat) : Prop := ∃ (C : String) (T : u_T) (N : Nat) (ty : Nat → FieldType), xCl ci C T N ty ∧ k < N ∧ Cond.fieldLink M.1.cls idx C (T k).2.1 (T k).2.2.1 ∈ xtbl
def xPF (M : xY) (idx ci k : Nat) (t : FieldType) : Prop := ∃ (C : String) (T : u_T) (N : Nat) (ty : Nat → FieldType), xCl ci C T N ty ∧ k < N ∧ Cond.fieldLink M.1.cls idx C (T k).2.1 (T k).2.2.1 ∈ xtbl ∧ (T k).2.2.2 = false ∧ ty k = t
def xPFF (M : xY) (idx ci k : Nat) (t : FieldType) : Prop := ∃ (C : String) (T : u_T) (N : Nat) (ty : Nat → FieldType), xCl ci C T N ty ∧ k < N ∧ Cond.fieldLink M.1.cls idx C (T k).2.1 (T k).2.2.1 ∈ xtbl ∧ (T k).2.2.2 = true ∧ ty k = t ∧ C = M.1.cls ∧ M.1.name = "<init>"
section XR
variable {cx : xC} {M : xY} {P0 : xP} {Q : Option Value → xP → xT → Prop} {pc pc' : Nat} {lv : List (Nat × Value)} {st : List Value} {P : xP} {τ : xT}
theorem xtbl_hts {s : State} {args : Array Value} (h : ∀ w ∈ xyw M, w.before args s = true) : ∀ w ∈ xtbl, w.before args s = true := fun w hw => h w (List.mem_cons_of_mem _ hw)
theorem xcell_O {ly : xLy} {a ci : Nat} {fks : List Nat} (h : ly a = .inr (ci, fks)) : xcell cx ly τ a = .inr (ci, (List.range fks.length).map (fun k => xup cx (xfv τ a k (fks.getD k 0)))) := by
  unfold xcell; simp only [h]
theorem xcell_I {ly : xLy} {a n : Nat} (h : ly a = .inl (0, n)) : xcell cx ly τ a = .inl (cx.2.2.2.2.1, n, .inl (τ.1 a)) := by unfold xcell; simp only [h]
theorem xcell_J {ly : xLy} {a n : Nat} (h : ly a = .inl (1, n)) : xcell cx ly τ a = .inl (cx.2.2.2.2.2.1, n, .inr (.inl (τ.2.1 a))) := by unfold xcell; simp only [h]
theorem xcell_Z {ly : xLy} {a n : Nat} (h : ly a = .inl (2, n)) : xcell cx ly τ a = .inl (cx.2.2.2.2.2.2.1, n, .inl (τ.1 a)) := by unfold xcell; simp only [h]
theorem xcell_S {ly : xLy} {a n : Nat} (h : ly a = .inl (3, n)) : xcell cx ly τ a = .inl (cx.2.2.2.2.2.2.2, n, .inr (.inr (.inr (.inr (fun j => if τ.2.2 a j = 0 then none else some (xad cx (τ.2.2 a j))))))) := by unfold xcell; simp only [h]
theorem xcell_congr {ly ly' : xLy} {τ τ' : xT} {a : Nat} (hl : ly' a = ly a) (h1 : τ'.1 a = τ.1 a) (h2 : τ'.2.1 a = τ.2.1 a) (h3 : τ'.2.2 a = τ.2.2 a) : xcell cx ly' τ' a = xcell cx ly τ a := by
  unfold xcell xfv
  rw [hl, h1, h2, h3]
theorem xfs_get {a k kd : Nat} {fks : List Nat} (h : fks[k]? = some kd) : ((List.range fks.length).map (fun k => xup cx (xfv τ a k (fks.getD k 0))))[k]? = some (xup cx (xfv τ a k kd)) := by
  have hk := (List.getElem?_eq_some_iff.mp h).1
  have hg : fks[k] = kd := (List.getElem?_eq_some_iff.mp h).2
  simp [hk, hg]
theorem X_get {a idx ci k kd : Nat} {fks : List Nat} {v : Value} (hd : decode M.2.1 pc = .ok (.getfield idx, 3)) (hp : pc + 3 = pc') (hg : xGF M idx ci k) (ho : xO P a ci fks) (hk : fks[k]? = some kd) (hv : xfv τ a k kd = v) (kk : X cx M P0 Q pc' lv (v :: st) P τ) : X cx M P0 Q pc lv (.ref a :: st) P τ := by
  subst hp; subst hv
  intro p l e s m args below meth c H locs ls C hH hS hF hl
  obtain ⟨⟨a', rfl, ha⟩, hly⟩ := ho
  obtain ⟨Cn, T, N, ty, ⟨hc, hu, -, -, hT⟩, hkN, hlink⟩ := hg
  have hts := xtbl_hts C.2.2.2.2.2.2.2.1
  have he := xws_get (cx := cx) (τ := τ) ha
  rw [xcell_O hly] at he
  exact va_get (D := cx.2.2.2.1) (ci := ci) (C := Cn) (T := T) (N := N) C.1 C.2.1 hts hu C.2.2.2.2.2.1 C.2.2.2.2.2.2.2.2.1.1 hH.1.2.2.2 a' he hc k hkN (hts _ hlink) (fun x hx => by rw [hT k hkN] at hx; exact hx) (xfs_get hk) hd (kk p l e s m args below meth c H locs ls C hH hS hF hl)
/-- the put, to any new world that differs at that cell alone -/
theorem X_putG {a idx ci k : Nat} {fks : List Nat} {v : Value} {t : FieldType} {ly' : xLy} {fks' : List Nat} {τ' : xT} (hd : decode M.2.1 pc = .ok (.putfield idx, 3)) (hp : pc + 3 = pc') (hg : xPF M idx ci k t ∨ xPFF M idx ci k t) (ho : xO P a ci fks) (hk : k < fks.length) (hn : narrow t (xup cx v) = xup cx v) (hfit : fits t (xup cx v) = true)
    (hly' : ly' a = .inr (ci, fks')) (hfs : (List.range fks'.length).map (fun j => xup cx (xfv τ' a j (fks'.getD j 0))) = ((List.range fks.length).map (fun j => xup cx (xfv τ a j (fks.getD j 0)))).set k (xup cx v))
    (h0 : ∀ j, j ≠ a → ly' j = P.2.2 j ∧ τ'.1 j = τ.1 j ∧ τ'.2.1 j = τ.2.1 j ∧ τ'.2.2 j = τ.2.2 j)
    (kk : X cx M P0 Q pc' lv st (P.1, P.2.1, ly') τ') : X cx M P0 Q pc lv (v :: .ref a :: st) P τ := by
  subst hp
  intro p l e s m args below meth c H locs ls C hH hS hF hl
  obtain ⟨⟨a', rfl, ha⟩, hly⟩ := ho
  have hts := xtbl_hts C.2.2.2.2.2.2.2.1
  have hK := C.2.2.2.2.2.2.2.2.1.1
  have hat := hH.1.at ha
  rw [xcell_O hly] at hat
  have fin : ∀ (H1 : Heap) (kx : Nat), H1.size = H.size → (∀ q : Nat, q ≠ cx.1 + a' → H1[q]? = H[q]?) → va_at cx.2.2.2.1 vwCl (cx.1 + a', .inr (ci, ((List.range fks.length).map (fun j => xup cx (xfv τ (a' + 1) j (fks.getD j 0)))).set k (xup cx v))) H1 →
      W p l e M.2.2.2.2 s m args below meth c H1 (locs ++ [⟨cx.1 + a', kx⟩]) (P.1 - P0.1) (P.2.1 - P0.2.1) (MQ below (xQc cx M P0 Q) args s M.2.2.2.2.cells M.2.2.2.2.slots (fun q => cx.1 ≤ q)) (F0 m (pc + 3) ls (st.map (xup cx))) := by
    intro H1 kx hz ho1 hat1
    have hz0 := h0 0 (by omega)
    refine kk p l e s m args below meth c H1 _ ls C ⟨hH.1.set ha ly' hz ho1 ?_ hz0.1 (fun j => by rw [hz0.2.1]) (fun j hj => ?_), hH.2⟩ (hS.put hz ho1 (by show cx.1 ≤ cx.1 + a'; omega)) (hF.put hH.2 ha ho1) hl
    · rw [xcell_O hly', hfs]; exact hat1
    · obtain ⟨q1, q2, q3, q4⟩ := h0 j hj
      exact xcell_congr q1 q2 q3 q4
  obtain ⟨r, h1, cell, q1, q2, q3, q4⟩ := hat
  have hlen : k < ((List.range fks.length).map (fun j => xup cx (xfv τ (a' + 1) j (fks.getD j 0)))).length := by simpa using hk
  rcases hg with ⟨Cn, T, N, ty, ⟨hc, hu, hty, hnm, hT⟩, hkN, hlink, hfin, htk⟩ | ⟨Cn, T, N, ty, ⟨hc, hu, hty, hnm, hT⟩, hkN, hlink, hfin, htk, hCM, hini⟩
  · have hap := va_apart (own := M.1.cls) hts hu ty hty hnm hK hc
    have hr : r = (Cn, T, N) := Option.some.inj (h1.symm.trans hc)
    subst hr
    obtain ⟨hSl, hfc, kC, hkC, hkind⟩ := hK.1 ci _ hc
    obtain ⟨cf, kf, fi, f, hi, hsl⟩ := hSl k hkN
    have hlay := hts _ (hu _ (u_in_lay hkN))
    unfold u_lay at hlay
    rw [if_neg (by rw [hfin]; decide)] at hlay
    have hst := (u_facts hfc hkC (u_lays hts hu hkN) hi).1
    have hd9 : parseFieldDescriptor (T k).2.2.1 = some t := (hty k hkN).trans (congrArg some htk)
    have h6 := u_store hfc hkC hkind hlay hi hd9 hn hfit
    refine W.putK C.1 C.2.1 (f := f) ⟨C.2.2.2.2.2.1, hts _ hlink, ⟨_, _, _, (by rw [hT k hkN] at hi; exact hi)⟩, hst⟩ (by rw [q2]; exact h6) q1 q3 (by rw [hsl]; exact k2_hasslot (q4 k hkN)) rfl rfl hd fun H' e1 e2 e3 => ?_
    rw [hsl] at e1
    exact fin H' _ e2 e3 ⟨_, hc, t_OB.to (V := updV (vp_V _) k (xup cx v)) ⟨_, e1, q2, q3, t_set q4 hap hkN (xup cx v)⟩ (fun j _ => vp_updV_set hlen (xup cx v) j)⟩
  · have hap := va_apart (own := M.1.cls) hts hu ty hty hnm hK hc
    have hr : r = (Cn, T, N) := Option.some.inj (h1.symm.trans hc)
    subst hr
    obtain ⟨hSl, hfc, kC, hkC, hkind⟩ := hK.1 ci _ hc
    obtain ⟨cf, kf, fi, f, hi, hsl⟩ := hSl k hkN
    have hlay := hts _ (hu _ (u_in_lay hkN))
    unfold u_lay at hlay
    rw [if_pos hfin] at hlay
    have hst := (u_facts hfc hkC (u_lays hts hu hkN) hi).1
    have hcf : m.cls = cf := by
      obtain ⟨_, _, c', _, _, _, -, -, hf', -, -, -, hown2, -⟩ := Cond.laysFinal_spec hlay
      have e1 : c' = cf := by have := hi.symm.trans hf'; simp at this; exact this.1.symm
      rw [hT k hkN, hCM] at hown2
      rw [← e1]; exact Option.some.inj (C.2.2.2.2.2.1.symm.trans hown2)
    have hd9 : parseFieldDescriptor (T k).2.2.1 = some t := (hty k hkN).trans (congrArg some htk)
    have h6 := u_fits hfc hkC hkind (Or.inr hlay) hi hd9 hn hfit
    refine W.putFinK C.1 C.2.1 C.2.2.2.2.2.1 (hts _ hlink) (by rw [hT k hkN] at hi; exact hi) hst hcf (C.2.2.2.2.2.2.1.trans hini) (by rw [q2]; exact h6) q1 q3 (by rw [hsl]; exact k2_hasslot (q4 k hkN)) rfl rfl hd fun H' e1 e2 e3 => ?_
    rw [hsl] at e1
    exact fin H' _ e2 e3 ⟨_, hc, t_OB.to (V := updV (vp_V _) k (xup cx v)) ⟨_, e1, q2, q3, t_set q4 hap hkN (xup cx v)⟩ (fun j _ => vp_updV_set hlen (xup cx v) j)⟩
theorem xfs_set {a k : Nat} {fks fks' : List Nat} {τ' : xT} {v : Value} (hlen : fks'.length = fks.length) (hk : k < fks.length) (hsame : ∀ j, j ≠ k → xfv τ' a j (fks'.getD j 0) = xfv τ a j (fks.getD j 0)) (hv : xfv τ' a k (fks'.getD k 0) = v) : (List.range fks'.length).map (fun j => xup cx (xfv τ' a j (fks'.getD j 0))) = ((List.range fks.length).map (fun j => xup cx (xfv τ a j (fks.getD j 0)))).set k (xup cx v) := by
  apply List.ext_getElem?
  intro j
  by_cases hjk : j = k
  · subst hjk
    rw [List.getElem?_set_self (by simpa using hk), ← hv]
    rw [List.getElem?_map, List.getElem?_range (by omega)]; rfl
  · rw [List.getElem?_set_ne (Ne.symm hjk), List.getElem?_map, List.getElem?_map, hlen]
    by_cases hj : j < fks.length
    · rw [List.getElem?_range hj, Option.map_some, Option.map_some, hsame j hjk]
    · rw [List.getElem?_eq_none (by simpa using hj)]; rfl
theorem X_putI {a idx ci k : Nat} {fks : List Nat} {v : Int32} (hd : decode M.2.1 pc = .ok (.putfield idx, 3)) (hp : pc + 3 = pc') (hg : xPF M idx ci k .int) (ho : xO P a ci fks) (hk : fks[k]? = some 0) (kk : X cx M P0 Q pc' lv st P (xsi τ a k v)) : X cx M P0 Q pc lv (.int v :: .ref a :: st) P τ := by
  have hkl := (List.getElem?_eq_some_iff.mp hk).1
  have hk0 : fks.getD k 0 = 0 := by simp [hk]
  refine X_putG (v := .int v) (τ' := xsi τ a k v) (ly' := P.2.2) hd hp (Or.inl hg) ho hkl rfl rfl ho.2 (xfs_set rfl hkl (fun j hj => ?_) ?_) (fun j hj => ⟨rfl, if_neg hj, rfl, rfl⟩) kk
  · generalize fks.getD j 0 = kd
    match kd with
    | 0 => show Value.int ((if a = a then upd (τ.1 a) k v else τ.1 a) j) = .int (τ.1 a j); simp [upd, hj]
    | 1 => rfl
    | 2 => rfl
    | n + 3 => rfl
  · rw [hk0]; show Value.int ((if a = a then upd (τ.1 a) k v else τ.1 a) k) = .int v; simp [upd]
theorem X_putL {a idx ci k : Nat} {fks : List Nat} {v : Int64} (hd : decode M.2.1 pc = .ok (.putfield idx, 3)) (hp : pc + 3 = pc') (hg : xPF M idx ci k .long) (ho : xO P a ci fks) (hk : fks[k]? = some 1) (kk : X cx M P0 Q pc' lv st P (xsl τ a k v)) : X cx M P0 Q pc lv (.long v :: .ref a :: st) P τ := by
  have hkl := (List.getElem?_eq_some_iff.mp hk).1
  have hk0 : fks.getD k 0 = 1 := by simp [hk]
  refine X_putG (v := .long v) (τ' := xsl τ a k v) (ly' := P.2.2) hd hp (Or.inl hg) ho hkl rfl rfl ho.2 (xfs_set rfl hkl (fun j hj => ?_) ?_) (fun j hj => ⟨rfl, rfl, if_neg hj, rfl⟩) kk
  · generalize fks.getD j 0 = kd
    match kd with
    | 0 => rfl
    | 1 => show Value.long ((if a = a then vp_updL (τ.2.1 a) k v else τ.2.1 a) j) = .long (τ.2.1 a j); simp [vp_updL, hj]
    | 2 => rfl
    | n + 3 => rfl
  · rw [hk0]; show Value.long ((if a = a then vp_updL (τ.2.1 a) k v else τ.2.1 a) k) = .long v; simp [vp_updL]
/-- a final reference, in a constructor -/
def xly (ly : xLy) (a : Nat) (v : (Nat × Nat) ⊕ (Nat × List Nat)) : xLy := fun b => if b = a then v else ly b
theorem X_putR {a idx ci k r : Nat} {fks : List Nat} {t : FieldType} (hd : decode M.2.1 pc = .ok (.putfield idx, 3)) (hp : pc + 3 = pc') (hg : xPFF M idx ci k t) (ho : xO P a ci fks) (hk : k < fks.length) (hn : ∀ q, narrow t (.ref q) = .ref q) (hfit : ∀ q, fits t (.ref q) = true) (kk : X cx M P0 Q pc' lv st (P.1, P.2.1, xly P.2.2 a (.inr (ci, fks.set k (r + 3)))) τ) : X cx M P0 Q pc lv (.ref r :: .ref a :: st) P τ := by
  refine X_putG (v := .ref r) (τ' := τ) (ly' := xly P.2.2 a (.inr (ci, fks.set k (r + 3)))) hd hp (Or.inr hg) ho hk (hn _) (hfit _) (fks' := fks.set k (r + 3)) (if_pos rfl) (xfs_set (by simp) hk (fun j hj => ?_) ?_) (fun j hj => ⟨if_neg hj, rfl, rfl, rfl⟩) kk
  · rw [List.getD_eq_getElem?_getD, List.getD_eq_getElem?_getD, List.getElem?_set_ne (Ne.symm hj)]
  · rw [List.getD_eq_getElem?_getD, List.getElem?_set_self hk]; rfl
theorem xix {j n : Nat} {i : Int32} (hi : i = nI j) (h : j < n) (hn : n < 100000) : vp_in i n ∧ i.toNatClampNeg = j := by
  subst hi
  exact ⟨vp_in_nI h (by omega), nI_clamp (by omega)⟩
theorem X_iald {a n j : Nat} {i : Int32} (hd : decode M.2.1 pc = .ok (.iaload, 1)) (hp : pc + 1 = pc') (ha : xI P a n) (hi : i = nI j) (hj : j < n) (kk : X cx M P0 Q pc' lv (.int (τ.1 a j) :: st) P τ) : X cx M P0 Q pc lv (.int i :: .ref a :: st) P τ := by
  subst hp
  intro p l e s m args below meth c H locs ls C hH hS hF hl
  have K := kk p l e s m args below meth c H locs ls C hH hS hF hl
  rcases ha with ⟨⟨a', rfl, ha⟩, hly, hn⟩ | ⟨rfl, rfl⟩
  · obtain ⟨h1, h2⟩ := xix hi hj hn
    have he := xws_get (cx := cx) (τ := τ) ha
    rw [xcell_I hly] at he
    refine va_iald C.1 C.2.1 C.2.2.2.2.2.2.2.2.1.1 hH.1.2.2.2 a' 0 he rfl h1 hd ?_
    rw [h2]; exact K
  · obtain ⟨h1, h2⟩ := xix hi hj (by decide)
    refine va_ti C.1 C.2.1 C.2.2.2.2.2.2.2.2.1.2.2.2.1 hS h1 (v := .int (τ.1 0 j)) ?_ hd K
    rw [h2, hH.1.2.2.1]
theorem X_lald {a n j : Nat} {i : Int32} (hd : decode M.2.1 pc = .ok (.laload, 1)) (hp : pc + 1 = pc') (ha : xR P a 1 n) (hi : i = nI j) (hj : j < n) (kk : X cx M P0 Q pc' lv (.long (τ.2.1 a j) :: st) P τ) : X cx M P0 Q pc lv (.int i :: .ref a :: st) P τ := by
  subst hp
  intro p l e s m args below meth c H locs ls C hH hS hF hl
  have K := kk p l e s m args below meth c H locs ls C hH hS hF hl
  obtain ⟨⟨a', rfl, ha⟩, hly, hn⟩ := ha
  obtain ⟨h1, h2⟩ := xix hi hj hn
  have he := xws_get (cx := cx) (τ := τ) ha
  rw [xcell_J hly] at he
  refine va_lald C.1 C.2.1 C.2.2.2.2.2.2.2.2.1.1 hH.1.2.2.2 a' 1 he rfl h1 hd ?_
  rw [h2]; exact K
theorem X_zald {a n j : Nat} {i : Int32} (hd : decode M.2.1 pc = .ok (.baload, 1)) (hp : pc + 1 = pc') (ha : xR P a 2 n) (hi : i = nI j) (hj : j < n) (kk : X cx M P0 Q pc' lv (.int (τ.1 a j) :: st) P τ) : X cx M P0 Q pc lv (.int i :: .ref a :: st) P τ := by
  subst hp
  intro p l e s m args below meth c H locs ls C hH hS hF hl
  have K := kk p l e s m args below meth c H locs ls C hH hS hF hl
  obtain ⟨⟨a', rfl, ha⟩, hly, hn⟩ := ha
  obtain ⟨h1, h2⟩ := xix hi hj hn
  have he := xws_get (cx := cx) (τ := τ) ha
  rw [xcell_Z hly] at he
  refine va_zald C.1 C.2.1 C.2.2.2.2.2.2.2.2.1.1 hH.1.2.2.2 a' 2 he rfl h1 hd ?_
  rw [h2]; exact K
theorem xrf_up {r : Nat} : va_rf (if r = 0 then none else some (xad cx r)) = xup cx (xrf r) := by
  unfold xrf
  split <;> rfl
theorem X_aald {a n j : Nat} {i : Int32} (hd : decode M.2.1 pc = .ok (.aaload, 1)) (hp : pc + 1 = pc') (ha : xR P a 3 n) (hi : i = nI j) (hj : j < n) (kk : X cx M P0 Q pc' lv (xrf (τ.2.2 a j) :: st) P τ) : X cx M P0 Q pc lv (.int i :: .ref a :: st) P τ := by
  subst hp
  intro p l e s m args below meth c H locs ls C hH hS hF hl
  have K := kk p l e s m args below meth c H locs ls C hH hS hF hl
  obtain ⟨⟨a', rfl, ha⟩, hly, hn⟩ := ha
  obtain ⟨h1, h2⟩ := xix hi hj hn
  have he := xws_get (cx := cx) (τ := τ) ha
  rw [xcell_S hly] at he
  refine va_aldq C.1 C.2.1 C.2.2.2.2.2.2.2.2.1.1 hH.1.2.2.2 a' 3 he rfl h1 hd ?_
  rw [h2, xrf_up]; exact K
theorem X_alen {a kd n : Nat} (hd : decode M.2.1 pc = .ok (.arraylength, 1)) (hp : pc + 1 = pc') (ha : (xR P a kd n ∧ kd < 4) ∨ (a = 0 ∧ n = 4)) (kk : X cx M P0 Q pc' lv (.int (nI n) :: st) P τ) : X cx M P0 Q pc lv (.ref a :: st) P τ := by
  subst hp
  intro p l e s m args below meth c H locs ls C hH hS hF hl
  have K := kk p l e s m args below meth c H locs ls C hH hS hF hl
  rcases ha with ⟨⟨⟨a', rfl, ha⟩, hly, hn⟩, hkd⟩ | ⟨rfl, rfl⟩
  · have he := xws_get (cx := cx) (τ := τ) ha
    match kd, hkd, hly with
    | 0, _, hly => rw [xcell_I hly] at he; exact va_alen C.1 C.2.1 C.2.2.2.2.2.2.2.2.1.1 hH.1.2.2.2 a' 0 he rfl rfl hd K
    | 1, _, hly => rw [xcell_J hly] at he; exact va_alen C.1 C.2.1 C.2.2.2.2.2.2.2.2.1.1 hH.1.2.2.2 a' 1 he rfl rfl hd K
    | 2, _, hly => rw [xcell_Z hly] at he; exact va_alen C.1 C.2.1 C.2.2.2.2.2.2.2.2.1.1 hH.1.2.2.2 a' 2 he rfl rfl hd K
    | 3, _, hly => rw [xcell_S hly] at he; exact va_alen C.1 C.2.1 C.2.2.2.2.2.2.2.2.1.1 hH.1.2.2.2 a' 3 he rfl rfl hd K
  · exact va_tlen C.1 C.2.1 C.2.2.2.2.2.2.2.2.1.2.2.2.1 hS rfl hd K
theorem X_gets {idx : Nat} (hd : decode M.2.1 pc = .ok (.getstatic idx, 3)) (hp : pc + 3 = pc') (hw : (M.1.cls, idx, "WaitedPost", "RATES", "[I", "WaitedPost") ∈ xnF) (kk : X cx M P0 Q pc' lv (.ref 0 :: st) P τ) : X cx M P0 Q pc lv st P τ := by
  subst hp
  exact fun p l e s m args below meth c H locs ls C hH hS hF hl => va_getsN C.1 C.2.1 C.2.2.2.2.2.2.2.2.1.2.2.1 hS C.2.2.2.2.2.1 (va_Nw.use rfl (C.2.2.2.2.2.2.2.2.1.2.1.2 _ hw)) (fun _ h => h) hd (kk p l e s m args below meth c H locs ls C hH hS hF hl)
/-- an array's cell is written -/
theorem xAst {p : Program} {l : Launch} {e : Env} {s : State} {m : MethodId} {args : Array Value} {below : List Frame} {meth : Method} {c : Code} {H H1 : Heap} {locs : List Loc} {ls : Array Slot} {a' kx : Nat} {τ' : xT} (C : xCtx cx M P0 p s m args meth c) (hH : xH cx P τ H ∧ xMo cx P0 P) (hS : va_S (fun q => cx.1 ≤ q) s.heap H locs) (hF : xFr cx P0 s.heap H) (hl : lv_has ls M.2.2.1 (lv.map (xup2 cx))) (ha : a' < P.1) (hz : H1.size = H.size) (ho : ∀ q : Nat, q ≠ cx.1 + a' → H1[q]? = H[q]?)
    (he : va_at cx.2.2.2.1 vwCl (cx.1 + a', xcell cx P.2.2 τ' (a' + 1)) H1) (h0 : ∀ j, j ≠ a' + 1 → τ'.1 j = τ.1 j ∧ τ'.2.1 j = τ.2.1 j ∧ τ'.2.2 j = τ.2.2 j)
    (kk : X cx M P0 Q pc lv st P τ') : W p l e M.2.2.2.2 s m args below meth c H1 (locs ++ [⟨cx.1 + a', kx⟩]) (P.1 - P0.1) (P.2.1 - P0.2.1) (MQ below (xQc cx M P0 Q) args s M.2.2.2.2.cells M.2.2.2.2.slots (fun q => cx.1 ≤ q)) (F0 m pc ls (st.map (xup cx))) := by
  refine kk p l e s m args below meth c H1 _ ls C ⟨hH.1.set ha P.2.2 hz ho he rfl (fun j => by rw [(h0 0 (by omega)).1]) (fun j hj => ?_), hH.2⟩ (hS.put hz ho (by show cx.1 ≤ cx.1 + a'; omega)) (hF.put hH.2 ha ho) hl
  obtain ⟨q2, q3, q4⟩ := h0 j hj
  exact xcell_congr rfl q2 q3 q4
theorem X_iast {a n j : Nat} {i v : Int32} (hd : decode M.2.1 pc = .ok (.iastore, 1)) (hp : pc + 1 = pc') (ha : xR P a 0 n) (hi : i = nI j) (hj : j < n) (kk : X cx M P0 Q pc' lv st P (xsi τ a j v)) : X cx M P0 Q pc lv (.int v :: .int i :: .ref a :: st) P τ := by
  subst hp
  intro p l e s m args below meth c H locs ls C hH hS hF hl
  obtain ⟨⟨a', rfl, ha⟩, hly, hn⟩ := ha
  obtain ⟨h1, h2⟩ := xix hi hj hn
  have hat := hH.1.at ha
  rw [xcell_I hly] at hat
  refine W.iast C.1 C.2.1 hat ((C.2.2.2.2.2.2.2.2.1.1.2 0 _ rfl).1 n (fun j => .int (τ.1 (a' + 1) j))) (fun q => by cases q) (by show ¬ (i < 0 ∨ (arrV _ _ _).slots.size ≤ _); rw [arrV_size]; exact h1) rfl rfl hd fun H1 e1 z oq => ?_
  refine xAst (pc := pc + 1) (st := st) (τ' := xsi τ (a' + 1) j v) C hH hS hF hl ha z oq ?_ (fun j hj => ⟨if_neg hj, rfl, rfl⟩) kk
  rw [xcell_I hly]
  show H1[cx.1 + a']? = some (vp_cell _ _)
  rw [e1, vp_cell_i, vp_cell_i, arrV_store, h2]
  congr 2
  funext q
  by_cases hq : q = j
  · subst hq; simp [updV, upd, xsi]
  · simp [updV, upd, xsi, hq]
theorem X_zast {a n j : Nat} {i v : Int32} (hd : decode M.2.1 pc = .ok (.bastore, 1)) (hp : pc + 1 = pc') (ha : xR P a 2 n) (hi : i = nI j) (hj : j < n) (hv : narrow .boolean (.int v) = .int v) (kk : X cx M P0 Q pc' lv st P (xsi τ a j v)) : X cx M P0 Q pc lv (.int v :: .int i :: .ref a :: st) P τ := by
  subst hp
  intro p l e s m args below meth c H locs ls C hH hS hF hl
  obtain ⟨⟨a', rfl, ha⟩, hly, hn⟩ := ha
  obtain ⟨h1, h2⟩ := xix hi hj hn
  have hat := hH.1.at ha
  rw [xcell_Z hly] at hat
  refine W.zast C.1 C.2.1 hat ((C.2.2.2.2.2.2.2.2.1.1.2 2 _ rfl).1 n (fun j => .int (τ.1 (a' + 1) j))) (fun q => by cases q) (by show ¬ (i < 0 ∨ (arrV _ _ _).slots.size ≤ _); rw [arrV_size]; exact h1) rfl rfl hd fun H1 e1 z oq => ?_
  refine xAst (pc := pc + 1) (st := st) (τ' := xsi τ (a' + 1) j v) C hH hS hF hl ha z oq ?_ (fun j hj => ⟨if_neg hj, rfl, rfl⟩) kk
  rw [xcell_Z hly]
  show H1[cx.1 + a']? = some (vp_cell _ _)
  rw [e1, hv, vp_cell_i, vp_cell_i, arrV_store, h2]
  congr 2
  funext q
  by_cases hq : q = j
  · subst hq; simp [updV, upd, xsi]
  · simp [updV, upd, xsi, hq]
theorem X_last {a n j : Nat} {i : Int32} {v : Int64} (hd : decode M.2.1 pc = .ok (.lastore, 1)) (hp : pc + 1 = pc') (ha : xR P a 1 n) (hi : i = nI j) (hj : j < n) (kk : X cx M P0 Q pc' lv st P (xsl τ a j v)) : X cx M P0 Q pc lv (.long v :: .int i :: .ref a :: st) P τ := by
  subst hp
  intro p l e s m args below meth c H locs ls C hH hS hF hl
  obtain ⟨⟨a', rfl, ha⟩, hly, hn⟩ := ha
  obtain ⟨h1, h2⟩ := xix hi hj hn
  have hat := hH.1.at ha
  rw [xcell_J hly] at hat
  refine W.last C.1 C.2.1 hat ((C.2.2.2.2.2.2.2.2.1.1.2 1 _ rfl).1 n (fun j => .long (τ.2.1 (a' + 1) j))) (fun q => by cases q) (by show ¬ (i < 0 ∨ (arrV _ _ _).slots.size ≤ _); rw [arrV_size]; exact h1) rfl rfl hd fun H1 e1 z oq => ?_
  refine xAst (pc := pc + 1) (st := st) (τ' := xsl τ (a' + 1) j v) C hH hS hF hl ha z oq ?_ (fun j hj => ⟨rfl, if_neg hj, rfl⟩) kk
  rw [xcell_J hly]
  show H1[cx.1 + a']? = some (vp_cell _ _)
  rw [e1, vp_cell_l, vp_cell_l, arrV_store, h2]
  congr 2
  funext q
  by_cases hq : q = j
  · subst hq; simp [updV, vp_updL, xsl]
  · simp [updV, vp_updL, xsl, hq]
theorem X_aast {a n j r : Nat} {i : Int32} {fks : List Nat} (hd : decode M.2.1 pc = .ok (.aastore, 1)) (hp : pc + 1 = pc') (ha : xR P a 3 n) (hi : i = nI j) (hj : j < n) (hr : xO P r 2 fks) (kk : X cx M P0 Q pc' lv st P (xsr τ a j r)) : X cx M P0 Q pc lv (.ref r :: .int i :: .ref a :: st) P τ := by
  subst hp
  intro p l e s m args below meth c H locs ls C hH hS hF hl
  obtain ⟨⟨a', rfl, ha⟩, hly, hn⟩ := ha
  obtain ⟨⟨r', rfl, hr⟩, hlr⟩ := hr
  obtain ⟨h1, h2⟩ := xix hi hj hn
  have hK := C.2.2.2.2.2.2.2.2.1.1
  have hat := hH.1.at ha
  rw [xcell_S hly] at hat
  have har := hH.1.at hr
  rw [xcell_O hlr] at har
  obtain ⟨q', hq', cellV, g1, g2, g3, -⟩ := har
  have hcls := (hK.1 2 _ rfl).2
  obtain ⟨kA, comp, k1, k2, k3, -⟩ := (hK.2 3 _ rfl).2
  have hcomp : comp = cx.2.2.2.1.1 2 := Option.some.inj (k3.symm.trans hcls.1)
  subst hcomp
  obtain ⟨kC, hkC, -⟩ := hcls.2
  have hlt : i.toNatClampNeg < n := Nat.not_le.mp fun q => h1 (Or.inr q)
  have h0 : ¬ i < 0 := fun q => h1 (Or.inl q)
  refine W.aast C.1 C.2.1 hat (fun q h => by cases h) (fun h => by cases h) k1 k2 rfl hkC ⟨h0, by show _ < (arrV _ _ _).slots.size; rw [arrV_size]; exact hlt⟩ g1 (fun q h => by rw [g3] at h; cases h) (by rw [g2]; exact hkC) (by rw [g2]; exact va_assign hcls) rfl rfl hd fun H1 e1 z oq => ?_
  refine xAst (pc := pc + 1) (st := st) (τ' := xsr τ (a' + 1) j (r' + 1)) C hH hS hF hl ha z oq ?_ (fun j hj => ⟨rfl, rfl, by funext q; simp [xsr, hj]⟩) kk
  rw [xcell_S hly]
  show H1[cx.1 + a']? = some (vp_cell _ _)
  rw [e1, vp_cell_q, vp_cell_q, arrV_store, h2]
  congr 2
  funext q
  by_cases hq : q = j
  · subst hq; simp [updV, xsr, va_rf, xad]
  · simp [updV, xsr, hq]
/-! ends -/
theorem xEnd {p : Program} {s : State} {m : MethodId} {args : Array Value} {meth : Method} {c : Code} {H : Heap} {locs : List Loc} {t : State} {r : Option Value} (C : xCtx cx M P0 p s m args meth c) (hH : xH cx P τ H ∧ xMo cx P0 P) (hS : va_S (fun q => cx.1 ≤ q) s.heap H locs) (hF : xFr cx P0 s.heap H) (hP : P.1 = P0.1 + M.2.2.2.2.cells ∧ P.2.1 = P0.2.1 + M.2.2.2.2.slots) (hQ : Q r P τ) (ht : t.heap = H) : xQc cx M P0 Q args s (.returned (r.map (xup cx))) t :=
  ⟨r, P, τ, rfl, hQ, hP.1, hP.2, hH.2.2.2, by rw [ht]; exact hH.1, fun q h1 h2 => by rw [ht]; exact hS.2.1 q h1 (Nat.not_le.mpr h2), fun q h1 h2 => by rw [ht]; exact hF q h1 h2⟩
theorem X_iret {v : Int32} (hd : decode M.2.1 pc = .ok (.ireturn, 1)) (hr : M.2.2.2.1 = some .int) (hP : P.1 = P0.1 + M.2.2.2.2.cells ∧ P.2.1 = P0.2.1 + M.2.2.2.2.slots) (hQ : Q (some (.int v)) P τ) : X cx M P0 Q pc lv [.int v] P τ := by
  intro p l e s m args below meth c H locs ls C hH hS hF hl
  rw [hP.1, hP.2, Nat.add_sub_cancel_left, Nat.add_sub_cancel_left]
  exact W.iret C.1 C.2.1 (C.2.2.2.1.trans hr) (fun t ht _ => xEnd (r := some (.int v)) C hH hS hF hP hQ ht) hS.2.2 hd C.2.2.2.2.1
theorem X_zret {v : Int32} (hd : decode M.2.1 pc = .ok (.ireturn, 1)) (hr : M.2.2.2.1 = some .boolean) (hv : narrow .boolean (.int v) = .int v) (hP : P.1 = P0.1 + M.2.2.2.2.cells ∧ P.2.1 = P0.2.1 + M.2.2.2.2.slots) (hQ : Q (some (.int v)) P τ) : X cx M P0 Q pc lv [.int v] P τ := by
  intro p l e s m args below meth c H locs ls C hH hS hF hl
  rw [hP.1, hP.2, Nat.add_sub_cancel_left, Nat.add_sub_cancel_left]
  exact W.zret C.1 C.2.1 (C.2.2.2.1.trans hr) hv (fun t ht _ => xEnd (r := some (.int v)) C hH hS hF hP hQ ht) hS.2.2 hd C.2.2.2.2.1
theorem X_lret {v : Int64} (hd : decode M.2.1 pc = .ok (.lreturn, 1)) (hr : M.2.2.2.1 = some .long) (hP : P.1 = P0.1 + M.2.2.2.2.cells ∧ P.2.1 = P0.2.1 + M.2.2.2.2.slots) (hQ : Q (some (.long v)) P τ) : X cx M P0 Q pc lv [.long v] P τ := by
  intro p l e s m args below meth c H locs ls C hH hS hF hl
  rw [hP.1, hP.2, Nat.add_sub_cancel_left, Nat.add_sub_cancel_left]
  exact W.lret C.1 C.2.1 (C.2.2.2.1.trans hr) (fun t ht _ => xEnd (r := some (.long v)) C hH hS hF hP hQ ht) hS.2.2 hd C.2.2.2.2.1
theorem X_vret (hd : decode M.2.1 pc = .ok (.return_, 1)) (hr : M.2.2.2.1 = none) (hP : P.1 = P0.1 + M.2.2.2.2.cells ∧ P.2.1 = P0.2.1 + M.2.2.2.2.slots) (hQ : Q none P τ) : X cx M P0 Q pc lv [] P τ := by
  intro p l e s m args below meth c H locs ls C hH hS hF hl
  rw [hP.1, hP.2, Nat.add_sub_cancel_left, Nat.add_sub_cancel_left]
  exact W.vret C.1 C.2.1 (C.2.2.2.1.trans hr) (fun t ht _ => xEnd (r := none) C hH hS hF hP hQ ht) hS.2.2 hd C.2.2.2.2.1
/-! a contract out of a walk -/
theorem xargs_up (cx : xC) (vs : List Value) : ∀ i : Nat, lv_args i (vs.map (xup cx)) = (lv_args i vs).map (xup2 cx) := by
  induction vs with
  | nil => intro i; rfl
  | cons v r ih =>
    intro i
    simp only [List.map_cons, lv_args, xup_cat]
    rw [ih]
    rfl
theorem xsl_len (cx : xC) (vs : List Value) : (lg_sl (vs.map (xup cx))).length = (lg_sl vs).length := by
  induction vs with
  | nil => rfl
  | cons v r ih =>
    simp only [lg_sl, List.map_cons, List.flatMap_cons, List.length_append] at ih ⊢
    rw [ih, xup_cat]
    split <;> rfl
theorem Ct_of {vs : List Value} (hy : plainName M.1.cls = true) (hn : (lg_sl vs).length ≤ M.2.2.1) (hlv : lv_args 0 vs = lv) (k : X cx M P Q 0 lv [] P τ) : Ct cx M vs P τ Q := by
  intro l
  subst hlv
  refine Met.ofW (cc := M.2.1) (maxL := M.2.2.1) (ret := M.2.2.2.1) (ws' := xtbl) hy rfl ?_
  intro p e s m args below meth c s₁ B hml hv
  obtain ⟨rfl, hH, hK⟩ := hv
  have hl := lv_entry (vs.map (xup cx)) (n := M.2.2.1) (by rw [xsl_len]; exact hn)
  rw [xargs_up] at hl
  rw [lg_entry_eq]
  have C : xCtx cx M P p s m (vs.map (xup cx)).toArray meth c := ⟨B.exec, B.bytes, hml, B.returns, B.notSynchronized, findClass_of_methodNamed B.named, (name_of_methodNamed B.named B.method).1, atoms_spec (ws := xyw M) B.pre, hK, hH.1⟩
  have K := k p l e s m _ below meth c s.heap [] _ C ⟨hH, Nat.le_refl _, Nat.le_refl _, Or.inl rfl⟩ va_S.rf (fun _ _ _ => rfl) hl
  rw [Nat.sub_self, Nat.sub_self] at K
  exact K
theorem Ct.weaken {vs : List Value} {Q' : Option Value → xP → xT → Prop} (h : Ct cx M vs P τ Q) (hq : ∀ r P' τ', Q r P' τ' → Q' r P' τ') : Ct cx M vs P τ Q' := by
  intro l p e a1 a2 a3 s m args below b1 b2 b3 b4
  obtain ⟨t, o, c1, c2, c3, ⟨r, P', τ', d1, d2, d3⟩, c5⟩ := h l p e a1 a2 a3 s m args below b1 b2 b3 b4
  exact ⟨t, o, c1, c2, c3, ⟨r, P', τ', d1, hq _ _ _ d2, d3⟩, c5⟩
end XR
end
section
/-! ===== calls and making ===== -/
def xMt (M : xY) (n : Nat) : Prop := Cond.code M.1 M.2.1 M.2.2.1 M.2.2.2.1 ∈ xtbl ∧ Cond.initialized M.1.cls ∈ xtbl ∧ (M.1.cls ≠ "java/lang/invoke/MethodHandle" ∧ M.1.cls ≠ "java/lang/invoke/VarHandle") ∧ (parseMethodDescriptor M.1.desc).map (fun d => d.parameters.length) = some n
def xRm (M M' : xY) : Prop := M'.2.2.2.2.frames + 1 ≤ M.2.2.2.2.frames ∧ 8 + (M'.2.2.1 + 11) + M'.2.2.2.2.locals ≤ M.2.2.2.2.locals
def xCs (M M' : xY) (P0 P : xP) : Prop := P.1 - P0.1 + M'.2.2.2.2.cells ≤ M.2.2.2.2.cells ∧ P.2.1 - P0.2.1 + M'.2.2.2.2.slots ≤ M.2.2.2.2.slots
theorem xtbl_good {w : Cond} (h : w ∈ xtbl) : (w.onTables && w.keeps) = true ∨ ∃ ty, w = .arrayClass ty := good_of_word (List.mem_filter.mp h).2
theorem xyw_good {M : xY} {n : Nat} (hm : xMt M n) : GoodIn xtbl (xyw M) := by
  intro w hw
  rcases List.mem_cons.mp hw with rfl | h
  · exact ⟨hm.1, xtbl_good hm.1⟩
  · exact ⟨h, xtbl_good h⟩
theorem xK_warm {cx : xC} {s U : State} {H : Heap} {locs : List Loc} (hK : xK cx s) (hS : va_S (fun q => cx.1 ≤ q) s.heap H locs) (hU : U.heap = H) (hW : s.WarmedH U.vm) : xK cx U := by
  obtain ⟨h1, ⟨h2, h3⟩, h4, h5, h6⟩ := hK
  have hq : ∀ a : Nat, a < s.heap.size → ¬ (fun q : Nat => cx.1 ≤ q) a → H[a]? = s.heap[a]? := hS.2.1
  refine ⟨va_K.moved hW.alike h1, ⟨fun q hq => va_Nw.warmM hW (h2 q hq), fun q hq => va_Nw.warmF hW (h3 q hq)⟩, ?_, ?_, va_AO.moved hW.alike h6⟩
  · rw [hU]; exact va_Z.kept (va_Z.moved hW.alike h4) hq
  · rw [hU]; exact va_T.kept (va_T.moved hW.alike h5) hq
theorem xK_call {cx : xC} {U : State} {g : JFrame} {mk : MethodId} {a : Array Value} (hK : xK cx U) : xK cx (U.calling g mk a) := by
  obtain ⟨h1, ⟨h2, h3⟩, h4, h5, h6⟩ := hK
  exact ⟨va_K.moved (u := U) (U := U.calling g mk a) (Vm.Alike.refl U.vm) h1, ⟨fun q hq => va_Nw.same (u := U) (U := U.calling g mk a) rfl rfl (h2 q hq), fun q hq => va_Nw.same (u := U) (U := U.calling g mk a) rfl rfl (h3 q hq)⟩, va_Z.moved (u := U) (U := U.calling g mk a) (Vm.Alike.refl U.vm) h4, va_T.moved (u := U) (U := U.calling g mk a) (Vm.Alike.refl U.vm) h5, va_AO.moved (u := U) (U := U.calling g mk a) (Vm.Alike.refl U.vm) h6⟩
theorem xblind {cx : xC} {P : xP} {τ : xT} {vs : List Value} : FrameBlind (xPc cx P τ vs) := fun a U g mk h => ⟨h.1, h.2.1, xK_call h.2.2⟩
section XCL
variable {cx : xC} {M : xY} {P0 : xP} {Q : Option Value → xP → xT → Prop} {pc pc' : Nat} {lv : List (Nat × Value)} {st : List Value} {P : xP} {τ : xT}
variable {M' : xY} {Q0 : Option Value → xP → xT → Prop} {As rest : List Value} {idx : Nat}
theorem xpre {s : State} {args : Array Value} {m : MethodId} {p : Program} {meth : Method} {c : Code} {H : Heap} {locs : List Loc} (C : xCtx cx M P0 p s m args meth c) (hH : xH cx P τ H) (hS : va_S (fun q => cx.1 ≤ q) s.heap H locs) (vs : List Value) : ∀ U : State, U.heap = H → s.WarmedH U.vm → xPc cx P τ vs (vs.map (xup cx)).toArray U :=
  fun U hU hW => ⟨rfl, by rw [hU]; exact hH, xK_warm C.2.2.2.2.2.2.2.2.1 hS hU hW⟩
theorem xGo {p : Program} {l : Launch} {e : Env} {s : State} {m : MethodId} {args a0 : Array Value} {below : List Frame} {meth : Method} {c : Code} {H : Heap} {locs : List Loc} {ls : Array Slot} {stk : List Value} (C : xCtx cx M P0 p s m args meth c) (hm : xMo cx P0 P) (hS : va_S (fun q => cx.1 ≤ q) s.heap H locs) (hF : xFr cx P0 s.heap H) (hl : lv_has ls M.2.2.1 (lv.map (xup2 cx))) (hH : xH cx P τ H)
    (hr : va_Run p l e M.2.2.2.2 s m args below meth c H locs (P.1 - P0.1) (P.2.1 - P0.2.1) M'.2.2.2.2.cells M'.2.2.2.2.slots (F0 m pc ls stk) (rest.map (xup cx)) (xQc cx M' P Q0 a0) (fun q => cx.1 ≤ q))
    (k : ∀ (r : Option Value) (P' : xP) (τ' : xT), Q0 r P' τ' → P'.1 = P.1 + M'.2.2.2.2.cells → P'.2.1 = P.2.1 + M'.2.2.2.2.slots → X cx M P0 Q (pc + 3) lv (r.toList ++ rest) P' τ') :
    W p l e M.2.2.2.2 s m args below meth c H locs (P.1 - P0.1) (P.2.1 - P0.2.1) (MQ below (xQc cx M P0 Q) args s M.2.2.2.2.cells M.2.2.2.2.slots (fun q => cx.1 ≤ q)) (F0 m pc ls stk) := by
  intro T hT X
  obtain ⟨v, st₀, t, T', L, h0, X', hL, e1, e2, ⟨r, P', τ', hv, hq, c1, c2, c3, hH', hfr, hzone⟩, stp⟩ := hr T hT X
  have hv := Outcome.returned.inj hv
  subst hv
  have hsz : H.size ≤ t.heap.size := by rw [hH.1, hH'.1, c1]; omega
  have K := k r P' τ' hq c1 c2 p l e s m args below meth c t.heap (locs ++ L) ls C ⟨hH', by rw [c1]; exact Nat.le_trans hm.1 (Nat.le_add_right _ _), by rw [c2]; exact Nat.le_trans hm.2.1 (Nat.le_add_right _ _), by rcases c3 with c3 | c3; rw [← c3]; exact hm.2.2; exact Or.inr c3⟩
    ⟨Nat.le_trans hS.1 hsz, fun q h1 h2 => by
        rw [hfr q (by rw [h0]; exact Nat.lt_of_lt_of_le h1 hS.1) (Nat.not_le.mp h2), h0]
        exact hS.2.1 q h1 h2, fun q hq => by
        rcases List.mem_append.mp hq with h | h
        · exact hS.2.2 q h
        · exact hL q h⟩
    (fun q h1 h2 => by
      rw [← hF q h1 h2, ← h0]
      rcases hm.2.2 with z | z
      · exact hzone q (by rw [← z]; exact h1) (by rw [← z]; exact h2)
      · omega) hl
  have e3 : P.1 - P0.1 + M'.2.2.2.2.cells = P'.1 - P0.1 := by rw [c1]; have := hm.1; omega
  have e4 : P.2.1 - P0.2.1 + M'.2.2.2.2.slots = P'.2.1 - P0.2.1 := by rw [c2]; have := hm.2.1; omega
  rw [e3, e4] at X'
  obtain ⟨t2, a1, b1⟩ := K T' e1 X'
  refine ⟨t2, stp t2 ?_, b1⟩
  have e5 : (Option.map (xup cx) r).toList ++ rest.map (xup cx) = (r.toList ++ rest).map (xup cx) := by cases r <;> simp
  rw [e5]
  exact a1
theorem xcat (h : (rest.map fun v => v.category).sum ≤ 8) {m : MethodId} {ls : Array Slot} {rr : List Value} : 2 * (F0 m pc ls rr).monitorRoom + ((rest.map (xup cx)).map fun v => v.category).sum ≤ 8 := by
  refine lv_room ?_
  have : (rest.map (xup cx)).map (fun v => v.category) = rest.map (fun v => v.category) := by
    rw [List.map_map]; apply List.map_congr_left; intro v _; exact xup_cat cx v
  rw [this]; exact h
theorem xCB {s : State} {args : Array Value} (hts : ∀ w ∈ xtbl, w.before args s = true) {n : Nat} {own : String} (hm : xMt M' n) (hrm : xRm M M') (hl : Cond.methodLink own idx M'.1 ∈ xtbl) : CallB M.2.2.2.2 s args own idx M'.1 M'.2.1 M'.2.2.1 M'.2.2.2.1 (xyw M') M'.2.2.2.2 M'.2.2.2.2.cells M'.2.2.2.2.slots n :=
  callB_of n hts (xyw_good hm) rfl rfl rfl (hts _ hm.2.1) (hts _ hl) ⟨hm.2.2.1.1, hm.2.2.1.2, hm.2.2.2⟩ hrm
theorem X_callS (hd : decode M.2.1 pc = .ok (.invokestatic idx, 3)) (hp : pc + 3 = pc') (hm : xMt M' As.length) (hl : Cond.methodLink M.1.cls idx M'.1 ∈ xtbl) (hst : Cond.static M'.1 ∈ xtbl) (hrm : xRm M M') (hcs : xCs M M' P0 P) (hw : (rest.map fun v => v.category).sum ≤ 8) (hC : Ct cx M' As P τ Q0)
    (k : ∀ (r : Option Value) (P' : xP) (τ' : xT), Q0 r P' τ' → P'.1 = P.1 + M'.2.2.2.2.cells → P'.2.1 = P.2.1 + M'.2.2.2.2.slots → X cx M P0 Q pc' lv (r.toList ++ rest) P' τ') : X cx M P0 Q pc lv (As.reverse ++ rest) P τ := by
  subst hp
  intro p l e s m args below meth c H locs ls C hH hS hF hl'
  have hts := xtbl_hts C.2.2.2.2.2.2.2.1
  rw [List.map_append]
  exact xGo C hH.2 hS hF hl' hH.1 (va_runS (n := As.length) ⟨C.1, C.2.1, C.2.2.1, C.2.2.2.2.2.1, hts⟩ (hC l) ⟨xCB hts hm hrm hl, hts _ hst⟩ ⟨xblind, xpre C hH.1 hS As⟩ rfl (by simp) hl'.1 (by show _ = (As.map (xup cx)).reverse ++ _; rw [List.map_reverse]) (xcat hw) hd hcs) k
theorem X_callN {host : String} (hd : decode M.2.1 pc = .ok (.invokestatic idx, 3)) (hp : pc + 3 = pc') (hm : xMt M' As.length) (hl : (M.1.cls, idx, M'.1, host) ∈ xnM) (hst : Cond.static M'.1 ∈ xtbl) (hrm : xRm M M') (hcs : xCs M M' P0 P) (hw : (rest.map fun v => v.category).sum ≤ 8) (hC : Ct cx M' As P τ Q0)
    (k : ∀ (r : Option Value) (P' : xP) (τ' : xT), Q0 r P' τ' → P'.1 = P.1 + M'.2.2.2.2.cells → P'.2.1 = P.2.1 + M'.2.2.2.2.slots → X cx M P0 Q pc' lv (r.toList ++ rest) P' τ') : X cx M P0 Q pc lv (As.reverse ++ rest) P τ := by
  subst hp
  intro p l e s m args below meth c H locs ls C hH hS hF hl'
  have hts := xtbl_hts C.2.2.2.2.2.2.2.1
  rw [List.map_append]
  exact xGo C hH.2 hS hF hl' hH.1 (va_runSN (n := As.length) ⟨C.1, C.2.1, C.2.2.1, C.2.2.2.2.2.1, hts⟩ (hC l) ⟨va_cnB As.length hts (xyw_good hm) rfl rfl rfl (C.2.2.2.2.2.2.2.2.1.2.1.1 _ hl) (hts _ hm.2.1) ⟨hm.2.2.1.1, hm.2.2.1.2, hm.2.2.2⟩ hrm, hts _ hst, trivial⟩ ⟨xblind, xpre C hH.1 hS As⟩ rfl (by simp) hl'.1 (by show _ = (As.map (xup cx)).reverse ++ _; rw [List.map_reverse]) (xcat hw) hd hcs) k
theorem X_callV {b ci : Nat} {fks : List Nat} (hd : decode M.2.1 pc = .ok (.invokevirtual idx, 3)) (hp : pc + 3 = pc') (hm : xMt M' As.length) (hl : Cond.methodLink M.1.cls idx M'.1 ∈ xtbl) (hin : Cond.instanceMethod M'.1 ∈ xtbl ∧ Cond.selects M'.1.cls M'.1 M'.1 ∈ xtbl) (hb : xO P b ci fks) (hcl : vwCl[ci]?.map (fun q => q.1) = some M'.1.cls) (hrm : xRm M M') (hcs : xCs M M' P0 P) (hw : (rest.map fun v => v.category).sum ≤ 8) (hC : Ct cx M' (.ref b :: As) P τ Q0)
    (k : ∀ (r : Option Value) (P' : xP) (τ' : xT), Q0 r P' τ' → P'.1 = P.1 + M'.2.2.2.2.cells → P'.2.1 = P.2.1 + M'.2.2.2.2.slots → X cx M P0 Q pc' lv (r.toList ++ rest) P' τ') : X cx M P0 Q pc lv (As.reverse ++ .ref b :: rest) P τ := by
  subst hp
  intro p l e s m args below meth c H locs ls C hH hS hF hl'
  have hts := xtbl_hts C.2.2.2.2.2.2.2.1
  obtain ⟨⟨b', rfl, hb'⟩, hly⟩ := hb
  have hcell : ∃ cellB : Cell, H[cx.1 + b']? = some cellB ∧ cellB.vm.isStatics = false ∧ s.vm.findClass M'.1.cls = some cellB.cls := by
    cases hq : vwCl[ci]? with
    | none => rw [hq] at hcl; cases hcl
    | some q =>
      rw [hq] at hcl
      have he := xws_get (cx := cx) (τ := τ) hb'
      rw [xcell_O hly] at he
      have := va_recv C.2.2.2.2.2.2.2.2.1.1 hH.1.2.2.2 hq he
      rw [← Option.some.inj hcl]
      exact this
  rw [List.map_append]
  exact xGo C hH.2 hS hF hl' hH.1 (va_runV (n := As.length) (As := As.map (xup cx)) (b := cx.1 + b') ⟨C.1, C.2.1, C.2.2.1, C.2.2.2.2.2.1, hts⟩ (hC l) ⟨xCB hts hm hrm hl, hts _ hin.1, hts _ hin.2⟩ ⟨xblind, hcell, xpre C hH.1 hS (.ref (b' + 1) :: As)⟩ rfl (by simp) hl'.1 (by show _ = (As.map (xup cx)).reverse ++ _; rw [List.map_reverse]; rfl) (xcat hw) hd hcs) k
theorem X_callI {b : Nat} (hd : decode M.2.1 pc = .ok (.invokespecial idx, 3)) (hp : pc + 3 = pc') (hm : xMt M' As.length) (hl : Cond.methodLink M.1.cls idx M'.1 ∈ xtbl) (hin : Cond.instanceMethod M'.1 ∈ xtbl ∧ M'.1.name = "<init>" ∧ M'.2.2.2.1 = none) (hrm : xRm M M') (hcs : xCs M M' P0 P) (hw : (rest.map fun v => v.category).sum ≤ 8) (hC : Ct cx M' (.ref b :: As) P τ Q0)
    (k : ∀ (r : Option Value) (P' : xP) (τ' : xT), Q0 r P' τ' → P'.1 = P.1 + M'.2.2.2.2.cells → P'.2.1 = P.2.1 + M'.2.2.2.2.slots → X cx M P0 Q pc' lv (r.toList ++ rest) P' τ') : X cx M P0 Q pc lv (As.reverse ++ .ref b :: rest) P τ := by
  subst hp
  intro p l e s m args below meth c H locs ls C hH hS hF hl'
  have hts := xtbl_hts C.2.2.2.2.2.2.2.1
  have cb := xCB hts hm hrm hl
  rw [hin.2.2] at cb
  rw [List.map_append]
  exact xGo C hH.2 hS hF hl' hH.1 (va_runI (n := As.length) (As := As.map (xup cx)) (b := xad cx b) ⟨C.1, C.2.1, C.2.2.1, C.2.2.2.2.2.1, hts⟩ (hC l) ⟨cb, hin.2.1, hts _ hin.1⟩ ⟨xblind, xpre C hH.1 hS (.ref b :: As)⟩ rfl (by simp) hl'.1 (by show _ = (As.map (xup cx)).reverse ++ _; rw [List.map_reverse]; rfl) (xcat hw) hd hcs) k
theorem X_obj {a : Nat} (hd : decode M.2.1 pc = .ok (.invokespecial idx, 3)) (hp : pc + 3 = pc') (hl : Cond.methodLink M.1.cls idx Lib.objectInit ∈ xtbl) (hin : Cond.instanceMethod Lib.objectInit ∈ xtbl ∧ Cond.code Lib.objectInit ⟨#[0xb1]⟩ 1 none ∈ xtbl) (hr : 1 ≤ M.2.2.2.2.frames ∧ 20 ≤ M.2.2.2.2.locals) (hw : (st.map fun v => v.category).sum ≤ 8) (k : X cx M P0 Q pc' lv st P τ) : X cx M P0 Q pc lv (.ref a :: st) P τ := by
  subst hp
  intro p l e s m args below meth c H locs ls C hH hS hF hl'
  have hts := xtbl_hts C.2.2.2.2.2.2.2.1
  refine W.objInit C.1 C.2.1 C.2.2.2.2.2.1 (hts _ hl) (hts _ hin.1) (hts _ hin.2) rfl (by rw [C.2.2.1]; exact hl'.1) rfl hd hr.1 ?_ (k p l e s m args below meth c H locs ls C hH hS hF hl')
  have h8 := xcat (cx := cx) (pc := pc) (m := m) (ls := ls) (rr := (Value.ref a :: st).map (xup cx)) hw
  have : 2 * (F0 m pc ls ((Value.ref a :: st).map (xup cx))).monitorRoom + ((st.map (xup cx)).map fun v => v.category).sum + 12 ≤ 8 + 12 := Nat.add_le_add_right h8 12
  exact Nat.le_trans this hr.2
/-- a row of zeros at a new cell -/
def xz (τ : xT) (a : Nat) : xT := (fun b => if b = a then (fun _ => 0) else τ.1 b, fun b => if b = a then (fun _ => 0) else τ.2.1 b, fun b => if b = a then (fun _ => 0) else τ.2.2 b)
def xdv (kd : Nat) : Value := match kd with | 0 => .int 0 | 1 => .long 0 | _ => .null
theorem xz_ne {a j : Nat} (h : j ≠ a) : (xz τ a).1 j = τ.1 j ∧ (xz τ a).2.1 j = τ.2.1 j ∧ (xz τ a).2.2 j = τ.2.2 j := ⟨if_neg h, if_neg h, if_neg h⟩
theorem xNew {p : Program} {l : Launch} {e : Env} {s : State} {m : MethodId} {args : Array Value} {below : List Frame} {meth : Method} {c : Code} {H H1 : Heap} {locs : List Loc} {ls : Array Slot} {S : Nat} {v : (Nat × Nat) ⊕ (Nat × List Nat)} (he0 : cx.2.1 = 0) (C : xCtx cx M P0 p s m args meth c) (hH : xH cx P τ H ∧ xMo cx P0 P) (hS : va_S (fun q => cx.1 ≤ q) s.heap H locs) (hF : xFr cx P0 s.heap H) (hl : lv_has ls M.2.2.1 (lv.map (xup2 cx))) (hS2 : P.2.1 ≤ S) (hz : H1.size = H.size + 1) (ho : ∀ q : Nat, q < H.size → H1[q]? = H[q]?)
    (he : va_at cx.2.2.2.1 vwCl (cx.1 + P.1, xcell cx (xly P.2.2 (P.1 + 1) v) (xz τ (P.1 + 1)) (P.1 + 1)) H1)
    (kk : X cx M P0 Q pc lv (.ref (P.1 + 1) :: st) (P.1 + 1, S, xly P.2.2 (P.1 + 1) v) (xz τ (P.1 + 1))) : W p l e M.2.2.2.2 s m args below meth c H1 locs (P.1 - P0.1 + 1) (S - P0.2.1) (MQ below (xQc cx M P0 Q) args s M.2.2.2.2.cells M.2.2.2.2.slots (fun q => cx.1 ≤ q)) (F0 m pc ls (.ref (cx.1 + P.1) :: st.map (xup cx))) := by
  have e3 : P.1 - P0.1 + 1 = P.1 + 1 - P0.1 := by have := hH.2.1; omega
  rw [e3]
  refine kk p l e s m args below meth c H1 locs ls C ⟨hH.1.push he0 _ hz ho _ he (if_neg (by omega)) (fun j => by rw [(xz_ne (τ := τ) (a := P.1 + 1) (j := 0) (by omega)).1]) (fun j hj => ?_), Nat.le_succ_of_le hH.2.1, Nat.le_trans hH.2.2.1 hS2, Or.inr he0⟩ ?_ (fun q h1 h2 => by omega) hl
  · obtain ⟨q1, q2, q3⟩ := xz_ne (τ := τ) hj
    exact xcell_congr (if_neg hj) q1 q2 q3
  · exact ⟨by rw [hz]; exact Nat.le_succ_of_le hS.1, fun q h1 h2 => (ho q (Nat.lt_of_lt_of_le h1 hS.1)).trans (hS.2.1 q h1 h2), hS.2.2⟩
theorem X_new {ci n : Nat} {Cn : String} {T : u_T} {ty : Nat → FieldType} {fks : List Nat} (he0 : cx.2.1 = 0) (hd : decode M.2.1 pc = .ok (.new idx, 3)) (hp : pc + 3 = pc') (hcl : xCl ci Cn T n ty) (hw : Cond.classLink M.1.cls idx Cn ∈ xtbl ∧ Cond.instantiable Cn n ∈ xtbl ∧ Cond.initialized Cn ∈ xtbl) (hf : fks.length = n ∧ ∀ j, j < n → defaultValue (ty j) = xdv (fks.getD j 0) ∧ fks.getD j 0 < 3) (hcs : P.1 - P0.1 + 1 ≤ M.2.2.2.2.cells ∧ P.2.1 - P0.2.1 + n ≤ M.2.2.2.2.slots)
    (kk : X cx M P0 Q pc' lv (.ref (P.1 + 1) :: st) (P.1 + 1, P.2.1 + n, xly P.2.2 (P.1 + 1) (.inr (ci, fks))) (xz τ (P.1 + 1))) : X cx M P0 Q pc lv st P τ := by
  subst hp
  intro p l e s m args below meth c H locs ls C hH hS hF hl'
  have hts := xtbl_hts C.2.2.2.2.2.2.2.1
  obtain ⟨hc, hu, hty, hnm, hT⟩ := hcl
  have hKn := C.2.2.2.2.2.2.2.2.1.1.1 ci _ hc
  have hsz : H.size = cx.1 + P.1 := by rw [hH.1.1, he0]; omega
  refine W.newcK C.1 C.2.1 C.2.2.2.2.2.1 (hts _ hw.1) (hts _ hw.2.1) (hts _ hw.2.2) rfl hd hcs.1 hcs.2 hKn.2.1 hsz fun H1 kC hkC e1 z1 o1 => ?_
  have e4 : P.2.1 - P0.2.1 + n = P.2.1 + n - P0.2.1 := by have := hH.2.2.1; omega
  rw [e4]
  refine xNew (pc := pc + 3) (S := P.2.1 + n) he0 C hH hS hF hl' (Nat.le_add_right _ _) (by rw [z1, hsz]) (fun q hq => o1 q (by rw [← hsz]; exact hq)) ?_ kk
  rw [xcell_O (if_pos rfl)]
  refine ⟨_, hc, (u_born ty hts hu hKn hkC e1 hty).to fun k hk => ?_⟩
  have hk2 : k < fks.length := by rw [hf.1]; exact hk
  show _ = vp_V _ k
  unfold vp_V
  rw [List.getD_eq_getElem?_getD, List.getElem?_map, List.getElem?_range hk2, (hf.2 k hk).1]
  have h3 := (hf.2 k hk).2
  show xdv (fks.getD k 0) = xup cx (xfv (xz τ (P.1 + 1)) (P.1 + 1) k (fks.getD k 0))
  generalize fks.getD k 0 = kd at h3
  match kd, h3 with
  | 0, _ => show Value.int 0 = .int ((if P.1 + 1 = P.1 + 1 then (fun _ => 0) else τ.1 _) k); rw [if_pos rfl]
  | 1, _ => show Value.long 0 = .long ((if P.1 + 1 = P.1 + 1 then (fun _ => 0) else τ.2.1 _) k); rw [if_pos rfl]
  | 2, _ => rfl
theorem xnewA {s : State} {cA : ClassId} {i : Nat} {ty : FieldType} (hK : xK cx s) (hi : (xtys cx)[i]? = some (cA, ty)) (hty : ∀ C, ty ≠ .object C) {cB : ClassId} (hf : s.vm.findClass ("[" ++ ty.toString) = some cB) : cB = cA := by
  have h := (hK.1.2 i _ hi).2
  unfold va_RA at h
  cases ty with
  | object C => exact absurd rfl (hty C)
  | _ => exact Option.some.inj (hf.symm.trans h)
theorem X_newI {n : Nat} {i : Int32} (he0 : cx.2.1 = 0) (hd : decode M.2.1 pc = .ok (.newarray .int, 2)) (hp : pc + 2 = pc') (hw : Cond.arrayClass .int ∈ xtbl) (hi : i = nI n) (hn : n < 100000) (hcs : P.1 - P0.1 + 1 ≤ M.2.2.2.2.cells ∧ P.2.1 - P0.2.1 + n ≤ M.2.2.2.2.slots)
    (kk : X cx M P0 Q pc' lv (.ref (P.1 + 1) :: st) (P.1 + 1, P.2.1 + n, xly P.2.2 (P.1 + 1) (.inl (0, n))) (xz τ (P.1 + 1))) : X cx M P0 Q pc lv (.int i :: st) P τ := by
  subst hp; subst hi
  intro p l e s m args below meth c H locs ls C hH hS hF hl'
  have hts := xtbl_hts C.2.2.2.2.2.2.2.1
  have hsz : H.size = cx.1 + P.1 := by rw [hH.1.1, he0]; omega
  refine va_newaK (atype := .int) C.1 C.2.1 (hts _ hw) rfl hd rfl (nI_pos (by omega)) (nI_clamp (by omega)) (show n * 4 ≤ 536870912 by omega) hcs.1 hcs.2 hsz fun H1 cA e1 z1 o1 hAr hNm => ?_
  have hcA := xnewA (i := 0) C.2.2.2.2.2.2.2.2.1 rfl (fun C h => by cases h) hNm
  subst hcA
  have e4 : P.2.1 - P0.2.1 + n = P.2.1 + n - P0.2.1 := by have := hH.2.2.1; omega
  rw [e4]
  refine xNew (pc := pc + 2) (S := P.2.1 + n) he0 C hH hS hF hl' (Nat.le_add_right _ _) (by rw [z1, hsz]) (fun q hq => o1 q (by rw [← hsz]; exact hq)) ?_ kk
  rw [xcell_I (if_pos rfl)]
  show H1[cx.1 + P.1]? = some (vp_cell _ _)
  rw [e1, vp_cell_i]
  show _ = some (arrV _ _ (fun j => Value.int ((if P.1 + 1 = P.1 + 1 then (fun _ => 0) else τ.1 _) j)))
  rw [if_pos rfl]; rfl
theorem X_newZ {n : Nat} {i : Int32} (he0 : cx.2.1 = 0) (hd : decode M.2.1 pc = .ok (.newarray .boolean, 2)) (hp : pc + 2 = pc') (hw : Cond.arrayClass .boolean ∈ xtbl) (hi : i = nI n) (hn : n < 100000) (hcs : P.1 - P0.1 + 1 ≤ M.2.2.2.2.cells ∧ P.2.1 - P0.2.1 + n ≤ M.2.2.2.2.slots)
    (kk : X cx M P0 Q pc' lv (.ref (P.1 + 1) :: st) (P.1 + 1, P.2.1 + n, xly P.2.2 (P.1 + 1) (.inl (2, n))) (xz τ (P.1 + 1))) : X cx M P0 Q pc lv (.int i :: st) P τ := by
  subst hp; subst hi
  intro p l e s m args below meth c H locs ls C hH hS hF hl'
  have hts := xtbl_hts C.2.2.2.2.2.2.2.1
  have hsz : H.size = cx.1 + P.1 := by rw [hH.1.1, he0]; omega
  refine va_newaK (atype := .boolean) C.1 C.2.1 (hts _ hw) rfl hd rfl (nI_pos (by omega)) (nI_clamp (by omega)) (show n * 1 ≤ 536870912 by omega) hcs.1 hcs.2 hsz fun H1 cA e1 z1 o1 hAr hNm => ?_
  have hcA := xnewA (i := 2) C.2.2.2.2.2.2.2.2.1 rfl (fun C h => by cases h) hNm
  subst hcA
  have e4 : P.2.1 - P0.2.1 + n = P.2.1 + n - P0.2.1 := by have := hH.2.2.1; omega
  rw [e4]
  refine xNew (pc := pc + 2) (S := P.2.1 + n) he0 C hH hS hF hl' (Nat.le_add_right _ _) (by rw [z1, hsz]) (fun q hq => o1 q (by rw [← hsz]; exact hq)) ?_ kk
  rw [xcell_Z (if_pos rfl)]
  show H1[cx.1 + P.1]? = some (vp_cell _ _)
  rw [e1, vp_cell_i]
  show _ = some (arrV _ _ (fun j => Value.int ((if P.1 + 1 = P.1 + 1 then (fun _ => 0) else τ.1 _) j)))
  rw [if_pos rfl]; rfl
theorem X_newJ {n : Nat} {i : Int32} (he0 : cx.2.1 = 0) (hd : decode M.2.1 pc = .ok (.newarray .long, 2)) (hp : pc + 2 = pc') (hw : Cond.arrayClass .long ∈ xtbl) (hi : i = nI n) (hn : n < 100000) (hcs : P.1 - P0.1 + 1 ≤ M.2.2.2.2.cells ∧ P.2.1 - P0.2.1 + n ≤ M.2.2.2.2.slots)
    (kk : X cx M P0 Q pc' lv (.ref (P.1 + 1) :: st) (P.1 + 1, P.2.1 + n, xly P.2.2 (P.1 + 1) (.inl (1, n))) (xz τ (P.1 + 1))) : X cx M P0 Q pc lv (.int i :: st) P τ := by
  subst hp; subst hi
  intro p l e s m args below meth c H locs ls C hH hS hF hl'
  have hts := xtbl_hts C.2.2.2.2.2.2.2.1
  have hsz : H.size = cx.1 + P.1 := by rw [hH.1.1, he0]; omega
  refine va_newaK (atype := .long) C.1 C.2.1 (hts _ hw) rfl hd rfl (nI_pos (by omega)) (nI_clamp (by omega)) (show n * 8 ≤ 536870912 by omega) hcs.1 hcs.2 hsz fun H1 cA e1 z1 o1 hAr hNm => ?_
  have hcA := xnewA (i := 1) C.2.2.2.2.2.2.2.2.1 rfl (fun C h => by cases h) hNm
  subst hcA
  have e4 : P.2.1 - P0.2.1 + n = P.2.1 + n - P0.2.1 := by have := hH.2.2.1; omega
  rw [e4]
  refine xNew (pc := pc + 2) (S := P.2.1 + n) he0 C hH hS hF hl' (Nat.le_add_right _ _) (by rw [z1, hsz]) (fun q hq => o1 q (by rw [← hsz]; exact hq)) ?_ kk
  rw [xcell_J (if_pos rfl)]
  show H1[cx.1 + P.1]? = some (vp_cell _ _)
  rw [e1, vp_cell_l]
  show _ = some (arrV _ _ (fun j => Value.long ((if P.1 + 1 = P.1 + 1 then (fun _ => 0) else τ.2.1 _) j)))
  rw [if_pos rfl]; rfl
theorem X_newS {n : Nat} {i : Int32} (he0 : cx.2.1 = 0) (hd : decode M.2.1 pc = .ok (.anewarray idx, 3)) (hp : pc + 3 = pc') (hw : Cond.classLink M.1.cls idx "WaitedPost$Standing" ∈ xtbl) (hi : i = nI n) (hn : n < 100000) (hcs : P.1 - P0.1 + 1 ≤ M.2.2.2.2.cells ∧ P.2.1 - P0.2.1 + n ≤ M.2.2.2.2.slots)
    (kk : X cx M P0 Q pc' lv (.ref (P.1 + 1) :: st) (P.1 + 1, P.2.1 + n, xly P.2.2 (P.1 + 1) (.inl (3, n))) (xz τ (P.1 + 1))) : X cx M P0 Q pc lv (.int i :: st) P τ := by
  subst hp; subst hi
  intro p l e s m args below meth c H locs ls C hH hS hF hl'
  have hts := xtbl_hts C.2.2.2.2.2.2.2.1
  have hsz : H.size = cx.1 + P.1 := by rw [hH.1.1, he0]; omega
  refine W.anew C.1 C.2.1 C.2.2.2.2.2.1 (hts _ hw) (va_AO.use C.2.2.2.2.2.2.2.2.1.2.2.2.2) rfl hd rfl (nI_pos (by omega)) (show _ * 4 ≤ 536870912 by rw [nI_clamp (by omega)]; omega) hcs.1 (by rw [nI_clamp (by omega)]; exact hcs.2) fun cA kA comp f1 f2 f3 f4 => ?_
  rw [nI_clamp (by omega : n < 2 ^ 31)]
  have h3 := (C.2.2.2.2.2.2.2.2.1.1.2 3 _ rfl).2
  obtain ⟨_, _, -, -, -, g4⟩ := h3
  have hcA := Option.some.inj (f1.symm.trans g4)
  subst hcA
  have e4 : P.2.1 - P0.2.1 + n = P.2.1 + n - P0.2.1 := by have := hH.2.2.1; omega
  rw [e4, show (F0 m pc ls _).pc + 3 = pc + 3 from rfl, hsz]
  refine xNew (pc := pc + 3) (S := P.2.1 + n) he0 C hH hS hF hl' (Nat.le_add_right _ _) (by rw [Array.size_push]) (fun q hq => by rw [Array.getElem?_push, if_neg (Nat.ne_of_lt hq)]) ?_ kk
  rw [xcell_S (if_pos rfl)]
  show (H.push _)[cx.1 + P.1]? = some (vp_cell _ _)
  rw [← hsz, Array.getElem?_push_size, arrV_new, vp_cell_q]
  show some (arrV _ _ _) = some (arrV _ _ (fun j => va_rf (if (if P.1 + 1 = P.1 + 1 then (fun _ => 0) else τ.2.2 _) j = 0 then none else some _)))
  simp only [if_pos]; rfl
end XCL
end
section
theorem xq (i : Nat) {w : Cond} (h : tables_1[i]? = some w) (g : goodWord w = true) : w ∈ xtbl := List.mem_filter.mpr ⟨List.mem_append_right _ (List.mem_of_getElem? h), g⟩
theorem xq1 (i : Nat) {w : Cond} (h : tables_1_1[i]? = some w) (g : goodWord w = true) : w ∈ xtbl := List.mem_filter.mpr ⟨List.mem_append_right _ (List.mem_append_left _ (List.mem_of_getElem? h)), g⟩
theorem xq2 (i : Nat) {w : Cond} (h : tables_1_2[i]? = some w) (g : goodWord w = true) : w ∈ xtbl := List.mem_filter.mpr ⟨List.mem_append_right _ (List.mem_append_right _ (List.mem_append_left _ (List.mem_of_getElem? h))), g⟩
theorem xq3 (i : Nat) {w : Cond} (h : tables_1_3[i]? = some w) (g : goodWord w = true) : w ∈ xtbl := List.mem_filter.mpr ⟨List.mem_append_right _ (List.mem_append_right _ (List.mem_append_right _ (List.mem_append_left _ (List.mem_of_getElem? h)))), g⟩
theorem xq4 (i : Nat) {w : Cond} (h : tables_1_4[i]? = some w) (g : goodWord w = true) : w ∈ xtbl := List.mem_filter.mpr ⟨List.mem_append_right _ (List.mem_append_right _ (List.mem_append_right _ (List.mem_append_right _ (List.mem_of_getElem? h)))), g⟩
theorem xsubl {ws : List Cond} (is : List Nat) (h : ws.map some = is.map (fun i => tables_1[i]?)) (g : ws.all goodWord = true) : ∀ w ∈ ws, w ∈ xtbl := by
  intro w hw
  have h1 : some w ∈ is.map (fun i => tables_1[i]?) := by rw [← h]; exact List.mem_map.mpr ⟨w, hw, rfl⟩
  obtain ⟨i, -, hi⟩ := List.mem_map.mp h1
  exact xq i hi (List.all_eq_true.mp g w hw)
theorem xqs (i : Nat) {q : MethodName × Nat} (h : lw_privs[i]? = some q) (g : goodWord (Cond.selects q.1.cls q.1 q.1) = true) : Cond.selects q.1.cls q.1 q.1 ∈ xtbl := List.mem_filter.mpr ⟨List.mem_append_left _ (List.mem_map.mpr ⟨q, List.mem_of_getElem? h, rfl⟩), g⟩
theorem q_1 : (Jvm.Cond.initialized "WaitedPost") ∈ xtbl := xq1 1 (by decide +kernel) rfl
theorem q_2 : (Jvm.Cond.initialized "WaitedPost$Reader") ∈ xtbl := xq1 2 (by decide +kernel) rfl
theorem q_3 : (Jvm.Cond.initialized "WaitedPost$Told") ∈ xtbl := xq1 3 (by decide +kernel) rfl
theorem q_4 : (Jvm.Cond.initialized "WaitedPost$Standing") ∈ xtbl := xq1 4 (by decide +kernel) rfl
theorem q_5 : (Jvm.Cond.initialized "WaitedPost$Planner") ∈ xtbl := xq1 5 (by decide +kernel) rfl
theorem q_6 : (Jvm.Cond.initialized "WaitedPostModel") ∈ xtbl := xq1 6 (by decide +kernel) rfl
theorem q_7 : (Jvm.Cond.initialized "java/util/Arrays") ∈ xtbl := xq1 7 (by decide +kernel) rfl
theorem q_8 : (Jvm.Cond.initialized "java/lang/Math") ∈ xtbl := xq1 8 (by decide +kernel) rfl
theorem q_9 : (Jvm.Cond.initialized "java/lang/Integer") ∈ xtbl := xq1 9 (by decide +kernel) rfl
theorem q_10 : (Jvm.Cond.classLink "WaitedPostLaw" (7 : Nat) "WaitedPost") ∈ xtbl := xq1 10 (by decide +kernel) rfl
theorem q_11 : (Jvm.Cond.instantiable "WaitedPost" (13 : Nat)) ∈ xtbl := xq1 11 (by decide +kernel) rfl
theorem q_12 : (Jvm.Cond.methodLink "WaitedPostLaw" (9 : Nat) ({ cls := "WaitedPost", name := "<init>", desc := "()V" } : Jvm.MethodName)) ∈ xtbl := xq1 12 (by decide +kernel) rfl
theorem q_13 : (Jvm.Cond.instanceMethod ({ cls := "WaitedPost", name := "<init>", desc := "()V" } : Jvm.MethodName)) ∈ xtbl := xq1 13 (by decide +kernel) rfl
theorem q_14 : (Jvm.Cond.code ({ cls := "WaitedPost", name := "<init>", desc := "()V" } : Jvm.MethodName) prog_1_method_1_code (2 : Nat) (Option.none : Option Jvm.ClassFile.FieldType)) ∈ xtbl := xq1 14 (by decide +kernel) rfl
theorem q_15 : (Jvm.Cond.methodLink "WaitedPost" (1 : Nat) ({ cls := "java/lang/Object", name := "<init>", desc := "()V" } : Jvm.MethodName)) ∈ xtbl := xq1 15 (by decide +kernel) rfl
theorem q_16 : (Jvm.Cond.instanceMethod ({ cls := "java/lang/Object", name := "<init>", desc := "()V" } : Jvm.MethodName)) ∈ xtbl := xq1 16 (by decide +kernel) rfl
theorem q_17 : (Jvm.Cond.code ({ cls := "java/lang/Object", name := "<init>", desc := "()V" } : Jvm.MethodName) object_method_1_code (1 : Nat) (Option.none : Option Jvm.ClassFile.FieldType)) ∈ xtbl := xq1 17 (by decide +kernel) rfl
theorem q_18 : (Jvm.Cond.classLink "WaitedPost" (13 : Nat) "WaitedPost$Reader") ∈ xtbl := xq1 18 (by decide +kernel) rfl
theorem q_19 : (Jvm.Cond.instantiable "WaitedPost$Reader" (3 : Nat)) ∈ xtbl := xq1 19 (by decide +kernel) rfl
theorem q_20 : (Jvm.Cond.methodLink "WaitedPost" (15 : Nat) ({ cls := "WaitedPost$Reader", name := "<init>", desc := "()V" } : Jvm.MethodName)) ∈ xtbl := xq1 20 (by decide +kernel) rfl
theorem q_21 : (Jvm.Cond.instanceMethod ({ cls := "WaitedPost$Reader", name := "<init>", desc := "()V" } : Jvm.MethodName)) ∈ xtbl := xq1 21 (by decide +kernel) rfl
theorem q_22 : (Jvm.Cond.code ({ cls := "WaitedPost$Reader", name := "<init>", desc := "()V" } : Jvm.MethodName) prog_3_method_1_code (1 : Nat) (Option.none : Option Jvm.ClassFile.FieldType)) ∈ xtbl := xq1 22 (by decide +kernel) rfl
theorem q_23 : (Jvm.Cond.methodLink "WaitedPost$Reader" (3 : Nat) ({ cls := "java/lang/Object", name := "<init>", desc := "()V" } : Jvm.MethodName)) ∈ xtbl := xq1 23 (by decide +kernel) rfl
theorem q_24 : (Jvm.Cond.classLink "WaitedPost$Reader" (9 : Nat) "WaitedPost$Told") ∈ xtbl := xq1 24 (by decide +kernel) rfl
theorem q_25 : (Jvm.Cond.instantiable "WaitedPost$Told" (6 : Nat)) ∈ xtbl := xq1 25 (by decide +kernel) rfl
theorem q_26 : (Jvm.Cond.methodLink "WaitedPost$Reader" (11 : Nat) ({ cls := "WaitedPost$Told", name := "<init>", desc := "()V" } : Jvm.MethodName)) ∈ xtbl := xq1 26 (by decide +kernel) rfl
theorem q_27 : (Jvm.Cond.instanceMethod ({ cls := "WaitedPost$Told", name := "<init>", desc := "()V" } : Jvm.MethodName)) ∈ xtbl := xq1 27 (by decide +kernel) rfl
theorem q_28 : (Jvm.Cond.code ({ cls := "WaitedPost$Told", name := "<init>", desc := "()V" } : Jvm.MethodName) prog_5_method_1_code (1 : Nat) (Option.none : Option Jvm.ClassFile.FieldType)) ∈ xtbl := xq1 28 (by decide +kernel) rfl
theorem q_29 : (Jvm.Cond.methodLink "WaitedPost$Told" (3 : Nat) ({ cls := "java/lang/Object", name := "<init>", desc := "()V" } : Jvm.MethodName)) ∈ xtbl := xq1 29 (by decide +kernel) rfl
theorem q_30 : (Jvm.Cond.fieldLink "WaitedPost$Told" (25 : Nat) "WaitedPost$Told" "pardon" "I") ∈ xtbl := xq1 30 (by decide +kernel) rfl
theorem q_31 : (Jvm.Cond.fieldLink "WaitedPost$Reader" (50 : Nat) "WaitedPost$Told" "pardon" "I") ∈ xtbl := xq1 31 (by decide +kernel) rfl
theorem q_32 : (Jvm.Cond.fieldLink "WaitedPost" (214 : Nat) "WaitedPost$Told" "pardon" "I") ∈ xtbl := xq1 32 (by decide +kernel) rfl
theorem q_33 : (Jvm.Cond.fieldLink "WaitedPost$Told" (9 : Nat) "WaitedPost$Told" "room" "I") ∈ xtbl := xq1 33 (by decide +kernel) rfl
theorem q_34 : (Jvm.Cond.fieldLink "WaitedPost$Planner" (75 : Nat) "WaitedPost$Told" "room" "I") ∈ xtbl := xq1 34 (by decide +kernel) rfl
theorem q_35 : (Jvm.Cond.fieldLink "WaitedPost$Reader" (53 : Nat) "WaitedPost$Told" "room" "I") ∈ xtbl := xq1 35 (by decide +kernel) rfl
theorem q_36 : (Jvm.Cond.fieldLink "WaitedPost" (217 : Nat) "WaitedPost$Told" "room" "I") ∈ xtbl := xq1 36 (by decide +kernel) rfl
theorem q_37 : (Jvm.Cond.fieldLink "WaitedPost$Told" (28 : Nat) "WaitedPost$Told" "letters" "I") ∈ xtbl := xq1 37 (by decide +kernel) rfl
theorem q_38 : (Jvm.Cond.fieldLink "WaitedPost" (78 : Nat) "WaitedPost$Told" "letters" "I") ∈ xtbl := xq1 38 (by decide +kernel) rfl
theorem q_39 : (Jvm.Cond.fieldLink "WaitedPost$Reader" (56 : Nat) "WaitedPost$Told" "letters" "I") ∈ xtbl := xq1 39 (by decide +kernel) rfl
theorem q_40 : (Jvm.Cond.fieldLink "WaitedPost$Told" (15 : Nat) "WaitedPost$Told" "waited" "[I") ∈ xtbl := xq1 40 (by decide +kernel) rfl
theorem q_41 : (Jvm.Cond.fieldLink "WaitedPost$Standing" (40 : Nat) "WaitedPost$Told" "waited" "[I") ∈ xtbl := xq1 41 (by decide +kernel) rfl
theorem q_42 : (Jvm.Cond.fieldLink "WaitedPost$Told" (19 : Nat) "WaitedPost$Told" "kinds" "[I") ∈ xtbl := xq1 42 (by decide +kernel) rfl
theorem q_43 : (Jvm.Cond.fieldLink "WaitedPost" (92 : Nat) "WaitedPost$Told" "kinds" "[I") ∈ xtbl := xq1 43 (by decide +kernel) rfl
theorem q_44 : (Jvm.Cond.fieldLink "WaitedPost$Told" (22 : Nat) "WaitedPost$Told" "explainers" "[I") ∈ xtbl := xq1 44 (by decide +kernel) rfl
theorem q_45 : (Jvm.Cond.fieldLink "WaitedPost" (95 : Nat) "WaitedPost$Told" "explainers" "[I") ∈ xtbl := xq1 45 (by decide +kernel) rfl
theorem q_46 : (Jvm.Cond.fieldLink "WaitedPost$Reader" (77 : Nat) "WaitedPost$Told" "explainers" "[I") ∈ xtbl := xq1 46 (by decide +kernel) rfl
theorem q_60 : (Jvm.Cond.arrayClass Jvm.ClassFile.FieldType.int) ∈ xtbl := xq1 60 (by decide +kernel) rfl
theorem q_61 : (Jvm.Cond.fieldLink "WaitedPost$Reader" (12 : Nat) "WaitedPost$Reader" "draft" "LWaitedPost$Told;") ∈ xtbl := xq1 61 (by decide +kernel) rfl
theorem q_62 : (Jvm.Cond.fieldLink "WaitedPost" (62 : Nat) "WaitedPost$Reader" "draft" "LWaitedPost$Told;") ∈ xtbl := xq1 62 (by decide +kernel) rfl
theorem q_63 : (Jvm.Cond.fieldLink "WaitedPost$Reader" (21 : Nat) "WaitedPost$Reader" "step" "I") ∈ xtbl := xq1 63 (by decide +kernel) rfl
theorem q_64 : (Jvm.Cond.fieldLink "WaitedPost$Reader" (63 : Nat) "WaitedPost$Reader" "ahead" "I") ∈ xtbl := xq1 64 (by decide +kernel) rfl
theorem q_72 : (Jvm.Cond.classLink "WaitedPost" (20 : Nat) "WaitedPost$Told") ∈ xtbl := xq1 72 (by decide +kernel) rfl
theorem q_73 : (Jvm.Cond.methodLink "WaitedPost" (22 : Nat) ({ cls := "WaitedPost$Told", name := "<init>", desc := "()V" } : Jvm.MethodName)) ∈ xtbl := xq1 73 (by decide +kernel) rfl
theorem q_74 : (Jvm.Cond.classLink "WaitedPost" (27 : Nat) "WaitedPost$Standing") ∈ xtbl := xq1 74 (by decide +kernel) rfl
theorem q_75 : (Jvm.Cond.instantiable "WaitedPost$Standing" (7 : Nat)) ∈ xtbl := xq1 75 (by decide +kernel) rfl
theorem q_76 : (Jvm.Cond.methodLink "WaitedPost" (29 : Nat) ({ cls := "WaitedPost$Standing", name := "<init>", desc := "()V" } : Jvm.MethodName)) ∈ xtbl := xq1 76 (by decide +kernel) rfl
theorem q_77 : (Jvm.Cond.instanceMethod ({ cls := "WaitedPost$Standing", name := "<init>", desc := "()V" } : Jvm.MethodName)) ∈ xtbl := xq1 77 (by decide +kernel) rfl
theorem q_78 : (Jvm.Cond.code ({ cls := "WaitedPost$Standing", name := "<init>", desc := "()V" } : Jvm.MethodName) prog_4_method_1_code (1 : Nat) (Option.none : Option Jvm.ClassFile.FieldType)) ∈ xtbl := xq1 78 (by decide +kernel) rfl
theorem q_79 : (Jvm.Cond.methodLink "WaitedPost$Standing" (3 : Nat) ({ cls := "java/lang/Object", name := "<init>", desc := "()V" } : Jvm.MethodName)) ∈ xtbl := xq1 79 (by decide +kernel) rfl
theorem q_80 : (Jvm.Cond.fieldLink "WaitedPost$Standing" (18 : Nat) "WaitedPost$Standing" "today" "I") ∈ xtbl := xq1 80 (by decide +kernel) rfl
theorem q_81 : (Jvm.Cond.fieldLink "WaitedPost$Told" (71 : Nat) "WaitedPost$Standing" "today" "I") ∈ xtbl := xq1 81 (by decide +kernel) rfl
theorem q_82 : (Jvm.Cond.fieldLink "WaitedPost" (130 : Nat) "WaitedPost$Standing" "today" "I") ∈ xtbl := xq1 82 (by decide +kernel) rfl
theorem q_83 : (Jvm.Cond.fieldLink "WaitedPost$Standing" (22 : Nat) "WaitedPost$Standing" "sent" "I") ∈ xtbl := xq1 83 (by decide +kernel) rfl
theorem q_84 : (Jvm.Cond.fieldLink "WaitedPost$Planner" (63 : Nat) "WaitedPost$Standing" "sent" "I") ∈ xtbl := xq1 84 (by decide +kernel) rfl
theorem q_85 : (Jvm.Cond.fieldLink "WaitedPost" (98 : Nat) "WaitedPost$Standing" "sent" "I") ∈ xtbl := xq1 85 (by decide +kernel) rfl
theorem q_86 : (Jvm.Cond.fieldLink "WaitedPost$Standing" (25 : Nat) "WaitedPost$Standing" "sentToday" "I") ∈ xtbl := xq1 86 (by decide +kernel) rfl
theorem q_87 : (Jvm.Cond.fieldLink "WaitedPost$Planner" (23 : Nat) "WaitedPost$Standing" "sentToday" "I") ∈ xtbl := xq1 87 (by decide +kernel) rfl
theorem q_88 : (Jvm.Cond.fieldLink "WaitedPost" (220 : Nat) "WaitedPost$Standing" "sentToday" "I") ∈ xtbl := xq1 88 (by decide +kernel) rfl
theorem q_89 : (Jvm.Cond.fieldLink "WaitedPost$Standing" (28 : Nat) "WaitedPost$Standing" "torn" "I") ∈ xtbl := xq1 89 (by decide +kernel) rfl
theorem q_90 : (Jvm.Cond.fieldLink "WaitedPost$Told" (68 : Nat) "WaitedPost$Standing" "torn" "I") ∈ xtbl := xq1 90 (by decide +kernel) rfl
theorem q_91 : (Jvm.Cond.fieldLink "WaitedPost" (105 : Nat) "WaitedPost$Standing" "torn" "I") ∈ xtbl := xq1 91 (by decide +kernel) rfl
theorem q_92 : (Jvm.Cond.fieldLink "WaitedPost$Standing" (31 : Nat) "WaitedPost$Standing" "paid" "I") ∈ xtbl := xq1 92 (by decide +kernel) rfl
theorem q_93 : (Jvm.Cond.fieldLink "WaitedPost" (169 : Nat) "WaitedPost$Standing" "paid" "I") ∈ xtbl := xq1 93 (by decide +kernel) rfl
theorem q_94 : (Jvm.Cond.fieldLink "WaitedPost$Standing" (9 : Nat) "WaitedPost$Standing" "waited" "[I") ∈ xtbl := xq1 94 (by decide +kernel) rfl
theorem q_95 : (Jvm.Cond.fieldLink "WaitedPost$Told" (64 : Nat) "WaitedPost$Standing" "waited" "[I") ∈ xtbl := xq1 95 (by decide +kernel) rfl
theorem q_96 : (Jvm.Cond.fieldLink "WaitedPost" (85 : Nat) "WaitedPost$Standing" "waited" "[I") ∈ xtbl := xq1 96 (by decide +kernel) rfl
theorem q_97 : (Jvm.Cond.fieldLink "WaitedPost$Standing" (15 : Nat) "WaitedPost$Standing" "clocks" "[I") ∈ xtbl := xq1 97 (by decide +kernel) rfl
theorem q_98 : (Jvm.Cond.fieldLink "WaitedPost$Told" (53 : Nat) "WaitedPost$Standing" "clocks" "[I") ∈ xtbl := xq1 98 (by decide +kernel) rfl
theorem q_99 : (Jvm.Cond.fieldLink "WaitedPost" (108 : Nat) "WaitedPost$Standing" "clocks" "[I") ∈ xtbl := xq1 99 (by decide +kernel) rfl
theorem q_116 : (Jvm.Cond.classLink "WaitedPost" (47 : Nat) "WaitedPost$Planner") ∈ xtbl := xq1 116 (by decide +kernel) rfl
theorem q_117 : (Jvm.Cond.instantiable "WaitedPost$Planner" (1 : Nat)) ∈ xtbl := xq1 117 (by decide +kernel) rfl
theorem q_118 : (Jvm.Cond.methodLink "WaitedPost" (49 : Nat) ({ cls := "WaitedPost$Planner", name := "<init>", desc := "()V" } : Jvm.MethodName)) ∈ xtbl := xq1 118 (by decide +kernel) rfl
theorem q_119 : (Jvm.Cond.instanceMethod ({ cls := "WaitedPost$Planner", name := "<init>", desc := "()V" } : Jvm.MethodName)) ∈ xtbl := xq1 119 (by decide +kernel) rfl
theorem q_120 : (Jvm.Cond.code ({ cls := "WaitedPost$Planner", name := "<init>", desc := "()V" } : Jvm.MethodName) prog_2_method_1_code (1 : Nat) (Option.none : Option Jvm.ClassFile.FieldType)) ∈ xtbl := xq1 120 (by decide +kernel) rfl
theorem q_121 : (Jvm.Cond.methodLink "WaitedPost$Planner" (3 : Nat) ({ cls := "java/lang/Object", name := "<init>", desc := "()V" } : Jvm.MethodName)) ∈ xtbl := xq1 121 (by decide +kernel) rfl
theorem q_122 : (Jvm.Cond.fieldLink "WaitedPost$Planner" (11 : Nat) "WaitedPost$Planner" "best" "[J") ∈ xtbl := xq1 122 (by decide +kernel) rfl
theorem q_126 : (Jvm.Cond.arrayClass Jvm.ClassFile.FieldType.long) ∈ xtbl := xq1 126 (by decide +kernel) rfl
theorem q_127 : (Jvm.Cond.fieldLink "WaitedPost" (9 : Nat) "WaitedPost" "text" "[I") ∈ xtbl := xq1 127 (by decide +kernel) rfl
theorem q_128 : (Jvm.Cond.fieldLink "WaitedPost" (54 : Nat) "WaitedPost" "length" "I") ∈ xtbl := xq1 128 (by decide +kernel) rfl
theorem q_129 : (Jvm.Cond.fieldLink "WaitedPost" (16 : Nat) "WaitedPost" "reader" "LWaitedPost$Reader;") ∈ xtbl := xq1 129 (by decide +kernel) rfl
theorem q_130 : (Jvm.Cond.fieldLink "WaitedPost" (23 : Nat) "WaitedPost" "told" "LWaitedPost$Told;") ∈ xtbl := xq1 130 (by decide +kernel) rfl
theorem q_131 : (Jvm.Cond.fieldLink "WaitedPost" (30 : Nat) "WaitedPost" "now" "LWaitedPost$Standing;") ∈ xtbl := xq1 131 (by decide +kernel) rfl
theorem q_132 : (Jvm.Cond.fieldLink "WaitedPost" (34 : Nat) "WaitedPost" "trial" "LWaitedPost$Standing;") ∈ xtbl := xq1 132 (by decide +kernel) rfl
theorem q_133 : (Jvm.Cond.fieldLink "WaitedPost" (37 : Nat) "WaitedPost" "acts" "[LWaitedPost$Standing;") ∈ xtbl := xq1 133 (by decide +kernel) rfl
theorem q_134 : (Jvm.Cond.fieldLink "WaitedPost" (72 : Nat) "WaitedPost" "actCount" "I") ∈ xtbl := xq1 134 (by decide +kernel) rfl
theorem q_135 : (Jvm.Cond.fieldLink "WaitedPost" (41 : Nat) "WaitedPost" "kept" "[LWaitedPost$Standing;") ∈ xtbl := xq1 135 (by decide +kernel) rfl
theorem q_136 : (Jvm.Cond.fieldLink "WaitedPost" (75 : Nat) "WaitedPost" "keptSlots" "I") ∈ xtbl := xq1 136 (by decide +kernel) rfl
theorem q_137 : (Jvm.Cond.fieldLink "WaitedPost" (44 : Nat) "WaitedPost" "figures" "[I") ∈ xtbl := xq1 137 (by decide +kernel) rfl
theorem q_138 : (Jvm.Cond.fieldLink "WaitedPost" (50 : Nat) "WaitedPost" "planner" "LWaitedPost$Planner;") ∈ xtbl := xq1 138 (by decide +kernel) rfl
theorem q_139 : (Jvm.Cond.fieldLink "WaitedPost" (206 : Nat) "WaitedPost" "chance" "J") ∈ xtbl := xq1 139 (by decide +kernel) rfl
theorem q_167 : (Jvm.Cond.methodLink "WaitedPostLaw" (13 : Nat) ({ cls := "WaitedPost", name := "write", desc := "(I)I" } : Jvm.MethodName)) ∈ xtbl := xq1 167 (by decide +kernel) rfl
theorem q_168 : (Jvm.Cond.instanceMethod ({ cls := "WaitedPost", name := "write", desc := "(I)I" } : Jvm.MethodName)) ∈ xtbl := xq1 168 (by decide +kernel) rfl
theorem q_169 : (Jvm.Cond.selects "WaitedPost" ({ cls := "WaitedPost", name := "write", desc := "(I)I" } : Jvm.MethodName) ({ cls := "WaitedPost", name := "write", desc := "(I)I" } : Jvm.MethodName)) ∈ xtbl := xq1 169 (by decide +kernel) rfl
theorem q_170 : (Jvm.Cond.code ({ cls := "WaitedPost", name := "write", desc := "(I)I" } : Jvm.MethodName) prog_1_method_2_code (2 : Nat) (Option.some Jvm.ClassFile.FieldType.int)) ∈ xtbl := xq1 170 (by decide +kernel) rfl
theorem q_171 : (Jvm.Cond.methodLink "WaitedPostLaw" (18 : Nat) ({ cls := "WaitedPost", name := "wipe", desc := "()I" } : Jvm.MethodName)) ∈ xtbl := xq1 171 (by decide +kernel) rfl
theorem q_172 : (Jvm.Cond.instanceMethod ({ cls := "WaitedPost", name := "wipe", desc := "()I" } : Jvm.MethodName)) ∈ xtbl := xq1 172 (by decide +kernel) rfl
theorem q_173 : (Jvm.Cond.selects "WaitedPost" ({ cls := "WaitedPost", name := "wipe", desc := "()I" } : Jvm.MethodName) ({ cls := "WaitedPost", name := "wipe", desc := "()I" } : Jvm.MethodName)) ∈ xtbl := xq1 173 (by decide +kernel) rfl
theorem q_174 : (Jvm.Cond.code ({ cls := "WaitedPost", name := "wipe", desc := "()I" } : Jvm.MethodName) prog_1_method_3_code (2 : Nat) (Option.some Jvm.ClassFile.FieldType.int)) ∈ xtbl := xq1 174 (by decide +kernel) rfl
theorem q_175 : (Jvm.Cond.methodLink "WaitedPostLaw" (23 : Nat) ({ cls := "WaitedPost", name := "fault", desc := "()I" } : Jvm.MethodName)) ∈ xtbl := xq1 175 (by decide +kernel) rfl
theorem q_176 : (Jvm.Cond.instanceMethod ({ cls := "WaitedPost", name := "fault", desc := "()I" } : Jvm.MethodName)) ∈ xtbl := xq1 176 (by decide +kernel) rfl
theorem q_177 : (Jvm.Cond.selects "WaitedPost" ({ cls := "WaitedPost", name := "fault", desc := "()I" } : Jvm.MethodName) ({ cls := "WaitedPost", name := "fault", desc := "()I" } : Jvm.MethodName)) ∈ xtbl := xq1 177 (by decide +kernel) rfl
theorem q_178 : (Jvm.Cond.code ({ cls := "WaitedPost", name := "fault", desc := "()I" } : Jvm.MethodName) prog_1_method_4_code (1 : Nat) (Option.some Jvm.ClassFile.FieldType.int)) ∈ xtbl := xq1 178 (by decide +kernel) rfl
theorem q_179 : (Jvm.Cond.methodLink "WaitedPost" (58 : Nat) ({ cls := "WaitedPost", name := "readText", desc := "()I" } : Jvm.MethodName)) ∈ xtbl := xq1 179 (by decide +kernel) rfl
theorem q_181 : (Jvm.Cond.instanceMethod ({ cls := "WaitedPost", name := "readText", desc := "()I" } : Jvm.MethodName)) ∈ xtbl := xq1 181 (by decide +kernel) rfl
theorem q_182 : (Jvm.Cond.code ({ cls := "WaitedPost", name := "readText", desc := "()I" } : Jvm.MethodName) prog_1_method_28_code (2 : Nat) (Option.some Jvm.ClassFile.FieldType.int)) ∈ xtbl := xq1 182 (by decide +kernel) rfl
theorem q_183 : (Jvm.Cond.methodLink "WaitedPost" (226 : Nat) ({ cls := "WaitedPost$Reader", name := "begin", desc := "()V" } : Jvm.MethodName)) ∈ xtbl := xq1 183 (by decide +kernel) rfl
theorem q_184 : (Jvm.Cond.instanceMethod ({ cls := "WaitedPost$Reader", name := "begin", desc := "()V" } : Jvm.MethodName)) ∈ xtbl := xq1 184 (by decide +kernel) rfl
theorem q_185 : (Jvm.Cond.selects "WaitedPost$Reader" ({ cls := "WaitedPost$Reader", name := "begin", desc := "()V" } : Jvm.MethodName) ({ cls := "WaitedPost$Reader", name := "begin", desc := "()V" } : Jvm.MethodName)) ∈ xtbl := xq1 185 (by decide +kernel) rfl
theorem q_186 : (Jvm.Cond.code ({ cls := "WaitedPost$Reader", name := "begin", desc := "()V" } : Jvm.MethodName) prog_3_method_2_code (1 : Nat) (Option.none : Option Jvm.ClassFile.FieldType)) ∈ xtbl := xq1 186 (by decide +kernel) rfl
theorem q_187 : (Jvm.Cond.methodLink "WaitedPost$Reader" (18 : Nat) ({ cls := "WaitedPost$Told", name := "clear", desc := "()V" } : Jvm.MethodName)) ∈ xtbl := xq1 187 (by decide +kernel) rfl
theorem q_188 : (Jvm.Cond.instanceMethod ({ cls := "WaitedPost$Told", name := "clear", desc := "()V" } : Jvm.MethodName)) ∈ xtbl := xq1 188 (by decide +kernel) rfl
theorem q_189 : (Jvm.Cond.selects "WaitedPost$Told" ({ cls := "WaitedPost$Told", name := "clear", desc := "()V" } : Jvm.MethodName) ({ cls := "WaitedPost$Told", name := "clear", desc := "()V" } : Jvm.MethodName)) ∈ xtbl := xq1 189 (by decide +kernel) rfl
theorem q_190 : (Jvm.Cond.code ({ cls := "WaitedPost$Told", name := "clear", desc := "()V" } : Jvm.MethodName) prog_5_method_2_code (1 : Nat) (Option.none : Option Jvm.ClassFile.FieldType)) ∈ xtbl := xq1 190 (by decide +kernel) rfl
theorem q_191 : (Jvm.Cond.methodLink "WaitedPost$Told" (31 : Nat) ({ cls := "java/util/Arrays", name := "fill", desc := "([II)V" } : Jvm.MethodName)) ∈ xtbl := xq1 191 (by decide +kernel) rfl
theorem q_192 : (Jvm.Cond.static ({ cls := "java/util/Arrays", name := "fill", desc := "([II)V" } : Jvm.MethodName)) ∈ xtbl := xq1 192 (by decide +kernel) rfl
theorem q_193 : (Jvm.Cond.code ({ cls := "java/util/Arrays", name := "fill", desc := "([II)V" } : Jvm.MethodName) prog_10_method_103_code (4 : Nat) (Option.none : Option Jvm.ClassFile.FieldType)) ∈ xtbl := xq1 193 (by decide +kernel) rfl
theorem q_194 : (Jvm.Cond.methodLink "WaitedPost" (228 : Nat) ({ cls := "WaitedPost$Reader", name := "takes", desc := "(I)Z" } : Jvm.MethodName)) ∈ xtbl := xq1 194 (by decide +kernel) rfl
theorem q_195 : (Jvm.Cond.instanceMethod ({ cls := "WaitedPost$Reader", name := "takes", desc := "(I)Z" } : Jvm.MethodName)) ∈ xtbl := xq1 195 (by decide +kernel) rfl
theorem q_196 : (Jvm.Cond.selects "WaitedPost$Reader" ({ cls := "WaitedPost$Reader", name := "takes", desc := "(I)Z" } : Jvm.MethodName) ({ cls := "WaitedPost$Reader", name := "takes", desc := "(I)Z" } : Jvm.MethodName)) ∈ xtbl := xq1 196 (by decide +kernel) rfl
theorem q_197 : (Jvm.Cond.code ({ cls := "WaitedPost$Reader", name := "takes", desc := "(I)Z" } : Jvm.MethodName) prog_3_method_4_code (3 : Nat) (Option.some Jvm.ClassFile.FieldType.boolean)) ∈ xtbl := xq1 197 (by decide +kernel) rfl
theorem q_198 : (Jvm.Cond.methodLink "WaitedPost$Reader" (25 : Nat) ({ cls := "WaitedPost$Reader", name := "takesHead", desc := "(I)Z" } : Jvm.MethodName)) ∈ xtbl := xq1 198 (by decide +kernel) rfl
theorem q_200 : (Jvm.Cond.instanceMethod ({ cls := "WaitedPost$Reader", name := "takesHead", desc := "(I)Z" } : Jvm.MethodName)) ∈ xtbl := xq1 200 (by decide +kernel) rfl
theorem q_201 : (Jvm.Cond.code ({ cls := "WaitedPost$Reader", name := "takesHead", desc := "(I)Z" } : Jvm.MethodName) prog_3_method_5_code (2 : Nat) (Option.some Jvm.ClassFile.FieldType.boolean)) ∈ xtbl := xq1 201 (by decide +kernel) rfl
theorem q_202 : (Jvm.Cond.methodLink "WaitedPost$Reader" (29 : Nat) ({ cls := "WaitedPost$Reader", name := "takesPardon", desc := "(I)Z" } : Jvm.MethodName)) ∈ xtbl := xq1 202 (by decide +kernel) rfl
theorem q_204 : (Jvm.Cond.instanceMethod ({ cls := "WaitedPost$Reader", name := "takesPardon", desc := "(I)Z" } : Jvm.MethodName)) ∈ xtbl := xq1 204 (by decide +kernel) rfl
theorem q_205 : (Jvm.Cond.code ({ cls := "WaitedPost$Reader", name := "takesPardon", desc := "(I)Z" } : Jvm.MethodName) prog_3_method_6_code (2 : Nat) (Option.some Jvm.ClassFile.FieldType.boolean)) ∈ xtbl := xq1 205 (by decide +kernel) rfl
theorem q_206 : (Jvm.Cond.methodLink "WaitedPost$Reader" (32 : Nat) ({ cls := "WaitedPost$Reader", name := "takesRoom", desc := "(I)Z" } : Jvm.MethodName)) ∈ xtbl := xq1 206 (by decide +kernel) rfl
theorem q_208 : (Jvm.Cond.instanceMethod ({ cls := "WaitedPost$Reader", name := "takesRoom", desc := "(I)Z" } : Jvm.MethodName)) ∈ xtbl := xq1 208 (by decide +kernel) rfl
theorem q_209 : (Jvm.Cond.code ({ cls := "WaitedPost$Reader", name := "takesRoom", desc := "(I)Z" } : Jvm.MethodName) prog_3_method_7_code (2 : Nat) (Option.some Jvm.ClassFile.FieldType.boolean)) ∈ xtbl := xq1 209 (by decide +kernel) rfl
theorem q_210 : (Jvm.Cond.methodLink "WaitedPost$Reader" (35 : Nat) ({ cls := "WaitedPost$Reader", name := "takesPart", desc := "(I)Z" } : Jvm.MethodName)) ∈ xtbl := xq1 210 (by decide +kernel) rfl
theorem q_212 : (Jvm.Cond.instanceMethod ({ cls := "WaitedPost$Reader", name := "takesPart", desc := "(I)Z" } : Jvm.MethodName)) ∈ xtbl := xq1 212 (by decide +kernel) rfl
theorem q_213 : (Jvm.Cond.code ({ cls := "WaitedPost$Reader", name := "takesPart", desc := "(I)Z" } : Jvm.MethodName) prog_3_method_8_code (2 : Nat) (Option.some Jvm.ClassFile.FieldType.boolean)) ∈ xtbl := xq1 213 (by decide +kernel) rfl
theorem q_214 : (Jvm.Cond.methodLink "WaitedPost$Reader" (59 : Nat) ({ cls := "WaitedPost$Reader", name := "hasOpenPair", desc := "()Z" } : Jvm.MethodName)) ∈ xtbl := xq1 214 (by decide +kernel) rfl
theorem q_216 : (Jvm.Cond.instanceMethod ({ cls := "WaitedPost$Reader", name := "hasOpenPair", desc := "()Z" } : Jvm.MethodName)) ∈ xtbl := xq1 216 (by decide +kernel) rfl
theorem q_217 : (Jvm.Cond.code ({ cls := "WaitedPost$Reader", name := "hasOpenPair", desc := "()Z" } : Jvm.MethodName) prog_3_method_14_code (2 : Nat) (Option.some Jvm.ClassFile.FieldType.boolean)) ∈ xtbl := xq1 217 (by decide +kernel) rfl
theorem q_218 : (Jvm.Cond.methodLink "WaitedPost$Reader" (74 : Nat) ({ cls := "WaitedPost$Reader", name := "isOpen", desc := "(I)Z" } : Jvm.MethodName)) ∈ xtbl := xq1 218 (by decide +kernel) rfl
theorem q_220 : (Jvm.Cond.instanceMethod ({ cls := "WaitedPost$Reader", name := "isOpen", desc := "(I)Z" } : Jvm.MethodName)) ∈ xtbl := xq1 220 (by decide +kernel) rfl
theorem q_221 : (Jvm.Cond.code ({ cls := "WaitedPost$Reader", name := "isOpen", desc := "(I)Z" } : Jvm.MethodName) prog_3_method_13_code (2 : Nat) (Option.some Jvm.ClassFile.FieldType.boolean)) ∈ xtbl := xq1 221 (by decide +kernel) rfl
theorem q_222 : (Jvm.Cond.methodLink "WaitedPost$Reader" (96 : Nat) ({ cls := "WaitedPost$Told", name := "explainedBy", desc := "(I)I" } : Jvm.MethodName)) ∈ xtbl := xq1 222 (by decide +kernel) rfl
theorem q_223 : (Jvm.Cond.instanceMethod ({ cls := "WaitedPost$Told", name := "explainedBy", desc := "(I)I" } : Jvm.MethodName)) ∈ xtbl := xq1 223 (by decide +kernel) rfl
theorem q_224 : (Jvm.Cond.selects "WaitedPost$Told" ({ cls := "WaitedPost$Told", name := "explainedBy", desc := "(I)I" } : Jvm.MethodName) ({ cls := "WaitedPost$Told", name := "explainedBy", desc := "(I)I" } : Jvm.MethodName)) ∈ xtbl := xq1 224 (by decide +kernel) rfl
theorem q_225 : (Jvm.Cond.code ({ cls := "WaitedPost$Told", name := "explainedBy", desc := "(I)I" } : Jvm.MethodName) prog_5_method_5_code (4 : Nat) (Option.some Jvm.ClassFile.FieldType.int)) ∈ xtbl := xq1 225 (by decide +kernel) rfl
theorem q_227 : (Jvm.Cond.static ({ cls := "WaitedPost", name := "at", desc := "([II)I" } : Jvm.MethodName)) ∈ xtbl := xq1 227 (by decide +kernel) rfl
theorem q_228 : (Jvm.Cond.code ({ cls := "WaitedPost", name := "at", desc := "([II)I" } : Jvm.MethodName) prog_1_method_46_code (2 : Nat) (Option.some Jvm.ClassFile.FieldType.int)) ∈ xtbl := xq1 228 (by decide +kernel) rfl
theorem q_230 : (Jvm.Cond.static ({ cls := "WaitedPost", name := "has", desc := "(II)Z" } : Jvm.MethodName)) ∈ xtbl := xq1 230 (by decide +kernel) rfl
theorem q_231 : (Jvm.Cond.code ({ cls := "WaitedPost", name := "has", desc := "(II)Z" } : Jvm.MethodName) prog_1_method_44_code (2 : Nat) (Option.some Jvm.ClassFile.FieldType.boolean)) ∈ xtbl := xq1 231 (by decide +kernel) rfl
theorem q_232 : (Jvm.Cond.methodLink "WaitedPost$Reader" (38 : Nat) ({ cls := "WaitedPost$Reader", name := "takesWaited", desc := "(I)Z" } : Jvm.MethodName)) ∈ xtbl := xq1 232 (by decide +kernel) rfl
theorem q_234 : (Jvm.Cond.instanceMethod ({ cls := "WaitedPost$Reader", name := "takesWaited", desc := "(I)Z" } : Jvm.MethodName)) ∈ xtbl := xq1 234 (by decide +kernel) rfl
theorem q_235 : (Jvm.Cond.code ({ cls := "WaitedPost$Reader", name := "takesWaited", desc := "(I)Z" } : Jvm.MethodName) prog_3_method_9_code (2 : Nat) (Option.some Jvm.ClassFile.FieldType.boolean)) ∈ xtbl := xq1 235 (by decide +kernel) rfl
theorem q_236 : (Jvm.Cond.methodLink "WaitedPost$Reader" (41 : Nat) ({ cls := "WaitedPost$Reader", name := "takesKind", desc := "(I)Z" } : Jvm.MethodName)) ∈ xtbl := xq1 236 (by decide +kernel) rfl
theorem q_238 : (Jvm.Cond.instanceMethod ({ cls := "WaitedPost$Reader", name := "takesKind", desc := "(I)Z" } : Jvm.MethodName)) ∈ xtbl := xq1 238 (by decide +kernel) rfl
theorem q_239 : (Jvm.Cond.code ({ cls := "WaitedPost$Reader", name := "takesKind", desc := "(I)Z" } : Jvm.MethodName) prog_3_method_10_code (2 : Nat) (Option.some Jvm.ClassFile.FieldType.boolean)) ∈ xtbl := xq1 239 (by decide +kernel) rfl
theorem q_242 : (Jvm.Cond.methodLink "WaitedPost$Reader" (70 : Nat) ({ cls := "WaitedPost$Told", name := "addLetter", desc := "(II)V" } : Jvm.MethodName)) ∈ xtbl := xq2 2 (by decide +kernel) rfl
theorem q_243 : (Jvm.Cond.instanceMethod ({ cls := "WaitedPost$Told", name := "addLetter", desc := "(II)V" } : Jvm.MethodName)) ∈ xtbl := xq2 3 (by decide +kernel) rfl
theorem q_244 : (Jvm.Cond.selects "WaitedPost$Told" ({ cls := "WaitedPost$Told", name := "addLetter", desc := "(II)V" } : Jvm.MethodName) ({ cls := "WaitedPost$Told", name := "addLetter", desc := "(II)V" } : Jvm.MethodName)) ∈ xtbl := xq2 4 (by decide +kernel) rfl
theorem q_245 : (Jvm.Cond.code ({ cls := "WaitedPost$Told", name := "addLetter", desc := "(II)V" } : Jvm.MethodName) prog_5_method_4_code (3 : Nat) (Option.none : Option Jvm.ClassFile.FieldType)) ∈ xtbl := xq2 5 (by decide +kernel) rfl
theorem q_247 : (Jvm.Cond.static ({ cls := "WaitedPost", name := "put", desc := "([III)V" } : Jvm.MethodName)) ∈ xtbl := xq2 7 (by decide +kernel) rfl
theorem q_248 : (Jvm.Cond.code ({ cls := "WaitedPost", name := "put", desc := "([III)V" } : Jvm.MethodName) prog_1_method_47_code (3 : Nat) (Option.none : Option Jvm.ClassFile.FieldType)) ∈ xtbl := xq2 8 (by decide +kernel) rfl
theorem q_249 : (Jvm.Cond.methodLink "WaitedPost$Reader" (44 : Nat) ({ cls := "WaitedPost$Reader", name := "takesExplainer", desc := "(I)Z" } : Jvm.MethodName)) ∈ xtbl := xq2 9 (by decide +kernel) rfl
theorem q_251 : (Jvm.Cond.instanceMethod ({ cls := "WaitedPost$Reader", name := "takesExplainer", desc := "(I)Z" } : Jvm.MethodName)) ∈ xtbl := xq2 11 (by decide +kernel) rfl
theorem q_252 : (Jvm.Cond.code ({ cls := "WaitedPost$Reader", name := "takesExplainer", desc := "(I)Z" } : Jvm.MethodName) prog_3_method_11_code (2 : Nat) (Option.some Jvm.ClassFile.FieldType.boolean)) ∈ xtbl := xq2 12 (by decide +kernel) rfl
theorem q_253 : (Jvm.Cond.methodLink "WaitedPost$Reader" (47 : Nat) ({ cls := "WaitedPost$Reader", name := "takesExplained", desc := "(I)Z" } : Jvm.MethodName)) ∈ xtbl := xq2 13 (by decide +kernel) rfl
theorem q_255 : (Jvm.Cond.instanceMethod ({ cls := "WaitedPost$Reader", name := "takesExplained", desc := "(I)Z" } : Jvm.MethodName)) ∈ xtbl := xq2 15 (by decide +kernel) rfl
theorem q_256 : (Jvm.Cond.code ({ cls := "WaitedPost$Reader", name := "takesExplained", desc := "(I)Z" } : Jvm.MethodName) prog_3_method_12_code (3 : Nat) (Option.some Jvm.ClassFile.FieldType.boolean)) ∈ xtbl := xq2 16 (by decide +kernel) rfl
theorem q_260 : (Jvm.Cond.static ({ cls := "WaitedPost", name := "bit", desc := "(I)I" } : Jvm.MethodName)) ∈ xtbl := xq2 20 (by decide +kernel) rfl
theorem q_261 : (Jvm.Cond.code ({ cls := "WaitedPost", name := "bit", desc := "(I)I" } : Jvm.MethodName) prog_1_method_43_code (1 : Nat) (Option.some Jvm.ClassFile.FieldType.int)) ∈ xtbl := xq2 21 (by decide +kernel) rfl
theorem q_263 : (Jvm.Cond.methodLink "WaitedPost" (231 : Nat) ({ cls := "WaitedPost$Reader", name := "mayEnd", desc := "()Z" } : Jvm.MethodName)) ∈ xtbl := xq2 23 (by decide +kernel) rfl
theorem q_264 : (Jvm.Cond.instanceMethod ({ cls := "WaitedPost$Reader", name := "mayEnd", desc := "()Z" } : Jvm.MethodName)) ∈ xtbl := xq2 24 (by decide +kernel) rfl
theorem q_265 : (Jvm.Cond.selects "WaitedPost$Reader" ({ cls := "WaitedPost$Reader", name := "mayEnd", desc := "()Z" } : Jvm.MethodName) ({ cls := "WaitedPost$Reader", name := "mayEnd", desc := "()Z" } : Jvm.MethodName)) ∈ xtbl := xq2 25 (by decide +kernel) rfl
theorem q_266 : (Jvm.Cond.code ({ cls := "WaitedPost$Reader", name := "mayEnd", desc := "()Z" } : Jvm.MethodName) prog_3_method_3_code (1 : Nat) (Option.some Jvm.ClassFile.FieldType.boolean)) ∈ xtbl := xq2 26 (by decide +kernel) rfl
theorem q_267 : (Jvm.Cond.methodLink "WaitedPostLaw" (27 : Nat) ({ cls := "WaitedPost", name := "post", desc := "()I" } : Jvm.MethodName)) ∈ xtbl := xq2 27 (by decide +kernel) rfl
theorem q_268 : (Jvm.Cond.instanceMethod ({ cls := "WaitedPost", name := "post", desc := "()I" } : Jvm.MethodName)) ∈ xtbl := xq2 28 (by decide +kernel) rfl
theorem q_269 : (Jvm.Cond.selects "WaitedPost" ({ cls := "WaitedPost", name := "post", desc := "()I" } : Jvm.MethodName) ({ cls := "WaitedPost", name := "post", desc := "()I" } : Jvm.MethodName)) ∈ xtbl := xq2 29 (by decide +kernel) rfl
theorem q_270 : (Jvm.Cond.code ({ cls := "WaitedPost", name := "post", desc := "()I" } : Jvm.MethodName) prog_1_method_5_code (1 : Nat) (Option.some Jvm.ClassFile.FieldType.int)) ∈ xtbl := xq2 30 (by decide +kernel) rfl
theorem q_271 : (Jvm.Cond.methodLink "WaitedPost" (65 : Nat) ({ cls := "WaitedPost$Told", name := "take", desc := "(LWaitedPost$Told;)V" } : Jvm.MethodName)) ∈ xtbl := xq2 31 (by decide +kernel) rfl
theorem q_272 : (Jvm.Cond.instanceMethod ({ cls := "WaitedPost$Told", name := "take", desc := "(LWaitedPost$Told;)V" } : Jvm.MethodName)) ∈ xtbl := xq2 32 (by decide +kernel) rfl
theorem q_273 : (Jvm.Cond.selects "WaitedPost$Told" ({ cls := "WaitedPost$Told", name := "take", desc := "(LWaitedPost$Told;)V" } : Jvm.MethodName) ({ cls := "WaitedPost$Told", name := "take", desc := "(LWaitedPost$Told;)V" } : Jvm.MethodName)) ∈ xtbl := xq2 33 (by decide +kernel) rfl
theorem q_274 : (Jvm.Cond.code ({ cls := "WaitedPost$Told", name := "take", desc := "(LWaitedPost$Told;)V" } : Jvm.MethodName) prog_5_method_3_code (2 : Nat) (Option.none : Option Jvm.ClassFile.FieldType)) ∈ xtbl := xq2 34 (by decide +kernel) rfl
theorem q_276 : (Jvm.Cond.static ({ cls := "WaitedPost", name := "copyRow", desc := "([I[I)V" } : Jvm.MethodName)) ∈ xtbl := xq2 36 (by decide +kernel) rfl
theorem q_277 : (Jvm.Cond.code ({ cls := "WaitedPost", name := "copyRow", desc := "([I[I)V" } : Jvm.MethodName) prog_1_method_48_code (3 : Nat) (Option.none : Option Jvm.ClassFile.FieldType)) ∈ xtbl := xq2 37 (by decide +kernel) rfl
theorem q_278 : (Jvm.Cond.methodLink "WaitedPost" (69 : Nat) ({ cls := "WaitedPost$Standing", name := "begin", desc := "(LWaitedPost$Told;)V" } : Jvm.MethodName)) ∈ xtbl := xq2 38 (by decide +kernel) rfl
theorem q_279 : (Jvm.Cond.instanceMethod ({ cls := "WaitedPost$Standing", name := "begin", desc := "(LWaitedPost$Told;)V" } : Jvm.MethodName)) ∈ xtbl := xq2 39 (by decide +kernel) rfl
theorem q_280 : (Jvm.Cond.selects "WaitedPost$Standing" ({ cls := "WaitedPost$Standing", name := "begin", desc := "(LWaitedPost$Told;)V" } : Jvm.MethodName) ({ cls := "WaitedPost$Standing", name := "begin", desc := "(LWaitedPost$Told;)V" } : Jvm.MethodName)) ∈ xtbl := xq2 40 (by decide +kernel) rfl
theorem q_281 : (Jvm.Cond.code ({ cls := "WaitedPost$Standing", name := "begin", desc := "(LWaitedPost$Told;)V" } : Jvm.MethodName) prog_4_method_2_code (2 : Nat) (Option.none : Option Jvm.ClassFile.FieldType)) ∈ xtbl := xq2 41 (by decide +kernel) rfl
theorem q_282 : (Jvm.Cond.methodLink "WaitedPost$Standing" (34 : Nat) ({ cls := "java/util/Arrays", name := "fill", desc := "([II)V" } : Jvm.MethodName)) ∈ xtbl := xq2 42 (by decide +kernel) rfl
theorem q_284 : (Jvm.Cond.methodLink "WaitedPostLaw" (31 : Nat) ({ cls := "WaitedPost", name := "letter", desc := "(II)I" } : Jvm.MethodName)) ∈ xtbl := xq2 44 (by decide +kernel) rfl
theorem q_285 : (Jvm.Cond.instanceMethod ({ cls := "WaitedPost", name := "letter", desc := "(II)I" } : Jvm.MethodName)) ∈ xtbl := xq2 45 (by decide +kernel) rfl
theorem q_286 : (Jvm.Cond.selects "WaitedPost" ({ cls := "WaitedPost", name := "letter", desc := "(II)I" } : Jvm.MethodName) ({ cls := "WaitedPost", name := "letter", desc := "(II)I" } : Jvm.MethodName)) ∈ xtbl := xq2 46 (by decide +kernel) rfl
theorem q_287 : (Jvm.Cond.code ({ cls := "WaitedPost", name := "letter", desc := "(II)I" } : Jvm.MethodName) prog_1_method_6_code (3 : Nat) (Option.some Jvm.ClassFile.FieldType.int)) ∈ xtbl := xq2 47 (by decide +kernel) rfl
theorem q_288 : (Jvm.Cond.methodLink "WaitedPost" (81 : Nat) ({ cls := "WaitedPost", name := "known", desc := "(I)Z" } : Jvm.MethodName)) ∈ xtbl := xq2 48 (by decide +kernel) rfl
theorem q_290 : (Jvm.Cond.instanceMethod ({ cls := "WaitedPost", name := "known", desc := "(I)Z" } : Jvm.MethodName)) ∈ xtbl := xq2 50 (by decide +kernel) rfl
theorem q_291 : (Jvm.Cond.code ({ cls := "WaitedPost", name := "known", desc := "(I)Z" } : Jvm.MethodName) prog_1_method_29_code (2 : Nat) (Option.some Jvm.ClassFile.FieldType.boolean)) ∈ xtbl := xq2 51 (by decide +kernel) rfl
theorem q_292 : (Jvm.Cond.methodLink "WaitedPost" (88 : Nat) ({ cls := "WaitedPost", name := "at", desc := "([II)I" } : Jvm.MethodName)) ∈ xtbl := xq2 52 (by decide +kernel) rfl
theorem q_293 : (Jvm.Cond.methodLink "WaitedPost" (101 : Nat) ({ cls := "WaitedPost", name := "has", desc := "(II)Z" } : Jvm.MethodName)) ∈ xtbl := xq2 53 (by decide +kernel) rfl
theorem q_294 : (Jvm.Cond.methodLink "WaitedPost" (111 : Nat) ({ cls := "WaitedPost$Told", name := "costIn", desc := "(LWaitedPost$Standing;III)I" } : Jvm.MethodName)) ∈ xtbl := xq2 54 (by decide +kernel) rfl
theorem q_295 : (Jvm.Cond.instanceMethod ({ cls := "WaitedPost$Told", name := "costIn", desc := "(LWaitedPost$Standing;III)I" } : Jvm.MethodName)) ∈ xtbl := xq2 55 (by decide +kernel) rfl
theorem q_296 : (Jvm.Cond.selects "WaitedPost$Told" ({ cls := "WaitedPost$Told", name := "costIn", desc := "(LWaitedPost$Standing;III)I" } : Jvm.MethodName) ({ cls := "WaitedPost$Told", name := "costIn", desc := "(LWaitedPost$Standing;III)I" } : Jvm.MethodName)) ∈ xtbl := xq2 56 (by decide +kernel) rfl
theorem q_297 : (Jvm.Cond.code ({ cls := "WaitedPost$Told", name := "costIn", desc := "(LWaitedPost$Standing;III)I" } : Jvm.MethodName) prog_5_method_6_code (7 : Nat) (Option.some Jvm.ClassFile.FieldType.int)) ∈ xtbl := xq2 57 (by decide +kernel) rfl
theorem q_298 : (Jvm.Cond.methodLink "WaitedPost$Told" (58 : Nat) ({ cls := "java/lang/Math", name := "max", desc := "(II)I" } : Jvm.MethodName)) ∈ xtbl := xq2 58 (by decide +kernel) rfl
theorem q_299 : (Jvm.Cond.static ({ cls := "java/lang/Math", name := "max", desc := "(II)I" } : Jvm.MethodName)) ∈ xtbl := xq2 59 (by decide +kernel) rfl
theorem q_300 : (Jvm.Cond.code ({ cls := "java/lang/Math", name := "max", desc := "(II)I" } : Jvm.MethodName) prog_9_method_65_code (2 : Nat) (Option.some Jvm.ClassFile.FieldType.int)) ∈ xtbl := xq2 60 (by decide +kernel) rfl
theorem q_301 : (Jvm.Cond.methodLink "WaitedPost$Told" (65 : Nat) ({ cls := "java/lang/Math", name := "min", desc := "(II)I" } : Jvm.MethodName)) ∈ xtbl := xq2 61 (by decide +kernel) rfl
theorem q_302 : (Jvm.Cond.static ({ cls := "java/lang/Math", name := "min", desc := "(II)I" } : Jvm.MethodName)) ∈ xtbl := xq2 62 (by decide +kernel) rfl
theorem q_303 : (Jvm.Cond.code ({ cls := "java/lang/Math", name := "min", desc := "(II)I" } : Jvm.MethodName) prog_9_method_69_code (2 : Nat) (Option.some Jvm.ClassFile.FieldType.int)) ∈ xtbl := xq2 63 (by decide +kernel) rfl
theorem q_304 : (Jvm.Cond.methodLink "WaitedPost$Told" (74 : Nat) ({ cls := "WaitedPost$Told", name := "costOf", desc := "(IIZII)I" } : Jvm.MethodName)) ∈ xtbl := xq2 64 (by decide +kernel) rfl
theorem q_305 : (Jvm.Cond.instanceMethod ({ cls := "WaitedPost$Told", name := "costOf", desc := "(IIZII)I" } : Jvm.MethodName)) ∈ xtbl := xq2 65 (by decide +kernel) rfl
theorem q_306 : (Jvm.Cond.selects "WaitedPost$Told" ({ cls := "WaitedPost$Told", name := "costOf", desc := "(IIZII)I" } : Jvm.MethodName) ({ cls := "WaitedPost$Told", name := "costOf", desc := "(IIZII)I" } : Jvm.MethodName)) ∈ xtbl := xq2 66 (by decide +kernel) rfl
theorem q_307 : (Jvm.Cond.code ({ cls := "WaitedPost$Told", name := "costOf", desc := "(IIZII)I" } : Jvm.MethodName) prog_5_method_7_code (9 : Nat) (Option.some Jvm.ClassFile.FieldType.int)) ∈ xtbl := xq2 67 (by decide +kernel) rfl
theorem q_309 : (Jvm.Cond.methodLink "WaitedPost$Told" (81 : Nat) ({ cls := "java/lang/Integer", name := "bitCount", desc := "(I)I" } : Jvm.MethodName)) ∈ xtbl := xq2 69 (by decide +kernel) rfl
theorem q_310 : (Jvm.Cond.static ({ cls := "java/lang/Integer", name := "bitCount", desc := "(I)I" } : Jvm.MethodName)) ∈ xtbl := xq2 70 (by decide +kernel) rfl
theorem q_311 : (Jvm.Cond.code ({ cls := "java/lang/Integer", name := "bitCount", desc := "(I)I" } : Jvm.MethodName) prog_8_method_49_code (1 : Nat) (Option.some Jvm.ClassFile.FieldType.int)) ∈ xtbl := xq2 71 (by decide +kernel) rfl
theorem q_312 : (Jvm.Cond.constant "java/lang/Integer" (265 : Nat) (1431655765 : Int32)) ∈ xtbl := xq2 72 (by decide +kernel) rfl
theorem q_313 : (Jvm.Cond.constant "java/lang/Integer" (266 : Nat) (858993459 : Int32)) ∈ xtbl := xq2 73 (by decide +kernel) rfl
theorem q_314 : (Jvm.Cond.constant "java/lang/Integer" (267 : Nat) (252645135 : Int32)) ∈ xtbl := xq2 74 (by decide +kernel) rfl
theorem q_315 : (Jvm.Cond.methodLink "WaitedPostLaw" (36 : Nat) ({ cls := "WaitedPost", name := "send", desc := "(I)I" } : Jvm.MethodName)) ∈ xtbl := xq2 75 (by decide +kernel) rfl
theorem q_316 : (Jvm.Cond.instanceMethod ({ cls := "WaitedPost", name := "send", desc := "(I)I" } : Jvm.MethodName)) ∈ xtbl := xq2 76 (by decide +kernel) rfl
theorem q_317 : (Jvm.Cond.selects "WaitedPost" ({ cls := "WaitedPost", name := "send", desc := "(I)I" } : Jvm.MethodName) ({ cls := "WaitedPost", name := "send", desc := "(I)I" } : Jvm.MethodName)) ∈ xtbl := xq2 77 (by decide +kernel) rfl
theorem q_318 : (Jvm.Cond.code ({ cls := "WaitedPost", name := "send", desc := "(I)I" } : Jvm.MethodName) prog_1_method_7_code (2 : Nat) (Option.some Jvm.ClassFile.FieldType.int)) ∈ xtbl := xq2 78 (by decide +kernel) rfl
theorem q_319 : (Jvm.Cond.methodLink "WaitedPost" (115 : Nat) ({ cls := "WaitedPost", name := "canBeSent", desc := "(LWaitedPost$Standing;I)Z" } : Jvm.MethodName)) ∈ xtbl := xq2 79 (by decide +kernel) rfl
theorem q_321 : (Jvm.Cond.instanceMethod ({ cls := "WaitedPost", name := "canBeSent", desc := "(LWaitedPost$Standing;I)Z" } : Jvm.MethodName)) ∈ xtbl := xq2 81 (by decide +kernel) rfl
theorem q_322 : (Jvm.Cond.code ({ cls := "WaitedPost", name := "canBeSent", desc := "(LWaitedPost$Standing;I)Z" } : Jvm.MethodName) prog_1_method_32_code (3 : Nat) (Option.some Jvm.ClassFile.FieldType.boolean)) ∈ xtbl := xq2 82 (by decide +kernel) rfl
theorem q_323 : (Jvm.Cond.methodLink "WaitedPost" (119 : Nat) ({ cls := "WaitedPost", name := "remember", desc := "()V" } : Jvm.MethodName)) ∈ xtbl := xq2 83 (by decide +kernel) rfl
theorem q_325 : (Jvm.Cond.instanceMethod ({ cls := "WaitedPost", name := "remember", desc := "()V" } : Jvm.MethodName)) ∈ xtbl := xq2 85 (by decide +kernel) rfl
theorem q_326 : (Jvm.Cond.code ({ cls := "WaitedPost", name := "remember", desc := "()V" } : Jvm.MethodName) prog_1_method_34_code (1 : Nat) (Option.none : Option Jvm.ClassFile.FieldType)) ∈ xtbl := xq2 86 (by decide +kernel) rfl
theorem q_327 : (Jvm.Cond.methodLink "WaitedPost" (235 : Nat) ({ cls := "WaitedPost", name := "forgetFirstAct", desc := "()V" } : Jvm.MethodName)) ∈ xtbl := xq2 87 (by decide +kernel) rfl
theorem q_329 : (Jvm.Cond.instanceMethod ({ cls := "WaitedPost", name := "forgetFirstAct", desc := "()V" } : Jvm.MethodName)) ∈ xtbl := xq2 89 (by decide +kernel) rfl
theorem q_330 : (Jvm.Cond.code ({ cls := "WaitedPost", name := "forgetFirstAct", desc := "()V" } : Jvm.MethodName) prog_1_method_35_code (3 : Nat) (Option.none : Option Jvm.ClassFile.FieldType)) ∈ xtbl := xq2 90 (by decide +kernel) rfl
theorem q_331 : (Jvm.Cond.methodLink "WaitedPost" (141 : Nat) ({ cls := "WaitedPost$Standing", name := "take", desc := "(LWaitedPost$Standing;)V" } : Jvm.MethodName)) ∈ xtbl := xq2 91 (by decide +kernel) rfl
theorem q_332 : (Jvm.Cond.instanceMethod ({ cls := "WaitedPost$Standing", name := "take", desc := "(LWaitedPost$Standing;)V" } : Jvm.MethodName)) ∈ xtbl := xq2 92 (by decide +kernel) rfl
theorem q_333 : (Jvm.Cond.selects "WaitedPost$Standing" ({ cls := "WaitedPost$Standing", name := "take", desc := "(LWaitedPost$Standing;)V" } : Jvm.MethodName) ({ cls := "WaitedPost$Standing", name := "take", desc := "(LWaitedPost$Standing;)V" } : Jvm.MethodName)) ∈ xtbl := xq2 93 (by decide +kernel) rfl
theorem q_334 : (Jvm.Cond.code ({ cls := "WaitedPost$Standing", name := "take", desc := "(LWaitedPost$Standing;)V" } : Jvm.MethodName) prog_4_method_3_code (2 : Nat) (Option.none : Option Jvm.ClassFile.FieldType)) ∈ xtbl := xq2 94 (by decide +kernel) rfl
theorem q_335 : (Jvm.Cond.methodLink "WaitedPost" (122 : Nat) ({ cls := "WaitedPost", name := "putSent", desc := "(LWaitedPost$Standing;I)I" } : Jvm.MethodName)) ∈ xtbl := xq2 95 (by decide +kernel) rfl
theorem q_337 : (Jvm.Cond.instanceMethod ({ cls := "WaitedPost", name := "putSent", desc := "(LWaitedPost$Standing;I)I" } : Jvm.MethodName)) ∈ xtbl := xq2 97 (by decide +kernel) rfl
theorem q_338 : (Jvm.Cond.code ({ cls := "WaitedPost", name := "putSent", desc := "(LWaitedPost$Standing;I)I" } : Jvm.MethodName) prog_1_method_33_code (4 : Nat) (Option.some Jvm.ClassFile.FieldType.int)) ∈ xtbl := xq2 98 (by decide +kernel) rfl
theorem q_339 : (Jvm.Cond.methodLink "WaitedPost" (137 : Nat) ({ cls := "WaitedPost", name := "bit", desc := "(I)I" } : Jvm.MethodName)) ∈ xtbl := xq2 99 (by decide +kernel) rfl
theorem q_340 : (Jvm.Cond.methodLink "WaitedPostLaw" (40 : Nat) ({ cls := "WaitedPost", name := "day", desc := "()I" } : Jvm.MethodName)) ∈ xtbl := xq2 100 (by decide +kernel) rfl
theorem q_341 : (Jvm.Cond.instanceMethod ({ cls := "WaitedPost", name := "day", desc := "()I" } : Jvm.MethodName)) ∈ xtbl := xq2 101 (by decide +kernel) rfl
theorem q_342 : (Jvm.Cond.selects "WaitedPost" ({ cls := "WaitedPost", name := "day", desc := "()I" } : Jvm.MethodName) ({ cls := "WaitedPost", name := "day", desc := "()I" } : Jvm.MethodName)) ∈ xtbl := xq2 102 (by decide +kernel) rfl
theorem q_343 : (Jvm.Cond.code ({ cls := "WaitedPost", name := "day", desc := "()I" } : Jvm.MethodName) prog_1_method_8_code (1 : Nat) (Option.some Jvm.ClassFile.FieldType.int)) ∈ xtbl := xq2 103 (by decide +kernel) rfl
theorem q_344 : (Jvm.Cond.methodLink "WaitedPost" (126 : Nat) ({ cls := "WaitedPost$Standing", name := "passDay", desc := "(I)V" } : Jvm.MethodName)) ∈ xtbl := xq2 104 (by decide +kernel) rfl
theorem q_345 : (Jvm.Cond.instanceMethod ({ cls := "WaitedPost$Standing", name := "passDay", desc := "(I)V" } : Jvm.MethodName)) ∈ xtbl := xq2 105 (by decide +kernel) rfl
theorem q_346 : (Jvm.Cond.selects "WaitedPost$Standing" ({ cls := "WaitedPost$Standing", name := "passDay", desc := "(I)V" } : Jvm.MethodName) ({ cls := "WaitedPost$Standing", name := "passDay", desc := "(I)V" } : Jvm.MethodName)) ∈ xtbl := xq2 106 (by decide +kernel) rfl
theorem q_347 : (Jvm.Cond.code ({ cls := "WaitedPost$Standing", name := "passDay", desc := "(I)V" } : Jvm.MethodName) prog_4_method_4_code (4 : Nat) (Option.none : Option Jvm.ClassFile.FieldType)) ∈ xtbl := xq2 107 (by decide +kernel) rfl
theorem q_351 : (Jvm.Cond.methodLink "WaitedPost$Standing" (59 : Nat) ({ cls := "java/lang/Math", name := "min", desc := "(II)I" } : Jvm.MethodName)) ∈ xtbl := xq2 111 (by decide +kernel) rfl
theorem q_352 : (Jvm.Cond.methodLink "WaitedPostLaw" (44 : Nat) ({ cls := "WaitedPost", name := "tear", desc := "(I)I" } : Jvm.MethodName)) ∈ xtbl := xq2 112 (by decide +kernel) rfl
theorem q_353 : (Jvm.Cond.instanceMethod ({ cls := "WaitedPost", name := "tear", desc := "(I)I" } : Jvm.MethodName)) ∈ xtbl := xq2 113 (by decide +kernel) rfl
theorem q_354 : (Jvm.Cond.selects "WaitedPost" ({ cls := "WaitedPost", name := "tear", desc := "(I)I" } : Jvm.MethodName) ({ cls := "WaitedPost", name := "tear", desc := "(I)I" } : Jvm.MethodName)) ∈ xtbl := xq2 114 (by decide +kernel) rfl
theorem q_355 : (Jvm.Cond.code ({ cls := "WaitedPost", name := "tear", desc := "(I)I" } : Jvm.MethodName) prog_1_method_9_code (3 : Nat) (Option.some Jvm.ClassFile.FieldType.int)) ∈ xtbl := xq2 115 (by decide +kernel) rfl
theorem q_356 : (Jvm.Cond.methodLink "WaitedPost" (133 : Nat) ({ cls := "WaitedPost", name := "put", desc := "([III)V" } : Jvm.MethodName)) ∈ xtbl := xq2 116 (by decide +kernel) rfl
theorem q_357 : (Jvm.Cond.methodLink "WaitedPostLaw" (48 : Nat) ({ cls := "WaitedPost", name := "card", desc := "(I)I" } : Jvm.MethodName)) ∈ xtbl := xq2 117 (by decide +kernel) rfl
theorem q_358 : (Jvm.Cond.instanceMethod ({ cls := "WaitedPost", name := "card", desc := "(I)I" } : Jvm.MethodName)) ∈ xtbl := xq2 118 (by decide +kernel) rfl
theorem q_359 : (Jvm.Cond.selects "WaitedPost" ({ cls := "WaitedPost", name := "card", desc := "(I)I" } : Jvm.MethodName) ({ cls := "WaitedPost", name := "card", desc := "(I)I" } : Jvm.MethodName)) ∈ xtbl := xq2 119 (by decide +kernel) rfl
theorem q_360 : (Jvm.Cond.code ({ cls := "WaitedPost", name := "card", desc := "(I)I" } : Jvm.MethodName) prog_1_method_10_code (2 : Nat) (Option.some Jvm.ClassFile.FieldType.int)) ∈ xtbl := xq2 120 (by decide +kernel) rfl
theorem q_361 : (Jvm.Cond.methodLink "WaitedPostLaw" (52 : Nat) ({ cls := "WaitedPost", name := "undo", desc := "()I" } : Jvm.MethodName)) ∈ xtbl := xq2 121 (by decide +kernel) rfl
theorem q_362 : (Jvm.Cond.instanceMethod ({ cls := "WaitedPost", name := "undo", desc := "()I" } : Jvm.MethodName)) ∈ xtbl := xq2 122 (by decide +kernel) rfl
theorem q_363 : (Jvm.Cond.selects "WaitedPost" ({ cls := "WaitedPost", name := "undo", desc := "()I" } : Jvm.MethodName) ({ cls := "WaitedPost", name := "undo", desc := "()I" } : Jvm.MethodName)) ∈ xtbl := xq2 123 (by decide +kernel) rfl
theorem q_364 : (Jvm.Cond.code ({ cls := "WaitedPost", name := "undo", desc := "()I" } : Jvm.MethodName) prog_1_method_11_code (1 : Nat) (Option.some Jvm.ClassFile.FieldType.int)) ∈ xtbl := xq2 124 (by decide +kernel) rfl
theorem q_365 : (Jvm.Cond.methodLink "WaitedPostLaw" (56 : Nat) ({ cls := "WaitedPost", name := "price", desc := "(II)I" } : Jvm.MethodName)) ∈ xtbl := xq2 125 (by decide +kernel) rfl
theorem q_366 : (Jvm.Cond.instanceMethod ({ cls := "WaitedPost", name := "price", desc := "(II)I" } : Jvm.MethodName)) ∈ xtbl := xq2 126 (by decide +kernel) rfl
theorem q_367 : (Jvm.Cond.selects "WaitedPost" ({ cls := "WaitedPost", name := "price", desc := "(II)I" } : Jvm.MethodName) ({ cls := "WaitedPost", name := "price", desc := "(II)I" } : Jvm.MethodName)) ∈ xtbl := xq2 127 (by decide +kernel) rfl
theorem q_368 : (Jvm.Cond.code ({ cls := "WaitedPost", name := "price", desc := "(II)I" } : Jvm.MethodName) prog_1_method_12_code (3 : Nat) (Option.some Jvm.ClassFile.FieldType.int)) ∈ xtbl := xq2 128 (by decide +kernel) rfl
theorem q_369 : (Jvm.Cond.methodLink "WaitedPostLaw" (60 : Nat) ({ cls := "WaitedPost", name := "cheapest", desc := "(I)I" } : Jvm.MethodName)) ∈ xtbl := xq2 129 (by decide +kernel) rfl
theorem q_370 : (Jvm.Cond.instanceMethod ({ cls := "WaitedPost", name := "cheapest", desc := "(I)I" } : Jvm.MethodName)) ∈ xtbl := xq2 130 (by decide +kernel) rfl
theorem q_371 : (Jvm.Cond.selects "WaitedPost" ({ cls := "WaitedPost", name := "cheapest", desc := "(I)I" } : Jvm.MethodName) ({ cls := "WaitedPost", name := "cheapest", desc := "(I)I" } : Jvm.MethodName)) ∈ xtbl := xq2 131 (by decide +kernel) rfl
theorem q_372 : (Jvm.Cond.code ({ cls := "WaitedPost", name := "cheapest", desc := "(I)I" } : Jvm.MethodName) prog_1_method_13_code (6 : Nat) (Option.some Jvm.ClassFile.FieldType.int)) ∈ xtbl := xq2 132 (by decide +kernel) rfl
theorem q_373 : (Jvm.Cond.methodLink "WaitedPostLaw" (64 : Nat) ({ cls := "WaitedPost", name := "plan", desc := "(IZ)I" } : Jvm.MethodName)) ∈ xtbl := xq2 133 (by decide +kernel) rfl
theorem q_374 : (Jvm.Cond.instanceMethod ({ cls := "WaitedPost", name := "plan", desc := "(IZ)I" } : Jvm.MethodName)) ∈ xtbl := xq2 134 (by decide +kernel) rfl
theorem q_375 : (Jvm.Cond.selects "WaitedPost" ({ cls := "WaitedPost", name := "plan", desc := "(IZ)I" } : Jvm.MethodName) ({ cls := "WaitedPost", name := "plan", desc := "(IZ)I" } : Jvm.MethodName)) ∈ xtbl := xq2 135 (by decide +kernel) rfl
theorem q_376 : (Jvm.Cond.code ({ cls := "WaitedPost", name := "plan", desc := "(IZ)I" } : Jvm.MethodName) prog_1_method_14_code (3 : Nat) (Option.some Jvm.ClassFile.FieldType.int)) ∈ xtbl := xq2 136 (by decide +kernel) rfl
theorem q_377 : (Jvm.Cond.methodLink "WaitedPost" (144 : Nat) ({ cls := "WaitedPost$Planner", name := "fill", desc := "(LWaitedPost$Told;LWaitedPost$Standing;I)V" } : Jvm.MethodName)) ∈ xtbl := xq2 137 (by decide +kernel) rfl
theorem q_378 : (Jvm.Cond.instanceMethod ({ cls := "WaitedPost$Planner", name := "fill", desc := "(LWaitedPost$Told;LWaitedPost$Standing;I)V" } : Jvm.MethodName)) ∈ xtbl := xq2 138 (by decide +kernel) rfl
theorem q_379 : (Jvm.Cond.selects "WaitedPost$Planner" ({ cls := "WaitedPost$Planner", name := "fill", desc := "(LWaitedPost$Told;LWaitedPost$Standing;I)V" } : Jvm.MethodName) ({ cls := "WaitedPost$Planner", name := "fill", desc := "(LWaitedPost$Told;LWaitedPost$Standing;I)V" } : Jvm.MethodName)) ∈ xtbl := xq2 139 (by decide +kernel) rfl
theorem q_380 : (Jvm.Cond.code ({ cls := "WaitedPost$Planner", name := "fill", desc := "(LWaitedPost$Told;LWaitedPost$Standing;I)V" } : Jvm.MethodName) prog_2_method_2_code (6 : Nat) (Option.none : Option Jvm.ClassFile.FieldType)) ∈ xtbl := xq2 140 (by decide +kernel) rfl
theorem q_381 : (Jvm.Cond.constantLong "WaitedPost$Planner" (15 : Nat) (1152921504606846976 : Int64)) ∈ xtbl := xq2 141 (by decide +kernel) rfl
theorem q_382 : (Jvm.Cond.methodLink "WaitedPost$Planner" (17 : Nat) ({ cls := "java/util/Arrays", name := "fill", desc := "([JJ)V" } : Jvm.MethodName)) ∈ xtbl := xq2 142 (by decide +kernel) rfl
theorem q_383 : (Jvm.Cond.static ({ cls := "java/util/Arrays", name := "fill", desc := "([JJ)V" } : Jvm.MethodName)) ∈ xtbl := xq2 143 (by decide +kernel) rfl
theorem q_384 : (Jvm.Cond.code ({ cls := "java/util/Arrays", name := "fill", desc := "([JJ)V" } : Jvm.MethodName) prog_10_method_101_code (5 : Nat) (Option.none : Option Jvm.ClassFile.FieldType)) ∈ xtbl := xq2 144 (by decide +kernel) rfl
theorem q_385 : (Jvm.Cond.methodLink "WaitedPost$Planner" (29 : Nat) ({ cls := "WaitedPost$Planner", name := "lower", desc := "(IJ)V" } : Jvm.MethodName)) ∈ xtbl := xq2 145 (by decide +kernel) rfl
theorem q_387 : (Jvm.Cond.instanceMethod ({ cls := "WaitedPost$Planner", name := "lower", desc := "(IJ)V" } : Jvm.MethodName)) ∈ xtbl := xq2 147 (by decide +kernel) rfl
theorem q_388 : (Jvm.Cond.code ({ cls := "WaitedPost$Planner", name := "lower", desc := "(IJ)V" } : Jvm.MethodName) prog_2_method_9_code (4 : Nat) (Option.none : Option Jvm.ClassFile.FieldType)) ∈ xtbl := xq2 148 (by decide +kernel) rfl
theorem q_390 : (Jvm.Cond.methodLink "WaitedPost$Planner" (37 : Nat) ({ cls := "WaitedPost$Planner", name := "tryLetter", desc := "(LWaitedPost$Told;LWaitedPost$Standing;III)V" } : Jvm.MethodName)) ∈ xtbl := xq2 150 (by decide +kernel) rfl
theorem q_392 : (Jvm.Cond.instanceMethod ({ cls := "WaitedPost$Planner", name := "tryLetter", desc := "(LWaitedPost$Told;LWaitedPost$Standing;III)V" } : Jvm.MethodName)) ∈ xtbl := xq2 152 (by decide +kernel) rfl
theorem q_393 : (Jvm.Cond.code ({ cls := "WaitedPost$Planner", name := "tryLetter", desc := "(LWaitedPost$Told;LWaitedPost$Standing;III)V" } : Jvm.MethodName) prog_2_method_6_code (13 : Nat) (Option.none : Option Jvm.ClassFile.FieldType)) ∈ xtbl := xq2 153 (by decide +kernel) rfl
theorem q_394 : (Jvm.Cond.methodLink "WaitedPost$Planner" (50 : Nat) ({ cls := "java/lang/Integer", name := "bitCount", desc := "(I)I" } : Jvm.MethodName)) ∈ xtbl := xq2 154 (by decide +kernel) rfl
theorem q_396 : (Jvm.Cond.static ({ cls := "WaitedPost", name := "power", desc := "(II)J" } : Jvm.MethodName)) ∈ xtbl := xq2 156 (by decide +kernel) rfl
theorem q_397 : (Jvm.Cond.code ({ cls := "WaitedPost", name := "power", desc := "(II)J" } : Jvm.MethodName) prog_1_method_49_code (5 : Nat) (Option.some Jvm.ClassFile.FieldType.long)) ∈ xtbl := xq2 157 (by decide +kernel) rfl
theorem q_399 : (Jvm.Cond.static ({ cls := "WaitedPost", name := "within", desc := "(II)Z" } : Jvm.MethodName)) ∈ xtbl := xq2 159 (by decide +kernel) rfl
theorem q_400 : (Jvm.Cond.code ({ cls := "WaitedPost", name := "within", desc := "(II)Z" } : Jvm.MethodName) prog_1_method_45_code (2 : Nat) (Option.some Jvm.ClassFile.FieldType.boolean)) ∈ xtbl := xq2 160 (by decide +kernel) rfl
theorem q_401 : (Jvm.Cond.constantLong "WaitedPost$Planner" (48 : Nat) (1000000 : Int64)) ∈ xtbl := xq2 161 (by decide +kernel) rfl
theorem q_402 : (Jvm.Cond.methodLink "WaitedPost$Planner" (66 : Nat) ({ cls := "WaitedPost$Told", name := "costIn", desc := "(LWaitedPost$Standing;III)I" } : Jvm.MethodName)) ∈ xtbl := xq2 162 (by decide +kernel) rfl
theorem q_404 : (Jvm.Cond.methodLink "WaitedPost$Planner" (44 : Nat) ({ cls := "WaitedPost$Planner", name := "bestAt", desc := "(I)J" } : Jvm.MethodName)) ∈ xtbl := xq2 164 (by decide +kernel) rfl
theorem q_406 : (Jvm.Cond.instanceMethod ({ cls := "WaitedPost$Planner", name := "bestAt", desc := "(I)J" } : Jvm.MethodName)) ∈ xtbl := xq2 166 (by decide +kernel) rfl
theorem q_407 : (Jvm.Cond.code ({ cls := "WaitedPost$Planner", name := "bestAt", desc := "(I)J" } : Jvm.MethodName) prog_2_method_8_code (2 : Nat) (Option.some Jvm.ClassFile.FieldType.long)) ∈ xtbl := xq2 167 (by decide +kernel) rfl
theorem q_408 : (Jvm.Cond.methodLink "WaitedPost$Planner" (41 : Nat) ({ cls := "WaitedPost$Planner", name := "endDay", desc := "()V" } : Jvm.MethodName)) ∈ xtbl := xq2 168 (by decide +kernel) rfl
theorem q_410 : (Jvm.Cond.instanceMethod ({ cls := "WaitedPost$Planner", name := "endDay", desc := "()V" } : Jvm.MethodName)) ∈ xtbl := xq2 170 (by decide +kernel) rfl
theorem q_411 : (Jvm.Cond.code ({ cls := "WaitedPost$Planner", name := "endDay", desc := "()V" } : Jvm.MethodName) prog_2_method_7_code (3 : Nat) (Option.none : Option Jvm.ClassFile.FieldType)) ∈ xtbl := xq2 171 (by decide +kernel) rfl
theorem q_412 : (Jvm.Cond.methodLink "WaitedPost" (148 : Nat) ({ cls := "WaitedPost$Planner", name := "hasRoom", desc := "(I)Z" } : Jvm.MethodName)) ∈ xtbl := xq2 172 (by decide +kernel) rfl
theorem q_413 : (Jvm.Cond.instanceMethod ({ cls := "WaitedPost$Planner", name := "hasRoom", desc := "(I)Z" } : Jvm.MethodName)) ∈ xtbl := xq2 173 (by decide +kernel) rfl
theorem q_414 : (Jvm.Cond.selects "WaitedPost$Planner" ({ cls := "WaitedPost$Planner", name := "hasRoom", desc := "(I)Z" } : Jvm.MethodName) ({ cls := "WaitedPost$Planner", name := "hasRoom", desc := "(I)Z" } : Jvm.MethodName)) ∈ xtbl := xq2 174 (by decide +kernel) rfl
theorem q_415 : (Jvm.Cond.code ({ cls := "WaitedPost$Planner", name := "hasRoom", desc := "(I)Z" } : Jvm.MethodName) prog_2_method_3_code (2 : Nat) (Option.some Jvm.ClassFile.FieldType.boolean)) ∈ xtbl := xq2 175 (by decide +kernel) rfl
theorem q_416 : (Jvm.Cond.methodLink "WaitedPost" (151 : Nat) ({ cls := "WaitedPost$Planner", name := "rowOf", desc := "(I)I" } : Jvm.MethodName)) ∈ xtbl := xq2 176 (by decide +kernel) rfl
theorem q_417 : (Jvm.Cond.instanceMethod ({ cls := "WaitedPost$Planner", name := "rowOf", desc := "(I)I" } : Jvm.MethodName)) ∈ xtbl := xq2 177 (by decide +kernel) rfl
theorem q_418 : (Jvm.Cond.selects "WaitedPost$Planner" ({ cls := "WaitedPost$Planner", name := "rowOf", desc := "(I)I" } : Jvm.MethodName) ({ cls := "WaitedPost$Planner", name := "rowOf", desc := "(I)I" } : Jvm.MethodName)) ∈ xtbl := xq2 178 (by decide +kernel) rfl
theorem q_419 : (Jvm.Cond.code ({ cls := "WaitedPost$Planner", name := "rowOf", desc := "(I)I" } : Jvm.MethodName) prog_2_method_5_code (2 : Nat) (Option.some Jvm.ClassFile.FieldType.int)) ∈ xtbl := xq2 179 (by decide +kernel) rfl
theorem q_420 : (Jvm.Cond.methodLink "WaitedPost" (154 : Nat) ({ cls := "WaitedPost$Planner", name := "paidFor", desc := "(I)I" } : Jvm.MethodName)) ∈ xtbl := xq2 180 (by decide +kernel) rfl
theorem q_421 : (Jvm.Cond.instanceMethod ({ cls := "WaitedPost$Planner", name := "paidFor", desc := "(I)I" } : Jvm.MethodName)) ∈ xtbl := xq2 181 (by decide +kernel) rfl
theorem q_422 : (Jvm.Cond.selects "WaitedPost$Planner" ({ cls := "WaitedPost$Planner", name := "paidFor", desc := "(I)I" } : Jvm.MethodName) ({ cls := "WaitedPost$Planner", name := "paidFor", desc := "(I)I" } : Jvm.MethodName)) ∈ xtbl := xq2 182 (by decide +kernel) rfl
theorem q_423 : (Jvm.Cond.code ({ cls := "WaitedPost$Planner", name := "paidFor", desc := "(I)I" } : Jvm.MethodName) prog_2_method_4_code (2 : Nat) (Option.some Jvm.ClassFile.FieldType.int)) ∈ xtbl := xq2 183 (by decide +kernel) rfl
theorem q_424 : (Jvm.Cond.methodLink "WaitedPostLaw" (69 : Nat) ({ cls := "WaitedPost", name := "order", desc := "()I" } : Jvm.MethodName)) ∈ xtbl := xq2 184 (by decide +kernel) rfl
theorem q_425 : (Jvm.Cond.instanceMethod ({ cls := "WaitedPost", name := "order", desc := "()I" } : Jvm.MethodName)) ∈ xtbl := xq2 185 (by decide +kernel) rfl
theorem q_426 : (Jvm.Cond.selects "WaitedPost" ({ cls := "WaitedPost", name := "order", desc := "()I" } : Jvm.MethodName) ({ cls := "WaitedPost", name := "order", desc := "()I" } : Jvm.MethodName)) ∈ xtbl := xq2 186 (by decide +kernel) rfl
theorem q_427 : (Jvm.Cond.code ({ cls := "WaitedPost", name := "order", desc := "()I" } : Jvm.MethodName) prog_1_method_15_code (5 : Nat) (Option.some Jvm.ClassFile.FieldType.int)) ∈ xtbl := xq2 187 (by decide +kernel) rfl
theorem q_428 : (Jvm.Cond.methodLink "WaitedPost" (157 : Nat) ({ cls := "WaitedPost", name := "unsent", desc := "()I" } : Jvm.MethodName)) ∈ xtbl := xq2 188 (by decide +kernel) rfl
theorem q_430 : (Jvm.Cond.instanceMethod ({ cls := "WaitedPost", name := "unsent", desc := "()I" } : Jvm.MethodName)) ∈ xtbl := xq2 190 (by decide +kernel) rfl
theorem q_431 : (Jvm.Cond.code ({ cls := "WaitedPost", name := "unsent", desc := "()I" } : Jvm.MethodName) prog_1_method_30_code (1 : Nat) (Option.some Jvm.ClassFile.FieldType.int)) ∈ xtbl := xq2 191 (by decide +kernel) rfl
theorem q_432 : (Jvm.Cond.methodLink "WaitedPost" (160 : Nat) ({ cls := "WaitedPost", name := "firstUnexplained", desc := "(I)I" } : Jvm.MethodName)) ∈ xtbl := xq2 192 (by decide +kernel) rfl
theorem q_434 : (Jvm.Cond.instanceMethod ({ cls := "WaitedPost", name := "firstUnexplained", desc := "(I)I" } : Jvm.MethodName)) ∈ xtbl := xq2 194 (by decide +kernel) rfl
theorem q_435 : (Jvm.Cond.code ({ cls := "WaitedPost", name := "firstUnexplained", desc := "(I)I" } : Jvm.MethodName) prog_1_method_36_code (3 : Nat) (Option.some Jvm.ClassFile.FieldType.int)) ∈ xtbl := xq2 195 (by decide +kernel) rfl
theorem q_436 : (Jvm.Cond.methodLink "WaitedPostLaw" (73 : Nat) ({ cls := "WaitedPost", name := "judge", desc := "(II)I" } : Jvm.MethodName)) ∈ xtbl := xq2 196 (by decide +kernel) rfl
theorem q_437 : (Jvm.Cond.instanceMethod ({ cls := "WaitedPost", name := "judge", desc := "(II)I" } : Jvm.MethodName)) ∈ xtbl := xq2 197 (by decide +kernel) rfl
theorem q_438 : (Jvm.Cond.selects "WaitedPost" ({ cls := "WaitedPost", name := "judge", desc := "(II)I" } : Jvm.MethodName) ({ cls := "WaitedPost", name := "judge", desc := "(II)I" } : Jvm.MethodName)) ∈ xtbl := xq2 198 (by decide +kernel) rfl
theorem q_439 : (Jvm.Cond.code ({ cls := "WaitedPost", name := "judge", desc := "(II)I" } : Jvm.MethodName) prog_1_method_16_code (3 : Nat) (Option.some Jvm.ClassFile.FieldType.int)) ∈ xtbl := xq2 199 (by decide +kernel) rfl
theorem q_440 : (Jvm.Cond.methodLink "WaitedPost" (163 : Nat) ({ cls := "WaitedPost", name := "takeFigures", desc := "(II)Z" } : Jvm.MethodName)) ∈ xtbl := xq2 200 (by decide +kernel) rfl
theorem q_442 : (Jvm.Cond.instanceMethod ({ cls := "WaitedPost", name := "takeFigures", desc := "(II)Z" } : Jvm.MethodName)) ∈ xtbl := xq2 202 (by decide +kernel) rfl
theorem q_443 : (Jvm.Cond.code ({ cls := "WaitedPost", name := "takeFigures", desc := "(II)Z" } : Jvm.MethodName) prog_1_method_37_code (5 : Nat) (Option.some Jvm.ClassFile.FieldType.boolean)) ∈ xtbl := xq2 203 (by decide +kernel) rfl
theorem q_444 : (Jvm.Cond.methodLink "WaitedPost" (166 : Nat) ({ cls := "WaitedPost", name := "tryThings", desc := "(I)I" } : Jvm.MethodName)) ∈ xtbl := xq2 204 (by decide +kernel) rfl
theorem q_446 : (Jvm.Cond.instanceMethod ({ cls := "WaitedPost", name := "tryThings", desc := "(I)I" } : Jvm.MethodName)) ∈ xtbl := xq2 206 (by decide +kernel) rfl
theorem q_447 : (Jvm.Cond.code ({ cls := "WaitedPost", name := "tryThings", desc := "(I)I" } : Jvm.MethodName) prog_1_method_38_code (5 : Nat) (Option.some Jvm.ClassFile.FieldType.int)) ∈ xtbl := xq2 207 (by decide +kernel) rfl
theorem q_448 : (Jvm.Cond.methodLink "WaitedPostLaw" (77 : Nat) ({ cls := "WaitedPost", name := "cost", desc := "(II)I" } : Jvm.MethodName)) ∈ xtbl := xq2 208 (by decide +kernel) rfl
theorem q_449 : (Jvm.Cond.instanceMethod ({ cls := "WaitedPost", name := "cost", desc := "(II)I" } : Jvm.MethodName)) ∈ xtbl := xq2 209 (by decide +kernel) rfl
theorem q_450 : (Jvm.Cond.selects "WaitedPost" ({ cls := "WaitedPost", name := "cost", desc := "(II)I" } : Jvm.MethodName) ({ cls := "WaitedPost", name := "cost", desc := "(II)I" } : Jvm.MethodName)) ∈ xtbl := xq2 210 (by decide +kernel) rfl
theorem q_451 : (Jvm.Cond.code ({ cls := "WaitedPost", name := "cost", desc := "(II)I" } : Jvm.MethodName) prog_1_method_17_code (3 : Nat) (Option.some Jvm.ClassFile.FieldType.int)) ∈ xtbl := xq2 211 (by decide +kernel) rfl
theorem q_452 : (Jvm.Cond.methodLink "WaitedPostLaw" (81 : Nat) ({ cls := "WaitedPost", name := "waits", desc := "(II)I" } : Jvm.MethodName)) ∈ xtbl := xq2 212 (by decide +kernel) rfl
theorem q_453 : (Jvm.Cond.instanceMethod ({ cls := "WaitedPost", name := "waits", desc := "(II)I" } : Jvm.MethodName)) ∈ xtbl := xq2 213 (by decide +kernel) rfl
theorem q_454 : (Jvm.Cond.selects "WaitedPost" ({ cls := "WaitedPost", name := "waits", desc := "(II)I" } : Jvm.MethodName) ({ cls := "WaitedPost", name := "waits", desc := "(II)I" } : Jvm.MethodName)) ∈ xtbl := xq2 214 (by decide +kernel) rfl
theorem q_455 : (Jvm.Cond.code ({ cls := "WaitedPost", name := "waits", desc := "(II)I" } : Jvm.MethodName) prog_1_method_18_code (5 : Nat) (Option.some Jvm.ClassFile.FieldType.int)) ∈ xtbl := xq2 215 (by decide +kernel) rfl
theorem q_456 : (Jvm.Cond.methodLink "WaitedPost" (172 : Nat) ({ cls := "WaitedPost", name := "isCost", desc := "(I)Z" } : Jvm.MethodName)) ∈ xtbl := xq2 216 (by decide +kernel) rfl
theorem q_457 : (Jvm.Cond.static ({ cls := "WaitedPost", name := "isCost", desc := "(I)Z" } : Jvm.MethodName)) ∈ xtbl := xq2 217 (by decide +kernel) rfl
theorem q_458 : (Jvm.Cond.code ({ cls := "WaitedPost", name := "isCost", desc := "(I)Z" } : Jvm.MethodName) prog_1_method_42_code (1 : Nat) (Option.some Jvm.ClassFile.FieldType.boolean)) ∈ xtbl := xq2 218 (by decide +kernel) rfl
theorem q_459 : (Jvm.Cond.methodLink "WaitedPost" (175 : Nat) ({ cls := "WaitedPost$Told", name := "costOf", desc := "(IIZII)I" } : Jvm.MethodName)) ∈ xtbl := xq2 219 (by decide +kernel) rfl
theorem q_460 : (Jvm.Cond.methodLink "WaitedPostLaw" (85 : Nat) ({ cls := "WaitedPost", name := "who", desc := "(III)I" } : Jvm.MethodName)) ∈ xtbl := xq2 220 (by decide +kernel) rfl
theorem q_461 : (Jvm.Cond.instanceMethod ({ cls := "WaitedPost", name := "who", desc := "(III)I" } : Jvm.MethodName)) ∈ xtbl := xq2 221 (by decide +kernel) rfl
theorem q_462 : (Jvm.Cond.selects "WaitedPost" ({ cls := "WaitedPost", name := "who", desc := "(III)I" } : Jvm.MethodName) ({ cls := "WaitedPost", name := "who", desc := "(III)I" } : Jvm.MethodName)) ∈ xtbl := xq2 222 (by decide +kernel) rfl
theorem q_463 : (Jvm.Cond.code ({ cls := "WaitedPost", name := "who", desc := "(III)I" } : Jvm.MethodName) prog_1_method_19_code (9 : Nat) (Option.some Jvm.ClassFile.FieldType.int)) ∈ xtbl := xq2 223 (by decide +kernel) rfl
theorem q_464 : (Jvm.Cond.methodLink "WaitedPost" (179 : Nat) ({ cls := "WaitedPost", name := "within", desc := "(II)Z" } : Jvm.MethodName)) ∈ xtbl := xq2 224 (by decide +kernel) rfl
theorem q_465 : (Jvm.Cond.methodLink "WaitedPostLaw" (90 : Nat) ({ cls := "WaitedPost", name := "share", desc := "(IZ)I" } : Jvm.MethodName)) ∈ xtbl := xq2 225 (by decide +kernel) rfl
theorem q_466 : (Jvm.Cond.instanceMethod ({ cls := "WaitedPost", name := "share", desc := "(IZ)I" } : Jvm.MethodName)) ∈ xtbl := xq2 226 (by decide +kernel) rfl
theorem q_467 : (Jvm.Cond.selects "WaitedPost" ({ cls := "WaitedPost", name := "share", desc := "(IZ)I" } : Jvm.MethodName) ({ cls := "WaitedPost", name := "share", desc := "(IZ)I" } : Jvm.MethodName)) ∈ xtbl := xq2 227 (by decide +kernel) rfl
theorem q_468 : (Jvm.Cond.code ({ cls := "WaitedPost", name := "share", desc := "(IZ)I" } : Jvm.MethodName) prog_1_method_20_code (12 : Nat) (Option.some Jvm.ClassFile.FieldType.int)) ∈ xtbl := xq2 228 (by decide +kernel) rfl
theorem q_469 : (Jvm.Cond.methodLink "WaitedPost" (182 : Nat) ({ cls := "WaitedPost", name := "fractionPart", desc := "(JJZ)I" } : Jvm.MethodName)) ∈ xtbl := xq2 229 (by decide +kernel) rfl
theorem q_470 : (Jvm.Cond.static ({ cls := "WaitedPost", name := "fractionPart", desc := "(JJZ)I" } : Jvm.MethodName)) ∈ xtbl := xq2 230 (by decide +kernel) rfl
theorem q_471 : (Jvm.Cond.code ({ cls := "WaitedPost", name := "fractionPart", desc := "(JJZ)I" } : Jvm.MethodName) prog_1_method_51_code (7 : Nat) (Option.some Jvm.ClassFile.FieldType.int)) ∈ xtbl := xq2 231 (by decide +kernel) rfl
theorem q_472 : (Jvm.Cond.methodLink "WaitedPost" (242 : Nat) ({ cls := "java/lang/Math", name := "abs", desc := "(J)J" } : Jvm.MethodName)) ∈ xtbl := xq2 232 (by decide +kernel) rfl
theorem q_473 : (Jvm.Cond.static ({ cls := "java/lang/Math", name := "abs", desc := "(J)J" } : Jvm.MethodName)) ∈ xtbl := xq2 233 (by decide +kernel) rfl
theorem q_474 : (Jvm.Cond.code ({ cls := "java/lang/Math", name := "abs", desc := "(J)J" } : Jvm.MethodName) prog_9_method_61_code (2 : Nat) (Option.some Jvm.ClassFile.FieldType.long)) ∈ xtbl := xq2 234 (by decide +kernel) rfl
theorem q_475 : (Jvm.Cond.methodLink "WaitedPost" (248 : Nat) ({ cls := "WaitedPost", name := "commonDivisor", desc := "(JJ)J" } : Jvm.MethodName)) ∈ xtbl := xq2 235 (by decide +kernel) rfl
theorem q_476 : (Jvm.Cond.static ({ cls := "WaitedPost", name := "commonDivisor", desc := "(JJ)J" } : Jvm.MethodName)) ∈ xtbl := xq2 236 (by decide +kernel) rfl
theorem q_477 : (Jvm.Cond.code ({ cls := "WaitedPost", name := "commonDivisor", desc := "(JJ)J" } : Jvm.MethodName) prog_1_method_52_code (11 : Nat) (Option.some Jvm.ClassFile.FieldType.long)) ∈ xtbl := xq2 237 (by decide +kernel) rfl
theorem q_478 : (Jvm.Cond.methodLink "WaitedPost" (186 : Nat) ({ cls := "java/lang/Integer", name := "bitCount", desc := "(I)I" } : Jvm.MethodName)) ∈ xtbl := xq2 238 (by decide +kernel) rfl
theorem q_479 : (Jvm.Cond.methodLink "WaitedPost" (191 : Nat) ({ cls := "WaitedPost", name := "factorial", desc := "(I)J" } : Jvm.MethodName)) ∈ xtbl := xq2 239 (by decide +kernel) rfl
theorem q_480 : (Jvm.Cond.static ({ cls := "WaitedPost", name := "factorial", desc := "(I)J" } : Jvm.MethodName)) ∈ xtbl := xq3 0 (by decide +kernel) rfl
theorem q_481 : (Jvm.Cond.code ({ cls := "WaitedPost", name := "factorial", desc := "(I)J" } : Jvm.MethodName) prog_1_method_50_code (4 : Nat) (Option.some Jvm.ClassFile.FieldType.long)) ∈ xtbl := xq3 1 (by decide +kernel) rfl
theorem q_482 : (Jvm.Cond.methodLink "WaitedPost" (195 : Nat) ({ cls := "WaitedPost", name := "costForShare", desc := "(I)I" } : Jvm.MethodName)) ∈ xtbl := xq3 2 (by decide +kernel) rfl
theorem q_484 : (Jvm.Cond.instanceMethod ({ cls := "WaitedPost", name := "costForShare", desc := "(I)I" } : Jvm.MethodName)) ∈ xtbl := xq3 4 (by decide +kernel) rfl
theorem q_485 : (Jvm.Cond.code ({ cls := "WaitedPost", name := "costForShare", desc := "(I)I" } : Jvm.MethodName) prog_1_method_39_code (2 : Nat) (Option.some Jvm.ClassFile.FieldType.int)) ∈ xtbl := xq3 5 (by decide +kernel) rfl
theorem q_486 : (Jvm.Cond.methodLink "WaitedPostLaw" (94 : Nat) ({ cls := "WaitedPost", name := "rests", desc := "(III)I" } : Jvm.MethodName)) ∈ xtbl := xq3 6 (by decide +kernel) rfl
theorem q_487 : (Jvm.Cond.instanceMethod ({ cls := "WaitedPost", name := "rests", desc := "(III)I" } : Jvm.MethodName)) ∈ xtbl := xq3 7 (by decide +kernel) rfl
theorem q_488 : (Jvm.Cond.selects "WaitedPost" ({ cls := "WaitedPost", name := "rests", desc := "(III)I" } : Jvm.MethodName) ({ cls := "WaitedPost", name := "rests", desc := "(III)I" } : Jvm.MethodName)) ∈ xtbl := xq3 8 (by decide +kernel) rfl
theorem q_489 : (Jvm.Cond.code ({ cls := "WaitedPost", name := "rests", desc := "(III)I" } : Jvm.MethodName) prog_1_method_21_code (8 : Nat) (Option.some Jvm.ClassFile.FieldType.int)) ∈ xtbl := xq3 9 (by decide +kernel) rfl
theorem q_490 : (Jvm.Cond.methodLink "WaitedPost" (198 : Nat) ({ cls := "WaitedPost", name := "isBestDay", desc := "(IIII)Z" } : Jvm.MethodName)) ∈ xtbl := xq3 10 (by decide +kernel) rfl
theorem q_492 : (Jvm.Cond.instanceMethod ({ cls := "WaitedPost", name := "isBestDay", desc := "(IIII)Z" } : Jvm.MethodName)) ∈ xtbl := xq3 12 (by decide +kernel) rfl
theorem q_493 : (Jvm.Cond.code ({ cls := "WaitedPost", name := "isBestDay", desc := "(IIII)Z" } : Jvm.MethodName) prog_1_method_41_code (7 : Nat) (Option.some Jvm.ClassFile.FieldType.boolean)) ∈ xtbl := xq3 13 (by decide +kernel) rfl
theorem q_494 : (Jvm.Cond.methodLink "WaitedPost" (238 : Nat) ({ cls := "WaitedPost", name := "costBeside", desc := "(IIII)I" } : Jvm.MethodName)) ∈ xtbl := xq3 14 (by decide +kernel) rfl
theorem q_496 : (Jvm.Cond.instanceMethod ({ cls := "WaitedPost", name := "costBeside", desc := "(IIII)I" } : Jvm.MethodName)) ∈ xtbl := xq3 16 (by decide +kernel) rfl
theorem q_497 : (Jvm.Cond.code ({ cls := "WaitedPost", name := "costBeside", desc := "(IIII)I" } : Jvm.MethodName) prog_1_method_40_code (7 : Nat) (Option.some Jvm.ClassFile.FieldType.int)) ∈ xtbl := xq3 17 (by decide +kernel) rfl
theorem q_498 : (Jvm.Cond.methodLink "WaitedPostLaw" (98 : Nat) ({ cls := "WaitedPost", name := "lost", desc := "(IIIZ)I" } : Jvm.MethodName)) ∈ xtbl := xq3 18 (by decide +kernel) rfl
theorem q_499 : (Jvm.Cond.instanceMethod ({ cls := "WaitedPost", name := "lost", desc := "(IIIZ)I" } : Jvm.MethodName)) ∈ xtbl := xq3 19 (by decide +kernel) rfl
theorem q_500 : (Jvm.Cond.selects "WaitedPost" ({ cls := "WaitedPost", name := "lost", desc := "(IIIZ)I" } : Jvm.MethodName) ({ cls := "WaitedPost", name := "lost", desc := "(IIIZ)I" } : Jvm.MethodName)) ∈ xtbl := xq3 20 (by decide +kernel) rfl
theorem q_501 : (Jvm.Cond.code ({ cls := "WaitedPost", name := "lost", desc := "(IIIZ)I" } : Jvm.MethodName) prog_1_method_22_code (11 : Nat) (Option.some Jvm.ClassFile.FieldType.int)) ∈ xtbl := xq3 21 (by decide +kernel) rfl
theorem q_502 : (Jvm.Cond.methodLink "WaitedPost" (202 : Nat) ({ cls := "WaitedPost", name := "power", desc := "(II)J" } : Jvm.MethodName)) ∈ xtbl := xq3 22 (by decide +kernel) rfl
theorem q_503 : (Jvm.Cond.methodLink "WaitedPostLaw" (105 : Nat) ({ cls := "WaitedPost", name := "seed", desc := "(J)J" } : Jvm.MethodName)) ∈ xtbl := xq3 23 (by decide +kernel) rfl
theorem q_504 : (Jvm.Cond.instanceMethod ({ cls := "WaitedPost", name := "seed", desc := "(J)J" } : Jvm.MethodName)) ∈ xtbl := xq3 24 (by decide +kernel) rfl
theorem q_505 : (Jvm.Cond.selects "WaitedPost" ({ cls := "WaitedPost", name := "seed", desc := "(J)J" } : Jvm.MethodName) ({ cls := "WaitedPost", name := "seed", desc := "(J)J" } : Jvm.MethodName)) ∈ xtbl := xq3 25 (by decide +kernel) rfl
theorem q_506 : (Jvm.Cond.code ({ cls := "WaitedPost", name := "seed", desc := "(J)J" } : Jvm.MethodName) prog_1_method_23_code (5 : Nat) (Option.some Jvm.ClassFile.FieldType.long)) ∈ xtbl := xq3 26 (by decide +kernel) rfl
theorem q_507 : (Jvm.Cond.methodLink "WaitedPostLaw" (110 : Nat) ({ cls := "WaitedPost", name := "years", desc := "(I)I" } : Jvm.MethodName)) ∈ xtbl := xq3 27 (by decide +kernel) rfl
theorem q_508 : (Jvm.Cond.instanceMethod ({ cls := "WaitedPost", name := "years", desc := "(I)I" } : Jvm.MethodName)) ∈ xtbl := xq3 28 (by decide +kernel) rfl
theorem q_509 : (Jvm.Cond.selects "WaitedPost" ({ cls := "WaitedPost", name := "years", desc := "(I)I" } : Jvm.MethodName) ({ cls := "WaitedPost", name := "years", desc := "(I)I" } : Jvm.MethodName)) ∈ xtbl := xq3 29 (by decide +kernel) rfl
theorem q_510 : (Jvm.Cond.code ({ cls := "WaitedPost", name := "years", desc := "(I)I" } : Jvm.MethodName) prog_1_method_24_code (4 : Nat) (Option.some Jvm.ClassFile.FieldType.int)) ∈ xtbl := xq3 30 (by decide +kernel) rfl
theorem q_511 : (Jvm.Cond.constantLong "WaitedPost" (210 : Nat) (6364136223846793005 : Int64)) ∈ xtbl := xq3 31 (by decide +kernel) rfl
theorem q_512 : (Jvm.Cond.constantLong "WaitedPost" (212 : Nat) (1442695040888963407 : Int64)) ∈ xtbl := xq3 32 (by decide +kernel) rfl
theorem q_513 : (Jvm.Cond.methodLink "WaitedPostLaw" (114 : Nat) ({ cls := "WaitedPost", name := "keep", desc := "(I)I" } : Jvm.MethodName)) ∈ xtbl := xq3 33 (by decide +kernel) rfl
theorem q_514 : (Jvm.Cond.instanceMethod ({ cls := "WaitedPost", name := "keep", desc := "(I)I" } : Jvm.MethodName)) ∈ xtbl := xq3 34 (by decide +kernel) rfl
theorem q_515 : (Jvm.Cond.selects "WaitedPost" ({ cls := "WaitedPost", name := "keep", desc := "(I)I" } : Jvm.MethodName) ({ cls := "WaitedPost", name := "keep", desc := "(I)I" } : Jvm.MethodName)) ∈ xtbl := xq3 35 (by decide +kernel) rfl
theorem q_516 : (Jvm.Cond.code ({ cls := "WaitedPost", name := "keep", desc := "(I)I" } : Jvm.MethodName) prog_1_method_25_code (2 : Nat) (Option.some Jvm.ClassFile.FieldType.int)) ∈ xtbl := xq3 36 (by decide +kernel) rfl
theorem q_517 : (Jvm.Cond.methodLink "WaitedPostLaw" (118 : Nat) ({ cls := "WaitedPost", name := "again", desc := "(I)I" } : Jvm.MethodName)) ∈ xtbl := xq3 37 (by decide +kernel) rfl
theorem q_518 : (Jvm.Cond.instanceMethod ({ cls := "WaitedPost", name := "again", desc := "(I)I" } : Jvm.MethodName)) ∈ xtbl := xq3 38 (by decide +kernel) rfl
theorem q_519 : (Jvm.Cond.selects "WaitedPost" ({ cls := "WaitedPost", name := "again", desc := "(I)I" } : Jvm.MethodName) ({ cls := "WaitedPost", name := "again", desc := "(I)I" } : Jvm.MethodName)) ∈ xtbl := xq3 39 (by decide +kernel) rfl
theorem q_520 : (Jvm.Cond.code ({ cls := "WaitedPost", name := "again", desc := "(I)I" } : Jvm.MethodName) prog_1_method_26_code (2 : Nat) (Option.some Jvm.ClassFile.FieldType.int)) ∈ xtbl := xq3 40 (by decide +kernel) rfl
theorem q_521 : (Jvm.Cond.methodLink "WaitedPostLaw" (122 : Nat) ({ cls := "WaitedPost", name := "count", desc := "(I)I" } : Jvm.MethodName)) ∈ xtbl := xq3 41 (by decide +kernel) rfl
theorem q_522 : (Jvm.Cond.instanceMethod ({ cls := "WaitedPost", name := "count", desc := "(I)I" } : Jvm.MethodName)) ∈ xtbl := xq3 42 (by decide +kernel) rfl
theorem q_523 : (Jvm.Cond.selects "WaitedPost" ({ cls := "WaitedPost", name := "count", desc := "(I)I" } : Jvm.MethodName) ({ cls := "WaitedPost", name := "count", desc := "(I)I" } : Jvm.MethodName)) ∈ xtbl := xq3 43 (by decide +kernel) rfl
theorem q_524 : (Jvm.Cond.code ({ cls := "WaitedPost", name := "count", desc := "(I)I" } : Jvm.MethodName) prog_1_method_27_code (2 : Nat) (Option.some Jvm.ClassFile.FieldType.int)) ∈ xtbl := xq3 44 (by decide +kernel) rfl
theorem q_525 : (Jvm.Cond.methodLink "WaitedPost" (223 : Nat) ({ cls := "WaitedPost", name := "costOfUnsent", desc := "()I" } : Jvm.MethodName)) ∈ xtbl := xq3 45 (by decide +kernel) rfl
theorem q_527 : (Jvm.Cond.instanceMethod ({ cls := "WaitedPost", name := "costOfUnsent", desc := "()I" } : Jvm.MethodName)) ∈ xtbl := xq3 47 (by decide +kernel) rfl
theorem q_528 : (Jvm.Cond.code ({ cls := "WaitedPost", name := "costOfUnsent", desc := "()I" } : Jvm.MethodName) prog_1_method_31_code (3 : Nat) (Option.some Jvm.ClassFile.FieldType.int)) ∈ xtbl := xq3 48 (by decide +kernel) rfl
theorem q_529 : (Jvm.Cond.classLink "WaitedPostLaw" (10 : Nat) "WaitedPostModel") ∈ xtbl := xq3 49 (by decide +kernel) rfl
theorem q_530 : (Jvm.Cond.instantiable "WaitedPostModel" (24 : Nat)) ∈ xtbl := xq3 50 (by decide +kernel) rfl
theorem q_531 : (Jvm.Cond.methodLink "WaitedPostLaw" (12 : Nat) ({ cls := "WaitedPostModel", name := "<init>", desc := "()V" } : Jvm.MethodName)) ∈ xtbl := xq3 51 (by decide +kernel) rfl
theorem q_532 : (Jvm.Cond.instanceMethod ({ cls := "WaitedPostModel", name := "<init>", desc := "()V" } : Jvm.MethodName)) ∈ xtbl := xq3 52 (by decide +kernel) rfl
theorem q_533 : (Jvm.Cond.code ({ cls := "WaitedPostModel", name := "<init>", desc := "()V" } : Jvm.MethodName) prog_7_method_1_code (1 : Nat) (Option.none : Option Jvm.ClassFile.FieldType)) ∈ xtbl := xq3 53 (by decide +kernel) rfl
theorem q_534 : (Jvm.Cond.methodLink "WaitedPostModel" (1 : Nat) ({ cls := "java/lang/Object", name := "<init>", desc := "()V" } : Jvm.MethodName)) ∈ xtbl := xq3 54 (by decide +kernel) rfl
theorem q_535 : (Jvm.Cond.fieldLink "WaitedPostModel" (96 : Nat) "WaitedPostModel" "letters" "I") ∈ xtbl := xq3 55 (by decide +kernel) rfl
theorem q_536 : (Jvm.Cond.fieldLink "WaitedPostModel" (99 : Nat) "WaitedPostModel" "pardon" "I") ∈ xtbl := xq3 56 (by decide +kernel) rfl
theorem q_537 : (Jvm.Cond.fieldLink "WaitedPostModel" (44 : Nat) "WaitedPostModel" "room" "I") ∈ xtbl := xq3 57 (by decide +kernel) rfl
theorem q_538 : (Jvm.Cond.fieldLink "WaitedPostModel" (7 : Nat) "WaitedPostModel" "kind" "[I") ∈ xtbl := xq3 58 (by decide +kernel) rfl
theorem q_539 : (Jvm.Cond.fieldLink "WaitedPostModel" (13 : Nat) "WaitedPostModel" "explained" "[I") ∈ xtbl := xq3 59 (by decide +kernel) rfl
theorem q_540 : (Jvm.Cond.fieldLink "WaitedPostModel" (16 : Nat) "WaitedPostModel" "now" "[I") ∈ xtbl := xq3 60 (by decide +kernel) rfl
theorem q_541 : (Jvm.Cond.fieldLink "WaitedPostModel" (19 : Nat) "WaitedPostModel" "readWait" "[I") ∈ xtbl := xq3 61 (by decide +kernel) rfl
theorem q_542 : (Jvm.Cond.fieldLink "WaitedPostModel" (22 : Nat) "WaitedPostModel" "readKind" "[I") ∈ xtbl := xq3 62 (by decide +kernel) rfl
theorem q_543 : (Jvm.Cond.fieldLink "WaitedPostModel" (25 : Nat) "WaitedPostModel" "readExplained" "[I") ∈ xtbl := xq3 63 (by decide +kernel) rfl
theorem q_544 : (Jvm.Cond.fieldLink "WaitedPostModel" (69 : Nat) "WaitedPostModel" "readLetters" "I") ∈ xtbl := xq3 64 (by decide +kernel) rfl
theorem q_545 : (Jvm.Cond.fieldLink "WaitedPostModel" (80 : Nat) "WaitedPostModel" "readPardon" "I") ∈ xtbl := xq3 65 (by decide +kernel) rfl
theorem q_546 : (Jvm.Cond.fieldLink "WaitedPostModel" (83 : Nat) "WaitedPostModel" "readRoom" "I") ∈ xtbl := xq3 66 (by decide +kernel) rfl
theorem q_547 : (Jvm.Cond.fieldLink "WaitedPostModel" (28 : Nat) "WaitedPostModel" "text" "[I") ∈ xtbl := xq3 67 (by decide +kernel) rfl
theorem q_548 : (Jvm.Cond.fieldLink "WaitedPostModel" (54 : Nat) "WaitedPostModel" "length" "I") ∈ xtbl := xq3 68 (by decide +kernel) rfl
theorem q_549 : (Jvm.Cond.fieldLink "WaitedPostModel" (60 : Nat) "WaitedPostModel" "at" "I") ∈ xtbl := xq3 69 (by decide +kernel) rfl
theorem q_550 : (Jvm.Cond.fieldLink "WaitedPostModel" (57 : Nat) "WaitedPostModel" "faultAt" "I") ∈ xtbl := xq3 70 (by decide +kernel) rfl
theorem q_551 : (Jvm.Cond.fieldLink "WaitedPostModel" (102 : Nat) "WaitedPostModel" "acts" "I") ∈ xtbl := xq3 71 (by decide +kernel) rfl
theorem q_552 : (Jvm.Cond.fieldLink "WaitedPostModel" (122 : Nat) "WaitedPostModel" "next" "I") ∈ xtbl := xq3 72 (by decide +kernel) rfl
theorem q_553 : (Jvm.Cond.fieldLink "WaitedPostModel" (31 : Nat) "WaitedPostModel" "row" "[I") ∈ xtbl := xq3 73 (by decide +kernel) rfl
theorem q_554 : (Jvm.Cond.fieldLink "WaitedPostModel" (151 : Nat) "WaitedPostModel" "bestRow" "I") ∈ xtbl := xq3 74 (by decide +kernel) rfl
theorem q_555 : (Jvm.Cond.fieldLink "WaitedPostModel" (34 : Nat) "WaitedPostModel" "leasts" "[I") ∈ xtbl := xq3 75 (by decide +kernel) rfl
theorem q_556 : (Jvm.Cond.fieldLink "WaitedPostModel" (197 : Nat) "WaitedPostModel" "seed" "J") ∈ xtbl := xq3 76 (by decide +kernel) rfl
theorem q_557 : (Jvm.Cond.fieldLink "WaitedPostModel" (37 : Nat) "WaitedPostModel" "isKept" "[Z") ∈ xtbl := xq3 77 (by decide +kernel) rfl
theorem q_558 : (Jvm.Cond.fieldLink "WaitedPostModel" (41 : Nat) "WaitedPostModel" "kept" "[I") ∈ xtbl := xq3 78 (by decide +kernel) rfl
theorem q_608 : (Jvm.Cond.arrayClass Jvm.ClassFile.FieldType.boolean) ∈ xtbl := xq3 128 (by decide +kernel) rfl
theorem q_609 : (Jvm.Cond.methodLink "WaitedPostLaw" (17 : Nat) ({ cls := "WaitedPostModel", name := "write", desc := "(I)I" } : Jvm.MethodName)) ∈ xtbl := xq3 129 (by decide +kernel) rfl
theorem q_610 : (Jvm.Cond.instanceMethod ({ cls := "WaitedPostModel", name := "write", desc := "(I)I" } : Jvm.MethodName)) ∈ xtbl := xq3 130 (by decide +kernel) rfl
theorem q_611 : (Jvm.Cond.selects "WaitedPostModel" ({ cls := "WaitedPostModel", name := "write", desc := "(I)I" } : Jvm.MethodName) ({ cls := "WaitedPostModel", name := "write", desc := "(I)I" } : Jvm.MethodName)) ∈ xtbl := xq3 131 (by decide +kernel) rfl
theorem q_612 : (Jvm.Cond.code ({ cls := "WaitedPostModel", name := "write", desc := "(I)I" } : Jvm.MethodName) prog_7_method_6_code (2 : Nat) (Option.some Jvm.ClassFile.FieldType.int)) ∈ xtbl := xq3 132 (by decide +kernel) rfl
theorem q_613 : (Jvm.Cond.constantLong "WaitedPostModel" (48 : Nat) (255 : Int64)) ∈ xtbl := xq3 133 (by decide +kernel) rfl
theorem q_614 : (Jvm.Cond.methodLink "WaitedPostModel" (50 : Nat) ({ cls := "WaitedPostModel", name := "in", desc := "(JJJ)Z" } : Jvm.MethodName)) ∈ xtbl := xq3 134 (by decide +kernel) rfl
theorem q_615 : (Jvm.Cond.static ({ cls := "WaitedPostModel", name := "in", desc := "(JJJ)Z" } : Jvm.MethodName)) ∈ xtbl := xq3 135 (by decide +kernel) rfl
theorem q_616 : (Jvm.Cond.code ({ cls := "WaitedPostModel", name := "in", desc := "(JJJ)Z" } : Jvm.MethodName) prog_7_method_3_code (6 : Nat) (Option.some Jvm.ClassFile.FieldType.boolean)) ∈ xtbl := xq3 136 (by decide +kernel) rfl
theorem q_617 : (Jvm.Cond.methodLink "WaitedPostLaw" (22 : Nat) ({ cls := "WaitedPostModel", name := "wipe", desc := "()I" } : Jvm.MethodName)) ∈ xtbl := xq3 137 (by decide +kernel) rfl
theorem q_618 : (Jvm.Cond.instanceMethod ({ cls := "WaitedPostModel", name := "wipe", desc := "()I" } : Jvm.MethodName)) ∈ xtbl := xq3 138 (by decide +kernel) rfl
theorem q_619 : (Jvm.Cond.selects "WaitedPostModel" ({ cls := "WaitedPostModel", name := "wipe", desc := "()I" } : Jvm.MethodName) ({ cls := "WaitedPostModel", name := "wipe", desc := "()I" } : Jvm.MethodName)) ∈ xtbl := xq3 139 (by decide +kernel) rfl
theorem q_620 : (Jvm.Cond.code ({ cls := "WaitedPostModel", name := "wipe", desc := "()I" } : Jvm.MethodName) prog_7_method_7_code (2 : Nat) (Option.some Jvm.ClassFile.FieldType.int)) ∈ xtbl := xq3 140 (by decide +kernel) rfl
theorem q_621 : (Jvm.Cond.methodLink "WaitedPostLaw" (26 : Nat) ({ cls := "WaitedPostModel", name := "fault", desc := "()I" } : Jvm.MethodName)) ∈ xtbl := xq3 141 (by decide +kernel) rfl
theorem q_622 : (Jvm.Cond.instanceMethod ({ cls := "WaitedPostModel", name := "fault", desc := "()I" } : Jvm.MethodName)) ∈ xtbl := xq3 142 (by decide +kernel) rfl
theorem q_623 : (Jvm.Cond.selects "WaitedPostModel" ({ cls := "WaitedPostModel", name := "fault", desc := "()I" } : Jvm.MethodName) ({ cls := "WaitedPostModel", name := "fault", desc := "()I" } : Jvm.MethodName)) ∈ xtbl := xq3 143 (by decide +kernel) rfl
theorem q_624 : (Jvm.Cond.code ({ cls := "WaitedPostModel", name := "fault", desc := "()I" } : Jvm.MethodName) prog_7_method_13_code (1 : Nat) (Option.some Jvm.ClassFile.FieldType.int)) ∈ xtbl := xq3 144 (by decide +kernel) rfl
theorem q_625 : (Jvm.Cond.methodLink "WaitedPostModel" (93 : Nat) ({ cls := "WaitedPostModel", name := "readText", desc := "()I" } : Jvm.MethodName)) ∈ xtbl := xq3 145 (by decide +kernel) rfl
theorem q_627 : (Jvm.Cond.instanceMethod ({ cls := "WaitedPostModel", name := "readText", desc := "()I" } : Jvm.MethodName)) ∈ xtbl := xq3 147 (by decide +kernel) rfl
theorem q_628 : (Jvm.Cond.code ({ cls := "WaitedPostModel", name := "readText", desc := "()I" } : Jvm.MethodName) prog_7_method_12_code (3 : Nat) (Option.some Jvm.ClassFile.FieldType.int)) ∈ xtbl := xq3 148 (by decide +kernel) rfl
theorem q_629 : (Jvm.Cond.methodLink "WaitedPostModel" (76 : Nat) ({ cls := "WaitedPostModel", name := "figure", desc := "(II)I" } : Jvm.MethodName)) ∈ xtbl := xq3 149 (by decide +kernel) rfl
theorem q_631 : (Jvm.Cond.instanceMethod ({ cls := "WaitedPostModel", name := "figure", desc := "(II)I" } : Jvm.MethodName)) ∈ xtbl := xq3 151 (by decide +kernel) rfl
theorem q_632 : (Jvm.Cond.code ({ cls := "WaitedPostModel", name := "figure", desc := "(II)I" } : Jvm.MethodName) prog_7_method_8_code (4 : Nat) (Option.some Jvm.ClassFile.FieldType.int)) ∈ xtbl := xq3 152 (by decide +kernel) rfl
theorem q_633 : (Jvm.Cond.methodLink "WaitedPostModel" (86 : Nat) ({ cls := "WaitedPostModel", name := "firstsLeft", desc := "()I" } : Jvm.MethodName)) ∈ xtbl := xq3 153 (by decide +kernel) rfl
theorem q_635 : (Jvm.Cond.instanceMethod ({ cls := "WaitedPostModel", name := "firstsLeft", desc := "()I" } : Jvm.MethodName)) ∈ xtbl := xq3 155 (by decide +kernel) rfl
theorem q_636 : (Jvm.Cond.code ({ cls := "WaitedPostModel", name := "firstsLeft", desc := "()I" } : Jvm.MethodName) prog_7_method_11_code (3 : Nat) (Option.some Jvm.ClassFile.FieldType.int)) ∈ xtbl := xq3 156 (by decide +kernel) rfl
theorem q_637 : (Jvm.Cond.methodLink "WaitedPostModel" (72 : Nat) ({ cls := "WaitedPostModel", name := "left", desc := "(I)I" } : Jvm.MethodName)) ∈ xtbl := xq3 157 (by decide +kernel) rfl
theorem q_639 : (Jvm.Cond.instanceMethod ({ cls := "WaitedPostModel", name := "left", desc := "(I)I" } : Jvm.MethodName)) ∈ xtbl := xq3 159 (by decide +kernel) rfl
theorem q_640 : (Jvm.Cond.code ({ cls := "WaitedPostModel", name := "left", desc := "(I)I" } : Jvm.MethodName) prog_7_method_10_code (4 : Nat) (Option.some Jvm.ClassFile.FieldType.int)) ∈ xtbl := xq3 160 (by decide +kernel) rfl
theorem q_641 : (Jvm.Cond.methodLink "WaitedPostModel" (65 : Nat) ({ cls := "WaitedPostModel", name := "has", desc := "(II)Z" } : Jvm.MethodName)) ∈ xtbl := xq3 161 (by decide +kernel) rfl
theorem q_642 : (Jvm.Cond.static ({ cls := "WaitedPostModel", name := "has", desc := "(II)Z" } : Jvm.MethodName)) ∈ xtbl := xq3 162 (by decide +kernel) rfl
theorem q_643 : (Jvm.Cond.code ({ cls := "WaitedPostModel", name := "has", desc := "(II)Z" } : Jvm.MethodName) prog_7_method_4_code (2 : Nat) (Option.some Jvm.ClassFile.FieldType.boolean)) ∈ xtbl := xq3 163 (by decide +kernel) rfl
theorem q_644 : (Jvm.Cond.methodLink "WaitedPostModel" (90 : Nat) ({ cls := "WaitedPostModel", name := "figureOf", desc := "(I)I" } : Jvm.MethodName)) ∈ xtbl := xq3 164 (by decide +kernel) rfl
theorem q_646 : (Jvm.Cond.instanceMethod ({ cls := "WaitedPostModel", name := "figureOf", desc := "(I)I" } : Jvm.MethodName)) ∈ xtbl := xq3 166 (by decide +kernel) rfl
theorem q_647 : (Jvm.Cond.code ({ cls := "WaitedPostModel", name := "figureOf", desc := "(I)I" } : Jvm.MethodName) prog_7_method_9_code (3 : Nat) (Option.some Jvm.ClassFile.FieldType.int)) ∈ xtbl := xq3 167 (by decide +kernel) rfl
theorem q_648 : (Jvm.Cond.constantLong "WaitedPostModel" (63 : Nat) (9 : Int64)) ∈ xtbl := xq3 168 (by decide +kernel) rfl
theorem q_649 : (Jvm.Cond.methodLink "WaitedPostLaw" (30 : Nat) ({ cls := "WaitedPostModel", name := "post", desc := "()I" } : Jvm.MethodName)) ∈ xtbl := xq3 169 (by decide +kernel) rfl
theorem q_650 : (Jvm.Cond.instanceMethod ({ cls := "WaitedPostModel", name := "post", desc := "()I" } : Jvm.MethodName)) ∈ xtbl := xq3 170 (by decide +kernel) rfl
theorem q_651 : (Jvm.Cond.selects "WaitedPostModel" ({ cls := "WaitedPostModel", name := "post", desc := "()I" } : Jvm.MethodName) ({ cls := "WaitedPostModel", name := "post", desc := "()I" } : Jvm.MethodName)) ∈ xtbl := xq3 171 (by decide +kernel) rfl
theorem q_652 : (Jvm.Cond.code ({ cls := "WaitedPostModel", name := "post", desc := "()I" } : Jvm.MethodName) prog_7_method_14_code (2 : Nat) (Option.some Jvm.ClassFile.FieldType.int)) ∈ xtbl := xq3 172 (by decide +kernel) rfl
theorem q_653 : (Jvm.Cond.methodLink "WaitedPostLaw" (35 : Nat) ({ cls := "WaitedPostModel", name := "letter", desc := "(II)I" } : Jvm.MethodName)) ∈ xtbl := xq3 173 (by decide +kernel) rfl
theorem q_654 : (Jvm.Cond.instanceMethod ({ cls := "WaitedPostModel", name := "letter", desc := "(II)I" } : Jvm.MethodName)) ∈ xtbl := xq3 174 (by decide +kernel) rfl
theorem q_655 : (Jvm.Cond.selects "WaitedPostModel" ({ cls := "WaitedPostModel", name := "letter", desc := "(II)I" } : Jvm.MethodName) ({ cls := "WaitedPostModel", name := "letter", desc := "(II)I" } : Jvm.MethodName)) ∈ xtbl := xq3 175 (by decide +kernel) rfl
theorem q_656 : (Jvm.Cond.code ({ cls := "WaitedPostModel", name := "letter", desc := "(II)I" } : Jvm.MethodName) prog_7_method_19_code (3 : Nat) (Option.some Jvm.ClassFile.FieldType.int)) ∈ xtbl := xq3 176 (by decide +kernel) rfl
theorem q_657 : (Jvm.Cond.methodLink "WaitedPostModel" (112 : Nat) ({ cls := "WaitedPostModel", name := "isLetter", desc := "(I)Z" } : Jvm.MethodName)) ∈ xtbl := xq3 177 (by decide +kernel) rfl
theorem q_659 : (Jvm.Cond.instanceMethod ({ cls := "WaitedPostModel", name := "isLetter", desc := "(I)Z" } : Jvm.MethodName)) ∈ xtbl := xq3 179 (by decide +kernel) rfl
theorem q_660 : (Jvm.Cond.code ({ cls := "WaitedPostModel", name := "isLetter", desc := "(I)Z" } : Jvm.MethodName) prog_7_method_15_code (2 : Nat) (Option.some Jvm.ClassFile.FieldType.boolean)) ∈ xtbl := xq3 180 (by decide +kernel) rfl
theorem q_661 : (Jvm.Cond.methodLink "WaitedPostModel" (116 : Nat) ({ cls := "WaitedPostModel", name := "isSent", desc := "(II)Z" } : Jvm.MethodName)) ∈ xtbl := xq3 181 (by decide +kernel) rfl
theorem q_663 : (Jvm.Cond.instanceMethod ({ cls := "WaitedPostModel", name := "isSent", desc := "(II)Z" } : Jvm.MethodName)) ∈ xtbl := xq3 183 (by decide +kernel) rfl
theorem q_664 : (Jvm.Cond.code ({ cls := "WaitedPostModel", name := "isSent", desc := "(II)Z" } : Jvm.MethodName) prog_7_method_16_code (3 : Nat) (Option.some Jvm.ClassFile.FieldType.boolean)) ∈ xtbl := xq3 184 (by decide +kernel) rfl
theorem q_665 : (Jvm.Cond.methodLink "WaitedPostModel" (119 : Nat) ({ cls := "WaitedPostModel", name := "priceOn", desc := "(II)I" } : Jvm.MethodName)) ∈ xtbl := xq3 185 (by decide +kernel) rfl
theorem q_667 : (Jvm.Cond.instanceMethod ({ cls := "WaitedPostModel", name := "priceOn", desc := "(II)I" } : Jvm.MethodName)) ∈ xtbl := xq3 187 (by decide +kernel) rfl
theorem q_668 : (Jvm.Cond.code ({ cls := "WaitedPostModel", name := "priceOn", desc := "(II)I" } : Jvm.MethodName) prog_7_method_18_code (4 : Nat) (Option.some Jvm.ClassFile.FieldType.int)) ∈ xtbl := xq3 188 (by decide +kernel) rfl
theorem q_669 : (Jvm.Cond.methodLink "WaitedPostModel" (105 : Nat) ({ cls := "WaitedPostModel", name := "ones", desc := "(I)I" } : Jvm.MethodName)) ∈ xtbl := xq3 189 (by decide +kernel) rfl
theorem q_670 : (Jvm.Cond.static ({ cls := "WaitedPostModel", name := "ones", desc := "(I)I" } : Jvm.MethodName)) ∈ xtbl := xq3 190 (by decide +kernel) rfl
theorem q_671 : (Jvm.Cond.code ({ cls := "WaitedPostModel", name := "ones", desc := "(I)I" } : Jvm.MethodName) prog_7_method_5_code (3 : Nat) (Option.some Jvm.ClassFile.FieldType.int)) ∈ xtbl := xq3 191 (by decide +kernel) rfl
theorem q_672 : (Jvm.Cond.methodLink "WaitedPostModel" (108 : Nat) ({ cls := "WaitedPostModel", name := "priceBy", desc := "(IIZII)I" } : Jvm.MethodName)) ∈ xtbl := xq3 192 (by decide +kernel) rfl
theorem q_674 : (Jvm.Cond.instanceMethod ({ cls := "WaitedPostModel", name := "priceBy", desc := "(IIZII)I" } : Jvm.MethodName)) ∈ xtbl := xq3 194 (by decide +kernel) rfl
theorem q_675 : (Jvm.Cond.code ({ cls := "WaitedPostModel", name := "priceBy", desc := "(IIZII)I" } : Jvm.MethodName) prog_7_method_17_code (8 : Nat) (Option.some Jvm.ClassFile.FieldType.int)) ∈ xtbl := xq3 195 (by decide +kernel) rfl
theorem q_676 : (Jvm.Cond.methodLink "WaitedPostLaw" (39 : Nat) ({ cls := "WaitedPostModel", name := "send", desc := "(I)I" } : Jvm.MethodName)) ∈ xtbl := xq3 196 (by decide +kernel) rfl
theorem q_677 : (Jvm.Cond.instanceMethod ({ cls := "WaitedPostModel", name := "send", desc := "(I)I" } : Jvm.MethodName)) ∈ xtbl := xq3 197 (by decide +kernel) rfl
theorem q_678 : (Jvm.Cond.selects "WaitedPostModel" ({ cls := "WaitedPostModel", name := "send", desc := "(I)I" } : Jvm.MethodName) ({ cls := "WaitedPostModel", name := "send", desc := "(I)I" } : Jvm.MethodName)) ∈ xtbl := xq3 198 (by decide +kernel) rfl
theorem q_679 : (Jvm.Cond.code ({ cls := "WaitedPostModel", name := "send", desc := "(I)I" } : Jvm.MethodName) prog_7_method_24_code (2 : Nat) (Option.some Jvm.ClassFile.FieldType.int)) ∈ xtbl := xq3 199 (by decide +kernel) rfl
theorem q_680 : (Jvm.Cond.methodLink "WaitedPostModel" (125 : Nat) ({ cls := "WaitedPostModel", name := "keepAct", desc := "()V" } : Jvm.MethodName)) ∈ xtbl := xq3 200 (by decide +kernel) rfl
theorem q_682 : (Jvm.Cond.instanceMethod ({ cls := "WaitedPostModel", name := "keepAct", desc := "()V" } : Jvm.MethodName)) ∈ xtbl := xq3 202 (by decide +kernel) rfl
theorem q_683 : (Jvm.Cond.code ({ cls := "WaitedPostModel", name := "keepAct", desc := "()V" } : Jvm.MethodName) prog_7_method_23_code (2 : Nat) (Option.none : Option Jvm.ClassFile.FieldType)) ∈ xtbl := xq3 203 (by decide +kernel) rfl
theorem q_684 : (Jvm.Cond.methodLink "WaitedPostModel" (128 : Nat) ({ cls := "WaitedPostModel", name := "sendOn", desc := "(II)I" } : Jvm.MethodName)) ∈ xtbl := xq3 204 (by decide +kernel) rfl
theorem q_686 : (Jvm.Cond.instanceMethod ({ cls := "WaitedPostModel", name := "sendOn", desc := "(II)I" } : Jvm.MethodName)) ∈ xtbl := xq3 206 (by decide +kernel) rfl
theorem q_687 : (Jvm.Cond.code ({ cls := "WaitedPostModel", name := "sendOn", desc := "(II)I" } : Jvm.MethodName) prog_7_method_21_code (5 : Nat) (Option.some Jvm.ClassFile.FieldType.int)) ∈ xtbl := xq3 207 (by decide +kernel) rfl
theorem q_688 : (Jvm.Cond.methodLink "WaitedPostLaw" (43 : Nat) ({ cls := "WaitedPostModel", name := "day", desc := "()I" } : Jvm.MethodName)) ∈ xtbl := xq3 208 (by decide +kernel) rfl
theorem q_689 : (Jvm.Cond.instanceMethod ({ cls := "WaitedPostModel", name := "day", desc := "()I" } : Jvm.MethodName)) ∈ xtbl := xq3 209 (by decide +kernel) rfl
theorem q_690 : (Jvm.Cond.selects "WaitedPostModel" ({ cls := "WaitedPostModel", name := "day", desc := "()I" } : Jvm.MethodName) ({ cls := "WaitedPostModel", name := "day", desc := "()I" } : Jvm.MethodName)) ∈ xtbl := xq3 210 (by decide +kernel) rfl
theorem q_691 : (Jvm.Cond.code ({ cls := "WaitedPostModel", name := "day", desc := "()I" } : Jvm.MethodName) prog_7_method_25_code (1 : Nat) (Option.some Jvm.ClassFile.FieldType.int)) ∈ xtbl := xq3 211 (by decide +kernel) rfl
theorem q_692 : (Jvm.Cond.methodLink "WaitedPostModel" (131 : Nat) ({ cls := "WaitedPostModel", name := "passOn", desc := "(I)V" } : Jvm.MethodName)) ∈ xtbl := xq3 212 (by decide +kernel) rfl
theorem q_694 : (Jvm.Cond.instanceMethod ({ cls := "WaitedPostModel", name := "passOn", desc := "(I)V" } : Jvm.MethodName)) ∈ xtbl := xq3 214 (by decide +kernel) rfl
theorem q_695 : (Jvm.Cond.code ({ cls := "WaitedPostModel", name := "passOn", desc := "(I)V" } : Jvm.MethodName) prog_7_method_22_code (4 : Nat) (Option.none : Option Jvm.ClassFile.FieldType)) ∈ xtbl := xq3 215 (by decide +kernel) rfl
theorem q_696 : (Jvm.Cond.methodLink "WaitedPostLaw" (47 : Nat) ({ cls := "WaitedPostModel", name := "tear", desc := "(I)I" } : Jvm.MethodName)) ∈ xtbl := xq3 216 (by decide +kernel) rfl
theorem q_697 : (Jvm.Cond.instanceMethod ({ cls := "WaitedPostModel", name := "tear", desc := "(I)I" } : Jvm.MethodName)) ∈ xtbl := xq3 217 (by decide +kernel) rfl
theorem q_698 : (Jvm.Cond.selects "WaitedPostModel" ({ cls := "WaitedPostModel", name := "tear", desc := "(I)I" } : Jvm.MethodName) ({ cls := "WaitedPostModel", name := "tear", desc := "(I)I" } : Jvm.MethodName)) ∈ xtbl := xq3 218 (by decide +kernel) rfl
theorem q_699 : (Jvm.Cond.code ({ cls := "WaitedPostModel", name := "tear", desc := "(I)I" } : Jvm.MethodName) prog_7_method_26_code (3 : Nat) (Option.some Jvm.ClassFile.FieldType.int)) ∈ xtbl := xq3 219 (by decide +kernel) rfl
theorem q_700 : (Jvm.Cond.methodLink "WaitedPostLaw" (51 : Nat) ({ cls := "WaitedPostModel", name := "card", desc := "(I)I" } : Jvm.MethodName)) ∈ xtbl := xq3 220 (by decide +kernel) rfl
theorem q_701 : (Jvm.Cond.instanceMethod ({ cls := "WaitedPostModel", name := "card", desc := "(I)I" } : Jvm.MethodName)) ∈ xtbl := xq3 221 (by decide +kernel) rfl
theorem q_702 : (Jvm.Cond.selects "WaitedPostModel" ({ cls := "WaitedPostModel", name := "card", desc := "(I)I" } : Jvm.MethodName) ({ cls := "WaitedPostModel", name := "card", desc := "(I)I" } : Jvm.MethodName)) ∈ xtbl := xq3 222 (by decide +kernel) rfl
theorem q_703 : (Jvm.Cond.code ({ cls := "WaitedPostModel", name := "card", desc := "(I)I" } : Jvm.MethodName) prog_7_method_27_code (2 : Nat) (Option.some Jvm.ClassFile.FieldType.int)) ∈ xtbl := xq3 223 (by decide +kernel) rfl
theorem q_704 : (Jvm.Cond.methodLink "WaitedPostLaw" (55 : Nat) ({ cls := "WaitedPostModel", name := "undo", desc := "()I" } : Jvm.MethodName)) ∈ xtbl := xq3 224 (by decide +kernel) rfl
theorem q_705 : (Jvm.Cond.instanceMethod ({ cls := "WaitedPostModel", name := "undo", desc := "()I" } : Jvm.MethodName)) ∈ xtbl := xq3 225 (by decide +kernel) rfl
theorem q_706 : (Jvm.Cond.selects "WaitedPostModel" ({ cls := "WaitedPostModel", name := "undo", desc := "()I" } : Jvm.MethodName) ({ cls := "WaitedPostModel", name := "undo", desc := "()I" } : Jvm.MethodName)) ∈ xtbl := xq3 226 (by decide +kernel) rfl
theorem q_707 : (Jvm.Cond.code ({ cls := "WaitedPostModel", name := "undo", desc := "()I" } : Jvm.MethodName) prog_7_method_28_code (2 : Nat) (Option.some Jvm.ClassFile.FieldType.int)) ∈ xtbl := xq3 227 (by decide +kernel) rfl
theorem q_708 : (Jvm.Cond.methodLink "WaitedPostLaw" (59 : Nat) ({ cls := "WaitedPostModel", name := "price", desc := "(II)I" } : Jvm.MethodName)) ∈ xtbl := xq3 228 (by decide +kernel) rfl
theorem q_709 : (Jvm.Cond.instanceMethod ({ cls := "WaitedPostModel", name := "price", desc := "(II)I" } : Jvm.MethodName)) ∈ xtbl := xq3 229 (by decide +kernel) rfl
theorem q_710 : (Jvm.Cond.selects "WaitedPostModel" ({ cls := "WaitedPostModel", name := "price", desc := "(II)I" } : Jvm.MethodName) ({ cls := "WaitedPostModel", name := "price", desc := "(II)I" } : Jvm.MethodName)) ∈ xtbl := xq3 230 (by decide +kernel) rfl
theorem q_711 : (Jvm.Cond.code ({ cls := "WaitedPostModel", name := "price", desc := "(II)I" } : Jvm.MethodName) prog_7_method_31_code (3 : Nat) (Option.some Jvm.ClassFile.FieldType.int)) ∈ xtbl := xq3 231 (by decide +kernel) rfl
theorem q_712 : (Jvm.Cond.methodLink "WaitedPostModel" (138 : Nat) ({ cls := "WaitedPostModel", name := "priceIn", desc := "(II)I" } : Jvm.MethodName)) ∈ xtbl := xq3 232 (by decide +kernel) rfl
theorem q_714 : (Jvm.Cond.instanceMethod ({ cls := "WaitedPostModel", name := "priceIn", desc := "(II)I" } : Jvm.MethodName)) ∈ xtbl := xq3 234 (by decide +kernel) rfl
theorem q_715 : (Jvm.Cond.code ({ cls := "WaitedPostModel", name := "priceIn", desc := "(II)I" } : Jvm.MethodName) prog_7_method_30_code (4 : Nat) (Option.some Jvm.ClassFile.FieldType.int)) ∈ xtbl := xq3 235 (by decide +kernel) rfl
theorem q_716 : (Jvm.Cond.methodLink "WaitedPostModel" (135 : Nat) ({ cls := "WaitedPostModel", name := "layTrial", desc := "()V" } : Jvm.MethodName)) ∈ xtbl := xq3 236 (by decide +kernel) rfl
theorem q_718 : (Jvm.Cond.instanceMethod ({ cls := "WaitedPostModel", name := "layTrial", desc := "()V" } : Jvm.MethodName)) ∈ xtbl := xq3 238 (by decide +kernel) rfl
theorem q_719 : (Jvm.Cond.code ({ cls := "WaitedPostModel", name := "layTrial", desc := "()V" } : Jvm.MethodName) prog_7_method_29_code (2 : Nat) (Option.none : Option Jvm.ClassFile.FieldType)) ∈ xtbl := xq3 239 (by decide +kernel) rfl
theorem q_720 : (Jvm.Cond.methodLink "WaitedPostLaw" (63 : Nat) ({ cls := "WaitedPostModel", name := "cheapest", desc := "(I)I" } : Jvm.MethodName)) ∈ xtbl := xq4 0 (by decide +kernel) rfl
theorem q_721 : (Jvm.Cond.instanceMethod ({ cls := "WaitedPostModel", name := "cheapest", desc := "(I)I" } : Jvm.MethodName)) ∈ xtbl := xq4 1 (by decide +kernel) rfl
theorem q_722 : (Jvm.Cond.selects "WaitedPostModel" ({ cls := "WaitedPostModel", name := "cheapest", desc := "(I)I" } : Jvm.MethodName) ({ cls := "WaitedPostModel", name := "cheapest", desc := "(I)I" } : Jvm.MethodName)) ∈ xtbl := xq4 2 (by decide +kernel) rfl
theorem q_723 : (Jvm.Cond.code ({ cls := "WaitedPostModel", name := "cheapest", desc := "(I)I" } : Jvm.MethodName) prog_7_method_32_code (4 : Nat) (Option.some Jvm.ClassFile.FieldType.int)) ∈ xtbl := xq4 3 (by decide +kernel) rfl
theorem q_724 : (Jvm.Cond.methodLink "WaitedPostLaw" (68 : Nat) ({ cls := "WaitedPostModel", name := "plan", desc := "(IZ)I" } : Jvm.MethodName)) ∈ xtbl := xq4 4 (by decide +kernel) rfl
theorem q_725 : (Jvm.Cond.instanceMethod ({ cls := "WaitedPostModel", name := "plan", desc := "(IZ)I" } : Jvm.MethodName)) ∈ xtbl := xq4 5 (by decide +kernel) rfl
theorem q_726 : (Jvm.Cond.selects "WaitedPostModel" ({ cls := "WaitedPostModel", name := "plan", desc := "(IZ)I" } : Jvm.MethodName) ({ cls := "WaitedPostModel", name := "plan", desc := "(IZ)I" } : Jvm.MethodName)) ∈ xtbl := xq4 6 (by decide +kernel) rfl
theorem q_727 : (Jvm.Cond.code ({ cls := "WaitedPostModel", name := "plan", desc := "(IZ)I" } : Jvm.MethodName) prog_7_method_37_code (6 : Nat) (Option.some Jvm.ClassFile.FieldType.int)) ∈ xtbl := xq4 7 (by decide +kernel) rfl
theorem q_728 : (Jvm.Cond.methodLink "WaitedPostModel" (157 : Nat) ({ cls := "WaitedPostModel", name := "leastOf", desc := "(I)I" } : Jvm.MethodName)) ∈ xtbl := xq4 8 (by decide +kernel) rfl
theorem q_730 : (Jvm.Cond.instanceMethod ({ cls := "WaitedPostModel", name := "leastOf", desc := "(I)I" } : Jvm.MethodName)) ∈ xtbl := xq4 10 (by decide +kernel) rfl
theorem q_731 : (Jvm.Cond.code ({ cls := "WaitedPostModel", name := "leastOf", desc := "(I)I" } : Jvm.MethodName) prog_7_method_36_code (5 : Nat) (Option.some Jvm.ClassFile.FieldType.int)) ∈ xtbl := xq4 11 (by decide +kernel) rfl
theorem q_732 : (Jvm.Cond.methodLink "WaitedPostModel" (141 : Nat) ({ cls := "WaitedPostModel", name := "fours", desc := "(I)I" } : Jvm.MethodName)) ∈ xtbl := xq4 12 (by decide +kernel) rfl
theorem q_733 : (Jvm.Cond.static ({ cls := "WaitedPostModel", name := "fours", desc := "(I)I" } : Jvm.MethodName)) ∈ xtbl := xq4 13 (by decide +kernel) rfl
theorem q_734 : (Jvm.Cond.code ({ cls := "WaitedPostModel", name := "fours", desc := "(I)I" } : Jvm.MethodName) prog_7_method_33_code (1 : Nat) (Option.some Jvm.ClassFile.FieldType.int)) ∈ xtbl := xq4 14 (by decide +kernel) rfl
theorem q_735 : (Jvm.Cond.methodLink "WaitedPostModel" (154 : Nat) ({ cls := "WaitedPostModel", name := "paidBy", desc := "(II)I" } : Jvm.MethodName)) ∈ xtbl := xq4 15 (by decide +kernel) rfl
theorem q_737 : (Jvm.Cond.instanceMethod ({ cls := "WaitedPostModel", name := "paidBy", desc := "(II)I" } : Jvm.MethodName)) ∈ xtbl := xq4 17 (by decide +kernel) rfl
theorem q_738 : (Jvm.Cond.code ({ cls := "WaitedPostModel", name := "paidBy", desc := "(II)I" } : Jvm.MethodName) prog_7_method_35_code (8 : Nat) (Option.some Jvm.ClassFile.FieldType.int)) ∈ xtbl := xq4 18 (by decide +kernel) rfl
theorem q_739 : (Jvm.Cond.methodLink "WaitedPostModel" (144 : Nat) ({ cls := "WaitedPostModel", name := "dayOf", desc := "(III)I" } : Jvm.MethodName)) ∈ xtbl := xq4 19 (by decide +kernel) rfl
theorem q_740 : (Jvm.Cond.static ({ cls := "WaitedPostModel", name := "dayOf", desc := "(III)I" } : Jvm.MethodName)) ∈ xtbl := xq4 20 (by decide +kernel) rfl
theorem q_741 : (Jvm.Cond.code ({ cls := "WaitedPostModel", name := "dayOf", desc := "(III)I" } : Jvm.MethodName) prog_7_method_34_code (3 : Nat) (Option.some Jvm.ClassFile.FieldType.int)) ∈ xtbl := xq4 21 (by decide +kernel) rfl
theorem q_742 : (Jvm.Cond.methodLink "WaitedPostModel" (148 : Nat) ({ cls := "WaitedPostModel", name := "canSend", desc := "(II)Z" } : Jvm.MethodName)) ∈ xtbl := xq4 22 (by decide +kernel) rfl
theorem q_744 : (Jvm.Cond.instanceMethod ({ cls := "WaitedPostModel", name := "canSend", desc := "(II)Z" } : Jvm.MethodName)) ∈ xtbl := xq4 24 (by decide +kernel) rfl
theorem q_745 : (Jvm.Cond.code ({ cls := "WaitedPostModel", name := "canSend", desc := "(II)Z" } : Jvm.MethodName) prog_7_method_20_code (3 : Nat) (Option.some Jvm.ClassFile.FieldType.boolean)) ∈ xtbl := xq4 25 (by decide +kernel) rfl
theorem q_746 : (Jvm.Cond.methodLink "WaitedPostLaw" (72 : Nat) ({ cls := "WaitedPostModel", name := "order", desc := "()I" } : Jvm.MethodName)) ∈ xtbl := xq4 26 (by decide +kernel) rfl
theorem q_747 : (Jvm.Cond.instanceMethod ({ cls := "WaitedPostModel", name := "order", desc := "()I" } : Jvm.MethodName)) ∈ xtbl := xq4 27 (by decide +kernel) rfl
theorem q_748 : (Jvm.Cond.selects "WaitedPostModel" ({ cls := "WaitedPostModel", name := "order", desc := "()I" } : Jvm.MethodName) ({ cls := "WaitedPostModel", name := "order", desc := "()I" } : Jvm.MethodName)) ∈ xtbl := xq4 28 (by decide +kernel) rfl
theorem q_749 : (Jvm.Cond.code ({ cls := "WaitedPostModel", name := "order", desc := "()I" } : Jvm.MethodName) prog_7_method_38_code (5 : Nat) (Option.some Jvm.ClassFile.FieldType.int)) ∈ xtbl := xq4 29 (by decide +kernel) rfl
theorem q_750 : (Jvm.Cond.methodLink "WaitedPostLaw" (76 : Nat) ({ cls := "WaitedPostModel", name := "judge", desc := "(II)I" } : Jvm.MethodName)) ∈ xtbl := xq4 30 (by decide +kernel) rfl
theorem q_751 : (Jvm.Cond.instanceMethod ({ cls := "WaitedPostModel", name := "judge", desc := "(II)I" } : Jvm.MethodName)) ∈ xtbl := xq4 31 (by decide +kernel) rfl
theorem q_752 : (Jvm.Cond.selects "WaitedPostModel" ({ cls := "WaitedPostModel", name := "judge", desc := "(II)I" } : Jvm.MethodName) ({ cls := "WaitedPostModel", name := "judge", desc := "(II)I" } : Jvm.MethodName)) ∈ xtbl := xq4 32 (by decide +kernel) rfl
theorem q_753 : (Jvm.Cond.code ({ cls := "WaitedPostModel", name := "judge", desc := "(II)I" } : Jvm.MethodName) prog_7_method_42_code (4 : Nat) (Option.some Jvm.ClassFile.FieldType.int)) ∈ xtbl := xq4 33 (by decide +kernel) rfl
theorem q_754 : (Jvm.Cond.methodLink "WaitedPostModel" (165 : Nat) ({ cls := "WaitedPostModel", name := "areThings", desc := "(II)Z" } : Jvm.MethodName)) ∈ xtbl := xq4 34 (by decide +kernel) rfl
theorem q_756 : (Jvm.Cond.instanceMethod ({ cls := "WaitedPostModel", name := "areThings", desc := "(II)Z" } : Jvm.MethodName)) ∈ xtbl := xq4 36 (by decide +kernel) rfl
theorem q_757 : (Jvm.Cond.code ({ cls := "WaitedPostModel", name := "areThings", desc := "(II)Z" } : Jvm.MethodName) prog_7_method_41_code (3 : Nat) (Option.some Jvm.ClassFile.FieldType.boolean)) ∈ xtbl := xq4 37 (by decide +kernel) rfl
theorem q_758 : (Jvm.Cond.constantLong "WaitedPostModel" (160 : Nat) (6 : Int64)) ∈ xtbl := xq4 38 (by decide +kernel) rfl
theorem q_759 : (Jvm.Cond.methodLink "WaitedPostModel" (162 : Nat) ({ cls := "WaitedPostModel", name := "tenTo", desc := "(I)I" } : Jvm.MethodName)) ∈ xtbl := xq4 39 (by decide +kernel) rfl
theorem q_760 : (Jvm.Cond.static ({ cls := "WaitedPostModel", name := "tenTo", desc := "(I)I" } : Jvm.MethodName)) ∈ xtbl := xq4 40 (by decide +kernel) rfl
theorem q_761 : (Jvm.Cond.code ({ cls := "WaitedPostModel", name := "tenTo", desc := "(I)I" } : Jvm.MethodName) prog_7_method_39_code (3 : Nat) (Option.some Jvm.ClassFile.FieldType.int)) ∈ xtbl := xq4 41 (by decide +kernel) rfl
theorem q_762 : (Jvm.Cond.methodLink "WaitedPostModel" (168 : Nat) ({ cls := "WaitedPostModel", name := "tryThing", desc := "(I)Z" } : Jvm.MethodName)) ∈ xtbl := xq4 42 (by decide +kernel) rfl
theorem q_764 : (Jvm.Cond.instanceMethod ({ cls := "WaitedPostModel", name := "tryThing", desc := "(I)Z" } : Jvm.MethodName)) ∈ xtbl := xq4 44 (by decide +kernel) rfl
theorem q_765 : (Jvm.Cond.code ({ cls := "WaitedPostModel", name := "tryThing", desc := "(I)Z" } : Jvm.MethodName) prog_7_method_40_code (2 : Nat) (Option.some Jvm.ClassFile.FieldType.boolean)) ∈ xtbl := xq4 45 (by decide +kernel) rfl
theorem q_766 : (Jvm.Cond.methodLink "WaitedPostLaw" (80 : Nat) ({ cls := "WaitedPostModel", name := "cost", desc := "(II)I" } : Jvm.MethodName)) ∈ xtbl := xq4 46 (by decide +kernel) rfl
theorem q_767 : (Jvm.Cond.instanceMethod ({ cls := "WaitedPostModel", name := "cost", desc := "(II)I" } : Jvm.MethodName)) ∈ xtbl := xq4 47 (by decide +kernel) rfl
theorem q_768 : (Jvm.Cond.selects "WaitedPostModel" ({ cls := "WaitedPostModel", name := "cost", desc := "(II)I" } : Jvm.MethodName) ({ cls := "WaitedPostModel", name := "cost", desc := "(II)I" } : Jvm.MethodName)) ∈ xtbl := xq4 48 (by decide +kernel) rfl
theorem q_769 : (Jvm.Cond.code ({ cls := "WaitedPostModel", name := "cost", desc := "(II)I" } : Jvm.MethodName) prog_7_method_43_code (4 : Nat) (Option.some Jvm.ClassFile.FieldType.int)) ∈ xtbl := xq4 49 (by decide +kernel) rfl
theorem q_770 : (Jvm.Cond.methodLink "WaitedPostLaw" (84 : Nat) ({ cls := "WaitedPostModel", name := "waits", desc := "(II)I" } : Jvm.MethodName)) ∈ xtbl := xq4 50 (by decide +kernel) rfl
theorem q_771 : (Jvm.Cond.instanceMethod ({ cls := "WaitedPostModel", name := "waits", desc := "(II)I" } : Jvm.MethodName)) ∈ xtbl := xq4 51 (by decide +kernel) rfl
theorem q_772 : (Jvm.Cond.selects "WaitedPostModel" ({ cls := "WaitedPostModel", name := "waits", desc := "(II)I" } : Jvm.MethodName) ({ cls := "WaitedPostModel", name := "waits", desc := "(II)I" } : Jvm.MethodName)) ∈ xtbl := xq4 52 (by decide +kernel) rfl
theorem q_773 : (Jvm.Cond.code ({ cls := "WaitedPostModel", name := "waits", desc := "(II)I" } : Jvm.MethodName) prog_7_method_44_code (6 : Nat) (Option.some Jvm.ClassFile.FieldType.int)) ∈ xtbl := xq4 53 (by decide +kernel) rfl
theorem q_774 : (Jvm.Cond.constantLong "WaitedPostModel" (171 : Nat) (60 : Int64)) ∈ xtbl := xq4 54 (by decide +kernel) rfl
theorem q_775 : (Jvm.Cond.methodLink "WaitedPostLaw" (89 : Nat) ({ cls := "WaitedPostModel", name := "who", desc := "(III)I" } : Jvm.MethodName)) ∈ xtbl := xq4 55 (by decide +kernel) rfl
theorem q_776 : (Jvm.Cond.instanceMethod ({ cls := "WaitedPostModel", name := "who", desc := "(III)I" } : Jvm.MethodName)) ∈ xtbl := xq4 56 (by decide +kernel) rfl
theorem q_777 : (Jvm.Cond.selects "WaitedPostModel" ({ cls := "WaitedPostModel", name := "who", desc := "(III)I" } : Jvm.MethodName) ({ cls := "WaitedPostModel", name := "who", desc := "(III)I" } : Jvm.MethodName)) ∈ xtbl := xq4 57 (by decide +kernel) rfl
theorem q_778 : (Jvm.Cond.code ({ cls := "WaitedPostModel", name := "who", desc := "(III)I" } : Jvm.MethodName) prog_7_method_46_code (8 : Nat) (Option.some Jvm.ClassFile.FieldType.int)) ∈ xtbl := xq4 58 (by decide +kernel) rfl
theorem q_779 : (Jvm.Cond.constantLong "WaitedPostModel" (173 : Nat) (2 : Int64)) ∈ xtbl := xq4 59 (by decide +kernel) rfl
theorem q_780 : (Jvm.Cond.methodLink "WaitedPostModel" (175 : Nat) ({ cls := "WaitedPostModel", name := "priceWith", desc := "(II)I" } : Jvm.MethodName)) ∈ xtbl := xq4 60 (by decide +kernel) rfl
theorem q_782 : (Jvm.Cond.instanceMethod ({ cls := "WaitedPostModel", name := "priceWith", desc := "(II)I" } : Jvm.MethodName)) ∈ xtbl := xq4 62 (by decide +kernel) rfl
theorem q_783 : (Jvm.Cond.code ({ cls := "WaitedPostModel", name := "priceWith", desc := "(II)I" } : Jvm.MethodName) prog_7_method_45_code (3 : Nat) (Option.some Jvm.ClassFile.FieldType.int)) ∈ xtbl := xq4 63 (by decide +kernel) rfl
theorem q_784 : (Jvm.Cond.methodLink "WaitedPostLaw" (93 : Nat) ({ cls := "WaitedPostModel", name := "share", desc := "(IZ)I" } : Jvm.MethodName)) ∈ xtbl := xq4 64 (by decide +kernel) rfl
theorem q_785 : (Jvm.Cond.instanceMethod ({ cls := "WaitedPostModel", name := "share", desc := "(IZ)I" } : Jvm.MethodName)) ∈ xtbl := xq4 65 (by decide +kernel) rfl
theorem q_786 : (Jvm.Cond.selects "WaitedPostModel" ({ cls := "WaitedPostModel", name := "share", desc := "(IZ)I" } : Jvm.MethodName) ({ cls := "WaitedPostModel", name := "share", desc := "(IZ)I" } : Jvm.MethodName)) ∈ xtbl := xq4 66 (by decide +kernel) rfl
theorem q_787 : (Jvm.Cond.code ({ cls := "WaitedPostModel", name := "share", desc := "(IZ)I" } : Jvm.MethodName) prog_7_method_49_code (7 : Nat) (Option.some Jvm.ClassFile.FieldType.int)) ∈ xtbl := xq4 67 (by decide +kernel) rfl
theorem q_788 : (Jvm.Cond.methodLink "WaitedPostModel" (178 : Nat) ({ cls := "WaitedPostModel", name := "factorial", desc := "(I)I" } : Jvm.MethodName)) ∈ xtbl := xq4 68 (by decide +kernel) rfl
theorem q_789 : (Jvm.Cond.static ({ cls := "WaitedPostModel", name := "factorial", desc := "(I)I" } : Jvm.MethodName)) ∈ xtbl := xq4 69 (by decide +kernel) rfl
theorem q_790 : (Jvm.Cond.code ({ cls := "WaitedPostModel", name := "factorial", desc := "(I)I" } : Jvm.MethodName) prog_7_method_47_code (3 : Nat) (Option.some Jvm.ClassFile.FieldType.int)) ∈ xtbl := xq4 70 (by decide +kernel) rfl
theorem q_791 : (Jvm.Cond.methodLink "WaitedPostModel" (181 : Nat) ({ cls := "WaitedPostModel", name := "common", desc := "(II)I" } : Jvm.MethodName)) ∈ xtbl := xq4 71 (by decide +kernel) rfl
theorem q_792 : (Jvm.Cond.static ({ cls := "WaitedPostModel", name := "common", desc := "(II)I" } : Jvm.MethodName)) ∈ xtbl := xq4 72 (by decide +kernel) rfl
theorem q_793 : (Jvm.Cond.code ({ cls := "WaitedPostModel", name := "common", desc := "(II)I" } : Jvm.MethodName) prog_7_method_48_code (5 : Nat) (Option.some Jvm.ClassFile.FieldType.int)) ∈ xtbl := xq4 73 (by decide +kernel) rfl
theorem q_794 : (Jvm.Cond.methodLink "WaitedPostLaw" (97 : Nat) ({ cls := "WaitedPostModel", name := "rests", desc := "(III)I" } : Jvm.MethodName)) ∈ xtbl := xq4 74 (by decide +kernel) rfl
theorem q_795 : (Jvm.Cond.instanceMethod ({ cls := "WaitedPostModel", name := "rests", desc := "(III)I" } : Jvm.MethodName)) ∈ xtbl := xq4 75 (by decide +kernel) rfl
theorem q_796 : (Jvm.Cond.selects "WaitedPostModel" ({ cls := "WaitedPostModel", name := "rests", desc := "(III)I" } : Jvm.MethodName) ({ cls := "WaitedPostModel", name := "rests", desc := "(III)I" } : Jvm.MethodName)) ∈ xtbl := xq4 76 (by decide +kernel) rfl
theorem q_797 : (Jvm.Cond.code ({ cls := "WaitedPostModel", name := "rests", desc := "(III)I" } : Jvm.MethodName) prog_7_method_52_code (7 : Nat) (Option.some Jvm.ClassFile.FieldType.int)) ∈ xtbl := xq4 77 (by decide +kernel) rfl
theorem q_798 : (Jvm.Cond.methodLink "WaitedPostModel" (188 : Nat) ({ cls := "WaitedPostModel", name := "isRest", desc := "(IIII)Z" } : Jvm.MethodName)) ∈ xtbl := xq4 78 (by decide +kernel) rfl
theorem q_800 : (Jvm.Cond.instanceMethod ({ cls := "WaitedPostModel", name := "isRest", desc := "(IIII)Z" } : Jvm.MethodName)) ∈ xtbl := xq4 80 (by decide +kernel) rfl
theorem q_801 : (Jvm.Cond.code ({ cls := "WaitedPostModel", name := "isRest", desc := "(IIII)Z" } : Jvm.MethodName) prog_7_method_51_code (7 : Nat) (Option.some Jvm.ClassFile.FieldType.boolean)) ∈ xtbl := xq4 81 (by decide +kernel) rfl
theorem q_802 : (Jvm.Cond.methodLink "WaitedPostModel" (184 : Nat) ({ cls := "WaitedPostModel", name := "paysIf", desc := "(IIII)I" } : Jvm.MethodName)) ∈ xtbl := xq4 82 (by decide +kernel) rfl
theorem q_804 : (Jvm.Cond.instanceMethod ({ cls := "WaitedPostModel", name := "paysIf", desc := "(IIII)I" } : Jvm.MethodName)) ∈ xtbl := xq4 84 (by decide +kernel) rfl
theorem q_805 : (Jvm.Cond.code ({ cls := "WaitedPostModel", name := "paysIf", desc := "(IIII)I" } : Jvm.MethodName) prog_7_method_50_code (7 : Nat) (Option.some Jvm.ClassFile.FieldType.int)) ∈ xtbl := xq4 85 (by decide +kernel) rfl
theorem q_806 : (Jvm.Cond.methodLink "WaitedPostLaw" (102 : Nat) ({ cls := "WaitedPostModel", name := "lost", desc := "(IIIZ)I" } : Jvm.MethodName)) ∈ xtbl := xq4 86 (by decide +kernel) rfl
theorem q_807 : (Jvm.Cond.instanceMethod ({ cls := "WaitedPostModel", name := "lost", desc := "(IIIZ)I" } : Jvm.MethodName)) ∈ xtbl := xq4 87 (by decide +kernel) rfl
theorem q_808 : (Jvm.Cond.selects "WaitedPostModel" ({ cls := "WaitedPostModel", name := "lost", desc := "(IIIZ)I" } : Jvm.MethodName) ({ cls := "WaitedPostModel", name := "lost", desc := "(IIIZ)I" } : Jvm.MethodName)) ∈ xtbl := xq4 88 (by decide +kernel) rfl
theorem q_809 : (Jvm.Cond.code ({ cls := "WaitedPostModel", name := "lost", desc := "(IIIZ)I" } : Jvm.MethodName) prog_7_method_54_code (10 : Nat) (Option.some Jvm.ClassFile.FieldType.int)) ∈ xtbl := xq4 89 (by decide +kernel) rfl
theorem q_810 : (Jvm.Cond.constantLong "WaitedPostModel" (192 : Nat) (10 : Int64)) ∈ xtbl := xq4 90 (by decide +kernel) rfl
theorem q_811 : (Jvm.Cond.methodLink "WaitedPostModel" (194 : Nat) ({ cls := "WaitedPostModel", name := "power", desc := "(II)I" } : Jvm.MethodName)) ∈ xtbl := xq4 91 (by decide +kernel) rfl
theorem q_812 : (Jvm.Cond.static ({ cls := "WaitedPostModel", name := "power", desc := "(II)I" } : Jvm.MethodName)) ∈ xtbl := xq4 92 (by decide +kernel) rfl
theorem q_813 : (Jvm.Cond.code ({ cls := "WaitedPostModel", name := "power", desc := "(II)I" } : Jvm.MethodName) prog_7_method_53_code (4 : Nat) (Option.some Jvm.ClassFile.FieldType.int)) ∈ xtbl := xq4 93 (by decide +kernel) rfl
theorem q_814 : (Jvm.Cond.methodLink "WaitedPostLaw" (109 : Nat) ({ cls := "WaitedPostModel", name := "seed", desc := "(J)J" } : Jvm.MethodName)) ∈ xtbl := xq4 94 (by decide +kernel) rfl
theorem q_815 : (Jvm.Cond.instanceMethod ({ cls := "WaitedPostModel", name := "seed", desc := "(J)J" } : Jvm.MethodName)) ∈ xtbl := xq4 95 (by decide +kernel) rfl
theorem q_816 : (Jvm.Cond.selects "WaitedPostModel" ({ cls := "WaitedPostModel", name := "seed", desc := "(J)J" } : Jvm.MethodName) ({ cls := "WaitedPostModel", name := "seed", desc := "(J)J" } : Jvm.MethodName)) ∈ xtbl := xq4 96 (by decide +kernel) rfl
theorem q_817 : (Jvm.Cond.code ({ cls := "WaitedPostModel", name := "seed", desc := "(J)J" } : Jvm.MethodName) prog_7_method_55_code (5 : Nat) (Option.some Jvm.ClassFile.FieldType.long)) ∈ xtbl := xq4 97 (by decide +kernel) rfl
theorem q_818 : (Jvm.Cond.methodLink "WaitedPostLaw" (113 : Nat) ({ cls := "WaitedPostModel", name := "years", desc := "(I)I" } : Jvm.MethodName)) ∈ xtbl := xq4 98 (by decide +kernel) rfl
theorem q_819 : (Jvm.Cond.instanceMethod ({ cls := "WaitedPostModel", name := "years", desc := "(I)I" } : Jvm.MethodName)) ∈ xtbl := xq4 99 (by decide +kernel) rfl
theorem q_820 : (Jvm.Cond.selects "WaitedPostModel" ({ cls := "WaitedPostModel", name := "years", desc := "(I)I" } : Jvm.MethodName) ({ cls := "WaitedPostModel", name := "years", desc := "(I)I" } : Jvm.MethodName)) ∈ xtbl := xq4 100 (by decide +kernel) rfl
theorem q_821 : (Jvm.Cond.code ({ cls := "WaitedPostModel", name := "years", desc := "(I)I" } : Jvm.MethodName) prog_7_method_56_code (4 : Nat) (Option.some Jvm.ClassFile.FieldType.int)) ∈ xtbl := xq4 101 (by decide +kernel) rfl
theorem q_822 : (Jvm.Cond.constantLong "WaitedPostModel" (201 : Nat) (30 : Int64)) ∈ xtbl := xq4 102 (by decide +kernel) rfl
theorem q_823 : (Jvm.Cond.constantLong "WaitedPostModel" (203 : Nat) (6364136223846793005 : Int64)) ∈ xtbl := xq4 103 (by decide +kernel) rfl
theorem q_824 : (Jvm.Cond.constantLong "WaitedPostModel" (205 : Nat) (1442695040888963407 : Int64)) ∈ xtbl := xq4 104 (by decide +kernel) rfl
theorem q_825 : (Jvm.Cond.methodLink "WaitedPostLaw" (117 : Nat) ({ cls := "WaitedPostModel", name := "keep", desc := "(I)I" } : Jvm.MethodName)) ∈ xtbl := xq4 105 (by decide +kernel) rfl
theorem q_826 : (Jvm.Cond.instanceMethod ({ cls := "WaitedPostModel", name := "keep", desc := "(I)I" } : Jvm.MethodName)) ∈ xtbl := xq4 106 (by decide +kernel) rfl
theorem q_827 : (Jvm.Cond.selects "WaitedPostModel" ({ cls := "WaitedPostModel", name := "keep", desc := "(I)I" } : Jvm.MethodName) ({ cls := "WaitedPostModel", name := "keep", desc := "(I)I" } : Jvm.MethodName)) ∈ xtbl := xq4 107 (by decide +kernel) rfl
theorem q_828 : (Jvm.Cond.code ({ cls := "WaitedPostModel", name := "keep", desc := "(I)I" } : Jvm.MethodName) prog_7_method_57_code (3 : Nat) (Option.some Jvm.ClassFile.FieldType.int)) ∈ xtbl := xq4 108 (by decide +kernel) rfl
theorem q_829 : (Jvm.Cond.methodLink "WaitedPostLaw" (121 : Nat) ({ cls := "WaitedPostModel", name := "again", desc := "(I)I" } : Jvm.MethodName)) ∈ xtbl := xq4 109 (by decide +kernel) rfl
theorem q_830 : (Jvm.Cond.instanceMethod ({ cls := "WaitedPostModel", name := "again", desc := "(I)I" } : Jvm.MethodName)) ∈ xtbl := xq4 110 (by decide +kernel) rfl
theorem q_831 : (Jvm.Cond.selects "WaitedPostModel" ({ cls := "WaitedPostModel", name := "again", desc := "(I)I" } : Jvm.MethodName) ({ cls := "WaitedPostModel", name := "again", desc := "(I)I" } : Jvm.MethodName)) ∈ xtbl := xq4 111 (by decide +kernel) rfl
theorem q_832 : (Jvm.Cond.code ({ cls := "WaitedPostModel", name := "again", desc := "(I)I" } : Jvm.MethodName) prog_7_method_58_code (3 : Nat) (Option.some Jvm.ClassFile.FieldType.int)) ∈ xtbl := xq4 112 (by decide +kernel) rfl
theorem q_833 : (Jvm.Cond.methodLink "WaitedPostLaw" (125 : Nat) ({ cls := "WaitedPostModel", name := "count", desc := "(I)I" } : Jvm.MethodName)) ∈ xtbl := xq4 113 (by decide +kernel) rfl
theorem q_834 : (Jvm.Cond.instanceMethod ({ cls := "WaitedPostModel", name := "count", desc := "(I)I" } : Jvm.MethodName)) ∈ xtbl := xq4 114 (by decide +kernel) rfl
theorem q_835 : (Jvm.Cond.selects "WaitedPostModel" ({ cls := "WaitedPostModel", name := "count", desc := "(I)I" } : Jvm.MethodName) ({ cls := "WaitedPostModel", name := "count", desc := "(I)I" } : Jvm.MethodName)) ∈ xtbl := xq4 115 (by decide +kernel) rfl
theorem q_836 : (Jvm.Cond.code ({ cls := "WaitedPostModel", name := "count", desc := "(I)I" } : Jvm.MethodName) prog_7_method_59_code (4 : Nat) (Option.some Jvm.ClassFile.FieldType.int)) ∈ xtbl := xq4 116 (by decide +kernel) rfl
theorem q_837 : (Jvm.Cond.constantLong "WaitedPostLaw" (103 : Nat) (4294967295 : Int64)) ∈ xtbl := xq4 117 (by decide +kernel) rfl
theorem qs_0 : Cond.selects "WaitedPost" (⟨"WaitedPost", "readText", "()I"⟩ : MethodName) (⟨"WaitedPost", "readText", "()I"⟩ : MethodName) ∈ xtbl := xqs (q := ((⟨"WaitedPost", "readText", "()I"⟩ : MethodName), 13)) 0 (by decide +kernel) rfl
theorem qs_1 : Cond.selects "WaitedPost$Reader" (⟨"WaitedPost$Reader", "takesHead", "(I)Z"⟩ : MethodName) (⟨"WaitedPost$Reader", "takesHead", "(I)Z"⟩ : MethodName) ∈ xtbl := xqs (q := ((⟨"WaitedPost$Reader", "takesHead", "(I)Z"⟩ : MethodName), 3)) 1 (by decide +kernel) rfl
theorem qs_2 : Cond.selects "WaitedPost$Reader" (⟨"WaitedPost$Reader", "takesPardon", "(I)Z"⟩ : MethodName) (⟨"WaitedPost$Reader", "takesPardon", "(I)Z"⟩ : MethodName) ∈ xtbl := xqs (q := ((⟨"WaitedPost$Reader", "takesPardon", "(I)Z"⟩ : MethodName), 3)) 2 (by decide +kernel) rfl
theorem qs_3 : Cond.selects "WaitedPost$Reader" (⟨"WaitedPost$Reader", "takesRoom", "(I)Z"⟩ : MethodName) (⟨"WaitedPost$Reader", "takesRoom", "(I)Z"⟩ : MethodName) ∈ xtbl := xqs (q := ((⟨"WaitedPost$Reader", "takesRoom", "(I)Z"⟩ : MethodName), 3)) 3 (by decide +kernel) rfl
theorem qs_4 : Cond.selects "WaitedPost$Reader" (⟨"WaitedPost$Reader", "takesPart", "(I)Z"⟩ : MethodName) (⟨"WaitedPost$Reader", "takesPart", "(I)Z"⟩ : MethodName) ∈ xtbl := xqs (q := ((⟨"WaitedPost$Reader", "takesPart", "(I)Z"⟩ : MethodName), 3)) 4 (by decide +kernel) rfl
theorem qs_5 : Cond.selects "WaitedPost$Reader" (⟨"WaitedPost$Reader", "hasOpenPair", "()Z"⟩ : MethodName) (⟨"WaitedPost$Reader", "hasOpenPair", "()Z"⟩ : MethodName) ∈ xtbl := xqs (q := ((⟨"WaitedPost$Reader", "hasOpenPair", "()Z"⟩ : MethodName), 3)) 5 (by decide +kernel) rfl
theorem qs_6 : Cond.selects "WaitedPost$Reader" (⟨"WaitedPost$Reader", "isOpen", "(I)Z"⟩ : MethodName) (⟨"WaitedPost$Reader", "isOpen", "(I)Z"⟩ : MethodName) ∈ xtbl := xqs (q := ((⟨"WaitedPost$Reader", "isOpen", "(I)Z"⟩ : MethodName), 3)) 6 (by decide +kernel) rfl
theorem qs_7 : Cond.selects "WaitedPost$Reader" (⟨"WaitedPost$Reader", "takesWaited", "(I)Z"⟩ : MethodName) (⟨"WaitedPost$Reader", "takesWaited", "(I)Z"⟩ : MethodName) ∈ xtbl := xqs (q := ((⟨"WaitedPost$Reader", "takesWaited", "(I)Z"⟩ : MethodName), 3)) 7 (by decide +kernel) rfl
theorem qs_8 : Cond.selects "WaitedPost$Reader" (⟨"WaitedPost$Reader", "takesKind", "(I)Z"⟩ : MethodName) (⟨"WaitedPost$Reader", "takesKind", "(I)Z"⟩ : MethodName) ∈ xtbl := xqs (q := ((⟨"WaitedPost$Reader", "takesKind", "(I)Z"⟩ : MethodName), 3)) 8 (by decide +kernel) rfl
theorem qs_9 : Cond.selects "WaitedPost$Reader" (⟨"WaitedPost$Reader", "takesExplainer", "(I)Z"⟩ : MethodName) (⟨"WaitedPost$Reader", "takesExplainer", "(I)Z"⟩ : MethodName) ∈ xtbl := xqs (q := ((⟨"WaitedPost$Reader", "takesExplainer", "(I)Z"⟩ : MethodName), 3)) 9 (by decide +kernel) rfl
theorem qs_10 : Cond.selects "WaitedPost$Reader" (⟨"WaitedPost$Reader", "takesExplained", "(I)Z"⟩ : MethodName) (⟨"WaitedPost$Reader", "takesExplained", "(I)Z"⟩ : MethodName) ∈ xtbl := xqs (q := ((⟨"WaitedPost$Reader", "takesExplained", "(I)Z"⟩ : MethodName), 3)) 10 (by decide +kernel) rfl
theorem qs_11 : Cond.selects "WaitedPost" (⟨"WaitedPost", "known", "(I)Z"⟩ : MethodName) (⟨"WaitedPost", "known", "(I)Z"⟩ : MethodName) ∈ xtbl := xqs (q := ((⟨"WaitedPost", "known", "(I)Z"⟩ : MethodName), 13)) 11 (by decide +kernel) rfl
theorem qs_12 : Cond.selects "WaitedPost" (⟨"WaitedPost", "canBeSent", "(LWaitedPost$Standing;I)Z"⟩ : MethodName) (⟨"WaitedPost", "canBeSent", "(LWaitedPost$Standing;I)Z"⟩ : MethodName) ∈ xtbl := xqs (q := ((⟨"WaitedPost", "canBeSent", "(LWaitedPost$Standing;I)Z"⟩ : MethodName), 13)) 12 (by decide +kernel) rfl
theorem qs_13 : Cond.selects "WaitedPost" (⟨"WaitedPost", "remember", "()V"⟩ : MethodName) (⟨"WaitedPost", "remember", "()V"⟩ : MethodName) ∈ xtbl := xqs (q := ((⟨"WaitedPost", "remember", "()V"⟩ : MethodName), 13)) 13 (by decide +kernel) rfl
theorem qs_14 : Cond.selects "WaitedPost" (⟨"WaitedPost", "forgetFirstAct", "()V"⟩ : MethodName) (⟨"WaitedPost", "forgetFirstAct", "()V"⟩ : MethodName) ∈ xtbl := xqs (q := ((⟨"WaitedPost", "forgetFirstAct", "()V"⟩ : MethodName), 13)) 14 (by decide +kernel) rfl
theorem qs_15 : Cond.selects "WaitedPost" (⟨"WaitedPost", "putSent", "(LWaitedPost$Standing;I)I"⟩ : MethodName) (⟨"WaitedPost", "putSent", "(LWaitedPost$Standing;I)I"⟩ : MethodName) ∈ xtbl := xqs (q := ((⟨"WaitedPost", "putSent", "(LWaitedPost$Standing;I)I"⟩ : MethodName), 13)) 15 (by decide +kernel) rfl
theorem qs_16 : Cond.selects "WaitedPost$Planner" (⟨"WaitedPost$Planner", "lower", "(IJ)V"⟩ : MethodName) (⟨"WaitedPost$Planner", "lower", "(IJ)V"⟩ : MethodName) ∈ xtbl := xqs (q := ((⟨"WaitedPost$Planner", "lower", "(IJ)V"⟩ : MethodName), 1)) 16 (by decide +kernel) rfl
theorem qs_17 : Cond.selects "WaitedPost$Planner" (⟨"WaitedPost$Planner", "tryLetter", "(LWaitedPost$Told;LWaitedPost$Standing;III)V"⟩ : MethodName) (⟨"WaitedPost$Planner", "tryLetter", "(LWaitedPost$Told;LWaitedPost$Standing;III)V"⟩ : MethodName) ∈ xtbl := xqs (q := ((⟨"WaitedPost$Planner", "tryLetter", "(LWaitedPost$Told;LWaitedPost$Standing;III)V"⟩ : MethodName), 1)) 17 (by decide +kernel) rfl
theorem qs_18 : Cond.selects "WaitedPost$Planner" (⟨"WaitedPost$Planner", "bestAt", "(I)J"⟩ : MethodName) (⟨"WaitedPost$Planner", "bestAt", "(I)J"⟩ : MethodName) ∈ xtbl := xqs (q := ((⟨"WaitedPost$Planner", "bestAt", "(I)J"⟩ : MethodName), 1)) 18 (by decide +kernel) rfl
theorem qs_19 : Cond.selects "WaitedPost$Planner" (⟨"WaitedPost$Planner", "endDay", "()V"⟩ : MethodName) (⟨"WaitedPost$Planner", "endDay", "()V"⟩ : MethodName) ∈ xtbl := xqs (q := ((⟨"WaitedPost$Planner", "endDay", "()V"⟩ : MethodName), 1)) 19 (by decide +kernel) rfl
theorem qs_20 : Cond.selects "WaitedPost" (⟨"WaitedPost", "unsent", "()I"⟩ : MethodName) (⟨"WaitedPost", "unsent", "()I"⟩ : MethodName) ∈ xtbl := xqs (q := ((⟨"WaitedPost", "unsent", "()I"⟩ : MethodName), 13)) 20 (by decide +kernel) rfl
theorem qs_21 : Cond.selects "WaitedPost" (⟨"WaitedPost", "firstUnexplained", "(I)I"⟩ : MethodName) (⟨"WaitedPost", "firstUnexplained", "(I)I"⟩ : MethodName) ∈ xtbl := xqs (q := ((⟨"WaitedPost", "firstUnexplained", "(I)I"⟩ : MethodName), 13)) 21 (by decide +kernel) rfl
theorem qs_22 : Cond.selects "WaitedPost" (⟨"WaitedPost", "takeFigures", "(II)Z"⟩ : MethodName) (⟨"WaitedPost", "takeFigures", "(II)Z"⟩ : MethodName) ∈ xtbl := xqs (q := ((⟨"WaitedPost", "takeFigures", "(II)Z"⟩ : MethodName), 13)) 22 (by decide +kernel) rfl
theorem qs_23 : Cond.selects "WaitedPost" (⟨"WaitedPost", "tryThings", "(I)I"⟩ : MethodName) (⟨"WaitedPost", "tryThings", "(I)I"⟩ : MethodName) ∈ xtbl := xqs (q := ((⟨"WaitedPost", "tryThings", "(I)I"⟩ : MethodName), 13)) 23 (by decide +kernel) rfl
theorem qs_24 : Cond.selects "WaitedPost" (⟨"WaitedPost", "costForShare", "(I)I"⟩ : MethodName) (⟨"WaitedPost", "costForShare", "(I)I"⟩ : MethodName) ∈ xtbl := xqs (q := ((⟨"WaitedPost", "costForShare", "(I)I"⟩ : MethodName), 13)) 24 (by decide +kernel) rfl
theorem qs_25 : Cond.selects "WaitedPost" (⟨"WaitedPost", "isBestDay", "(IIII)Z"⟩ : MethodName) (⟨"WaitedPost", "isBestDay", "(IIII)Z"⟩ : MethodName) ∈ xtbl := xqs (q := ((⟨"WaitedPost", "isBestDay", "(IIII)Z"⟩ : MethodName), 13)) 25 (by decide +kernel) rfl
theorem qs_26 : Cond.selects "WaitedPost" (⟨"WaitedPost", "costBeside", "(IIII)I"⟩ : MethodName) (⟨"WaitedPost", "costBeside", "(IIII)I"⟩ : MethodName) ∈ xtbl := xqs (q := ((⟨"WaitedPost", "costBeside", "(IIII)I"⟩ : MethodName), 13)) 26 (by decide +kernel) rfl
theorem qs_27 : Cond.selects "WaitedPost" (⟨"WaitedPost", "costOfUnsent", "()I"⟩ : MethodName) (⟨"WaitedPost", "costOfUnsent", "()I"⟩ : MethodName) ∈ xtbl := xqs (q := ((⟨"WaitedPost", "costOfUnsent", "()I"⟩ : MethodName), 13)) 27 (by decide +kernel) rfl
theorem qs_28 : Cond.selects "WaitedPostModel" (⟨"WaitedPostModel", "readText", "()I"⟩ : MethodName) (⟨"WaitedPostModel", "readText", "()I"⟩ : MethodName) ∈ xtbl := xqs (q := ((⟨"WaitedPostModel", "readText", "()I"⟩ : MethodName), 24)) 28 (by decide +kernel) rfl
theorem qs_29 : Cond.selects "WaitedPostModel" (⟨"WaitedPostModel", "figure", "(II)I"⟩ : MethodName) (⟨"WaitedPostModel", "figure", "(II)I"⟩ : MethodName) ∈ xtbl := xqs (q := ((⟨"WaitedPostModel", "figure", "(II)I"⟩ : MethodName), 24)) 29 (by decide +kernel) rfl
theorem qs_30 : Cond.selects "WaitedPostModel" (⟨"WaitedPostModel", "firstsLeft", "()I"⟩ : MethodName) (⟨"WaitedPostModel", "firstsLeft", "()I"⟩ : MethodName) ∈ xtbl := xqs (q := ((⟨"WaitedPostModel", "firstsLeft", "()I"⟩ : MethodName), 24)) 30 (by decide +kernel) rfl
theorem qs_31 : Cond.selects "WaitedPostModel" (⟨"WaitedPostModel", "left", "(I)I"⟩ : MethodName) (⟨"WaitedPostModel", "left", "(I)I"⟩ : MethodName) ∈ xtbl := xqs (q := ((⟨"WaitedPostModel", "left", "(I)I"⟩ : MethodName), 24)) 31 (by decide +kernel) rfl
theorem qs_32 : Cond.selects "WaitedPostModel" (⟨"WaitedPostModel", "figureOf", "(I)I"⟩ : MethodName) (⟨"WaitedPostModel", "figureOf", "(I)I"⟩ : MethodName) ∈ xtbl := xqs (q := ((⟨"WaitedPostModel", "figureOf", "(I)I"⟩ : MethodName), 24)) 32 (by decide +kernel) rfl
theorem qs_33 : Cond.selects "WaitedPostModel" (⟨"WaitedPostModel", "isLetter", "(I)Z"⟩ : MethodName) (⟨"WaitedPostModel", "isLetter", "(I)Z"⟩ : MethodName) ∈ xtbl := xqs (q := ((⟨"WaitedPostModel", "isLetter", "(I)Z"⟩ : MethodName), 24)) 33 (by decide +kernel) rfl
theorem qs_34 : Cond.selects "WaitedPostModel" (⟨"WaitedPostModel", "isSent", "(II)Z"⟩ : MethodName) (⟨"WaitedPostModel", "isSent", "(II)Z"⟩ : MethodName) ∈ xtbl := xqs (q := ((⟨"WaitedPostModel", "isSent", "(II)Z"⟩ : MethodName), 24)) 34 (by decide +kernel) rfl
theorem qs_35 : Cond.selects "WaitedPostModel" (⟨"WaitedPostModel", "priceOn", "(II)I"⟩ : MethodName) (⟨"WaitedPostModel", "priceOn", "(II)I"⟩ : MethodName) ∈ xtbl := xqs (q := ((⟨"WaitedPostModel", "priceOn", "(II)I"⟩ : MethodName), 24)) 35 (by decide +kernel) rfl
theorem qs_36 : Cond.selects "WaitedPostModel" (⟨"WaitedPostModel", "priceBy", "(IIZII)I"⟩ : MethodName) (⟨"WaitedPostModel", "priceBy", "(IIZII)I"⟩ : MethodName) ∈ xtbl := xqs (q := ((⟨"WaitedPostModel", "priceBy", "(IIZII)I"⟩ : MethodName), 24)) 36 (by decide +kernel) rfl
theorem qs_37 : Cond.selects "WaitedPostModel" (⟨"WaitedPostModel", "keepAct", "()V"⟩ : MethodName) (⟨"WaitedPostModel", "keepAct", "()V"⟩ : MethodName) ∈ xtbl := xqs (q := ((⟨"WaitedPostModel", "keepAct", "()V"⟩ : MethodName), 24)) 37 (by decide +kernel) rfl
theorem qs_38 : Cond.selects "WaitedPostModel" (⟨"WaitedPostModel", "sendOn", "(II)I"⟩ : MethodName) (⟨"WaitedPostModel", "sendOn", "(II)I"⟩ : MethodName) ∈ xtbl := xqs (q := ((⟨"WaitedPostModel", "sendOn", "(II)I"⟩ : MethodName), 24)) 38 (by decide +kernel) rfl
theorem qs_39 : Cond.selects "WaitedPostModel" (⟨"WaitedPostModel", "passOn", "(I)V"⟩ : MethodName) (⟨"WaitedPostModel", "passOn", "(I)V"⟩ : MethodName) ∈ xtbl := xqs (q := ((⟨"WaitedPostModel", "passOn", "(I)V"⟩ : MethodName), 24)) 39 (by decide +kernel) rfl
theorem qs_40 : Cond.selects "WaitedPostModel" (⟨"WaitedPostModel", "priceIn", "(II)I"⟩ : MethodName) (⟨"WaitedPostModel", "priceIn", "(II)I"⟩ : MethodName) ∈ xtbl := xqs (q := ((⟨"WaitedPostModel", "priceIn", "(II)I"⟩ : MethodName), 24)) 40 (by decide +kernel) rfl
theorem qs_41 : Cond.selects "WaitedPostModel" (⟨"WaitedPostModel", "layTrial", "()V"⟩ : MethodName) (⟨"WaitedPostModel", "layTrial", "()V"⟩ : MethodName) ∈ xtbl := xqs (q := ((⟨"WaitedPostModel", "layTrial", "()V"⟩ : MethodName), 24)) 41 (by decide +kernel) rfl
theorem qs_42 : Cond.selects "WaitedPostModel" (⟨"WaitedPostModel", "leastOf", "(I)I"⟩ : MethodName) (⟨"WaitedPostModel", "leastOf", "(I)I"⟩ : MethodName) ∈ xtbl := xqs (q := ((⟨"WaitedPostModel", "leastOf", "(I)I"⟩ : MethodName), 24)) 42 (by decide +kernel) rfl
theorem qs_43 : Cond.selects "WaitedPostModel" (⟨"WaitedPostModel", "paidBy", "(II)I"⟩ : MethodName) (⟨"WaitedPostModel", "paidBy", "(II)I"⟩ : MethodName) ∈ xtbl := xqs (q := ((⟨"WaitedPostModel", "paidBy", "(II)I"⟩ : MethodName), 24)) 43 (by decide +kernel) rfl
theorem qs_44 : Cond.selects "WaitedPostModel" (⟨"WaitedPostModel", "canSend", "(II)Z"⟩ : MethodName) (⟨"WaitedPostModel", "canSend", "(II)Z"⟩ : MethodName) ∈ xtbl := xqs (q := ((⟨"WaitedPostModel", "canSend", "(II)Z"⟩ : MethodName), 24)) 44 (by decide +kernel) rfl
theorem qs_45 : Cond.selects "WaitedPostModel" (⟨"WaitedPostModel", "areThings", "(II)Z"⟩ : MethodName) (⟨"WaitedPostModel", "areThings", "(II)Z"⟩ : MethodName) ∈ xtbl := xqs (q := ((⟨"WaitedPostModel", "areThings", "(II)Z"⟩ : MethodName), 24)) 45 (by decide +kernel) rfl
theorem qs_46 : Cond.selects "WaitedPostModel" (⟨"WaitedPostModel", "tryThing", "(I)Z"⟩ : MethodName) (⟨"WaitedPostModel", "tryThing", "(I)Z"⟩ : MethodName) ∈ xtbl := xqs (q := ((⟨"WaitedPostModel", "tryThing", "(I)Z"⟩ : MethodName), 24)) 46 (by decide +kernel) rfl
theorem qs_47 : Cond.selects "WaitedPostModel" (⟨"WaitedPostModel", "priceWith", "(II)I"⟩ : MethodName) (⟨"WaitedPostModel", "priceWith", "(II)I"⟩ : MethodName) ∈ xtbl := xqs (q := ((⟨"WaitedPostModel", "priceWith", "(II)I"⟩ : MethodName), 24)) 47 (by decide +kernel) rfl
theorem qs_48 : Cond.selects "WaitedPostModel" (⟨"WaitedPostModel", "isRest", "(IIII)Z"⟩ : MethodName) (⟨"WaitedPostModel", "isRest", "(IIII)Z"⟩ : MethodName) ∈ xtbl := xqs (q := ((⟨"WaitedPostModel", "isRest", "(IIII)Z"⟩ : MethodName), 24)) 48 (by decide +kernel) rfl
theorem qs_49 : Cond.selects "WaitedPostModel" (⟨"WaitedPostModel", "paysIf", "(IIII)I"⟩ : MethodName) (⟨"WaitedPostModel", "paysIf", "(IIII)I"⟩ : MethodName) ∈ xtbl := xqs (q := ((⟨"WaitedPostModel", "paysIf", "(IIII)I"⟩ : MethodName), 24)) 49 (by decide +kernel) rfl
-- methods
abbrev m_J6_bitCount_0f7a4 : xY := (yJ6_bitCount_0f7a4, cJ6_bitCount_0f7a4, 1, some .int, { frames := 0, cells := 0, slots := 0, locals := 0 })
theorem k_J6_bitCount_0f7a4 : xMt m_J6_bitCount_0f7a4 1 := ⟨q_311, q_9, ⟨by decide, by decide⟩, by decide +kernel⟩
theorem s_J6_bitCount_0f7a4 : Cond.static yJ6_bitCount_0f7a4 ∈ xtbl := q_310
abbrev m_J7_fill_53178 : xY := (yJ7_fill_53178, cJ7_fill_53178, 4, none, { frames := 0, cells := 0, slots := 0, locals := 0 })
theorem k_J7_fill_53178 : xMt m_J7_fill_53178 2 := ⟨q_193, q_7, ⟨by decide, by decide⟩, by decide +kernel⟩
theorem s_J7_fill_53178 : Cond.static yJ7_fill_53178 ∈ xtbl := q_192
abbrev m_J7_fill_d0a16 : xY := (yJ7_fill_d0a16, cJ7_fill_d0a16, 5, none, { frames := 0, cells := 0, slots := 0, locals := 0 })
theorem k_J7_fill_d0a16 : xMt m_J7_fill_d0a16 2 := ⟨q_384, q_7, ⟨by decide, by decide⟩, by decide +kernel⟩
theorem s_J7_fill_d0a16 : Cond.static yJ7_fill_d0a16 ∈ xtbl := q_383
abbrev m_J9_abs_067f4 : xY := (yJ9_abs_067f4, cJ9_abs_067f4, 2, some .long, { frames := 0, cells := 0, slots := 0, locals := 0 })
theorem k_J9_abs_067f4 : xMt m_J9_abs_067f4 1 := ⟨q_474, q_8, ⟨by decide, by decide⟩, by decide +kernel⟩
theorem s_J9_abs_067f4 : Cond.static yJ9_abs_067f4 ∈ xtbl := q_473
abbrev m_J9_max_7cf53 : xY := (yJ9_max_7cf53, cJ9_max_7cf53, 2, some .int, { frames := 0, cells := 0, slots := 0, locals := 0 })
theorem k_J9_max_7cf53 : xMt m_J9_max_7cf53 2 := ⟨q_300, q_8, ⟨by decide, by decide⟩, by decide +kernel⟩
theorem s_J9_max_7cf53 : Cond.static yJ9_max_7cf53 ∈ xtbl := q_299
abbrev m_J9_min_7cf53 : xY := (yJ9_min_7cf53, cJ9_min_7cf53, 2, some .int, { frames := 0, cells := 0, slots := 0, locals := 0 })
theorem k_J9_min_7cf53 : xMt m_J9_min_7cf53 2 := ⟨q_303, q_8, ⟨by decide, by decide⟩, by decide +kernel⟩
theorem s_J9_min_7cf53 : Cond.static yJ9_min_7cf53 ∈ xtbl := q_302
abbrev m_X0_bestAt : xY := (yX0_bestAt, cX0_bestAt, 2, some .long, { frames := 0, cells := 0, slots := 0, locals := 0 })
theorem k_X0_bestAt : xMt m_X0_bestAt 1 := ⟨q_407, q_5, ⟨by decide, by decide⟩, by decide +kernel⟩
theorem v_X0_bestAt : Cond.instanceMethod yX0_bestAt ∈ xtbl ∧ Cond.selects yX0_bestAt.cls yX0_bestAt yX0_bestAt ∈ xtbl := ⟨q_406, qs_18⟩
abbrev m_X0_endDay : xY := (yX0_endDay, cX0_endDay, 3, none, { frames := 1, cells := 0, slots := 0, locals := 23 })
theorem k_X0_endDay : xMt m_X0_endDay 0 := ⟨q_411, q_5, ⟨by decide, by decide⟩, by decide +kernel⟩
theorem v_X0_endDay : Cond.instanceMethod yX0_endDay ∈ xtbl ∧ Cond.selects yX0_endDay.cls yX0_endDay yX0_endDay ∈ xtbl := ⟨q_410, qs_19⟩
abbrev m_X0_fill : xY := (yX0_fill, cX0_fill, 6, none, { frames := 4, cells := 0, slots := 0, locals := 107 })
theorem k_X0_fill : xMt m_X0_fill 3 := ⟨q_380, q_5, ⟨by decide, by decide⟩, by decide +kernel⟩
theorem v_X0_fill : Cond.instanceMethod yX0_fill ∈ xtbl ∧ Cond.selects yX0_fill.cls yX0_fill yX0_fill ∈ xtbl := ⟨q_378, q_379⟩
abbrev m_X0_hasRoom : xY := (yX0_hasRoom, cX0_hasRoom, 2, some .boolean, { frames := 1, cells := 0, slots := 0, locals := 21 })
theorem k_X0_hasRoom : xMt m_X0_hasRoom 1 := ⟨q_415, q_5, ⟨by decide, by decide⟩, by decide +kernel⟩
theorem v_X0_hasRoom : Cond.instanceMethod yX0_hasRoom ∈ xtbl ∧ Cond.selects yX0_hasRoom.cls yX0_hasRoom yX0_hasRoom ∈ xtbl := ⟨q_413, q_414⟩
abbrev m_X0_init : xY := (yX0_init, cX0_init, 1, none, { frames := 1, cells := 1, slots := 256, locals := 20 })
theorem k_X0_init : xMt m_X0_init 0 := ⟨q_120, q_5, ⟨by decide, by decide⟩, by decide +kernel⟩
theorem v_X0_init : Cond.instanceMethod yX0_init ∈ xtbl := q_119
abbrev m_X0_lower : xY := (yX0_lower, cX0_lower, 4, none, { frames := 0, cells := 0, slots := 0, locals := 0 })
theorem k_X0_lower : xMt m_X0_lower 2 := ⟨q_388, q_5, ⟨by decide, by decide⟩, by decide +kernel⟩
theorem v_X0_lower : Cond.instanceMethod yX0_lower ∈ xtbl ∧ Cond.selects yX0_lower.cls yX0_lower yX0_lower ∈ xtbl := ⟨q_387, qs_16⟩
abbrev m_X0_paidFor : xY := (yX0_paidFor, cX0_paidFor, 2, some .int, { frames := 1, cells := 0, slots := 0, locals := 21 })
theorem k_X0_paidFor : xMt m_X0_paidFor 1 := ⟨q_423, q_5, ⟨by decide, by decide⟩, by decide +kernel⟩
theorem v_X0_paidFor : Cond.instanceMethod yX0_paidFor ∈ xtbl ∧ Cond.selects yX0_paidFor.cls yX0_paidFor yX0_paidFor ∈ xtbl := ⟨q_421, q_422⟩
abbrev m_X0_rowOf : xY := (yX0_rowOf, cX0_rowOf, 2, some .int, { frames := 1, cells := 0, slots := 0, locals := 21 })
theorem k_X0_rowOf : xMt m_X0_rowOf 1 := ⟨q_419, q_5, ⟨by decide, by decide⟩, by decide +kernel⟩
theorem v_X0_rowOf : Cond.instanceMethod yX0_rowOf ∈ xtbl ∧ Cond.selects yX0_rowOf.cls yX0_rowOf yX0_rowOf ∈ xtbl := ⟨q_417, q_418⟩
abbrev m_X0_tryLetter : xY := (yX0_tryLetter, cX0_tryLetter, 13, none, { frames := 3, cells := 0, slots := 0, locals := 75 })
theorem k_X0_tryLetter : xMt m_X0_tryLetter 5 := ⟨q_393, q_5, ⟨by decide, by decide⟩, by decide +kernel⟩
theorem v_X0_tryLetter : Cond.instanceMethod yX0_tryLetter ∈ xtbl ∧ Cond.selects yX0_tryLetter.cls yX0_tryLetter yX0_tryLetter ∈ xtbl := ⟨q_392, qs_17⟩
abbrev m_X1_begin : xY := (yX1_begin, cX1_begin, 1, none, { frames := 2, cells := 0, slots := 0, locals := 43 })
theorem k_X1_begin : xMt m_X1_begin 0 := ⟨q_186, q_2, ⟨by decide, by decide⟩, by decide +kernel⟩
theorem v_X1_begin : Cond.instanceMethod yX1_begin ∈ xtbl ∧ Cond.selects yX1_begin.cls yX1_begin yX1_begin ∈ xtbl := ⟨q_184, q_185⟩
abbrev m_X1_hasOpenPair : xY := (yX1_hasOpenPair, cX1_hasOpenPair, 2, some .boolean, { frames := 3, cells := 0, slots := 0, locals := 65 })
theorem k_X1_hasOpenPair : xMt m_X1_hasOpenPair 0 := ⟨q_217, q_2, ⟨by decide, by decide⟩, by decide +kernel⟩
theorem v_X1_hasOpenPair : Cond.instanceMethod yX1_hasOpenPair ∈ xtbl ∧ Cond.selects yX1_hasOpenPair.cls yX1_hasOpenPair yX1_hasOpenPair ∈ xtbl := ⟨q_216, qs_5⟩
abbrev m_X1_init : xY := (yX1_init, cX1_init, 1, none, { frames := 2, cells := 4, slots := 24, locals := 40 })
theorem k_X1_init : xMt m_X1_init 0 := ⟨q_22, q_2, ⟨by decide, by decide⟩, by decide +kernel⟩
theorem v_X1_init : Cond.instanceMethod yX1_init ∈ xtbl := q_21
abbrev m_X1_isOpen : xY := (yX1_isOpen, cX1_isOpen, 2, some .boolean, { frames := 2, cells := 0, slots := 0, locals := 44 })
theorem k_X1_isOpen : xMt m_X1_isOpen 1 := ⟨q_221, q_2, ⟨by decide, by decide⟩, by decide +kernel⟩
theorem v_X1_isOpen : Cond.instanceMethod yX1_isOpen ∈ xtbl ∧ Cond.selects yX1_isOpen.cls yX1_isOpen yX1_isOpen ∈ xtbl := ⟨q_220, qs_6⟩
abbrev m_X1_mayEnd : xY := (yX1_mayEnd, cX1_mayEnd, 1, some .boolean, { frames := 0, cells := 0, slots := 0, locals := 0 })
theorem k_X1_mayEnd : xMt m_X1_mayEnd 0 := ⟨q_266, q_2, ⟨by decide, by decide⟩, by decide +kernel⟩
theorem v_X1_mayEnd : Cond.instanceMethod yX1_mayEnd ∈ xtbl ∧ Cond.selects yX1_mayEnd.cls yX1_mayEnd yX1_mayEnd ∈ xtbl := ⟨q_264, q_265⟩
abbrev m_X1_takes : xY := (yX1_takes, cX1_takes, 3, some .boolean, { frames := 5, cells := 0, slots := 0, locals := 107 })
theorem k_X1_takes : xMt m_X1_takes 1 := ⟨q_197, q_2, ⟨by decide, by decide⟩, by decide +kernel⟩
theorem v_X1_takes : Cond.instanceMethod yX1_takes ∈ xtbl ∧ Cond.selects yX1_takes.cls yX1_takes yX1_takes ∈ xtbl := ⟨q_195, q_196⟩
abbrev m_X1_takesExplained : xY := (yX1_takesExplained, cX1_takesExplained, 3, some .boolean, { frames := 1, cells := 0, slots := 0, locals := 22 })
theorem k_X1_takesExplained : xMt m_X1_takesExplained 1 := ⟨q_256, q_2, ⟨by decide, by decide⟩, by decide +kernel⟩
theorem v_X1_takesExplained : Cond.instanceMethod yX1_takesExplained ∈ xtbl ∧ Cond.selects yX1_takesExplained.cls yX1_takesExplained yX1_takesExplained ∈ xtbl := ⟨q_255, qs_10⟩
abbrev m_X1_takesExplainer : xY := (yX1_takesExplainer, cX1_takesExplainer, 2, some .boolean, { frames := 3, cells := 0, slots := 0, locals := 65 })
theorem k_X1_takesExplainer : xMt m_X1_takesExplainer 1 := ⟨q_252, q_2, ⟨by decide, by decide⟩, by decide +kernel⟩
theorem v_X1_takesExplainer : Cond.instanceMethod yX1_takesExplainer ∈ xtbl ∧ Cond.selects yX1_takesExplainer.cls yX1_takesExplainer yX1_takesExplainer ∈ xtbl := ⟨q_251, qs_9⟩
abbrev m_X1_takesHead : xY := (yX1_takesHead, cX1_takesHead, 2, some .boolean, { frames := 0, cells := 0, slots := 0, locals := 0 })
theorem k_X1_takesHead : xMt m_X1_takesHead 1 := ⟨q_201, q_2, ⟨by decide, by decide⟩, by decide +kernel⟩
theorem v_X1_takesHead : Cond.instanceMethod yX1_takesHead ∈ xtbl ∧ Cond.selects yX1_takesHead.cls yX1_takesHead yX1_takesHead ∈ xtbl := ⟨q_200, qs_1⟩
abbrev m_X1_takesKind : xY := (yX1_takesKind, cX1_takesKind, 2, some .boolean, { frames := 2, cells := 0, slots := 0, locals := 44 })
theorem k_X1_takesKind : xMt m_X1_takesKind 1 := ⟨q_239, q_2, ⟨by decide, by decide⟩, by decide +kernel⟩
theorem v_X1_takesKind : Cond.instanceMethod yX1_takesKind ∈ xtbl ∧ Cond.selects yX1_takesKind.cls yX1_takesKind yX1_takesKind ∈ xtbl := ⟨q_238, qs_8⟩
abbrev m_X1_takesPardon : xY := (yX1_takesPardon, cX1_takesPardon, 2, some .boolean, { frames := 0, cells := 0, slots := 0, locals := 0 })
theorem k_X1_takesPardon : xMt m_X1_takesPardon 1 := ⟨q_205, q_2, ⟨by decide, by decide⟩, by decide +kernel⟩
theorem v_X1_takesPardon : Cond.instanceMethod yX1_takesPardon ∈ xtbl ∧ Cond.selects yX1_takesPardon.cls yX1_takesPardon yX1_takesPardon ∈ xtbl := ⟨q_204, qs_2⟩
abbrev m_X1_takesPart : xY := (yX1_takesPart, cX1_takesPart, 2, some .boolean, { frames := 4, cells := 0, slots := 0, locals := 86 })
theorem k_X1_takesPart : xMt m_X1_takesPart 1 := ⟨q_213, q_2, ⟨by decide, by decide⟩, by decide +kernel⟩
theorem v_X1_takesPart : Cond.instanceMethod yX1_takesPart ∈ xtbl ∧ Cond.selects yX1_takesPart.cls yX1_takesPart yX1_takesPart ∈ xtbl := ⟨q_212, qs_4⟩
abbrev m_X1_takesRoom : xY := (yX1_takesRoom, cX1_takesRoom, 2, some .boolean, { frames := 0, cells := 0, slots := 0, locals := 0 })
theorem k_X1_takesRoom : xMt m_X1_takesRoom 1 := ⟨q_209, q_2, ⟨by decide, by decide⟩, by decide +kernel⟩
theorem v_X1_takesRoom : Cond.instanceMethod yX1_takesRoom ∈ xtbl ∧ Cond.selects yX1_takesRoom.cls yX1_takesRoom yX1_takesRoom ∈ xtbl := ⟨q_208, qs_3⟩
abbrev m_X1_takesWaited : xY := (yX1_takesWaited, cX1_takesWaited, 2, some .boolean, { frames := 0, cells := 0, slots := 0, locals := 0 })
theorem k_X1_takesWaited : xMt m_X1_takesWaited 1 := ⟨q_235, q_2, ⟨by decide, by decide⟩, by decide +kernel⟩
theorem v_X1_takesWaited : Cond.instanceMethod yX1_takesWaited ∈ xtbl ∧ Cond.selects yX1_takesWaited.cls yX1_takesWaited yX1_takesWaited ∈ xtbl := ⟨q_234, qs_7⟩
abbrev m_X2_begin : xY := (yX2_begin, cX2_begin, 2, none, { frames := 1, cells := 0, slots := 0, locals := 23 })
theorem k_X2_begin : xMt m_X2_begin 1 := ⟨q_281, q_4, ⟨by decide, by decide⟩, by decide +kernel⟩
theorem v_X2_begin : Cond.instanceMethod yX2_begin ∈ xtbl ∧ Cond.selects yX2_begin.cls yX2_begin yX2_begin ∈ xtbl := ⟨q_279, q_280⟩
abbrev m_X2_init : xY := (yX2_init, cX2_init, 1, none, { frames := 1, cells := 2, slots := 12, locals := 20 })
theorem k_X2_init : xMt m_X2_init 0 := ⟨q_78, q_4, ⟨by decide, by decide⟩, by decide +kernel⟩
theorem v_X2_init : Cond.instanceMethod yX2_init ∈ xtbl := q_77
abbrev m_X2_passDay : xY := (yX2_passDay, cX2_passDay, 4, none, { frames := 1, cells := 0, slots := 0, locals := 22 })
theorem k_X2_passDay : xMt m_X2_passDay 1 := ⟨q_347, q_4, ⟨by decide, by decide⟩, by decide +kernel⟩
theorem v_X2_passDay : Cond.instanceMethod yX2_passDay ∈ xtbl ∧ Cond.selects yX2_passDay.cls yX2_passDay yX2_passDay ∈ xtbl := ⟨q_345, q_346⟩
abbrev m_X2_take : xY := (yX2_take, cX2_take, 2, none, { frames := 1, cells := 0, slots := 0, locals := 22 })
theorem k_X2_take : xMt m_X2_take 1 := ⟨q_334, q_4, ⟨by decide, by decide⟩, by decide +kernel⟩
theorem v_X2_take : Cond.instanceMethod yX2_take ∈ xtbl ∧ Cond.selects yX2_take.cls yX2_take yX2_take ∈ xtbl := ⟨q_332, q_333⟩
abbrev m_X3_addLetter : xY := (yX3_addLetter, cX3_addLetter, 3, none, { frames := 1, cells := 0, slots := 0, locals := 22 })
theorem k_X3_addLetter : xMt m_X3_addLetter 2 := ⟨q_245, q_3, ⟨by decide, by decide⟩, by decide +kernel⟩
theorem v_X3_addLetter : Cond.instanceMethod yX3_addLetter ∈ xtbl ∧ Cond.selects yX3_addLetter.cls yX3_addLetter yX3_addLetter ∈ xtbl := ⟨q_243, q_244⟩
abbrev m_X3_clear : xY := (yX3_clear, cX3_clear, 1, none, { frames := 1, cells := 0, slots := 0, locals := 23 })
theorem k_X3_clear : xMt m_X3_clear 0 := ⟨q_190, q_3, ⟨by decide, by decide⟩, by decide +kernel⟩
theorem v_X3_clear : Cond.instanceMethod yX3_clear ∈ xtbl ∧ Cond.selects yX3_clear.cls yX3_clear yX3_clear ∈ xtbl := ⟨q_188, q_189⟩
abbrev m_X3_costIn : xY := (yX3_costIn, cX3_costIn, 7, some .int, { frames := 2, cells := 0, slots := 0, locals := 49 })
theorem k_X3_costIn : xMt m_X3_costIn 4 := ⟨q_297, q_3, ⟨by decide, by decide⟩, by decide +kernel⟩
theorem v_X3_costIn : Cond.instanceMethod yX3_costIn ∈ xtbl ∧ Cond.selects yX3_costIn.cls yX3_costIn yX3_costIn ∈ xtbl := ⟨q_295, q_296⟩
abbrev m_X3_costOf : xY := (yX3_costOf, cX3_costOf, 9, some .int, { frames := 1, cells := 0, slots := 0, locals := 21 })
theorem k_X3_costOf : xMt m_X3_costOf 5 := ⟨q_307, q_3, ⟨by decide, by decide⟩, by decide +kernel⟩
theorem v_X3_costOf : Cond.instanceMethod yX3_costOf ∈ xtbl ∧ Cond.selects yX3_costOf.cls yX3_costOf yX3_costOf ∈ xtbl := ⟨q_305, q_306⟩
abbrev m_X3_explainedBy : xY := (yX3_explainedBy, cX3_explainedBy, 4, some .int, { frames := 1, cells := 0, slots := 0, locals := 21 })
theorem k_X3_explainedBy : xMt m_X3_explainedBy 1 := ⟨q_225, q_3, ⟨by decide, by decide⟩, by decide +kernel⟩
theorem v_X3_explainedBy : Cond.instanceMethod yX3_explainedBy ∈ xtbl ∧ Cond.selects yX3_explainedBy.cls yX3_explainedBy yX3_explainedBy ∈ xtbl := ⟨q_223, q_224⟩
abbrev m_X3_init : xY := (yX3_init, cX3_init, 1, none, { frames := 1, cells := 3, slots := 18, locals := 20 })
theorem k_X3_init : xMt m_X3_init 0 := ⟨q_28, q_3, ⟨by decide, by decide⟩, by decide +kernel⟩
theorem v_X3_init : Cond.instanceMethod yX3_init ∈ xtbl := q_27
abbrev m_X3_take : xY := (yX3_take, cX3_take, 2, none, { frames := 1, cells := 0, slots := 0, locals := 22 })
theorem k_X3_take : xMt m_X3_take 1 := ⟨q_274, q_3, ⟨by decide, by decide⟩, by decide +kernel⟩
theorem v_X3_take : Cond.instanceMethod yX3_take ∈ xtbl ∧ Cond.selects yX3_take.cls yX3_take yX3_take ∈ xtbl := ⟨q_272, q_273⟩
abbrev m_X4_again : xY := (yX4_again, cX4_again, 2, some .int, { frames := 2, cells := 0, slots := 0, locals := 43 })
theorem k_X4_again : xMt m_X4_again 1 := ⟨q_520, q_1, ⟨by decide, by decide⟩, by decide +kernel⟩
theorem v_X4_again : Cond.instanceMethod yX4_again ∈ xtbl ∧ Cond.selects yX4_again.cls yX4_again yX4_again ∈ xtbl := ⟨q_518, q_519⟩
abbrev m_X4_at : xY := (yX4_at, cX4_at, 2, some .int, { frames := 0, cells := 0, slots := 0, locals := 0 })
theorem k_X4_at : xMt m_X4_at 2 := ⟨q_228, q_1, ⟨by decide, by decide⟩, by decide +kernel⟩
theorem s_X4_at : Cond.static yX4_at ∈ xtbl := q_227
abbrev m_X4_bit : xY := (yX4_bit, cX4_bit, 1, some .int, { frames := 0, cells := 0, slots := 0, locals := 0 })
theorem k_X4_bit : xMt m_X4_bit 1 := ⟨q_261, q_1, ⟨by decide, by decide⟩, by decide +kernel⟩
theorem s_X4_bit : Cond.static yX4_bit ∈ xtbl := q_260
abbrev m_X4_canBeSent : xY := (yX4_canBeSent, cX4_canBeSent, 3, some .boolean, { frames := 1, cells := 0, slots := 0, locals := 21 })
theorem k_X4_canBeSent : xMt m_X4_canBeSent 2 := ⟨q_322, q_1, ⟨by decide, by decide⟩, by decide +kernel⟩
theorem v_X4_canBeSent : Cond.instanceMethod yX4_canBeSent ∈ xtbl ∧ Cond.selects yX4_canBeSent.cls yX4_canBeSent yX4_canBeSent ∈ xtbl := ⟨q_321, qs_12⟩
abbrev m_X4_card : xY := (yX4_card, cX4_card, 2, some .int, { frames := 3, cells := 0, slots := 0, locals := 75 })
theorem k_X4_card : xMt m_X4_card 1 := ⟨q_360, q_1, ⟨by decide, by decide⟩, by decide +kernel⟩
theorem v_X4_card : Cond.instanceMethod yX4_card ∈ xtbl ∧ Cond.selects yX4_card.cls yX4_card yX4_card ∈ xtbl := ⟨q_358, q_359⟩
abbrev m_X4_cheapest : xY := (yX4_cheapest, cX4_cheapest, 6, some .int, { frames := 3, cells := 0, slots := 0, locals := 75 })
theorem k_X4_cheapest : xMt m_X4_cheapest 1 := ⟨q_372, q_1, ⟨by decide, by decide⟩, by decide +kernel⟩
theorem v_X4_cheapest : Cond.instanceMethod yX4_cheapest ∈ xtbl ∧ Cond.selects yX4_cheapest.cls yX4_cheapest yX4_cheapest ∈ xtbl := ⟨q_370, q_371⟩
abbrev m_X4_commonDivisor : xY := (yX4_commonDivisor, cX4_commonDivisor, 11, some .long, { frames := 0, cells := 0, slots := 0, locals := 0 })
theorem k_X4_commonDivisor : xMt m_X4_commonDivisor 2 := ⟨q_477, q_1, ⟨by decide, by decide⟩, by decide +kernel⟩
theorem s_X4_commonDivisor : Cond.static yX4_commonDivisor ∈ xtbl := q_476
abbrev m_X4_copyRow : xY := (yX4_copyRow, cX4_copyRow, 3, none, { frames := 0, cells := 0, slots := 0, locals := 0 })
theorem k_X4_copyRow : xMt m_X4_copyRow 2 := ⟨q_277, q_1, ⟨by decide, by decide⟩, by decide +kernel⟩
theorem s_X4_copyRow : Cond.static yX4_copyRow ∈ xtbl := q_276
abbrev m_X4_cost : xY := (yX4_cost, cX4_cost, 3, some .int, { frames := 5, cells := 0, slots := 0, locals := 122 })
theorem k_X4_cost : xMt m_X4_cost 2 := ⟨q_451, q_1, ⟨by decide, by decide⟩, by decide +kernel⟩
theorem v_X4_cost : Cond.instanceMethod yX4_cost ∈ xtbl ∧ Cond.selects yX4_cost.cls yX4_cost yX4_cost ∈ xtbl := ⟨q_449, q_450⟩
abbrev m_X4_costBeside : xY := (yX4_costBeside, cX4_costBeside, 7, some .int, { frames := 3, cells := 0, slots := 0, locals := 75 })
theorem k_X4_costBeside : xMt m_X4_costBeside 4 := ⟨q_497, q_1, ⟨by decide, by decide⟩, by decide +kernel⟩
theorem v_X4_costBeside : Cond.instanceMethod yX4_costBeside ∈ xtbl ∧ Cond.selects yX4_costBeside.cls yX4_costBeside yX4_costBeside ∈ xtbl := ⟨q_496, qs_26⟩
abbrev m_X4_costForShare : xY := (yX4_costForShare, cX4_costForShare, 2, some .int, { frames := 2, cells := 0, slots := 0, locals := 42 })
theorem k_X4_costForShare : xMt m_X4_costForShare 1 := ⟨q_485, q_1, ⟨by decide, by decide⟩, by decide +kernel⟩
theorem v_X4_costForShare : Cond.instanceMethod yX4_costForShare ∈ xtbl ∧ Cond.selects yX4_costForShare.cls yX4_costForShare yX4_costForShare ∈ xtbl := ⟨q_484, qs_24⟩
abbrev m_X4_costOfUnsent : xY := (yX4_costOfUnsent, cX4_costOfUnsent, 3, some .int, { frames := 3, cells := 0, slots := 0, locals := 75 })
theorem k_X4_costOfUnsent : xMt m_X4_costOfUnsent 0 := ⟨q_528, q_1, ⟨by decide, by decide⟩, by decide +kernel⟩
theorem v_X4_costOfUnsent : Cond.instanceMethod yX4_costOfUnsent ∈ xtbl ∧ Cond.selects yX4_costOfUnsent.cls yX4_costOfUnsent yX4_costOfUnsent ∈ xtbl := ⟨q_527, qs_27⟩
abbrev m_X4_count : xY := (yX4_count, cX4_count, 2, some .int, { frames := 4, cells := 0, slots := 0, locals := 97 })
theorem k_X4_count : xMt m_X4_count 1 := ⟨q_524, q_1, ⟨by decide, by decide⟩, by decide +kernel⟩
theorem v_X4_count : Cond.instanceMethod yX4_count ∈ xtbl ∧ Cond.selects yX4_count.cls yX4_count yX4_count ∈ xtbl := ⟨q_522, q_523⟩
abbrev m_X4_day : xY := (yX4_day, cX4_day, 1, some .int, { frames := 3, cells := 0, slots := 0, locals := 63 })
theorem k_X4_day : xMt m_X4_day 0 := ⟨q_343, q_1, ⟨by decide, by decide⟩, by decide +kernel⟩
theorem v_X4_day : Cond.instanceMethod yX4_day ∈ xtbl ∧ Cond.selects yX4_day.cls yX4_day yX4_day ∈ xtbl := ⟨q_341, q_342⟩
abbrev m_X4_factorial : xY := (yX4_factorial, cX4_factorial, 4, some .long, { frames := 0, cells := 0, slots := 0, locals := 0 })
theorem k_X4_factorial : xMt m_X4_factorial 1 := ⟨q_481, q_1, ⟨by decide, by decide⟩, by decide +kernel⟩
theorem s_X4_factorial : Cond.static yX4_factorial ∈ xtbl := q_480
abbrev m_X4_fault : xY := (yX4_fault, cX4_fault, 1, some .int, { frames := 7, cells := 0, slots := 0, locals := 150 })
theorem k_X4_fault : xMt m_X4_fault 0 := ⟨q_178, q_1, ⟨by decide, by decide⟩, by decide +kernel⟩
theorem v_X4_fault : Cond.instanceMethod yX4_fault ∈ xtbl ∧ Cond.selects yX4_fault.cls yX4_fault yX4_fault ∈ xtbl := ⟨q_176, q_177⟩
abbrev m_X4_firstUnexplained : xY := (yX4_firstUnexplained, cX4_firstUnexplained, 3, some .int, { frames := 1, cells := 0, slots := 0, locals := 21 })
theorem k_X4_firstUnexplained : xMt m_X4_firstUnexplained 1 := ⟨q_435, q_1, ⟨by decide, by decide⟩, by decide +kernel⟩
theorem v_X4_firstUnexplained : Cond.instanceMethod yX4_firstUnexplained ∈ xtbl ∧ Cond.selects yX4_firstUnexplained.cls yX4_firstUnexplained yX4_firstUnexplained ∈ xtbl := ⟨q_434, qs_21⟩
abbrev m_X4_forgetFirstAct : xY := (yX4_forgetFirstAct, cX4_forgetFirstAct, 3, none, { frames := 0, cells := 0, slots := 0, locals := 0 })
theorem k_X4_forgetFirstAct : xMt m_X4_forgetFirstAct 0 := ⟨q_330, q_1, ⟨by decide, by decide⟩, by decide +kernel⟩
theorem v_X4_forgetFirstAct : Cond.instanceMethod yX4_forgetFirstAct ∈ xtbl ∧ Cond.selects yX4_forgetFirstAct.cls yX4_forgetFirstAct yX4_forgetFirstAct ∈ xtbl := ⟨q_329, qs_14⟩
abbrev m_X4_fractionPart : xY := (yX4_fractionPart, cX4_fractionPart, 7, some .int, { frames := 1, cells := 0, slots := 0, locals := 30 })
theorem k_X4_fractionPart : xMt m_X4_fractionPart 3 := ⟨q_471, q_1, ⟨by decide, by decide⟩, by decide +kernel⟩
theorem s_X4_fractionPart : Cond.static yX4_fractionPart ∈ xtbl := q_470
abbrev m_X4_has : xY := (yX4_has, cX4_has, 2, some .boolean, { frames := 0, cells := 0, slots := 0, locals := 0 })
theorem k_X4_has : xMt m_X4_has 2 := ⟨q_231, q_1, ⟨by decide, by decide⟩, by decide +kernel⟩
theorem s_X4_has : Cond.static yX4_has ∈ xtbl := q_230
abbrev m_X4_init : xY := (yX4_init, cX4_init, 2, none, { frames := 3, cells := 69, slots := 720, locals := 60 })
theorem k_X4_init : xMt m_X4_init 0 := ⟨q_14, q_1, ⟨by decide, by decide⟩, by decide +kernel⟩
theorem v_X4_init : Cond.instanceMethod yX4_init ∈ xtbl := q_13
abbrev m_X4_isBestDay : xY := (yX4_isBestDay, cX4_isBestDay, 7, some .boolean, { frames := 4, cells := 0, slots := 0, locals := 101 })
theorem k_X4_isBestDay : xMt m_X4_isBestDay 4 := ⟨q_493, q_1, ⟨by decide, by decide⟩, by decide +kernel⟩
theorem v_X4_isBestDay : Cond.instanceMethod yX4_isBestDay ∈ xtbl ∧ Cond.selects yX4_isBestDay.cls yX4_isBestDay yX4_isBestDay ∈ xtbl := ⟨q_492, qs_25⟩
abbrev m_X4_isCost : xY := (yX4_isCost, cX4_isCost, 1, some .boolean, { frames := 0, cells := 0, slots := 0, locals := 0 })
theorem k_X4_isCost : xMt m_X4_isCost 1 := ⟨q_458, q_1, ⟨by decide, by decide⟩, by decide +kernel⟩
theorem s_X4_isCost : Cond.static yX4_isCost ∈ xtbl := q_457
abbrev m_X4_judge : xY := (yX4_judge, cX4_judge, 3, some .int, { frames := 5, cells := 0, slots := 0, locals := 122 })
theorem k_X4_judge : xMt m_X4_judge 2 := ⟨q_439, q_1, ⟨by decide, by decide⟩, by decide +kernel⟩
theorem v_X4_judge : Cond.instanceMethod yX4_judge ∈ xtbl ∧ Cond.selects yX4_judge.cls yX4_judge yX4_judge ∈ xtbl := ⟨q_437, q_438⟩
abbrev m_X4_keep : xY := (yX4_keep, cX4_keep, 2, some .int, { frames := 2, cells := 0, slots := 0, locals := 43 })
theorem k_X4_keep : xMt m_X4_keep 1 := ⟨q_516, q_1, ⟨by decide, by decide⟩, by decide +kernel⟩
theorem v_X4_keep : Cond.instanceMethod yX4_keep ∈ xtbl ∧ Cond.selects yX4_keep.cls yX4_keep yX4_keep ∈ xtbl := ⟨q_514, q_515⟩
abbrev m_X4_known : xY := (yX4_known, cX4_known, 2, some .boolean, { frames := 0, cells := 0, slots := 0, locals := 0 })
theorem k_X4_known : xMt m_X4_known 1 := ⟨q_291, q_1, ⟨by decide, by decide⟩, by decide +kernel⟩
theorem v_X4_known : Cond.instanceMethod yX4_known ∈ xtbl ∧ Cond.selects yX4_known.cls yX4_known yX4_known ∈ xtbl := ⟨q_290, qs_11⟩
abbrev m_X4_letter : xY := (yX4_letter, cX4_letter, 3, some .int, { frames := 3, cells := 0, slots := 0, locals := 75 })
theorem k_X4_letter : xMt m_X4_letter 2 := ⟨q_287, q_1, ⟨by decide, by decide⟩, by decide +kernel⟩
theorem v_X4_letter : Cond.instanceMethod yX4_letter ∈ xtbl ∧ Cond.selects yX4_letter.cls yX4_letter yX4_letter ∈ xtbl := ⟨q_285, q_286⟩
abbrev m_X4_lost : xY := (yX4_lost, cX4_lost, 11, some .int, { frames := 3, cells := 0, slots := 0, locals := 75 })
theorem k_X4_lost : xMt m_X4_lost 4 := ⟨q_501, q_1, ⟨by decide, by decide⟩, by decide +kernel⟩
theorem v_X4_lost : Cond.instanceMethod yX4_lost ∈ xtbl ∧ Cond.selects yX4_lost.cls yX4_lost yX4_lost ∈ xtbl := ⟨q_499, q_500⟩
abbrev m_X4_order : xY := (yX4_order, cX4_order, 5, some .int, { frames := 2, cells := 0, slots := 0, locals := 43 })
theorem k_X4_order : xMt m_X4_order 0 := ⟨q_427, q_1, ⟨by decide, by decide⟩, by decide +kernel⟩
theorem v_X4_order : Cond.instanceMethod yX4_order ∈ xtbl ∧ Cond.selects yX4_order.cls yX4_order yX4_order ∈ xtbl := ⟨q_425, q_426⟩
abbrev m_X4_plan : xY := (yX4_plan, cX4_plan, 3, some .int, { frames := 5, cells := 0, slots := 0, locals := 132 })
theorem k_X4_plan : xMt m_X4_plan 2 := ⟨q_376, q_1, ⟨by decide, by decide⟩, by decide +kernel⟩
theorem v_X4_plan : Cond.instanceMethod yX4_plan ∈ xtbl ∧ Cond.selects yX4_plan.cls yX4_plan yX4_plan ∈ xtbl := ⟨q_374, q_375⟩
abbrev m_X4_post : xY := (yX4_post, cX4_post, 1, some .int, { frames := 7, cells := 0, slots := 0, locals := 150 })
theorem k_X4_post : xMt m_X4_post 0 := ⟨q_270, q_1, ⟨by decide, by decide⟩, by decide +kernel⟩
theorem v_X4_post : Cond.instanceMethod yX4_post ∈ xtbl ∧ Cond.selects yX4_post.cls yX4_post yX4_post ∈ xtbl := ⟨q_268, q_269⟩
abbrev m_X4_power : xY := (yX4_power, cX4_power, 5, some .long, { frames := 0, cells := 0, slots := 0, locals := 0 })
theorem k_X4_power : xMt m_X4_power 2 := ⟨q_397, q_1, ⟨by decide, by decide⟩, by decide +kernel⟩
theorem s_X4_power : Cond.static yX4_power ∈ xtbl := q_396
abbrev m_X4_price : xY := (yX4_price, cX4_price, 3, some .int, { frames := 3, cells := 0, slots := 0, locals := 75 })
theorem k_X4_price : xMt m_X4_price 2 := ⟨q_368, q_1, ⟨by decide, by decide⟩, by decide +kernel⟩
theorem v_X4_price : Cond.instanceMethod yX4_price ∈ xtbl ∧ Cond.selects yX4_price.cls yX4_price yX4_price ∈ xtbl := ⟨q_366, q_367⟩
abbrev m_X4_put : xY := (yX4_put, cX4_put, 3, none, { frames := 0, cells := 0, slots := 0, locals := 0 })
theorem k_X4_put : xMt m_X4_put 3 := ⟨q_248, q_1, ⟨by decide, by decide⟩, by decide +kernel⟩
theorem s_X4_put : Cond.static yX4_put ∈ xtbl := q_247
abbrev m_X4_putSent : xY := (yX4_putSent, cX4_putSent, 4, some .int, { frames := 3, cells := 0, slots := 0, locals := 75 })
theorem k_X4_putSent : xMt m_X4_putSent 2 := ⟨q_338, q_1, ⟨by decide, by decide⟩, by decide +kernel⟩
theorem v_X4_putSent : Cond.instanceMethod yX4_putSent ∈ xtbl ∧ Cond.selects yX4_putSent.cls yX4_putSent yX4_putSent ∈ xtbl := ⟨q_337, qs_15⟩
abbrev m_X4_readText : xY := (yX4_readText, cX4_readText, 2, some .int, { frames := 6, cells := 0, slots := 0, locals := 129 })
theorem k_X4_readText : xMt m_X4_readText 0 := ⟨q_182, q_1, ⟨by decide, by decide⟩, by decide +kernel⟩
theorem v_X4_readText : Cond.instanceMethod yX4_readText ∈ xtbl ∧ Cond.selects yX4_readText.cls yX4_readText yX4_readText ∈ xtbl := ⟨q_181, qs_0⟩
abbrev m_X4_remember : xY := (yX4_remember, cX4_remember, 1, none, { frames := 2, cells := 0, slots := 0, locals := 43 })
theorem k_X4_remember : xMt m_X4_remember 0 := ⟨q_326, q_1, ⟨by decide, by decide⟩, by decide +kernel⟩
theorem v_X4_remember : Cond.instanceMethod yX4_remember ∈ xtbl ∧ Cond.selects yX4_remember.cls yX4_remember yX4_remember ∈ xtbl := ⟨q_325, qs_13⟩
abbrev m_X4_rests : xY := (yX4_rests, cX4_rests, 8, some .int, { frames := 5, cells := 0, slots := 0, locals := 127 })
theorem k_X4_rests : xMt m_X4_rests 3 := ⟨q_489, q_1, ⟨by decide, by decide⟩, by decide +kernel⟩
theorem v_X4_rests : Cond.instanceMethod yX4_rests ∈ xtbl ∧ Cond.selects yX4_rests.cls yX4_rests yX4_rests ∈ xtbl := ⟨q_487, q_488⟩
abbrev m_X4_seed : xY := (yX4_seed, cX4_seed, 5, some .long, { frames := 0, cells := 0, slots := 0, locals := 0 })
theorem k_X4_seed : xMt m_X4_seed 1 := ⟨q_506, q_1, ⟨by decide, by decide⟩, by decide +kernel⟩
theorem v_X4_seed : Cond.instanceMethod yX4_seed ∈ xtbl ∧ Cond.selects yX4_seed.cls yX4_seed yX4_seed ∈ xtbl := ⟨q_504, q_505⟩
abbrev m_X4_send : xY := (yX4_send, cX4_send, 2, some .int, { frames := 4, cells := 0, slots := 0, locals := 98 })
theorem k_X4_send : xMt m_X4_send 1 := ⟨q_318, q_1, ⟨by decide, by decide⟩, by decide +kernel⟩
theorem v_X4_send : Cond.instanceMethod yX4_send ∈ xtbl ∧ Cond.selects yX4_send.cls yX4_send yX4_send ∈ xtbl := ⟨q_316, q_317⟩
abbrev m_X4_share : xY := (yX4_share, cX4_share, 12, some .int, { frames := 5, cells := 0, slots := 0, locals := 132 })
theorem k_X4_share : xMt m_X4_share 2 := ⟨q_468, q_1, ⟨by decide, by decide⟩, by decide +kernel⟩
theorem v_X4_share : Cond.instanceMethod yX4_share ∈ xtbl ∧ Cond.selects yX4_share.cls yX4_share yX4_share ∈ xtbl := ⟨q_466, q_467⟩
abbrev m_X4_takeFigures : xY := (yX4_takeFigures, cX4_takeFigures, 5, some .boolean, { frames := 0, cells := 0, slots := 0, locals := 0 })
theorem k_X4_takeFigures : xMt m_X4_takeFigures 2 := ⟨q_443, q_1, ⟨by decide, by decide⟩, by decide +kernel⟩
theorem v_X4_takeFigures : Cond.instanceMethod yX4_takeFigures ∈ xtbl ∧ Cond.selects yX4_takeFigures.cls yX4_takeFigures yX4_takeFigures ∈ xtbl := ⟨q_442, qs_22⟩
abbrev m_X4_tear : xY := (yX4_tear, cX4_tear, 3, some .int, { frames := 3, cells := 0, slots := 0, locals := 63 })
theorem k_X4_tear : xMt m_X4_tear 1 := ⟨q_355, q_1, ⟨by decide, by decide⟩, by decide +kernel⟩
theorem v_X4_tear : Cond.instanceMethod yX4_tear ∈ xtbl ∧ Cond.selects yX4_tear.cls yX4_tear yX4_tear ∈ xtbl := ⟨q_353, q_354⟩
abbrev m_X4_tryThings : xY := (yX4_tryThings, cX4_tryThings, 5, some .int, { frames := 4, cells := 0, slots := 0, locals := 98 })
theorem k_X4_tryThings : xMt m_X4_tryThings 1 := ⟨q_447, q_1, ⟨by decide, by decide⟩, by decide +kernel⟩
theorem v_X4_tryThings : Cond.instanceMethod yX4_tryThings ∈ xtbl ∧ Cond.selects yX4_tryThings.cls yX4_tryThings yX4_tryThings ∈ xtbl := ⟨q_446, qs_23⟩
abbrev m_X4_undo : xY := (yX4_undo, cX4_undo, 1, some .int, { frames := 2, cells := 0, slots := 0, locals := 43 })
theorem k_X4_undo : xMt m_X4_undo 0 := ⟨q_364, q_1, ⟨by decide, by decide⟩, by decide +kernel⟩
theorem v_X4_undo : Cond.instanceMethod yX4_undo ∈ xtbl ∧ Cond.selects yX4_undo.cls yX4_undo yX4_undo ∈ xtbl := ⟨q_362, q_363⟩
abbrev m_X4_unsent : xY := (yX4_unsent, cX4_unsent, 1, some .int, { frames := 1, cells := 0, slots := 0, locals := 20 })
theorem k_X4_unsent : xMt m_X4_unsent 0 := ⟨q_431, q_1, ⟨by decide, by decide⟩, by decide +kernel⟩
theorem v_X4_unsent : Cond.instanceMethod yX4_unsent ∈ xtbl ∧ Cond.selects yX4_unsent.cls yX4_unsent yX4_unsent ∈ xtbl := ⟨q_430, qs_20⟩
abbrev m_X4_waits : xY := (yX4_waits, cX4_waits, 5, some .int, { frames := 2, cells := 0, slots := 0, locals := 49 })
theorem k_X4_waits : xMt m_X4_waits 2 := ⟨q_455, q_1, ⟨by decide, by decide⟩, by decide +kernel⟩
theorem v_X4_waits : Cond.instanceMethod yX4_waits ∈ xtbl ∧ Cond.selects yX4_waits.cls yX4_waits yX4_waits ∈ xtbl := ⟨q_453, q_454⟩
abbrev m_X4_who : xY := (yX4_who, cX4_who, 9, some .int, { frames := 3, cells := 0, slots := 0, locals := 75 })
theorem k_X4_who : xMt m_X4_who 3 := ⟨q_463, q_1, ⟨by decide, by decide⟩, by decide +kernel⟩
theorem v_X4_who : Cond.instanceMethod yX4_who ∈ xtbl ∧ Cond.selects yX4_who.cls yX4_who yX4_who ∈ xtbl := ⟨q_461, q_462⟩
abbrev m_X4_wipe : xY := (yX4_wipe, cX4_wipe, 2, some .int, { frames := 0, cells := 0, slots := 0, locals := 0 })
theorem k_X4_wipe : xMt m_X4_wipe 0 := ⟨q_174, q_1, ⟨by decide, by decide⟩, by decide +kernel⟩
theorem v_X4_wipe : Cond.instanceMethod yX4_wipe ∈ xtbl ∧ Cond.selects yX4_wipe.cls yX4_wipe yX4_wipe ∈ xtbl := ⟨q_172, q_173⟩
abbrev m_X4_within : xY := (yX4_within, cX4_within, 2, some .boolean, { frames := 0, cells := 0, slots := 0, locals := 0 })
theorem k_X4_within : xMt m_X4_within 2 := ⟨q_400, q_1, ⟨by decide, by decide⟩, by decide +kernel⟩
theorem s_X4_within : Cond.static yX4_within ∈ xtbl := q_399
abbrev m_X4_write : xY := (yX4_write, cX4_write, 2, some .int, { frames := 0, cells := 0, slots := 0, locals := 0 })
theorem k_X4_write : xMt m_X4_write 1 := ⟨q_170, q_1, ⟨by decide, by decide⟩, by decide +kernel⟩
theorem v_X4_write : Cond.instanceMethod yX4_write ∈ xtbl ∧ Cond.selects yX4_write.cls yX4_write yX4_write ∈ xtbl := ⟨q_168, q_169⟩
abbrev m_X4_years : xY := (yX4_years, cX4_years, 4, some .int, { frames := 4, cells := 0, slots := 0, locals := 98 })
theorem k_X4_years : xMt m_X4_years 1 := ⟨q_510, q_1, ⟨by decide, by decide⟩, by decide +kernel⟩
theorem v_X4_years : Cond.instanceMethod yX4_years ∈ xtbl ∧ Cond.selects yX4_years.cls yX4_years yX4_years ∈ xtbl := ⟨q_508, q_509⟩
abbrev m_X5_again : xY := (yX5_again, cX5_again, 3, some .int, { frames := 1, cells := 0, slots := 0, locals := 25 })
theorem k_X5_again : xMt m_X5_again 1 := ⟨q_832, q_6, ⟨by decide, by decide⟩, by decide +kernel⟩
theorem v_X5_again : Cond.instanceMethod yX5_again ∈ xtbl ∧ Cond.selects yX5_again.cls yX5_again yX5_again ∈ xtbl := ⟨q_830, q_831⟩
abbrev m_X5_areThings : xY := (yX5_areThings, cX5_areThings, 3, some .boolean, { frames := 1, cells := 0, slots := 0, locals := 25 })
theorem k_X5_areThings : xMt m_X5_areThings 2 := ⟨q_757, q_6, ⟨by decide, by decide⟩, by decide +kernel⟩
theorem v_X5_areThings : Cond.instanceMethod yX5_areThings ∈ xtbl ∧ Cond.selects yX5_areThings.cls yX5_areThings yX5_areThings ∈ xtbl := ⟨q_756, qs_45⟩
abbrev m_X5_canSend : xY := (yX5_canSend, cX5_canSend, 3, some .boolean, { frames := 2, cells := 0, slots := 0, locals := 46 })
theorem k_X5_canSend : xMt m_X5_canSend 2 := ⟨q_745, q_6, ⟨by decide, by decide⟩, by decide +kernel⟩
theorem v_X5_canSend : Cond.instanceMethod yX5_canSend ∈ xtbl ∧ Cond.selects yX5_canSend.cls yX5_canSend yX5_canSend ∈ xtbl := ⟨q_744, qs_44⟩
abbrev m_X5_card : xY := (yX5_card, cX5_card, 2, some .int, { frames := 2, cells := 0, slots := 0, locals := 50 })
theorem k_X5_card : xMt m_X5_card 1 := ⟨q_703, q_6, ⟨by decide, by decide⟩, by decide +kernel⟩
theorem v_X5_card : Cond.instanceMethod yX5_card ∈ xtbl ∧ Cond.selects yX5_card.cls yX5_card yX5_card ∈ xtbl := ⟨q_701, q_702⟩
abbrev m_X5_cheapest : xY := (yX5_cheapest, cX5_cheapest, 4, some .int, { frames := 4, cells := 0, slots := 0, locals := 89 })
theorem k_X5_cheapest : xMt m_X5_cheapest 1 := ⟨q_723, q_6, ⟨by decide, by decide⟩, by decide +kernel⟩
theorem v_X5_cheapest : Cond.instanceMethod yX5_cheapest ∈ xtbl ∧ Cond.selects yX5_cheapest.cls yX5_cheapest yX5_cheapest ∈ xtbl := ⟨q_721, q_722⟩
abbrev m_X5_common : xY := (yX5_common, cX5_common, 5, some .int, { frames := 0, cells := 0, slots := 0, locals := 0 })
theorem k_X5_common : xMt m_X5_common 2 := ⟨q_793, q_6, ⟨by decide, by decide⟩, by decide +kernel⟩
theorem s_X5_common : Cond.static yX5_common ∈ xtbl := q_792
abbrev m_X5_cost : xY := (yX5_cost, cX5_cost, 4, some .int, { frames := 4, cells := 0, slots := 0, locals := 95 })
theorem k_X5_cost : xMt m_X5_cost 2 := ⟨q_769, q_6, ⟨by decide, by decide⟩, by decide +kernel⟩
theorem v_X5_cost : Cond.instanceMethod yX5_cost ∈ xtbl ∧ Cond.selects yX5_cost.cls yX5_cost yX5_cost ∈ xtbl := ⟨q_767, q_768⟩
abbrev m_X5_count : xY := (yX5_count, cX5_count, 4, some .int, { frames := 2, cells := 0, slots := 0, locals := 50 })
theorem k_X5_count : xMt m_X5_count 1 := ⟨q_836, q_6, ⟨by decide, by decide⟩, by decide +kernel⟩
theorem v_X5_count : Cond.instanceMethod yX5_count ∈ xtbl ∧ Cond.selects yX5_count.cls yX5_count yX5_count ∈ xtbl := ⟨q_834, q_835⟩
abbrev m_X5_day : xY := (yX5_day, cX5_day, 1, some .int, { frames := 3, cells := 0, slots := 0, locals := 66 })
theorem k_X5_day : xMt m_X5_day 0 := ⟨q_691, q_6, ⟨by decide, by decide⟩, by decide +kernel⟩
theorem v_X5_day : Cond.instanceMethod yX5_day ∈ xtbl ∧ Cond.selects yX5_day.cls yX5_day yX5_day ∈ xtbl := ⟨q_689, q_690⟩
abbrev m_X5_dayOf : xY := (yX5_dayOf, cX5_dayOf, 3, some .int, { frames := 1, cells := 0, slots := 0, locals := 20 })
theorem k_X5_dayOf : xMt m_X5_dayOf 3 := ⟨q_741, q_6, ⟨by decide, by decide⟩, by decide +kernel⟩
theorem s_X5_dayOf : Cond.static yX5_dayOf ∈ xtbl := q_740
abbrev m_X5_factorial : xY := (yX5_factorial, cX5_factorial, 3, some .int, { frames := 0, cells := 0, slots := 0, locals := 0 })
theorem k_X5_factorial : xMt m_X5_factorial 1 := ⟨q_790, q_6, ⟨by decide, by decide⟩, by decide +kernel⟩
theorem s_X5_factorial : Cond.static yX5_factorial ∈ xtbl := q_789
abbrev m_X5_fault : xY := (yX5_fault, cX5_fault, 1, some .int, { frames := 4, cells := 0, slots := 0, locals := 88 })
theorem k_X5_fault : xMt m_X5_fault 0 := ⟨q_624, q_6, ⟨by decide, by decide⟩, by decide +kernel⟩
theorem v_X5_fault : Cond.instanceMethod yX5_fault ∈ xtbl ∧ Cond.selects yX5_fault.cls yX5_fault yX5_fault ∈ xtbl := ⟨q_622, q_623⟩
abbrev m_X5_figure : xY := (yX5_figure, cX5_figure, 4, some .int, { frames := 1, cells := 0, slots := 0, locals := 25 })
theorem k_X5_figure : xMt m_X5_figure 2 := ⟨q_632, q_6, ⟨by decide, by decide⟩, by decide +kernel⟩
theorem v_X5_figure : Cond.instanceMethod yX5_figure ∈ xtbl ∧ Cond.selects yX5_figure.cls yX5_figure yX5_figure ∈ xtbl := ⟨q_631, qs_29⟩
abbrev m_X5_figureOf : xY := (yX5_figureOf, cX5_figureOf, 3, some .int, { frames := 1, cells := 0, slots := 0, locals := 25 })
theorem k_X5_figureOf : xMt m_X5_figureOf 1 := ⟨q_647, q_6, ⟨by decide, by decide⟩, by decide +kernel⟩
theorem v_X5_figureOf : Cond.instanceMethod yX5_figureOf ∈ xtbl ∧ Cond.selects yX5_figureOf.cls yX5_figureOf yX5_figureOf ∈ xtbl := ⟨q_646, qs_32⟩
abbrev m_X5_firstsLeft : xY := (yX5_firstsLeft, cX5_firstsLeft, 3, some .int, { frames := 2, cells := 0, slots := 0, locals := 44 })
theorem k_X5_firstsLeft : xMt m_X5_firstsLeft 0 := ⟨q_636, q_6, ⟨by decide, by decide⟩, by decide +kernel⟩
theorem v_X5_firstsLeft : Cond.instanceMethod yX5_firstsLeft ∈ xtbl ∧ Cond.selects yX5_firstsLeft.cls yX5_firstsLeft yX5_firstsLeft ∈ xtbl := ⟨q_635, qs_30⟩
abbrev m_X5_fours : xY := (yX5_fours, cX5_fours, 1, some .int, { frames := 0, cells := 0, slots := 0, locals := 0 })
theorem k_X5_fours : xMt m_X5_fours 1 := ⟨q_734, q_6, ⟨by decide, by decide⟩, by decide +kernel⟩
theorem s_X5_fours : Cond.static yX5_fours ∈ xtbl := q_733
abbrev m_X5_has : xY := (yX5_has, cX5_has, 2, some .boolean, { frames := 0, cells := 0, slots := 0, locals := 0 })
theorem k_X5_has : xMt m_X5_has 2 := ⟨q_643, q_6, ⟨by decide, by decide⟩, by decide +kernel⟩
theorem s_X5_has : Cond.static yX5_has ∈ xtbl := q_642
abbrev m_X5_in : xY := (yX5_in, cX5_in, 6, some .boolean, { frames := 0, cells := 0, slots := 0, locals := 0 })
theorem k_X5_in : xMt m_X5_in 3 := ⟨q_616, q_6, ⟨by decide, by decide⟩, by decide +kernel⟩
theorem s_X5_in : Cond.static yX5_in ∈ xtbl := q_615
abbrev m_X5_init : xY := (yX5_init, cX5_init, 1, none, { frames := 1, cells := 11, slots := 450, locals := 20 })
theorem k_X5_init : xMt m_X5_init 0 := ⟨q_533, q_6, ⟨by decide, by decide⟩, by decide +kernel⟩
theorem v_X5_init : Cond.instanceMethod yX5_init ∈ xtbl := q_532
abbrev m_X5_isLetter : xY := (yX5_isLetter, cX5_isLetter, 2, some .boolean, { frames := 1, cells := 0, slots := 0, locals := 25 })
theorem k_X5_isLetter : xMt m_X5_isLetter 1 := ⟨q_660, q_6, ⟨by decide, by decide⟩, by decide +kernel⟩
theorem v_X5_isLetter : Cond.instanceMethod yX5_isLetter ∈ xtbl ∧ Cond.selects yX5_isLetter.cls yX5_isLetter yX5_isLetter ∈ xtbl := ⟨q_659, qs_33⟩
abbrev m_X5_isRest : xY := (yX5_isRest, cX5_isRest, 7, some .boolean, { frames := 4, cells := 0, slots := 0, locals := 92 })
theorem k_X5_isRest : xMt m_X5_isRest 4 := ⟨q_801, q_6, ⟨by decide, by decide⟩, by decide +kernel⟩
theorem v_X5_isRest : Cond.instanceMethod yX5_isRest ∈ xtbl ∧ Cond.selects yX5_isRest.cls yX5_isRest yX5_isRest ∈ xtbl := ⟨q_800, qs_48⟩
abbrev m_X5_isSent : xY := (yX5_isSent, cX5_isSent, 3, some .boolean, { frames := 1, cells := 0, slots := 0, locals := 21 })
theorem k_X5_isSent : xMt m_X5_isSent 2 := ⟨q_664, q_6, ⟨by decide, by decide⟩, by decide +kernel⟩
theorem v_X5_isSent : Cond.instanceMethod yX5_isSent ∈ xtbl ∧ Cond.selects yX5_isSent.cls yX5_isSent yX5_isSent ∈ xtbl := ⟨q_663, qs_34⟩
abbrev m_X5_judge : xY := (yX5_judge, cX5_judge, 4, some .int, { frames := 4, cells := 0, slots := 0, locals := 95 })
theorem k_X5_judge : xMt m_X5_judge 2 := ⟨q_753, q_6, ⟨by decide, by decide⟩, by decide +kernel⟩
theorem v_X5_judge : Cond.instanceMethod yX5_judge ∈ xtbl ∧ Cond.selects yX5_judge.cls yX5_judge yX5_judge ∈ xtbl := ⟨q_751, q_752⟩
abbrev m_X5_keep : xY := (yX5_keep, cX5_keep, 3, some .int, { frames := 1, cells := 0, slots := 0, locals := 25 })
theorem k_X5_keep : xMt m_X5_keep 1 := ⟨q_828, q_6, ⟨by decide, by decide⟩, by decide +kernel⟩
theorem v_X5_keep : Cond.instanceMethod yX5_keep ∈ xtbl ∧ Cond.selects yX5_keep.cls yX5_keep yX5_keep ∈ xtbl := ⟨q_826, q_827⟩
abbrev m_X5_keepAct : xY := (yX5_keepAct, cX5_keepAct, 2, none, { frames := 0, cells := 0, slots := 0, locals := 0 })
theorem k_X5_keepAct : xMt m_X5_keepAct 0 := ⟨q_683, q_6, ⟨by decide, by decide⟩, by decide +kernel⟩
theorem v_X5_keepAct : Cond.instanceMethod yX5_keepAct ∈ xtbl ∧ Cond.selects yX5_keepAct.cls yX5_keepAct yX5_keepAct ∈ xtbl := ⟨q_682, qs_37⟩
abbrev m_X5_layTrial : xY := (yX5_layTrial, cX5_layTrial, 2, none, { frames := 0, cells := 0, slots := 0, locals := 0 })
theorem k_X5_layTrial : xMt m_X5_layTrial 0 := ⟨q_719, q_6, ⟨by decide, by decide⟩, by decide +kernel⟩
theorem v_X5_layTrial : Cond.instanceMethod yX5_layTrial ∈ xtbl ∧ Cond.selects yX5_layTrial.cls yX5_layTrial yX5_layTrial ∈ xtbl := ⟨q_718, qs_41⟩
abbrev m_X5_leastOf : xY := (yX5_leastOf, cX5_leastOf, 5, some .int, { frames := 4, cells := 0, slots := 0, locals := 101 })
theorem k_X5_leastOf : xMt m_X5_leastOf 1 := ⟨q_731, q_6, ⟨by decide, by decide⟩, by decide +kernel⟩
theorem v_X5_leastOf : Cond.instanceMethod yX5_leastOf ∈ xtbl ∧ Cond.selects yX5_leastOf.cls yX5_leastOf yX5_leastOf ∈ xtbl := ⟨q_730, qs_42⟩
abbrev m_X5_left : xY := (yX5_left, cX5_left, 4, some .int, { frames := 1, cells := 0, slots := 0, locals := 21 })
theorem k_X5_left : xMt m_X5_left 1 := ⟨q_640, q_6, ⟨by decide, by decide⟩, by decide +kernel⟩
theorem v_X5_left : Cond.instanceMethod yX5_left ∈ xtbl ∧ Cond.selects yX5_left.cls yX5_left yX5_left ∈ xtbl := ⟨q_639, qs_31⟩
abbrev m_X5_letter : xY := (yX5_letter, cX5_letter, 3, some .int, { frames := 2, cells := 0, slots := 0, locals := 50 })
theorem k_X5_letter : xMt m_X5_letter 2 := ⟨q_656, q_6, ⟨by decide, by decide⟩, by decide +kernel⟩
theorem v_X5_letter : Cond.instanceMethod yX5_letter ∈ xtbl ∧ Cond.selects yX5_letter.cls yX5_letter yX5_letter ∈ xtbl := ⟨q_654, q_655⟩
abbrev m_X5_lost : xY := (yX5_lost, cX5_lost, 10, some .int, { frames := 2, cells := 0, slots := 0, locals := 49 })
theorem k_X5_lost : xMt m_X5_lost 4 := ⟨q_809, q_6, ⟨by decide, by decide⟩, by decide +kernel⟩
theorem v_X5_lost : Cond.instanceMethod yX5_lost ∈ xtbl ∧ Cond.selects yX5_lost.cls yX5_lost yX5_lost ∈ xtbl := ⟨q_807, q_808⟩
abbrev m_X5_ones : xY := (yX5_ones, cX5_ones, 3, some .int, { frames := 0, cells := 0, slots := 0, locals := 0 })
theorem k_X5_ones : xMt m_X5_ones 1 := ⟨q_671, q_6, ⟨by decide, by decide⟩, by decide +kernel⟩
theorem s_X5_ones : Cond.static yX5_ones ∈ xtbl := q_670
abbrev m_X5_order : xY := (yX5_order, cX5_order, 5, some .int, { frames := 1, cells := 0, slots := 0, locals := 21 })
theorem k_X5_order : xMt m_X5_order 0 := ⟨q_749, q_6, ⟨by decide, by decide⟩, by decide +kernel⟩
theorem v_X5_order : Cond.instanceMethod yX5_order ∈ xtbl ∧ Cond.selects yX5_order.cls yX5_order yX5_order ∈ xtbl := ⟨q_747, q_748⟩
abbrev m_X5_paidBy : xY := (yX5_paidBy, cX5_paidBy, 8, some .int, { frames := 3, cells := 0, slots := 0, locals := 74 })
theorem k_X5_paidBy : xMt m_X5_paidBy 2 := ⟨q_738, q_6, ⟨by decide, by decide⟩, by decide +kernel⟩
theorem v_X5_paidBy : Cond.instanceMethod yX5_paidBy ∈ xtbl ∧ Cond.selects yX5_paidBy.cls yX5_paidBy yX5_paidBy ∈ xtbl := ⟨q_737, qs_43⟩
abbrev m_X5_passOn : xY := (yX5_passOn, cX5_passOn, 4, none, { frames := 2, cells := 0, slots := 0, locals := 43 })
theorem k_X5_passOn : xMt m_X5_passOn 1 := ⟨q_695, q_6, ⟨by decide, by decide⟩, by decide +kernel⟩
theorem v_X5_passOn : Cond.instanceMethod yX5_passOn ∈ xtbl ∧ Cond.selects yX5_passOn.cls yX5_passOn yX5_passOn ∈ xtbl := ⟨q_694, qs_39⟩
abbrev m_X5_paysIf : xY := (yX5_paysIf, cX5_paysIf, 7, some .int, { frames := 3, cells := 0, slots := 0, locals := 66 })
theorem k_X5_paysIf : xMt m_X5_paysIf 4 := ⟨q_805, q_6, ⟨by decide, by decide⟩, by decide +kernel⟩
theorem v_X5_paysIf : Cond.instanceMethod yX5_paysIf ∈ xtbl ∧ Cond.selects yX5_paysIf.cls yX5_paysIf yX5_paysIf ∈ xtbl := ⟨q_804, qs_49⟩
abbrev m_X5_plan : xY := (yX5_plan, cX5_plan, 6, some .int, { frames := 5, cells := 0, slots := 0, locals := 125 })
theorem k_X5_plan : xMt m_X5_plan 2 := ⟨q_727, q_6, ⟨by decide, by decide⟩, by decide +kernel⟩
theorem v_X5_plan : Cond.instanceMethod yX5_plan ∈ xtbl ∧ Cond.selects yX5_plan.cls yX5_plan yX5_plan ∈ xtbl := ⟨q_725, q_726⟩
abbrev m_X5_post : xY := (yX5_post, cX5_post, 2, some .int, { frames := 4, cells := 0, slots := 0, locals := 88 })
theorem k_X5_post : xMt m_X5_post 0 := ⟨q_652, q_6, ⟨by decide, by decide⟩, by decide +kernel⟩
theorem v_X5_post : Cond.instanceMethod yX5_post ∈ xtbl ∧ Cond.selects yX5_post.cls yX5_post yX5_post ∈ xtbl := ⟨q_650, q_651⟩
abbrev m_X5_power : xY := (yX5_power, cX5_power, 4, some .int, { frames := 0, cells := 0, slots := 0, locals := 0 })
theorem k_X5_power : xMt m_X5_power 2 := ⟨q_813, q_6, ⟨by decide, by decide⟩, by decide +kernel⟩
theorem s_X5_power : Cond.static yX5_power ∈ xtbl := q_812
abbrev m_X5_price : xY := (yX5_price, cX5_price, 3, some .int, { frames := 4, cells := 0, slots := 0, locals := 89 })
theorem k_X5_price : xMt m_X5_price 2 := ⟨q_711, q_6, ⟨by decide, by decide⟩, by decide +kernel⟩
theorem v_X5_price : Cond.instanceMethod yX5_price ∈ xtbl ∧ Cond.selects yX5_price.cls yX5_price yX5_price ∈ xtbl := ⟨q_709, q_710⟩
abbrev m_X5_priceBy : xY := (yX5_priceBy, cX5_priceBy, 8, some .int, { frames := 0, cells := 0, slots := 0, locals := 0 })
theorem k_X5_priceBy : xMt m_X5_priceBy 5 := ⟨q_675, q_6, ⟨by decide, by decide⟩, by decide +kernel⟩
theorem v_X5_priceBy : Cond.instanceMethod yX5_priceBy ∈ xtbl ∧ Cond.selects yX5_priceBy.cls yX5_priceBy yX5_priceBy ∈ xtbl := ⟨q_674, qs_36⟩
abbrev m_X5_priceIn : xY := (yX5_priceIn, cX5_priceIn, 4, some .int, { frames := 3, cells := 0, slots := 0, locals := 66 })
theorem k_X5_priceIn : xMt m_X5_priceIn 2 := ⟨q_715, q_6, ⟨by decide, by decide⟩, by decide +kernel⟩
theorem v_X5_priceIn : Cond.instanceMethod yX5_priceIn ∈ xtbl ∧ Cond.selects yX5_priceIn.cls yX5_priceIn yX5_priceIn ∈ xtbl := ⟨q_714, qs_40⟩
abbrev m_X5_priceOn : xY := (yX5_priceOn, cX5_priceOn, 4, some .int, { frames := 1, cells := 0, slots := 0, locals := 27 })
theorem k_X5_priceOn : xMt m_X5_priceOn 2 := ⟨q_668, q_6, ⟨by decide, by decide⟩, by decide +kernel⟩
theorem v_X5_priceOn : Cond.instanceMethod yX5_priceOn ∈ xtbl ∧ Cond.selects yX5_priceOn.cls yX5_priceOn yX5_priceOn ∈ xtbl := ⟨q_667, qs_35⟩
abbrev m_X5_priceWith : xY := (yX5_priceWith, cX5_priceWith, 3, some .int, { frames := 1, cells := 0, slots := 0, locals := 27 })
theorem k_X5_priceWith : xMt m_X5_priceWith 2 := ⟨q_783, q_6, ⟨by decide, by decide⟩, by decide +kernel⟩
theorem v_X5_priceWith : Cond.instanceMethod yX5_priceWith ∈ xtbl ∧ Cond.selects yX5_priceWith.cls yX5_priceWith yX5_priceWith ∈ xtbl := ⟨q_782, qs_47⟩
abbrev m_X5_readText : xY := (yX5_readText, cX5_readText, 3, some .int, { frames := 3, cells := 0, slots := 0, locals := 66 })
theorem k_X5_readText : xMt m_X5_readText 0 := ⟨q_628, q_6, ⟨by decide, by decide⟩, by decide +kernel⟩
theorem v_X5_readText : Cond.instanceMethod yX5_readText ∈ xtbl ∧ Cond.selects yX5_readText.cls yX5_readText yX5_readText ∈ xtbl := ⟨q_627, qs_28⟩
abbrev m_X5_rests : xY := (yX5_rests, cX5_rests, 7, some .int, { frames := 5, cells := 0, slots := 0, locals := 118 })
theorem k_X5_rests : xMt m_X5_rests 3 := ⟨q_797, q_6, ⟨by decide, by decide⟩, by decide +kernel⟩
theorem v_X5_rests : Cond.instanceMethod yX5_rests ∈ xtbl ∧ Cond.selects yX5_rests.cls yX5_rests yX5_rests ∈ xtbl := ⟨q_795, q_796⟩
abbrev m_X5_seed : xY := (yX5_seed, cX5_seed, 5, some .long, { frames := 0, cells := 0, slots := 0, locals := 0 })
theorem k_X5_seed : xMt m_X5_seed 1 := ⟨q_817, q_6, ⟨by decide, by decide⟩, by decide +kernel⟩
theorem v_X5_seed : Cond.instanceMethod yX5_seed ∈ xtbl ∧ Cond.selects yX5_seed.cls yX5_seed yX5_seed ∈ xtbl := ⟨q_815, q_816⟩
abbrev m_X5_send : xY := (yX5_send, cX5_send, 2, some .int, { frames := 3, cells := 0, slots := 0, locals := 74 })
theorem k_X5_send : xMt m_X5_send 1 := ⟨q_679, q_6, ⟨by decide, by decide⟩, by decide +kernel⟩
theorem v_X5_send : Cond.instanceMethod yX5_send ∈ xtbl ∧ Cond.selects yX5_send.cls yX5_send yX5_send ∈ xtbl := ⟨q_677, q_678⟩
abbrev m_X5_sendOn : xY := (yX5_sendOn, cX5_sendOn, 5, some .int, { frames := 2, cells := 0, slots := 0, locals := 50 })
theorem k_X5_sendOn : xMt m_X5_sendOn 2 := ⟨q_687, q_6, ⟨by decide, by decide⟩, by decide +kernel⟩
theorem v_X5_sendOn : Cond.instanceMethod yX5_sendOn ∈ xtbl ∧ Cond.selects yX5_sendOn.cls yX5_sendOn yX5_sendOn ∈ xtbl := ⟨q_686, qs_38⟩
abbrev m_X5_share : xY := (yX5_share, cX5_share, 7, some .int, { frames := 5, cells := 0, slots := 0, locals := 125 })
theorem k_X5_share : xMt m_X5_share 2 := ⟨q_787, q_6, ⟨by decide, by decide⟩, by decide +kernel⟩
theorem v_X5_share : Cond.instanceMethod yX5_share ∈ xtbl ∧ Cond.selects yX5_share.cls yX5_share yX5_share ∈ xtbl := ⟨q_785, q_786⟩
abbrev m_X5_tear : xY := (yX5_tear, cX5_tear, 3, some .int, { frames := 2, cells := 0, slots := 0, locals := 46 })
theorem k_X5_tear : xMt m_X5_tear 1 := ⟨q_699, q_6, ⟨by decide, by decide⟩, by decide +kernel⟩
theorem v_X5_tear : Cond.instanceMethod yX5_tear ∈ xtbl ∧ Cond.selects yX5_tear.cls yX5_tear yX5_tear ∈ xtbl := ⟨q_697, q_698⟩
abbrev m_X5_tenTo : xY := (yX5_tenTo, cX5_tenTo, 3, some .int, { frames := 0, cells := 0, slots := 0, locals := 0 })
theorem k_X5_tenTo : xMt m_X5_tenTo 1 := ⟨q_761, q_6, ⟨by decide, by decide⟩, by decide +kernel⟩
theorem s_X5_tenTo : Cond.static yX5_tenTo ∈ xtbl := q_760
abbrev m_X5_tryThing : xY := (yX5_tryThing, cX5_tryThing, 2, some .boolean, { frames := 3, cells := 0, slots := 0, locals := 74 })
theorem k_X5_tryThing : xMt m_X5_tryThing 1 := ⟨q_765, q_6, ⟨by decide, by decide⟩, by decide +kernel⟩
theorem v_X5_tryThing : Cond.instanceMethod yX5_tryThing ∈ xtbl ∧ Cond.selects yX5_tryThing.cls yX5_tryThing yX5_tryThing ∈ xtbl := ⟨q_764, qs_46⟩
abbrev m_X5_undo : xY := (yX5_undo, cX5_undo, 2, some .int, { frames := 0, cells := 0, slots := 0, locals := 0 })
theorem k_X5_undo : xMt m_X5_undo 0 := ⟨q_707, q_6, ⟨by decide, by decide⟩, by decide +kernel⟩
theorem v_X5_undo : Cond.instanceMethod yX5_undo ∈ xtbl ∧ Cond.selects yX5_undo.cls yX5_undo yX5_undo ∈ xtbl := ⟨q_705, q_706⟩
abbrev m_X5_waits : xY := (yX5_waits, cX5_waits, 6, some .int, { frames := 2, cells := 0, slots := 0, locals := 46 })
theorem k_X5_waits : xMt m_X5_waits 2 := ⟨q_773, q_6, ⟨by decide, by decide⟩, by decide +kernel⟩
theorem v_X5_waits : Cond.instanceMethod yX5_waits ∈ xtbl ∧ Cond.selects yX5_waits.cls yX5_waits yX5_waits ∈ xtbl := ⟨q_771, q_772⟩
abbrev m_X5_who : xY := (yX5_who, cX5_who, 8, some .int, { frames := 2, cells := 0, slots := 0, locals := 49 })
theorem k_X5_who : xMt m_X5_who 3 := ⟨q_778, q_6, ⟨by decide, by decide⟩, by decide +kernel⟩
theorem v_X5_who : Cond.instanceMethod yX5_who ∈ xtbl ∧ Cond.selects yX5_who.cls yX5_who yX5_who ∈ xtbl := ⟨q_776, q_777⟩
abbrev m_X5_wipe : xY := (yX5_wipe, cX5_wipe, 2, some .int, { frames := 0, cells := 0, slots := 0, locals := 0 })
theorem k_X5_wipe : xMt m_X5_wipe 0 := ⟨q_620, q_6, ⟨by decide, by decide⟩, by decide +kernel⟩
theorem v_X5_wipe : Cond.instanceMethod yX5_wipe ∈ xtbl ∧ Cond.selects yX5_wipe.cls yX5_wipe yX5_wipe ∈ xtbl := ⟨q_618, q_619⟩
abbrev m_X5_write : xY := (yX5_write, cX5_write, 2, some .int, { frames := 1, cells := 0, slots := 0, locals := 25 })
theorem k_X5_write : xMt m_X5_write 1 := ⟨q_612, q_6, ⟨by decide, by decide⟩, by decide +kernel⟩
theorem v_X5_write : Cond.instanceMethod yX5_write ∈ xtbl ∧ Cond.selects yX5_write.cls yX5_write yX5_write ∈ xtbl := ⟨q_610, q_611⟩
abbrev m_X5_years : xY := (yX5_years, cX5_years, 4, some .int, { frames := 3, cells := 0, slots := 0, locals := 74 })
theorem k_X5_years : xMt m_X5_years 1 := ⟨q_821, q_6, ⟨by decide, by decide⟩, by decide +kernel⟩
theorem v_X5_years : Cond.instanceMethod yX5_years ∈ xtbl ∧ Cond.selects yX5_years.cls yX5_years yX5_years ∈ xtbl := ⟨q_819, q_820⟩
-- links of calls
theorem l_X4_1 : Cond.methodLink "WaitedPost" 1 Lib.objectInit ∈ xtbl := q_15
theorem l_X4_15 : Cond.methodLink "WaitedPost" 15 yX1_init ∈ xtbl := q_20
theorem l_X4_22 : Cond.methodLink "WaitedPost" 22 yX3_init ∈ xtbl := q_73
theorem l_X4_29 : Cond.methodLink "WaitedPost" 29 yX2_init ∈ xtbl := q_76
theorem l_X4_49 : Cond.methodLink "WaitedPost" 49 yX0_init ∈ xtbl := q_118
theorem l_X4_58 : Cond.methodLink "WaitedPost" 58 yX4_readText ∈ xtbl := q_179
theorem l_X4_65 : Cond.methodLink "WaitedPost" 65 yX3_take ∈ xtbl := q_271
theorem l_X4_69 : Cond.methodLink "WaitedPost" 69 yX2_begin ∈ xtbl := q_278
theorem l_X4_81 : Cond.methodLink "WaitedPost" 81 yX4_known ∈ xtbl := q_288
theorem l_X4_88 : Cond.methodLink "WaitedPost" 88 yX4_at ∈ xtbl := q_292
theorem l_X4_101 : Cond.methodLink "WaitedPost" 101 yX4_has ∈ xtbl := q_293
theorem l_X4_111 : Cond.methodLink "WaitedPost" 111 yX3_costIn ∈ xtbl := q_294
theorem l_X4_115 : Cond.methodLink "WaitedPost" 115 yX4_canBeSent ∈ xtbl := q_319
theorem l_X4_119 : Cond.methodLink "WaitedPost" 119 yX4_remember ∈ xtbl := q_323
theorem l_X4_122 : Cond.methodLink "WaitedPost" 122 yX4_putSent ∈ xtbl := q_335
theorem l_X4_126 : Cond.methodLink "WaitedPost" 126 yX2_passDay ∈ xtbl := q_344
theorem l_X4_133 : Cond.methodLink "WaitedPost" 133 yX4_put ∈ xtbl := q_356
theorem l_X4_137 : Cond.methodLink "WaitedPost" 137 yX4_bit ∈ xtbl := q_339
theorem l_X4_141 : Cond.methodLink "WaitedPost" 141 yX2_take ∈ xtbl := q_331
theorem l_X4_144 : Cond.methodLink "WaitedPost" 144 yX0_fill ∈ xtbl := q_377
theorem l_X4_148 : Cond.methodLink "WaitedPost" 148 yX0_hasRoom ∈ xtbl := q_412
theorem l_X4_151 : Cond.methodLink "WaitedPost" 151 yX0_rowOf ∈ xtbl := q_416
theorem l_X4_154 : Cond.methodLink "WaitedPost" 154 yX0_paidFor ∈ xtbl := q_420
theorem l_X4_157 : Cond.methodLink "WaitedPost" 157 yX4_unsent ∈ xtbl := q_428
theorem l_X4_160 : Cond.methodLink "WaitedPost" 160 yX4_firstUnexplained ∈ xtbl := q_432
theorem l_X4_163 : Cond.methodLink "WaitedPost" 163 yX4_takeFigures ∈ xtbl := q_440
theorem l_X4_166 : Cond.methodLink "WaitedPost" 166 yX4_tryThings ∈ xtbl := q_444
theorem l_X4_172 : Cond.methodLink "WaitedPost" 172 yX4_isCost ∈ xtbl := q_456
theorem l_X4_175 : Cond.methodLink "WaitedPost" 175 yX3_costOf ∈ xtbl := q_459
theorem l_X4_179 : Cond.methodLink "WaitedPost" 179 yX4_within ∈ xtbl := q_464
theorem l_X4_182 : Cond.methodLink "WaitedPost" 182 yX4_fractionPart ∈ xtbl := q_469
theorem l_X4_186 : Cond.methodLink "WaitedPost" 186 yJ6_bitCount_0f7a4 ∈ xtbl := q_478
theorem l_X4_191 : Cond.methodLink "WaitedPost" 191 yX4_factorial ∈ xtbl := q_479
theorem l_X4_195 : Cond.methodLink "WaitedPost" 195 yX4_costForShare ∈ xtbl := q_482
theorem l_X4_198 : Cond.methodLink "WaitedPost" 198 yX4_isBestDay ∈ xtbl := q_490
theorem l_X4_202 : Cond.methodLink "WaitedPost" 202 yX4_power ∈ xtbl := q_502
theorem l_X4_223 : Cond.methodLink "WaitedPost" 223 yX4_costOfUnsent ∈ xtbl := q_525
theorem l_X4_226 : Cond.methodLink "WaitedPost" 226 yX1_begin ∈ xtbl := q_183
theorem l_X4_228 : Cond.methodLink "WaitedPost" 228 yX1_takes ∈ xtbl := q_194
theorem l_X4_231 : Cond.methodLink "WaitedPost" 231 yX1_mayEnd ∈ xtbl := q_263
theorem l_X4_235 : Cond.methodLink "WaitedPost" 235 yX4_forgetFirstAct ∈ xtbl := q_327
theorem l_X4_238 : Cond.methodLink "WaitedPost" 238 yX4_costBeside ∈ xtbl := q_494
theorem l_X4_242 : Cond.methodLink "WaitedPost" 242 yJ9_abs_067f4 ∈ xtbl := q_472
theorem l_X4_248 : Cond.methodLink "WaitedPost" 248 yX4_commonDivisor ∈ xtbl := q_475
theorem l_X0_3 : Cond.methodLink "WaitedPost$Planner" 3 Lib.objectInit ∈ xtbl := q_121
theorem l_X0_17 : Cond.methodLink "WaitedPost$Planner" 17 yJ7_fill_d0a16 ∈ xtbl := q_382
theorem l_X0_29 : Cond.methodLink "WaitedPost$Planner" 29 yX0_lower ∈ xtbl := q_385
theorem l_X0_37 : Cond.methodLink "WaitedPost$Planner" 37 yX0_tryLetter ∈ xtbl := q_390
theorem l_X0_41 : Cond.methodLink "WaitedPost$Planner" 41 yX0_endDay ∈ xtbl := q_408
theorem l_X0_44 : Cond.methodLink "WaitedPost$Planner" 44 yX0_bestAt ∈ xtbl := q_404
theorem l_X0_50 : Cond.methodLink "WaitedPost$Planner" 50 yJ6_bitCount_0f7a4 ∈ xtbl := q_394
theorem l_X0_66 : Cond.methodLink "WaitedPost$Planner" 66 yX3_costIn ∈ xtbl := q_402
theorem l_X1_3 : Cond.methodLink "WaitedPost$Reader" 3 Lib.objectInit ∈ xtbl := q_23
theorem l_X1_11 : Cond.methodLink "WaitedPost$Reader" 11 yX3_init ∈ xtbl := q_26
theorem l_X1_18 : Cond.methodLink "WaitedPost$Reader" 18 yX3_clear ∈ xtbl := q_187
theorem l_X1_25 : Cond.methodLink "WaitedPost$Reader" 25 yX1_takesHead ∈ xtbl := q_198
theorem l_X1_29 : Cond.methodLink "WaitedPost$Reader" 29 yX1_takesPardon ∈ xtbl := q_202
theorem l_X1_32 : Cond.methodLink "WaitedPost$Reader" 32 yX1_takesRoom ∈ xtbl := q_206
theorem l_X1_35 : Cond.methodLink "WaitedPost$Reader" 35 yX1_takesPart ∈ xtbl := q_210
theorem l_X1_38 : Cond.methodLink "WaitedPost$Reader" 38 yX1_takesWaited ∈ xtbl := q_232
theorem l_X1_41 : Cond.methodLink "WaitedPost$Reader" 41 yX1_takesKind ∈ xtbl := q_236
theorem l_X1_44 : Cond.methodLink "WaitedPost$Reader" 44 yX1_takesExplainer ∈ xtbl := q_249
theorem l_X1_47 : Cond.methodLink "WaitedPost$Reader" 47 yX1_takesExplained ∈ xtbl := q_253
theorem l_X1_59 : Cond.methodLink "WaitedPost$Reader" 59 yX1_hasOpenPair ∈ xtbl := q_214
theorem l_X1_70 : Cond.methodLink "WaitedPost$Reader" 70 yX3_addLetter ∈ xtbl := q_242
theorem l_X1_74 : Cond.methodLink "WaitedPost$Reader" 74 yX1_isOpen ∈ xtbl := q_218
theorem l_X1_96 : Cond.methodLink "WaitedPost$Reader" 96 yX3_explainedBy ∈ xtbl := q_222
theorem l_X2_3 : Cond.methodLink "WaitedPost$Standing" 3 Lib.objectInit ∈ xtbl := q_79
theorem l_X2_34 : Cond.methodLink "WaitedPost$Standing" 34 yJ7_fill_53178 ∈ xtbl := q_282
theorem l_X2_59 : Cond.methodLink "WaitedPost$Standing" 59 yJ9_min_7cf53 ∈ xtbl := q_351
theorem l_X3_3 : Cond.methodLink "WaitedPost$Told" 3 Lib.objectInit ∈ xtbl := q_29
theorem l_X3_31 : Cond.methodLink "WaitedPost$Told" 31 yJ7_fill_53178 ∈ xtbl := q_191
theorem l_X3_58 : Cond.methodLink "WaitedPost$Told" 58 yJ9_max_7cf53 ∈ xtbl := q_298
theorem l_X3_65 : Cond.methodLink "WaitedPost$Told" 65 yJ9_min_7cf53 ∈ xtbl := q_301
theorem l_X3_74 : Cond.methodLink "WaitedPost$Told" 74 yX3_costOf ∈ xtbl := q_304
theorem l_X3_81 : Cond.methodLink "WaitedPost$Told" 81 yJ6_bitCount_0f7a4 ∈ xtbl := q_309
theorem l_L_9 : Cond.methodLink "WaitedPostLaw" 9 yX4_init ∈ xtbl := q_12
theorem l_L_12 : Cond.methodLink "WaitedPostLaw" 12 yX5_init ∈ xtbl := q_531
theorem l_L_13 : Cond.methodLink "WaitedPostLaw" 13 yX4_write ∈ xtbl := q_167
theorem l_L_17 : Cond.methodLink "WaitedPostLaw" 17 yX5_write ∈ xtbl := q_609
theorem l_L_18 : Cond.methodLink "WaitedPostLaw" 18 yX4_wipe ∈ xtbl := q_171
theorem l_L_22 : Cond.methodLink "WaitedPostLaw" 22 yX5_wipe ∈ xtbl := q_617
theorem l_L_23 : Cond.methodLink "WaitedPostLaw" 23 yX4_fault ∈ xtbl := q_175
theorem l_L_26 : Cond.methodLink "WaitedPostLaw" 26 yX5_fault ∈ xtbl := q_621
theorem l_L_27 : Cond.methodLink "WaitedPostLaw" 27 yX4_post ∈ xtbl := q_267
theorem l_L_30 : Cond.methodLink "WaitedPostLaw" 30 yX5_post ∈ xtbl := q_649
theorem l_L_31 : Cond.methodLink "WaitedPostLaw" 31 yX4_letter ∈ xtbl := q_284
theorem l_L_35 : Cond.methodLink "WaitedPostLaw" 35 yX5_letter ∈ xtbl := q_653
theorem l_L_36 : Cond.methodLink "WaitedPostLaw" 36 yX4_send ∈ xtbl := q_315
theorem l_L_39 : Cond.methodLink "WaitedPostLaw" 39 yX5_send ∈ xtbl := q_676
theorem l_L_40 : Cond.methodLink "WaitedPostLaw" 40 yX4_day ∈ xtbl := q_340
theorem l_L_43 : Cond.methodLink "WaitedPostLaw" 43 yX5_day ∈ xtbl := q_688
theorem l_L_44 : Cond.methodLink "WaitedPostLaw" 44 yX4_tear ∈ xtbl := q_352
theorem l_L_47 : Cond.methodLink "WaitedPostLaw" 47 yX5_tear ∈ xtbl := q_696
theorem l_L_48 : Cond.methodLink "WaitedPostLaw" 48 yX4_card ∈ xtbl := q_357
theorem l_L_51 : Cond.methodLink "WaitedPostLaw" 51 yX5_card ∈ xtbl := q_700
theorem l_L_52 : Cond.methodLink "WaitedPostLaw" 52 yX4_undo ∈ xtbl := q_361
theorem l_L_55 : Cond.methodLink "WaitedPostLaw" 55 yX5_undo ∈ xtbl := q_704
theorem l_L_56 : Cond.methodLink "WaitedPostLaw" 56 yX4_price ∈ xtbl := q_365
theorem l_L_59 : Cond.methodLink "WaitedPostLaw" 59 yX5_price ∈ xtbl := q_708
theorem l_L_60 : Cond.methodLink "WaitedPostLaw" 60 yX4_cheapest ∈ xtbl := q_369
theorem l_L_63 : Cond.methodLink "WaitedPostLaw" 63 yX5_cheapest ∈ xtbl := q_720
theorem l_L_64 : Cond.methodLink "WaitedPostLaw" 64 yX4_plan ∈ xtbl := q_373
theorem l_L_68 : Cond.methodLink "WaitedPostLaw" 68 yX5_plan ∈ xtbl := q_724
theorem l_L_69 : Cond.methodLink "WaitedPostLaw" 69 yX4_order ∈ xtbl := q_424
theorem l_L_72 : Cond.methodLink "WaitedPostLaw" 72 yX5_order ∈ xtbl := q_746
theorem l_L_73 : Cond.methodLink "WaitedPostLaw" 73 yX4_judge ∈ xtbl := q_436
theorem l_L_76 : Cond.methodLink "WaitedPostLaw" 76 yX5_judge ∈ xtbl := q_750
theorem l_L_77 : Cond.methodLink "WaitedPostLaw" 77 yX4_cost ∈ xtbl := q_448
theorem l_L_80 : Cond.methodLink "WaitedPostLaw" 80 yX5_cost ∈ xtbl := q_766
theorem l_L_81 : Cond.methodLink "WaitedPostLaw" 81 yX4_waits ∈ xtbl := q_452
theorem l_L_84 : Cond.methodLink "WaitedPostLaw" 84 yX5_waits ∈ xtbl := q_770
theorem l_L_85 : Cond.methodLink "WaitedPostLaw" 85 yX4_who ∈ xtbl := q_460
theorem l_L_89 : Cond.methodLink "WaitedPostLaw" 89 yX5_who ∈ xtbl := q_775
theorem l_L_90 : Cond.methodLink "WaitedPostLaw" 90 yX4_share ∈ xtbl := q_465
theorem l_L_93 : Cond.methodLink "WaitedPostLaw" 93 yX5_share ∈ xtbl := q_784
theorem l_L_94 : Cond.methodLink "WaitedPostLaw" 94 yX4_rests ∈ xtbl := q_486
theorem l_L_97 : Cond.methodLink "WaitedPostLaw" 97 yX5_rests ∈ xtbl := q_794
theorem l_L_98 : Cond.methodLink "WaitedPostLaw" 98 yX4_lost ∈ xtbl := q_498
theorem l_L_102 : Cond.methodLink "WaitedPostLaw" 102 yX5_lost ∈ xtbl := q_806
theorem l_L_105 : Cond.methodLink "WaitedPostLaw" 105 yX4_seed ∈ xtbl := q_503
theorem l_L_109 : Cond.methodLink "WaitedPostLaw" 109 yX5_seed ∈ xtbl := q_814
theorem l_L_110 : Cond.methodLink "WaitedPostLaw" 110 yX4_years ∈ xtbl := q_507
theorem l_L_113 : Cond.methodLink "WaitedPostLaw" 113 yX5_years ∈ xtbl := q_818
theorem l_L_114 : Cond.methodLink "WaitedPostLaw" 114 yX4_keep ∈ xtbl := q_513
theorem l_L_117 : Cond.methodLink "WaitedPostLaw" 117 yX5_keep ∈ xtbl := q_825
theorem l_L_118 : Cond.methodLink "WaitedPostLaw" 118 yX4_again ∈ xtbl := q_517
theorem l_L_121 : Cond.methodLink "WaitedPostLaw" 121 yX5_again ∈ xtbl := q_829
theorem l_L_122 : Cond.methodLink "WaitedPostLaw" 122 yX4_count ∈ xtbl := q_521
theorem l_L_125 : Cond.methodLink "WaitedPostLaw" 125 yX5_count ∈ xtbl := q_833
theorem l_X5_1 : Cond.methodLink "WaitedPostModel" 1 Lib.objectInit ∈ xtbl := q_534
theorem l_X5_50 : Cond.methodLink "WaitedPostModel" 50 yX5_in ∈ xtbl := q_614
theorem l_X5_65 : Cond.methodLink "WaitedPostModel" 65 yX5_has ∈ xtbl := q_641
theorem l_X5_72 : Cond.methodLink "WaitedPostModel" 72 yX5_left ∈ xtbl := q_637
theorem l_X5_76 : Cond.methodLink "WaitedPostModel" 76 yX5_figure ∈ xtbl := q_629
theorem l_X5_86 : Cond.methodLink "WaitedPostModel" 86 yX5_firstsLeft ∈ xtbl := q_633
theorem l_X5_90 : Cond.methodLink "WaitedPostModel" 90 yX5_figureOf ∈ xtbl := q_644
theorem l_X5_93 : Cond.methodLink "WaitedPostModel" 93 yX5_readText ∈ xtbl := q_625
theorem l_X5_105 : Cond.methodLink "WaitedPostModel" 105 yX5_ones ∈ xtbl := q_669
theorem l_X5_108 : Cond.methodLink "WaitedPostModel" 108 yX5_priceBy ∈ xtbl := q_672
theorem l_X5_112 : Cond.methodLink "WaitedPostModel" 112 yX5_isLetter ∈ xtbl := q_657
theorem l_X5_116 : Cond.methodLink "WaitedPostModel" 116 yX5_isSent ∈ xtbl := q_661
theorem l_X5_119 : Cond.methodLink "WaitedPostModel" 119 yX5_priceOn ∈ xtbl := q_665
theorem l_X5_125 : Cond.methodLink "WaitedPostModel" 125 yX5_keepAct ∈ xtbl := q_680
theorem l_X5_128 : Cond.methodLink "WaitedPostModel" 128 yX5_sendOn ∈ xtbl := q_684
theorem l_X5_131 : Cond.methodLink "WaitedPostModel" 131 yX5_passOn ∈ xtbl := q_692
theorem l_X5_135 : Cond.methodLink "WaitedPostModel" 135 yX5_layTrial ∈ xtbl := q_716
theorem l_X5_138 : Cond.methodLink "WaitedPostModel" 138 yX5_priceIn ∈ xtbl := q_712
theorem l_X5_141 : Cond.methodLink "WaitedPostModel" 141 yX5_fours ∈ xtbl := q_732
theorem l_X5_144 : Cond.methodLink "WaitedPostModel" 144 yX5_dayOf ∈ xtbl := q_739
theorem l_X5_148 : Cond.methodLink "WaitedPostModel" 148 yX5_canSend ∈ xtbl := q_742
theorem l_X5_154 : Cond.methodLink "WaitedPostModel" 154 yX5_paidBy ∈ xtbl := q_735
theorem l_X5_157 : Cond.methodLink "WaitedPostModel" 157 yX5_leastOf ∈ xtbl := q_728
theorem l_X5_162 : Cond.methodLink "WaitedPostModel" 162 yX5_tenTo ∈ xtbl := q_759
theorem l_X5_165 : Cond.methodLink "WaitedPostModel" 165 yX5_areThings ∈ xtbl := q_754
theorem l_X5_168 : Cond.methodLink "WaitedPostModel" 168 yX5_tryThing ∈ xtbl := q_762
theorem l_X5_175 : Cond.methodLink "WaitedPostModel" 175 yX5_priceWith ∈ xtbl := q_780
theorem l_X5_178 : Cond.methodLink "WaitedPostModel" 178 yX5_factorial ∈ xtbl := q_788
theorem l_X5_181 : Cond.methodLink "WaitedPostModel" 181 yX5_common ∈ xtbl := q_791
theorem l_X5_184 : Cond.methodLink "WaitedPostModel" 184 yX5_paysIf ∈ xtbl := q_802
theorem l_X5_188 : Cond.methodLink "WaitedPostModel" 188 yX5_isRest ∈ xtbl := q_798
theorem l_X5_194 : Cond.methodLink "WaitedPostModel" 194 yX5_power ∈ xtbl := q_811
theorem l_X0_33 : ("WaitedPost$Planner", 33, yX4_has, "WaitedPost") ∈ xnM := by decide +kernel
theorem l_X0_56 : ("WaitedPost$Planner", 56, yX4_power, "WaitedPost") ∈ xnM := by decide +kernel
theorem l_X0_60 : ("WaitedPost$Planner", 60, yX4_within, "WaitedPost") ∈ xnM := by decide +kernel
theorem l_X0_72 : ("WaitedPost$Planner", 72, yX4_bit, "WaitedPost") ∈ xnM := by decide +kernel
theorem l_X1_80 : ("WaitedPost$Reader", 80, yX4_at, "WaitedPost") ∈ xnM := by decide +kernel
theorem l_X1_84 : ("WaitedPost$Reader", 84, yX4_has, "WaitedPost") ∈ xnM := by decide +kernel
theorem l_X1_88 : ("WaitedPost$Reader", 88, yX4_bit, "WaitedPost") ∈ xnM := by decide +kernel
theorem l_X1_92 : ("WaitedPost$Reader", 92, yX4_put, "WaitedPost") ∈ xnM := by decide +kernel
theorem l_X2_43 : ("WaitedPost$Standing", 43, yX4_copyRow, "WaitedPost") ∈ xnM := by decide +kernel
theorem l_X2_47 : ("WaitedPost$Standing", 47, yX4_has, "WaitedPost") ∈ xnM := by decide +kernel
theorem l_X2_51 : ("WaitedPost$Standing", 51, yX4_at, "WaitedPost") ∈ xnM := by decide +kernel
theorem l_X2_55 : ("WaitedPost$Standing", 55, yX4_put, "WaitedPost") ∈ xnM := by decide +kernel
theorem l_X3_37 : ("WaitedPost$Told", 37, yX4_copyRow, "WaitedPost") ∈ xnM := by decide +kernel
theorem l_X3_41 : ("WaitedPost$Told", 41, yX4_put, "WaitedPost") ∈ xnM := by decide +kernel
theorem l_X3_45 : ("WaitedPost$Told", 45, yX4_at, "WaitedPost") ∈ xnM := by decide +kernel
theorem l_X3_49 : ("WaitedPost$Told", 49, yX4_has, "WaitedPost") ∈ xnM := by decide +kernel
theorem gs_X1_66 : ("WaitedPost$Reader", 66, "WaitedPost", "RATES", "[I", "WaitedPost") ∈ xnF := by decide +kernel
theorem gs_X3_78 : ("WaitedPost$Told", 78, "WaitedPost", "RATES", "[I", "WaitedPost") ∈ xnF := by decide +kernel
theorem oi_in : Cond.instanceMethod Lib.objectInit ∈ xtbl ∧ Cond.code Lib.objectInit ⟨#[0xb1]⟩ 1 none ∈ xtbl := ⟨q_16, q_17⟩
-- classes and fields
theorem cl_X0 : xCl 0 RX0 TX0 1 tyX0 := ⟨rfl, xsubl [123] (by decide +kernel) (by decide +kernel), tyX0_ok, nmX0, by decide +kernel⟩
theorem cl_X1 : xCl 1 RX1 TX1 3 tyX1 := ⟨rfl, xsubl [65, 67, 69] (by decide +kernel) (by decide +kernel), tyX1_ok, nmX1, by decide +kernel⟩
theorem cl_X2 : xCl 2 RX2 TX2 7 tyX2 := ⟨rfl, xsubl [100, 102, 104, 106, 108, 110, 112] (by decide +kernel) (by decide +kernel), tyX2_ok, nmX2, by decide +kernel⟩
theorem cl_X3 : xCl 3 RX3 TX3 6 tyX3 := ⟨rfl, xsubl [47, 49, 51, 53, 55, 57] (by decide +kernel) (by decide +kernel), tyX3_ok, nmX3, by decide +kernel⟩
theorem cl_X4 : xCl 4 RX4 TX4 13 tyX4 := ⟨rfl, xsubl [140, 142, 144, 146, 148, 150, 152, 154, 156, 158, 160, 162, 164] (by decide +kernel) (by decide +kernel), tyX4_ok, nmX4, by decide +kernel⟩
theorem cl_X5 : xCl 5 RX5 TX5 24 tyX5 := ⟨rfl, xsubl [559, 561, 563, 565, 567, 569, 571, 573, 575, 577, 579, 581, 583, 585, 587, 589, 591, 593, 595, 597, 599, 601, 603, 605] (by decide +kernel) (by decide +kernel), tyX5_ok, nmX5, by decide +kernel⟩
theorem gf_X4_9 (M : xY) (h : M.1.cls = "WaitedPost") : xGF M 9 4 0 := ⟨RX4, TX4, 13, tyX4, cl_X4, by decide, by rw [h]; exact q_127⟩
theorem pr_X4_9 (M : xY) (h : M.1.cls = "WaitedPost") (h2 : M.1.name = "<init>") : xPFF M 9 4 0 (tyX4 0) := ⟨RX4, TX4, 13, tyX4, cl_X4, by decide, by rw [h]; exact q_127, rfl, rfl, by rw [h]; rfl, h2⟩
theorem gf_X4_16 (M : xY) (h : M.1.cls = "WaitedPost") : xGF M 16 4 2 := ⟨RX4, TX4, 13, tyX4, cl_X4, by decide, by rw [h]; exact q_129⟩
theorem pr_X4_16 (M : xY) (h : M.1.cls = "WaitedPost") (h2 : M.1.name = "<init>") : xPFF M 16 4 2 (tyX4 2) := ⟨RX4, TX4, 13, tyX4, cl_X4, by decide, by rw [h]; exact q_129, rfl, rfl, by rw [h]; rfl, h2⟩
theorem gf_X4_23 (M : xY) (h : M.1.cls = "WaitedPost") : xGF M 23 4 3 := ⟨RX4, TX4, 13, tyX4, cl_X4, by decide, by rw [h]; exact q_130⟩
theorem pr_X4_23 (M : xY) (h : M.1.cls = "WaitedPost") (h2 : M.1.name = "<init>") : xPFF M 23 4 3 (tyX4 3) := ⟨RX4, TX4, 13, tyX4, cl_X4, by decide, by rw [h]; exact q_130, rfl, rfl, by rw [h]; rfl, h2⟩
theorem gf_X4_30 (M : xY) (h : M.1.cls = "WaitedPost") : xGF M 30 4 4 := ⟨RX4, TX4, 13, tyX4, cl_X4, by decide, by rw [h]; exact q_131⟩
theorem pr_X4_30 (M : xY) (h : M.1.cls = "WaitedPost") (h2 : M.1.name = "<init>") : xPFF M 30 4 4 (tyX4 4) := ⟨RX4, TX4, 13, tyX4, cl_X4, by decide, by rw [h]; exact q_131, rfl, rfl, by rw [h]; rfl, h2⟩
theorem gf_X4_34 (M : xY) (h : M.1.cls = "WaitedPost") : xGF M 34 4 5 := ⟨RX4, TX4, 13, tyX4, cl_X4, by decide, by rw [h]; exact q_132⟩
theorem pr_X4_34 (M : xY) (h : M.1.cls = "WaitedPost") (h2 : M.1.name = "<init>") : xPFF M 34 4 5 (tyX4 5) := ⟨RX4, TX4, 13, tyX4, cl_X4, by decide, by rw [h]; exact q_132, rfl, rfl, by rw [h]; rfl, h2⟩
theorem gf_X4_37 (M : xY) (h : M.1.cls = "WaitedPost") : xGF M 37 4 6 := ⟨RX4, TX4, 13, tyX4, cl_X4, by decide, by rw [h]; exact q_133⟩
theorem pr_X4_37 (M : xY) (h : M.1.cls = "WaitedPost") (h2 : M.1.name = "<init>") : xPFF M 37 4 6 (tyX4 6) := ⟨RX4, TX4, 13, tyX4, cl_X4, by decide, by rw [h]; exact q_133, rfl, rfl, by rw [h]; rfl, h2⟩
theorem gf_X4_41 (M : xY) (h : M.1.cls = "WaitedPost") : xGF M 41 4 8 := ⟨RX4, TX4, 13, tyX4, cl_X4, by decide, by rw [h]; exact q_135⟩
theorem pr_X4_41 (M : xY) (h : M.1.cls = "WaitedPost") (h2 : M.1.name = "<init>") : xPFF M 41 4 8 (tyX4 8) := ⟨RX4, TX4, 13, tyX4, cl_X4, by decide, by rw [h]; exact q_135, rfl, rfl, by rw [h]; rfl, h2⟩
theorem gf_X4_44 (M : xY) (h : M.1.cls = "WaitedPost") : xGF M 44 4 10 := ⟨RX4, TX4, 13, tyX4, cl_X4, by decide, by rw [h]; exact q_137⟩
theorem pr_X4_44 (M : xY) (h : M.1.cls = "WaitedPost") (h2 : M.1.name = "<init>") : xPFF M 44 4 10 (tyX4 10) := ⟨RX4, TX4, 13, tyX4, cl_X4, by decide, by rw [h]; exact q_137, rfl, rfl, by rw [h]; rfl, h2⟩
theorem gf_X4_50 (M : xY) (h : M.1.cls = "WaitedPost") : xGF M 50 4 11 := ⟨RX4, TX4, 13, tyX4, cl_X4, by decide, by rw [h]; exact q_138⟩
theorem pr_X4_50 (M : xY) (h : M.1.cls = "WaitedPost") (h2 : M.1.name = "<init>") : xPFF M 50 4 11 (tyX4 11) := ⟨RX4, TX4, 13, tyX4, cl_X4, by decide, by rw [h]; exact q_138, rfl, rfl, by rw [h]; rfl, h2⟩
theorem gf_X4_54 (M : xY) (h : M.1.cls = "WaitedPost") : xGF M 54 4 1 := ⟨RX4, TX4, 13, tyX4, cl_X4, by decide, by rw [h]; exact q_128⟩
theorem pf_X4_54 (M : xY) (h : M.1.cls = "WaitedPost") : xPF M 54 4 1 .int := ⟨RX4, TX4, 13, tyX4, cl_X4, by decide, by rw [h]; exact q_128, rfl, rfl⟩
theorem gf_X4_62 (M : xY) (h : M.1.cls = "WaitedPost") : xGF M 62 1 0 := ⟨RX1, TX1, 3, tyX1, cl_X1, by decide, by rw [h]; exact q_62⟩
theorem gf_X4_72 (M : xY) (h : M.1.cls = "WaitedPost") : xGF M 72 4 7 := ⟨RX4, TX4, 13, tyX4, cl_X4, by decide, by rw [h]; exact q_134⟩
theorem pf_X4_72 (M : xY) (h : M.1.cls = "WaitedPost") : xPF M 72 4 7 .int := ⟨RX4, TX4, 13, tyX4, cl_X4, by decide, by rw [h]; exact q_134, rfl, rfl⟩
theorem gf_X4_75 (M : xY) (h : M.1.cls = "WaitedPost") : xGF M 75 4 9 := ⟨RX4, TX4, 13, tyX4, cl_X4, by decide, by rw [h]; exact q_136⟩
theorem pf_X4_75 (M : xY) (h : M.1.cls = "WaitedPost") : xPF M 75 4 9 .int := ⟨RX4, TX4, 13, tyX4, cl_X4, by decide, by rw [h]; exact q_136, rfl, rfl⟩
theorem gf_X4_78 (M : xY) (h : M.1.cls = "WaitedPost") : xGF M 78 3 2 := ⟨RX3, TX3, 6, tyX3, cl_X3, by decide, by rw [h]; exact q_38⟩
theorem pf_X4_78 (M : xY) (h : M.1.cls = "WaitedPost") : xPF M 78 3 2 .int := ⟨RX3, TX3, 6, tyX3, cl_X3, by decide, by rw [h]; exact q_38, rfl, rfl⟩
theorem gf_X4_85 (M : xY) (h : M.1.cls = "WaitedPost") : xGF M 85 2 5 := ⟨RX2, TX2, 7, tyX2, cl_X2, by decide, by rw [h]; exact q_96⟩
theorem gf_X4_92 (M : xY) (h : M.1.cls = "WaitedPost") : xGF M 92 3 4 := ⟨RX3, TX3, 6, tyX3, cl_X3, by decide, by rw [h]; exact q_43⟩
theorem gf_X4_95 (M : xY) (h : M.1.cls = "WaitedPost") : xGF M 95 3 5 := ⟨RX3, TX3, 6, tyX3, cl_X3, by decide, by rw [h]; exact q_45⟩
theorem gf_X4_98 (M : xY) (h : M.1.cls = "WaitedPost") : xGF M 98 2 1 := ⟨RX2, TX2, 7, tyX2, cl_X2, by decide, by rw [h]; exact q_85⟩
theorem pf_X4_98 (M : xY) (h : M.1.cls = "WaitedPost") : xPF M 98 2 1 .int := ⟨RX2, TX2, 7, tyX2, cl_X2, by decide, by rw [h]; exact q_85, rfl, rfl⟩
theorem gf_X4_105 (M : xY) (h : M.1.cls = "WaitedPost") : xGF M 105 2 3 := ⟨RX2, TX2, 7, tyX2, cl_X2, by decide, by rw [h]; exact q_91⟩
theorem pf_X4_105 (M : xY) (h : M.1.cls = "WaitedPost") : xPF M 105 2 3 .int := ⟨RX2, TX2, 7, tyX2, cl_X2, by decide, by rw [h]; exact q_91, rfl, rfl⟩
theorem gf_X4_108 (M : xY) (h : M.1.cls = "WaitedPost") : xGF M 108 2 6 := ⟨RX2, TX2, 7, tyX2, cl_X2, by decide, by rw [h]; exact q_99⟩
theorem gf_X4_130 (M : xY) (h : M.1.cls = "WaitedPost") : xGF M 130 2 0 := ⟨RX2, TX2, 7, tyX2, cl_X2, by decide, by rw [h]; exact q_82⟩
theorem pf_X4_130 (M : xY) (h : M.1.cls = "WaitedPost") : xPF M 130 2 0 .int := ⟨RX2, TX2, 7, tyX2, cl_X2, by decide, by rw [h]; exact q_82, rfl, rfl⟩
theorem gf_X4_169 (M : xY) (h : M.1.cls = "WaitedPost") : xGF M 169 2 4 := ⟨RX2, TX2, 7, tyX2, cl_X2, by decide, by rw [h]; exact q_93⟩
theorem pf_X4_169 (M : xY) (h : M.1.cls = "WaitedPost") : xPF M 169 2 4 .int := ⟨RX2, TX2, 7, tyX2, cl_X2, by decide, by rw [h]; exact q_93, rfl, rfl⟩
theorem gf_X4_206 (M : xY) (h : M.1.cls = "WaitedPost") : xGF M 206 4 12 := ⟨RX4, TX4, 13, tyX4, cl_X4, by decide, by rw [h]; exact q_139⟩
theorem pf_X4_206 (M : xY) (h : M.1.cls = "WaitedPost") : xPF M 206 4 12 .long := ⟨RX4, TX4, 13, tyX4, cl_X4, by decide, by rw [h]; exact q_139, rfl, rfl⟩
theorem gf_X4_214 (M : xY) (h : M.1.cls = "WaitedPost") : xGF M 214 3 0 := ⟨RX3, TX3, 6, tyX3, cl_X3, by decide, by rw [h]; exact q_32⟩
theorem pf_X4_214 (M : xY) (h : M.1.cls = "WaitedPost") : xPF M 214 3 0 .int := ⟨RX3, TX3, 6, tyX3, cl_X3, by decide, by rw [h]; exact q_32, rfl, rfl⟩
theorem gf_X4_217 (M : xY) (h : M.1.cls = "WaitedPost") : xGF M 217 3 1 := ⟨RX3, TX3, 6, tyX3, cl_X3, by decide, by rw [h]; exact q_36⟩
theorem pf_X4_217 (M : xY) (h : M.1.cls = "WaitedPost") : xPF M 217 3 1 .int := ⟨RX3, TX3, 6, tyX3, cl_X3, by decide, by rw [h]; exact q_36, rfl, rfl⟩
theorem gf_X4_220 (M : xY) (h : M.1.cls = "WaitedPost") : xGF M 220 2 2 := ⟨RX2, TX2, 7, tyX2, cl_X2, by decide, by rw [h]; exact q_88⟩
theorem pf_X4_220 (M : xY) (h : M.1.cls = "WaitedPost") : xPF M 220 2 2 .int := ⟨RX2, TX2, 7, tyX2, cl_X2, by decide, by rw [h]; exact q_88, rfl, rfl⟩
theorem gf_X0_11 (M : xY) (h : M.1.cls = "WaitedPost$Planner") : xGF M 11 0 0 := ⟨RX0, TX0, 1, tyX0, cl_X0, by decide, by rw [h]; exact q_122⟩
theorem pr_X0_11 (M : xY) (h : M.1.cls = "WaitedPost$Planner") (h2 : M.1.name = "<init>") : xPFF M 11 0 0 (tyX0 0) := ⟨RX0, TX0, 1, tyX0, cl_X0, by decide, by rw [h]; exact q_122, rfl, rfl, by rw [h]; rfl, h2⟩
theorem gf_X0_23 (M : xY) (h : M.1.cls = "WaitedPost$Planner") : xGF M 23 2 2 := ⟨RX2, TX2, 7, tyX2, cl_X2, by decide, by rw [h]; exact q_87⟩
theorem pf_X0_23 (M : xY) (h : M.1.cls = "WaitedPost$Planner") : xPF M 23 2 2 .int := ⟨RX2, TX2, 7, tyX2, cl_X2, by decide, by rw [h]; exact q_87, rfl, rfl⟩
theorem gf_X0_63 (M : xY) (h : M.1.cls = "WaitedPost$Planner") : xGF M 63 2 1 := ⟨RX2, TX2, 7, tyX2, cl_X2, by decide, by rw [h]; exact q_84⟩
theorem pf_X0_63 (M : xY) (h : M.1.cls = "WaitedPost$Planner") : xPF M 63 2 1 .int := ⟨RX2, TX2, 7, tyX2, cl_X2, by decide, by rw [h]; exact q_84, rfl, rfl⟩
theorem gf_X0_75 (M : xY) (h : M.1.cls = "WaitedPost$Planner") : xGF M 75 3 1 := ⟨RX3, TX3, 6, tyX3, cl_X3, by decide, by rw [h]; exact q_34⟩
theorem pf_X0_75 (M : xY) (h : M.1.cls = "WaitedPost$Planner") : xPF M 75 3 1 .int := ⟨RX3, TX3, 6, tyX3, cl_X3, by decide, by rw [h]; exact q_34, rfl, rfl⟩
theorem gf_X1_12 (M : xY) (h : M.1.cls = "WaitedPost$Reader") : xGF M 12 1 0 := ⟨RX1, TX1, 3, tyX1, cl_X1, by decide, by rw [h]; exact q_61⟩
theorem pr_X1_12 (M : xY) (h : M.1.cls = "WaitedPost$Reader") (h2 : M.1.name = "<init>") : xPFF M 12 1 0 (tyX1 0) := ⟨RX1, TX1, 3, tyX1, cl_X1, by decide, by rw [h]; exact q_61, rfl, rfl, by rw [h]; rfl, h2⟩
theorem gf_X1_21 (M : xY) (h : M.1.cls = "WaitedPost$Reader") : xGF M 21 1 1 := ⟨RX1, TX1, 3, tyX1, cl_X1, by decide, by rw [h]; exact q_63⟩
theorem pf_X1_21 (M : xY) (h : M.1.cls = "WaitedPost$Reader") : xPF M 21 1 1 .int := ⟨RX1, TX1, 3, tyX1, cl_X1, by decide, by rw [h]; exact q_63, rfl, rfl⟩
theorem gf_X1_50 (M : xY) (h : M.1.cls = "WaitedPost$Reader") : xGF M 50 3 0 := ⟨RX3, TX3, 6, tyX3, cl_X3, by decide, by rw [h]; exact q_31⟩
theorem pf_X1_50 (M : xY) (h : M.1.cls = "WaitedPost$Reader") : xPF M 50 3 0 .int := ⟨RX3, TX3, 6, tyX3, cl_X3, by decide, by rw [h]; exact q_31, rfl, rfl⟩
theorem gf_X1_53 (M : xY) (h : M.1.cls = "WaitedPost$Reader") : xGF M 53 3 1 := ⟨RX3, TX3, 6, tyX3, cl_X3, by decide, by rw [h]; exact q_35⟩
theorem pf_X1_53 (M : xY) (h : M.1.cls = "WaitedPost$Reader") : xPF M 53 3 1 .int := ⟨RX3, TX3, 6, tyX3, cl_X3, by decide, by rw [h]; exact q_35, rfl, rfl⟩
theorem gf_X1_56 (M : xY) (h : M.1.cls = "WaitedPost$Reader") : xGF M 56 3 2 := ⟨RX3, TX3, 6, tyX3, cl_X3, by decide, by rw [h]; exact q_39⟩
theorem pf_X1_56 (M : xY) (h : M.1.cls = "WaitedPost$Reader") : xPF M 56 3 2 .int := ⟨RX3, TX3, 6, tyX3, cl_X3, by decide, by rw [h]; exact q_39, rfl, rfl⟩
theorem gf_X1_63 (M : xY) (h : M.1.cls = "WaitedPost$Reader") : xGF M 63 1 2 := ⟨RX1, TX1, 3, tyX1, cl_X1, by decide, by rw [h]; exact q_64⟩
theorem pf_X1_63 (M : xY) (h : M.1.cls = "WaitedPost$Reader") : xPF M 63 1 2 .int := ⟨RX1, TX1, 3, tyX1, cl_X1, by decide, by rw [h]; exact q_64, rfl, rfl⟩
theorem gf_X1_77 (M : xY) (h : M.1.cls = "WaitedPost$Reader") : xGF M 77 3 5 := ⟨RX3, TX3, 6, tyX3, cl_X3, by decide, by rw [h]; exact q_46⟩
theorem gf_X2_9 (M : xY) (h : M.1.cls = "WaitedPost$Standing") : xGF M 9 2 5 := ⟨RX2, TX2, 7, tyX2, cl_X2, by decide, by rw [h]; exact q_94⟩
theorem pr_X2_9 (M : xY) (h : M.1.cls = "WaitedPost$Standing") (h2 : M.1.name = "<init>") : xPFF M 9 2 5 (tyX2 5) := ⟨RX2, TX2, 7, tyX2, cl_X2, by decide, by rw [h]; exact q_94, rfl, rfl, by rw [h]; rfl, h2⟩
theorem gf_X2_15 (M : xY) (h : M.1.cls = "WaitedPost$Standing") : xGF M 15 2 6 := ⟨RX2, TX2, 7, tyX2, cl_X2, by decide, by rw [h]; exact q_97⟩
theorem pr_X2_15 (M : xY) (h : M.1.cls = "WaitedPost$Standing") (h2 : M.1.name = "<init>") : xPFF M 15 2 6 (tyX2 6) := ⟨RX2, TX2, 7, tyX2, cl_X2, by decide, by rw [h]; exact q_97, rfl, rfl, by rw [h]; rfl, h2⟩
theorem gf_X2_18 (M : xY) (h : M.1.cls = "WaitedPost$Standing") : xGF M 18 2 0 := ⟨RX2, TX2, 7, tyX2, cl_X2, by decide, by rw [h]; exact q_80⟩
theorem pf_X2_18 (M : xY) (h : M.1.cls = "WaitedPost$Standing") : xPF M 18 2 0 .int := ⟨RX2, TX2, 7, tyX2, cl_X2, by decide, by rw [h]; exact q_80, rfl, rfl⟩
theorem gf_X2_22 (M : xY) (h : M.1.cls = "WaitedPost$Standing") : xGF M 22 2 1 := ⟨RX2, TX2, 7, tyX2, cl_X2, by decide, by rw [h]; exact q_83⟩
theorem pf_X2_22 (M : xY) (h : M.1.cls = "WaitedPost$Standing") : xPF M 22 2 1 .int := ⟨RX2, TX2, 7, tyX2, cl_X2, by decide, by rw [h]; exact q_83, rfl, rfl⟩
theorem gf_X2_25 (M : xY) (h : M.1.cls = "WaitedPost$Standing") : xGF M 25 2 2 := ⟨RX2, TX2, 7, tyX2, cl_X2, by decide, by rw [h]; exact q_86⟩
theorem pf_X2_25 (M : xY) (h : M.1.cls = "WaitedPost$Standing") : xPF M 25 2 2 .int := ⟨RX2, TX2, 7, tyX2, cl_X2, by decide, by rw [h]; exact q_86, rfl, rfl⟩
theorem gf_X2_28 (M : xY) (h : M.1.cls = "WaitedPost$Standing") : xGF M 28 2 3 := ⟨RX2, TX2, 7, tyX2, cl_X2, by decide, by rw [h]; exact q_89⟩
theorem pf_X2_28 (M : xY) (h : M.1.cls = "WaitedPost$Standing") : xPF M 28 2 3 .int := ⟨RX2, TX2, 7, tyX2, cl_X2, by decide, by rw [h]; exact q_89, rfl, rfl⟩
theorem gf_X2_31 (M : xY) (h : M.1.cls = "WaitedPost$Standing") : xGF M 31 2 4 := ⟨RX2, TX2, 7, tyX2, cl_X2, by decide, by rw [h]; exact q_92⟩
theorem pf_X2_31 (M : xY) (h : M.1.cls = "WaitedPost$Standing") : xPF M 31 2 4 .int := ⟨RX2, TX2, 7, tyX2, cl_X2, by decide, by rw [h]; exact q_92, rfl, rfl⟩
theorem gf_X2_40 (M : xY) (h : M.1.cls = "WaitedPost$Standing") : xGF M 40 3 3 := ⟨RX3, TX3, 6, tyX3, cl_X3, by decide, by rw [h]; exact q_41⟩
theorem gf_X3_9 (M : xY) (h : M.1.cls = "WaitedPost$Told") : xGF M 9 3 1 := ⟨RX3, TX3, 6, tyX3, cl_X3, by decide, by rw [h]; exact q_33⟩
theorem pf_X3_9 (M : xY) (h : M.1.cls = "WaitedPost$Told") : xPF M 9 3 1 .int := ⟨RX3, TX3, 6, tyX3, cl_X3, by decide, by rw [h]; exact q_33, rfl, rfl⟩
theorem gf_X3_15 (M : xY) (h : M.1.cls = "WaitedPost$Told") : xGF M 15 3 3 := ⟨RX3, TX3, 6, tyX3, cl_X3, by decide, by rw [h]; exact q_40⟩
theorem pr_X3_15 (M : xY) (h : M.1.cls = "WaitedPost$Told") (h2 : M.1.name = "<init>") : xPFF M 15 3 3 (tyX3 3) := ⟨RX3, TX3, 6, tyX3, cl_X3, by decide, by rw [h]; exact q_40, rfl, rfl, by rw [h]; rfl, h2⟩
theorem gf_X3_19 (M : xY) (h : M.1.cls = "WaitedPost$Told") : xGF M 19 3 4 := ⟨RX3, TX3, 6, tyX3, cl_X3, by decide, by rw [h]; exact q_42⟩
theorem pr_X3_19 (M : xY) (h : M.1.cls = "WaitedPost$Told") (h2 : M.1.name = "<init>") : xPFF M 19 3 4 (tyX3 4) := ⟨RX3, TX3, 6, tyX3, cl_X3, by decide, by rw [h]; exact q_42, rfl, rfl, by rw [h]; rfl, h2⟩
theorem gf_X3_22 (M : xY) (h : M.1.cls = "WaitedPost$Told") : xGF M 22 3 5 := ⟨RX3, TX3, 6, tyX3, cl_X3, by decide, by rw [h]; exact q_44⟩
theorem pr_X3_22 (M : xY) (h : M.1.cls = "WaitedPost$Told") (h2 : M.1.name = "<init>") : xPFF M 22 3 5 (tyX3 5) := ⟨RX3, TX3, 6, tyX3, cl_X3, by decide, by rw [h]; exact q_44, rfl, rfl, by rw [h]; rfl, h2⟩
theorem gf_X3_25 (M : xY) (h : M.1.cls = "WaitedPost$Told") : xGF M 25 3 0 := ⟨RX3, TX3, 6, tyX3, cl_X3, by decide, by rw [h]; exact q_30⟩
theorem pf_X3_25 (M : xY) (h : M.1.cls = "WaitedPost$Told") : xPF M 25 3 0 .int := ⟨RX3, TX3, 6, tyX3, cl_X3, by decide, by rw [h]; exact q_30, rfl, rfl⟩
theorem gf_X3_28 (M : xY) (h : M.1.cls = "WaitedPost$Told") : xGF M 28 3 2 := ⟨RX3, TX3, 6, tyX3, cl_X3, by decide, by rw [h]; exact q_37⟩
theorem pf_X3_28 (M : xY) (h : M.1.cls = "WaitedPost$Told") : xPF M 28 3 2 .int := ⟨RX3, TX3, 6, tyX3, cl_X3, by decide, by rw [h]; exact q_37, rfl, rfl⟩
theorem gf_X3_53 (M : xY) (h : M.1.cls = "WaitedPost$Told") : xGF M 53 2 6 := ⟨RX2, TX2, 7, tyX2, cl_X2, by decide, by rw [h]; exact q_98⟩
theorem gf_X3_64 (M : xY) (h : M.1.cls = "WaitedPost$Told") : xGF M 64 2 5 := ⟨RX2, TX2, 7, tyX2, cl_X2, by decide, by rw [h]; exact q_95⟩
theorem gf_X3_68 (M : xY) (h : M.1.cls = "WaitedPost$Told") : xGF M 68 2 3 := ⟨RX2, TX2, 7, tyX2, cl_X2, by decide, by rw [h]; exact q_90⟩
theorem pf_X3_68 (M : xY) (h : M.1.cls = "WaitedPost$Told") : xPF M 68 2 3 .int := ⟨RX2, TX2, 7, tyX2, cl_X2, by decide, by rw [h]; exact q_90, rfl, rfl⟩
theorem gf_X3_71 (M : xY) (h : M.1.cls = "WaitedPost$Told") : xGF M 71 2 0 := ⟨RX2, TX2, 7, tyX2, cl_X2, by decide, by rw [h]; exact q_81⟩
theorem pf_X3_71 (M : xY) (h : M.1.cls = "WaitedPost$Told") : xPF M 71 2 0 .int := ⟨RX2, TX2, 7, tyX2, cl_X2, by decide, by rw [h]; exact q_81, rfl, rfl⟩
theorem gf_X5_7 (M : xY) (h : M.1.cls = "WaitedPostModel") : xGF M 7 5 3 := ⟨RX5, TX5, 24, tyX5, cl_X5, by decide, by rw [h]; exact q_538⟩
theorem pr_X5_7 (M : xY) (h : M.1.cls = "WaitedPostModel") (h2 : M.1.name = "<init>") : xPFF M 7 5 3 (tyX5 3) := ⟨RX5, TX5, 24, tyX5, cl_X5, by decide, by rw [h]; exact q_538, rfl, rfl, by rw [h]; rfl, h2⟩
theorem gf_X5_13 (M : xY) (h : M.1.cls = "WaitedPostModel") : xGF M 13 5 4 := ⟨RX5, TX5, 24, tyX5, cl_X5, by decide, by rw [h]; exact q_539⟩
theorem pr_X5_13 (M : xY) (h : M.1.cls = "WaitedPostModel") (h2 : M.1.name = "<init>") : xPFF M 13 5 4 (tyX5 4) := ⟨RX5, TX5, 24, tyX5, cl_X5, by decide, by rw [h]; exact q_539, rfl, rfl, by rw [h]; rfl, h2⟩
theorem gf_X5_16 (M : xY) (h : M.1.cls = "WaitedPostModel") : xGF M 16 5 5 := ⟨RX5, TX5, 24, tyX5, cl_X5, by decide, by rw [h]; exact q_540⟩
theorem pr_X5_16 (M : xY) (h : M.1.cls = "WaitedPostModel") (h2 : M.1.name = "<init>") : xPFF M 16 5 5 (tyX5 5) := ⟨RX5, TX5, 24, tyX5, cl_X5, by decide, by rw [h]; exact q_540, rfl, rfl, by rw [h]; rfl, h2⟩
theorem gf_X5_19 (M : xY) (h : M.1.cls = "WaitedPostModel") : xGF M 19 5 6 := ⟨RX5, TX5, 24, tyX5, cl_X5, by decide, by rw [h]; exact q_541⟩
theorem pr_X5_19 (M : xY) (h : M.1.cls = "WaitedPostModel") (h2 : M.1.name = "<init>") : xPFF M 19 5 6 (tyX5 6) := ⟨RX5, TX5, 24, tyX5, cl_X5, by decide, by rw [h]; exact q_541, rfl, rfl, by rw [h]; rfl, h2⟩
theorem gf_X5_22 (M : xY) (h : M.1.cls = "WaitedPostModel") : xGF M 22 5 7 := ⟨RX5, TX5, 24, tyX5, cl_X5, by decide, by rw [h]; exact q_542⟩
theorem pr_X5_22 (M : xY) (h : M.1.cls = "WaitedPostModel") (h2 : M.1.name = "<init>") : xPFF M 22 5 7 (tyX5 7) := ⟨RX5, TX5, 24, tyX5, cl_X5, by decide, by rw [h]; exact q_542, rfl, rfl, by rw [h]; rfl, h2⟩
theorem gf_X5_25 (M : xY) (h : M.1.cls = "WaitedPostModel") : xGF M 25 5 8 := ⟨RX5, TX5, 24, tyX5, cl_X5, by decide, by rw [h]; exact q_543⟩
theorem pr_X5_25 (M : xY) (h : M.1.cls = "WaitedPostModel") (h2 : M.1.name = "<init>") : xPFF M 25 5 8 (tyX5 8) := ⟨RX5, TX5, 24, tyX5, cl_X5, by decide, by rw [h]; exact q_543, rfl, rfl, by rw [h]; rfl, h2⟩
theorem gf_X5_28 (M : xY) (h : M.1.cls = "WaitedPostModel") : xGF M 28 5 12 := ⟨RX5, TX5, 24, tyX5, cl_X5, by decide, by rw [h]; exact q_547⟩
theorem pr_X5_28 (M : xY) (h : M.1.cls = "WaitedPostModel") (h2 : M.1.name = "<init>") : xPFF M 28 5 12 (tyX5 12) := ⟨RX5, TX5, 24, tyX5, cl_X5, by decide, by rw [h]; exact q_547, rfl, rfl, by rw [h]; rfl, h2⟩
theorem gf_X5_31 (M : xY) (h : M.1.cls = "WaitedPostModel") : xGF M 31 5 18 := ⟨RX5, TX5, 24, tyX5, cl_X5, by decide, by rw [h]; exact q_553⟩
theorem pr_X5_31 (M : xY) (h : M.1.cls = "WaitedPostModel") (h2 : M.1.name = "<init>") : xPFF M 31 5 18 (tyX5 18) := ⟨RX5, TX5, 24, tyX5, cl_X5, by decide, by rw [h]; exact q_553, rfl, rfl, by rw [h]; rfl, h2⟩
theorem gf_X5_34 (M : xY) (h : M.1.cls = "WaitedPostModel") : xGF M 34 5 20 := ⟨RX5, TX5, 24, tyX5, cl_X5, by decide, by rw [h]; exact q_555⟩
theorem pr_X5_34 (M : xY) (h : M.1.cls = "WaitedPostModel") (h2 : M.1.name = "<init>") : xPFF M 34 5 20 (tyX5 20) := ⟨RX5, TX5, 24, tyX5, cl_X5, by decide, by rw [h]; exact q_555, rfl, rfl, by rw [h]; rfl, h2⟩
theorem gf_X5_37 (M : xY) (h : M.1.cls = "WaitedPostModel") : xGF M 37 5 22 := ⟨RX5, TX5, 24, tyX5, cl_X5, by decide, by rw [h]; exact q_557⟩
theorem pr_X5_37 (M : xY) (h : M.1.cls = "WaitedPostModel") (h2 : M.1.name = "<init>") : xPFF M 37 5 22 (tyX5 22) := ⟨RX5, TX5, 24, tyX5, cl_X5, by decide, by rw [h]; exact q_557, rfl, rfl, by rw [h]; rfl, h2⟩
theorem gf_X5_41 (M : xY) (h : M.1.cls = "WaitedPostModel") : xGF M 41 5 23 := ⟨RX5, TX5, 24, tyX5, cl_X5, by decide, by rw [h]; exact q_558⟩
theorem pr_X5_41 (M : xY) (h : M.1.cls = "WaitedPostModel") (h2 : M.1.name = "<init>") : xPFF M 41 5 23 (tyX5 23) := ⟨RX5, TX5, 24, tyX5, cl_X5, by decide, by rw [h]; exact q_558, rfl, rfl, by rw [h]; rfl, h2⟩
theorem gf_X5_44 (M : xY) (h : M.1.cls = "WaitedPostModel") : xGF M 44 5 2 := ⟨RX5, TX5, 24, tyX5, cl_X5, by decide, by rw [h]; exact q_537⟩
theorem pf_X5_44 (M : xY) (h : M.1.cls = "WaitedPostModel") : xPF M 44 5 2 .int := ⟨RX5, TX5, 24, tyX5, cl_X5, by decide, by rw [h]; exact q_537, rfl, rfl⟩
theorem gf_X5_54 (M : xY) (h : M.1.cls = "WaitedPostModel") : xGF M 54 5 13 := ⟨RX5, TX5, 24, tyX5, cl_X5, by decide, by rw [h]; exact q_548⟩
theorem pf_X5_54 (M : xY) (h : M.1.cls = "WaitedPostModel") : xPF M 54 5 13 .int := ⟨RX5, TX5, 24, tyX5, cl_X5, by decide, by rw [h]; exact q_548, rfl, rfl⟩
theorem gf_X5_57 (M : xY) (h : M.1.cls = "WaitedPostModel") : xGF M 57 5 15 := ⟨RX5, TX5, 24, tyX5, cl_X5, by decide, by rw [h]; exact q_550⟩
theorem pf_X5_57 (M : xY) (h : M.1.cls = "WaitedPostModel") : xPF M 57 5 15 .int := ⟨RX5, TX5, 24, tyX5, cl_X5, by decide, by rw [h]; exact q_550, rfl, rfl⟩
theorem gf_X5_60 (M : xY) (h : M.1.cls = "WaitedPostModel") : xGF M 60 5 14 := ⟨RX5, TX5, 24, tyX5, cl_X5, by decide, by rw [h]; exact q_549⟩
theorem pf_X5_60 (M : xY) (h : M.1.cls = "WaitedPostModel") : xPF M 60 5 14 .int := ⟨RX5, TX5, 24, tyX5, cl_X5, by decide, by rw [h]; exact q_549, rfl, rfl⟩
theorem gf_X5_69 (M : xY) (h : M.1.cls = "WaitedPostModel") : xGF M 69 5 9 := ⟨RX5, TX5, 24, tyX5, cl_X5, by decide, by rw [h]; exact q_544⟩
theorem pf_X5_69 (M : xY) (h : M.1.cls = "WaitedPostModel") : xPF M 69 5 9 .int := ⟨RX5, TX5, 24, tyX5, cl_X5, by decide, by rw [h]; exact q_544, rfl, rfl⟩
theorem gf_X5_80 (M : xY) (h : M.1.cls = "WaitedPostModel") : xGF M 80 5 10 := ⟨RX5, TX5, 24, tyX5, cl_X5, by decide, by rw [h]; exact q_545⟩
theorem pf_X5_80 (M : xY) (h : M.1.cls = "WaitedPostModel") : xPF M 80 5 10 .int := ⟨RX5, TX5, 24, tyX5, cl_X5, by decide, by rw [h]; exact q_545, rfl, rfl⟩
theorem gf_X5_83 (M : xY) (h : M.1.cls = "WaitedPostModel") : xGF M 83 5 11 := ⟨RX5, TX5, 24, tyX5, cl_X5, by decide, by rw [h]; exact q_546⟩
theorem pf_X5_83 (M : xY) (h : M.1.cls = "WaitedPostModel") : xPF M 83 5 11 .int := ⟨RX5, TX5, 24, tyX5, cl_X5, by decide, by rw [h]; exact q_546, rfl, rfl⟩
theorem gf_X5_96 (M : xY) (h : M.1.cls = "WaitedPostModel") : xGF M 96 5 0 := ⟨RX5, TX5, 24, tyX5, cl_X5, by decide, by rw [h]; exact q_535⟩
theorem pf_X5_96 (M : xY) (h : M.1.cls = "WaitedPostModel") : xPF M 96 5 0 .int := ⟨RX5, TX5, 24, tyX5, cl_X5, by decide, by rw [h]; exact q_535, rfl, rfl⟩
theorem gf_X5_99 (M : xY) (h : M.1.cls = "WaitedPostModel") : xGF M 99 5 1 := ⟨RX5, TX5, 24, tyX5, cl_X5, by decide, by rw [h]; exact q_536⟩
theorem pf_X5_99 (M : xY) (h : M.1.cls = "WaitedPostModel") : xPF M 99 5 1 .int := ⟨RX5, TX5, 24, tyX5, cl_X5, by decide, by rw [h]; exact q_536, rfl, rfl⟩
theorem gf_X5_102 (M : xY) (h : M.1.cls = "WaitedPostModel") : xGF M 102 5 16 := ⟨RX5, TX5, 24, tyX5, cl_X5, by decide, by rw [h]; exact q_551⟩
theorem pf_X5_102 (M : xY) (h : M.1.cls = "WaitedPostModel") : xPF M 102 5 16 .int := ⟨RX5, TX5, 24, tyX5, cl_X5, by decide, by rw [h]; exact q_551, rfl, rfl⟩
theorem gf_X5_122 (M : xY) (h : M.1.cls = "WaitedPostModel") : xGF M 122 5 17 := ⟨RX5, TX5, 24, tyX5, cl_X5, by decide, by rw [h]; exact q_552⟩
theorem pf_X5_122 (M : xY) (h : M.1.cls = "WaitedPostModel") : xPF M 122 5 17 .int := ⟨RX5, TX5, 24, tyX5, cl_X5, by decide, by rw [h]; exact q_552, rfl, rfl⟩
theorem gf_X5_151 (M : xY) (h : M.1.cls = "WaitedPostModel") : xGF M 151 5 19 := ⟨RX5, TX5, 24, tyX5, cl_X5, by decide, by rw [h]; exact q_554⟩
theorem pf_X5_151 (M : xY) (h : M.1.cls = "WaitedPostModel") : xPF M 151 5 19 .int := ⟨RX5, TX5, 24, tyX5, cl_X5, by decide, by rw [h]; exact q_554, rfl, rfl⟩
theorem gf_X5_197 (M : xY) (h : M.1.cls = "WaitedPostModel") : xGF M 197 5 21 := ⟨RX5, TX5, 24, tyX5, cl_X5, by decide, by rw [h]; exact q_556⟩
theorem pf_X5_197 (M : xY) (h : M.1.cls = "WaitedPostModel") : xPF M 197 5 21 .long := ⟨RX5, TX5, 24, tyX5, cl_X5, by decide, by rw [h]; exact q_556, rfl, rfl⟩
theorem nw_X4_13 : Cond.classLink "WaitedPost" 13 "WaitedPost$Reader" ∈ xtbl ∧ Cond.instantiable "WaitedPost$Reader" 3 ∈ xtbl ∧ Cond.initialized "WaitedPost$Reader" ∈ xtbl := ⟨q_18, q_19, q_2⟩
theorem nw_X4_20 : Cond.classLink "WaitedPost" 20 "WaitedPost$Told" ∈ xtbl ∧ Cond.instantiable "WaitedPost$Told" 6 ∈ xtbl ∧ Cond.initialized "WaitedPost$Told" ∈ xtbl := ⟨q_72, q_25, q_3⟩
theorem nw_X4_27 : Cond.classLink "WaitedPost" 27 "WaitedPost$Standing" ∈ xtbl ∧ Cond.instantiable "WaitedPost$Standing" 7 ∈ xtbl ∧ Cond.initialized "WaitedPost$Standing" ∈ xtbl := ⟨q_74, q_75, q_4⟩
theorem nw_X4_47 : Cond.classLink "WaitedPost" 47 "WaitedPost$Planner" ∈ xtbl ∧ Cond.instantiable "WaitedPost$Planner" 1 ∈ xtbl ∧ Cond.initialized "WaitedPost$Planner" ∈ xtbl := ⟨q_116, q_117, q_5⟩
theorem nw_X1_9 : Cond.classLink "WaitedPost$Reader" 9 "WaitedPost$Told" ∈ xtbl ∧ Cond.instantiable "WaitedPost$Told" 6 ∈ xtbl ∧ Cond.initialized "WaitedPost$Told" ∈ xtbl := ⟨q_24, q_25, q_3⟩
theorem nw_L_7 : Cond.classLink "WaitedPostLaw" 7 "WaitedPost" ∈ xtbl ∧ Cond.instantiable "WaitedPost" 13 ∈ xtbl ∧ Cond.initialized "WaitedPost" ∈ xtbl := ⟨q_10, q_11, q_1⟩
theorem nw_L_10 : Cond.classLink "WaitedPostLaw" 10 "WaitedPostModel" ∈ xtbl ∧ Cond.instantiable "WaitedPostModel" 24 ∈ xtbl ∧ Cond.initialized "WaitedPostModel" ∈ xtbl := ⟨q_529, q_530, q_6⟩
theorem ac_int : Cond.arrayClass .int ∈ xtbl := q_60
theorem ac_long : Cond.arrayClass .long ∈ xtbl := q_126
theorem ac_boolean : Cond.arrayClass .boolean ∈ xtbl := q_608
theorem cn_J6_265 : Cond.constant "java/lang/Integer" 265 (1431655765 : Int32) ∈ xtbl := q_312
theorem cn_J6_266 : Cond.constant "java/lang/Integer" 266 (858993459 : Int32) ∈ xtbl := q_313
theorem cn_J6_267 : Cond.constant "java/lang/Integer" 267 (252645135 : Int32) ∈ xtbl := q_314
theorem cn_X0_15 : Cond.constantLong "WaitedPost$Planner" 15 (1152921504606846976 : Int64) ∈ xtbl := q_381
theorem cn_X0_48 : Cond.constantLong "WaitedPost$Planner" 48 (1000000 : Int64) ∈ xtbl := q_401
theorem cn_X4_210 : Cond.constantLong "WaitedPost" 210 (6364136223846793005 : Int64) ∈ xtbl := q_511
theorem cn_X4_212 : Cond.constantLong "WaitedPost" 212 (1442695040888963407 : Int64) ∈ xtbl := q_512
theorem cn_X5_48 : Cond.constantLong "WaitedPostModel" 48 (255 : Int64) ∈ xtbl := q_613
theorem cn_X5_63 : Cond.constantLong "WaitedPostModel" 63 (9 : Int64) ∈ xtbl := q_648
theorem cn_X5_160 : Cond.constantLong "WaitedPostModel" 160 (6 : Int64) ∈ xtbl := q_758
theorem cn_X5_171 : Cond.constantLong "WaitedPostModel" 171 (60 : Int64) ∈ xtbl := q_774
theorem cn_X5_173 : Cond.constantLong "WaitedPostModel" 173 (2 : Int64) ∈ xtbl := q_779
theorem cn_X5_192 : Cond.constantLong "WaitedPostModel" 192 (10 : Int64) ∈ xtbl := q_810
theorem cn_X5_201 : Cond.constantLong "WaitedPostModel" 201 (30 : Int64) ∈ xtbl := q_822
theorem cn_X5_203 : Cond.constantLong "WaitedPostModel" 203 (6364136223846793005 : Int64) ∈ xtbl := q_823
theorem cn_X5_205 : Cond.constantLong "WaitedPostModel" 205 (1442695040888963407 : Int64) ∈ xtbl := q_824
theorem cn_L_103 : Cond.constantLong "WaitedPostLaw" 103 (4294967295 : Int64) ∈ xtbl := q_837
end
section
def LWl : List ((Nat × Nat) ⊕ (Nat × List Nat)) := [.inl (4, 4), .inr (4, [5, 0, 6, 11, 15, 18, 21, 0, 64, 0, 71, 72, 1]), .inl (0, 48), .inr (1, [7, 0, 0]), .inr (3, [0, 0, 0, 8, 9, 10]), .inl (0, 6), .inl (0, 6), .inl (0, 6), .inr (3, [0, 0, 0, 12, 13, 14]), .inl (0, 6), .inl (0, 6), .inl (0, 6), .inr (2, [0, 0, 0, 0, 0, 16, 17]), .inl (0, 6), .inl (0, 6), .inr (2, [0, 0, 0, 0, 0, 19, 20]), .inl (0, 6), .inl (0, 6), .inl (3, 14), .inr (2, [0, 0, 0, 0, 0, 23, 24]), .inl (0, 6), .inl (0, 6), .inr (2, [0, 0, 0, 0, 0, 26, 27]), .inl (0, 6), .inl (0, 6), .inr (2, [0, 0, 0, 0, 0, 29, 30]), .inl (0, 6), .inl (0, 6), .inr (2, [0, 0, 0, 0, 0, 32, 33]), .inl (0, 6), .inl (0, 6), .inr (2, [0, 0, 0, 0, 0, 35, 36]), .inl (0, 6), .inl (0, 6), .inr (2, [0, 0, 0, 0, 0, 38, 39]), .inl (0, 6), .inl (0, 6), .inr (2, [0, 0, 0, 0, 0, 41, 42]), .inl (0, 6), .inl (0, 6), .inr (2, [0, 0, 0, 0, 0, 44, 45]), .inl (0, 6), .inl (0, 6), .inr (2, [0, 0, 0, 0, 0, 47, 48]), .inl (0, 6), .inl (0, 6), .inr (2, [0, 0, 0, 0, 0, 50, 51]), .inl (0, 6), .inl (0, 6), .inr (2, [0, 0, 0, 0, 0, 53, 54]), .inl (0, 6), .inl (0, 6), .inr (2, [0, 0, 0, 0, 0, 56, 57]), .inl (0, 6), .inl (0, 6), .inr (2, [0, 0, 0, 0, 0, 59, 60]), .inl (0, 6), .inl (0, 6), .inr (2, [0, 0, 0, 0, 0, 62, 63]), .inl (0, 6), .inl (0, 6), .inl (3, 2), .inr (2, [0, 0, 0, 0, 0, 66, 67]), .inl (0, 6), .inl (0, 6), .inr (2, [0, 0, 0, 0, 0, 69, 70]), .inl (0, 6), .inl (0, 6), .inl (0, 6), .inr (0, [73]), .inl (1, 256)]
def LW : xLy := fun a => LWl.getD a (.inl (9, 0))
def PW : xP := (70, 733, LW)
theorem o_W_1 : xO PW 1 4 [5, 0, 6, 11, 15, 18, 21, 0, 64, 0, 71, 72, 1] := ⟨⟨0, rfl, by decide⟩, rfl⟩
theorem r_W_2 : xR PW 2 0 48 := ⟨⟨1, rfl, by decide⟩, rfl, by decide⟩
theorem o_W_3 : xO PW 3 1 [7, 0, 0] := ⟨⟨2, rfl, by decide⟩, rfl⟩
theorem o_W_4 : xO PW 4 3 [0, 0, 0, 8, 9, 10] := ⟨⟨3, rfl, by decide⟩, rfl⟩
theorem r_W_5 : xR PW 5 0 6 := ⟨⟨4, rfl, by decide⟩, rfl, by decide⟩
theorem r_W_6 : xR PW 6 0 6 := ⟨⟨5, rfl, by decide⟩, rfl, by decide⟩
theorem r_W_7 : xR PW 7 0 6 := ⟨⟨6, rfl, by decide⟩, rfl, by decide⟩
theorem o_W_8 : xO PW 8 3 [0, 0, 0, 12, 13, 14] := ⟨⟨7, rfl, by decide⟩, rfl⟩
theorem r_W_9 : xR PW 9 0 6 := ⟨⟨8, rfl, by decide⟩, rfl, by decide⟩
theorem r_W_10 : xR PW 10 0 6 := ⟨⟨9, rfl, by decide⟩, rfl, by decide⟩
theorem r_W_11 : xR PW 11 0 6 := ⟨⟨10, rfl, by decide⟩, rfl, by decide⟩
theorem o_W_12 : xO PW 12 2 [0, 0, 0, 0, 0, 16, 17] := ⟨⟨11, rfl, by decide⟩, rfl⟩
theorem r_W_13 : xR PW 13 0 6 := ⟨⟨12, rfl, by decide⟩, rfl, by decide⟩
theorem r_W_14 : xR PW 14 0 6 := ⟨⟨13, rfl, by decide⟩, rfl, by decide⟩
theorem o_W_15 : xO PW 15 2 [0, 0, 0, 0, 0, 19, 20] := ⟨⟨14, rfl, by decide⟩, rfl⟩
theorem r_W_16 : xR PW 16 0 6 := ⟨⟨15, rfl, by decide⟩, rfl, by decide⟩
theorem r_W_17 : xR PW 17 0 6 := ⟨⟨16, rfl, by decide⟩, rfl, by decide⟩
theorem r_W_18 : xR PW 18 3 14 := ⟨⟨17, rfl, by decide⟩, rfl, by decide⟩
theorem o_W_19 : xO PW 19 2 [0, 0, 0, 0, 0, 23, 24] := ⟨⟨18, rfl, by decide⟩, rfl⟩
theorem r_W_20 : xR PW 20 0 6 := ⟨⟨19, rfl, by decide⟩, rfl, by decide⟩
theorem r_W_21 : xR PW 21 0 6 := ⟨⟨20, rfl, by decide⟩, rfl, by decide⟩
theorem o_W_22 : xO PW 22 2 [0, 0, 0, 0, 0, 26, 27] := ⟨⟨21, rfl, by decide⟩, rfl⟩
theorem r_W_23 : xR PW 23 0 6 := ⟨⟨22, rfl, by decide⟩, rfl, by decide⟩
theorem r_W_24 : xR PW 24 0 6 := ⟨⟨23, rfl, by decide⟩, rfl, by decide⟩
theorem o_W_25 : xO PW 25 2 [0, 0, 0, 0, 0, 29, 30] := ⟨⟨24, rfl, by decide⟩, rfl⟩
theorem r_W_26 : xR PW 26 0 6 := ⟨⟨25, rfl, by decide⟩, rfl, by decide⟩
theorem r_W_27 : xR PW 27 0 6 := ⟨⟨26, rfl, by decide⟩, rfl, by decide⟩
theorem o_W_28 : xO PW 28 2 [0, 0, 0, 0, 0, 32, 33] := ⟨⟨27, rfl, by decide⟩, rfl⟩
theorem r_W_29 : xR PW 29 0 6 := ⟨⟨28, rfl, by decide⟩, rfl, by decide⟩
theorem r_W_30 : xR PW 30 0 6 := ⟨⟨29, rfl, by decide⟩, rfl, by decide⟩
theorem o_W_31 : xO PW 31 2 [0, 0, 0, 0, 0, 35, 36] := ⟨⟨30, rfl, by decide⟩, rfl⟩
theorem r_W_32 : xR PW 32 0 6 := ⟨⟨31, rfl, by decide⟩, rfl, by decide⟩
theorem r_W_33 : xR PW 33 0 6 := ⟨⟨32, rfl, by decide⟩, rfl, by decide⟩
theorem o_W_34 : xO PW 34 2 [0, 0, 0, 0, 0, 38, 39] := ⟨⟨33, rfl, by decide⟩, rfl⟩
theorem r_W_35 : xR PW 35 0 6 := ⟨⟨34, rfl, by decide⟩, rfl, by decide⟩
theorem r_W_36 : xR PW 36 0 6 := ⟨⟨35, rfl, by decide⟩, rfl, by decide⟩
theorem o_W_37 : xO PW 37 2 [0, 0, 0, 0, 0, 41, 42] := ⟨⟨36, rfl, by decide⟩, rfl⟩
theorem r_W_38 : xR PW 38 0 6 := ⟨⟨37, rfl, by decide⟩, rfl, by decide⟩
theorem r_W_39 : xR PW 39 0 6 := ⟨⟨38, rfl, by decide⟩, rfl, by decide⟩
theorem o_W_40 : xO PW 40 2 [0, 0, 0, 0, 0, 44, 45] := ⟨⟨39, rfl, by decide⟩, rfl⟩
theorem r_W_41 : xR PW 41 0 6 := ⟨⟨40, rfl, by decide⟩, rfl, by decide⟩
theorem r_W_42 : xR PW 42 0 6 := ⟨⟨41, rfl, by decide⟩, rfl, by decide⟩
theorem o_W_43 : xO PW 43 2 [0, 0, 0, 0, 0, 47, 48] := ⟨⟨42, rfl, by decide⟩, rfl⟩
theorem r_W_44 : xR PW 44 0 6 := ⟨⟨43, rfl, by decide⟩, rfl, by decide⟩
theorem r_W_45 : xR PW 45 0 6 := ⟨⟨44, rfl, by decide⟩, rfl, by decide⟩
theorem o_W_46 : xO PW 46 2 [0, 0, 0, 0, 0, 50, 51] := ⟨⟨45, rfl, by decide⟩, rfl⟩
theorem r_W_47 : xR PW 47 0 6 := ⟨⟨46, rfl, by decide⟩, rfl, by decide⟩
theorem r_W_48 : xR PW 48 0 6 := ⟨⟨47, rfl, by decide⟩, rfl, by decide⟩
theorem o_W_49 : xO PW 49 2 [0, 0, 0, 0, 0, 53, 54] := ⟨⟨48, rfl, by decide⟩, rfl⟩
theorem r_W_50 : xR PW 50 0 6 := ⟨⟨49, rfl, by decide⟩, rfl, by decide⟩
theorem r_W_51 : xR PW 51 0 6 := ⟨⟨50, rfl, by decide⟩, rfl, by decide⟩
theorem o_W_52 : xO PW 52 2 [0, 0, 0, 0, 0, 56, 57] := ⟨⟨51, rfl, by decide⟩, rfl⟩
theorem r_W_53 : xR PW 53 0 6 := ⟨⟨52, rfl, by decide⟩, rfl, by decide⟩
theorem r_W_54 : xR PW 54 0 6 := ⟨⟨53, rfl, by decide⟩, rfl, by decide⟩
theorem o_W_55 : xO PW 55 2 [0, 0, 0, 0, 0, 59, 60] := ⟨⟨54, rfl, by decide⟩, rfl⟩
theorem r_W_56 : xR PW 56 0 6 := ⟨⟨55, rfl, by decide⟩, rfl, by decide⟩
theorem r_W_57 : xR PW 57 0 6 := ⟨⟨56, rfl, by decide⟩, rfl, by decide⟩
theorem o_W_58 : xO PW 58 2 [0, 0, 0, 0, 0, 62, 63] := ⟨⟨57, rfl, by decide⟩, rfl⟩
theorem r_W_59 : xR PW 59 0 6 := ⟨⟨58, rfl, by decide⟩, rfl, by decide⟩
theorem r_W_60 : xR PW 60 0 6 := ⟨⟨59, rfl, by decide⟩, rfl, by decide⟩
theorem r_W_61 : xR PW 61 3 2 := ⟨⟨60, rfl, by decide⟩, rfl, by decide⟩
theorem o_W_62 : xO PW 62 2 [0, 0, 0, 0, 0, 66, 67] := ⟨⟨61, rfl, by decide⟩, rfl⟩
theorem r_W_63 : xR PW 63 0 6 := ⟨⟨62, rfl, by decide⟩, rfl, by decide⟩
theorem r_W_64 : xR PW 64 0 6 := ⟨⟨63, rfl, by decide⟩, rfl, by decide⟩
theorem o_W_65 : xO PW 65 2 [0, 0, 0, 0, 0, 69, 70] := ⟨⟨64, rfl, by decide⟩, rfl⟩
theorem r_W_66 : xR PW 66 0 6 := ⟨⟨65, rfl, by decide⟩, rfl, by decide⟩
theorem r_W_67 : xR PW 67 0 6 := ⟨⟨66, rfl, by decide⟩, rfl, by decide⟩
theorem r_W_68 : xR PW 68 0 6 := ⟨⟨67, rfl, by decide⟩, rfl, by decide⟩
theorem o_W_69 : xO PW 69 0 [73] := ⟨⟨68, rfl, by decide⟩, rfl⟩
theorem r_W_70 : xR PW 70 1 256 := ⟨⟨69, rfl, by decide⟩, rfl, by decide⟩
def LMl : List ((Nat × Nat) ⊕ (Nat × List Nat)) := [.inl (4, 4), .inr (5, [0, 0, 0, 5, 6, 7, 8, 9, 10, 0, 0, 0, 11, 0, 0, 0, 0, 0, 12, 0, 13, 1, 14, 15]), .inl (0, 6), .inl (0, 6), .inl (0, 34), .inl (0, 6), .inl (0, 6), .inl (0, 6), .inl (0, 48), .inl (0, 238), .inl (0, 64), .inl (2, 2), .inl (0, 34)]
def LM : xLy := fun a => LMl.getD a (.inl (9, 0))
def PM : xP := (12, 474, LM)
theorem o_M_1 : xO PM 1 5 [0, 0, 0, 5, 6, 7, 8, 9, 10, 0, 0, 0, 11, 0, 0, 0, 0, 0, 12, 0, 13, 1, 14, 15] := ⟨⟨0, rfl, by decide⟩, rfl⟩
theorem r_M_2 : xR PM 2 0 6 := ⟨⟨1, rfl, by decide⟩, rfl, by decide⟩
theorem r_M_3 : xR PM 3 0 6 := ⟨⟨2, rfl, by decide⟩, rfl, by decide⟩
theorem r_M_4 : xR PM 4 0 34 := ⟨⟨3, rfl, by decide⟩, rfl, by decide⟩
theorem r_M_5 : xR PM 5 0 6 := ⟨⟨4, rfl, by decide⟩, rfl, by decide⟩
theorem r_M_6 : xR PM 6 0 6 := ⟨⟨5, rfl, by decide⟩, rfl, by decide⟩
theorem r_M_7 : xR PM 7 0 6 := ⟨⟨6, rfl, by decide⟩, rfl, by decide⟩
theorem r_M_8 : xR PM 8 0 48 := ⟨⟨7, rfl, by decide⟩, rfl, by decide⟩
theorem r_M_9 : xR PM 9 0 238 := ⟨⟨8, rfl, by decide⟩, rfl, by decide⟩
theorem r_M_10 : xR PM 10 0 64 := ⟨⟨9, rfl, by decide⟩, rfl, by decide⟩
theorem r_M_11 : xR PM 11 2 2 := ⟨⟨10, rfl, by decide⟩, rfl, by decide⟩
theorem r_M_12 : xR PM 12 0 34 := ⟨⟨11, rfl, by decide⟩, rfl, by decide⟩
def stW : List Nat := [12, 15, 19, 22, 25, 28, 31, 34, 37, 40, 43, 46, 49, 52, 55, 58, 62, 65]
theorem st_all : ∀ k ∈ stW, (k < 69 ∧ 0 < k) ∧ LW k = .inr (2, [0, 0, 0, 0, 0, k + 4, k + 5]) ∧ LW (k + 1) = .inl (0, 6) ∧ LW (k + 2) = .inl (0, 6) := by decide +kernel
theorem st_o {k : Nat} (h : k ∈ stW) : xO PW k 2 [0, 0, 0, 0, 0, k + 4, k + 5] := ⟨⟨k - 1, by have := (st_all k h).1; omega, by have := (st_all k h).1; show k - 1 < 70; omega⟩, (st_all k h).2.1⟩
theorem st_w {k : Nat} (h : k ∈ stW) : xR PW (k + 1) 0 6 := ⟨⟨k, rfl, by have := (st_all k h).1; show k < 70; omega⟩, (st_all k h).2.2.1, by decide⟩
theorem st_c {k : Nat} (h : k ∈ stW) : xR PW (k + 2) 0 6 := ⟨⟨k + 1, rfl, by have := (st_all k h).1; show k + 1 < 70; omega⟩, (st_all k h).2.2.2, by decide⟩
def tdW : List Nat := [4, 8]
theorem td_all : ∀ k ∈ tdW, (k < 20 ∧ 0 < k) ∧ LW k = .inr (3, [0, 0, 0, k + 4, k + 5, k + 6]) ∧ LW (k + 1) = .inl (0, 6) ∧ LW (k + 2) = .inl (0, 6) ∧ LW (k + 3) = .inl (0, 6) := by decide +kernel
theorem td_o {k : Nat} (h : k ∈ tdW) : xO PW k 3 [0, 0, 0, k + 4, k + 5, k + 6] := ⟨⟨k - 1, by have := (td_all k h).1; omega, by have := (td_all k h).1; show k - 1 < 70; omega⟩, (td_all k h).2.1⟩
theorem td_w {k : Nat} (h : k ∈ tdW) : xR PW (k + 1) 0 6 := ⟨⟨k, rfl, by have := (td_all k h).1; show k < 70; omega⟩, (td_all k h).2.2.1, by decide⟩
theorem td_k {k : Nat} (h : k ∈ tdW) : xR PW (k + 2) 0 6 := ⟨⟨k + 1, rfl, by have := (td_all k h).1; show k + 1 < 70; omega⟩, (td_all k h).2.2.2.1, by decide⟩
theorem td_e {k : Nat} (h : k ∈ tdW) : xR PW (k + 3) 0 6 := ⟨⟨k + 2, rfl, by have := (td_all k h).1; show k + 2 < 70; omega⟩, (td_all k h).2.2.2.2, by decide⟩
/-! contracts of methods that make nothing -/
def qI (P : xP) (Q : Int32 → xT → Prop) : Option Value → xP → xT → Prop := fun r P' τ' => P' = P ∧ ∃ x : Int32, r = some (.int x) ∧ Q x τ'
def qL (P : xP) (Q : Int64 → xT → Prop) : Option Value → xP → xT → Prop := fun r P' τ' => P' = P ∧ ∃ x : Int64, r = some (.long x) ∧ Q x τ'
def qV (P : xP) (Q : xT → Prop) : Option Value → xP → xT → Prop := fun r P' τ' => P' = P ∧ r = none ∧ Q τ'
abbrev CI (cx : xC) (M : xY) (vs : List Value) (P : xP) (τ : xT) (Q : Int32 → xT → Prop) : Prop := Ct cx M vs P τ (qI P Q)
abbrev CL (cx : xC) (M : xY) (vs : List Value) (P : xP) (τ : xT) (Q : Int64 → xT → Prop) : Prop := Ct cx M vs P τ (qL P Q)
abbrev CV (cx : xC) (M : xY) (vs : List Value) (P : xP) (τ : xT) (Q : xT → Prop) : Prop := Ct cx M vs P τ (qV P Q)
theorem xcs0 {M M' : xY} {P : xP} (h1 : M'.2.2.2.2.cells = 0) (h2 : M'.2.2.2.2.slots = 0) : xCs M M' P P := ⟨by rw [h1, Nat.sub_self]; exact Nat.zero_le _, by rw [h2, Nat.sub_self]; exact Nat.zero_le _⟩
section XT
variable {cx : xC} {M : xY} {pc pc' : Nat} {lv : List (Nat × Value)} {st : List Value} {P : xP} {τ : xT}
variable {Q : Option Value → xP → xT → Prop} {M' : xY} {As rest : List Value} {idx : Nat}
theorem X_ri {q : Int32 → xT → Prop} {v : Int32} (hd : decode M.2.1 pc = .ok (.ireturn, 1)) (hr : M.2.2.2.1 = some .int) (h0 : M.2.2.2.2.cells = 0 ∧ M.2.2.2.2.slots = 0) (hQ : q v τ) : X cx M P (qI P q) pc lv [.int v] P τ := X_iret hd hr ⟨by rw [h0.1]; rfl, by rw [h0.2]; rfl⟩ ⟨rfl, v, rfl, hQ⟩
theorem X_rz {q : Int32 → xT → Prop} {v : Int32} (hd : decode M.2.1 pc = .ok (.ireturn, 1)) (hr : M.2.2.2.1 = some .boolean) (hv : narrow .boolean (.int v) = .int v) (h0 : M.2.2.2.2.cells = 0 ∧ M.2.2.2.2.slots = 0) (hQ : q v τ) : X cx M P (qI P q) pc lv [.int v] P τ := X_zret hd hr hv ⟨by rw [h0.1]; rfl, by rw [h0.2]; rfl⟩ ⟨rfl, v, rfl, hQ⟩
theorem X_rl {q : Int64 → xT → Prop} {v : Int64} (hd : decode M.2.1 pc = .ok (.lreturn, 1)) (hr : M.2.2.2.1 = some .long) (h0 : M.2.2.2.2.cells = 0 ∧ M.2.2.2.2.slots = 0) (hQ : q v τ) : X cx M P (qL P q) pc lv [.long v] P τ := X_lret hd hr ⟨by rw [h0.1]; rfl, by rw [h0.2]; rfl⟩ ⟨rfl, v, rfl, hQ⟩
theorem X_rv {q : xT → Prop} (hd : decode M.2.1 pc = .ok (.return_, 1)) (hr : M.2.2.2.1 = none) (h0 : M.2.2.2.2.cells = 0 ∧ M.2.2.2.2.slots = 0) (hQ : q τ) : X cx M P (qV P q) pc lv [] P τ := X_vret hd hr ⟨by rw [h0.1]; rfl, by rw [h0.2]; rfl⟩ ⟨rfl, rfl, hQ⟩
theorem X_SI {Q0 : Int32 → xT → Prop} (hd : decode M.2.1 pc = .ok (.invokestatic idx, 3)) (hp : pc + 3 = pc') (hm : xMt M' As.length) (hl : Cond.methodLink M.1.cls idx M'.1 ∈ xtbl) (hst : Cond.static M'.1 ∈ xtbl) (hrm : xRm M M') (h1 : M'.2.2.2.2.cells = 0) (h2 : M'.2.2.2.2.slots = 0) (hw : (rest.map fun v => v.category).sum ≤ 8) (hC : CI cx M' As P τ Q0) (k : ∀ (x : Int32) (τ' : xT), Q0 x τ' → X cx M P Q pc' lv (.int x :: rest) P τ') : X cx M P Q pc lv (As.reverse ++ rest) P τ :=
  X_callS hd hp hm hl hst hrm (xcs0 h1 h2) hw hC (fun r P' τ' h _ _ => by obtain ⟨rfl, x, rfl, hq⟩ := h; exact k x τ' hq)
theorem X_SL {Q0 : Int64 → xT → Prop} (hd : decode M.2.1 pc = .ok (.invokestatic idx, 3)) (hp : pc + 3 = pc') (hm : xMt M' As.length) (hl : Cond.methodLink M.1.cls idx M'.1 ∈ xtbl) (hst : Cond.static M'.1 ∈ xtbl) (hrm : xRm M M') (h1 : M'.2.2.2.2.cells = 0) (h2 : M'.2.2.2.2.slots = 0) (hw : (rest.map fun v => v.category).sum ≤ 8) (hC : CL cx M' As P τ Q0) (k : ∀ (x : Int64) (τ' : xT), Q0 x τ' → X cx M P Q pc' lv (.long x :: rest) P τ') : X cx M P Q pc lv (As.reverse ++ rest) P τ :=
  X_callS hd hp hm hl hst hrm (xcs0 h1 h2) hw hC (fun r P' τ' h _ _ => by obtain ⟨rfl, x, rfl, hq⟩ := h; exact k x τ' hq)
theorem X_SV {Q0 : xT → Prop} (hd : decode M.2.1 pc = .ok (.invokestatic idx, 3)) (hp : pc + 3 = pc') (hm : xMt M' As.length) (hl : Cond.methodLink M.1.cls idx M'.1 ∈ xtbl) (hst : Cond.static M'.1 ∈ xtbl) (hrm : xRm M M') (h1 : M'.2.2.2.2.cells = 0) (h2 : M'.2.2.2.2.slots = 0) (hw : (rest.map fun v => v.category).sum ≤ 8) (hC : CV cx M' As P τ Q0) (k : ∀ (τ' : xT), Q0 τ' → X cx M P Q pc' lv (rest) P τ') : X cx M P Q pc lv (As.reverse ++ rest) P τ :=
  X_callS hd hp hm hl hst hrm (xcs0 h1 h2) hw hC (fun r P' τ' h _ _ => by obtain ⟨rfl, rfl, hq⟩ := h; exact k τ' hq)
theorem X_NI {Q0 : Int32 → xT → Prop} (hd : decode M.2.1 pc = .ok (.invokestatic idx, 3)) (hp : pc + 3 = pc') (hm : xMt M' As.length) {host : String} (hl : (M.1.cls, idx, M'.1, host) ∈ xnM) (hst : Cond.static M'.1 ∈ xtbl) (hrm : xRm M M') (h1 : M'.2.2.2.2.cells = 0) (h2 : M'.2.2.2.2.slots = 0) (hw : (rest.map fun v => v.category).sum ≤ 8) (hC : CI cx M' As P τ Q0) (k : ∀ (x : Int32) (τ' : xT), Q0 x τ' → X cx M P Q pc' lv (.int x :: rest) P τ') : X cx M P Q pc lv (As.reverse ++ rest) P τ :=
  X_callN hd hp hm hl hst hrm (xcs0 h1 h2) hw hC (fun r P' τ' h _ _ => by obtain ⟨rfl, x, rfl, hq⟩ := h; exact k x τ' hq)
theorem X_NL {Q0 : Int64 → xT → Prop} (hd : decode M.2.1 pc = .ok (.invokestatic idx, 3)) (hp : pc + 3 = pc') (hm : xMt M' As.length) {host : String} (hl : (M.1.cls, idx, M'.1, host) ∈ xnM) (hst : Cond.static M'.1 ∈ xtbl) (hrm : xRm M M') (h1 : M'.2.2.2.2.cells = 0) (h2 : M'.2.2.2.2.slots = 0) (hw : (rest.map fun v => v.category).sum ≤ 8) (hC : CL cx M' As P τ Q0) (k : ∀ (x : Int64) (τ' : xT), Q0 x τ' → X cx M P Q pc' lv (.long x :: rest) P τ') : X cx M P Q pc lv (As.reverse ++ rest) P τ :=
  X_callN hd hp hm hl hst hrm (xcs0 h1 h2) hw hC (fun r P' τ' h _ _ => by obtain ⟨rfl, x, rfl, hq⟩ := h; exact k x τ' hq)
theorem X_NV {Q0 : xT → Prop} (hd : decode M.2.1 pc = .ok (.invokestatic idx, 3)) (hp : pc + 3 = pc') (hm : xMt M' As.length) {host : String} (hl : (M.1.cls, idx, M'.1, host) ∈ xnM) (hst : Cond.static M'.1 ∈ xtbl) (hrm : xRm M M') (h1 : M'.2.2.2.2.cells = 0) (h2 : M'.2.2.2.2.slots = 0) (hw : (rest.map fun v => v.category).sum ≤ 8) (hC : CV cx M' As P τ Q0) (k : ∀ (τ' : xT), Q0 τ' → X cx M P Q pc' lv (rest) P τ') : X cx M P Q pc lv (As.reverse ++ rest) P τ :=
  X_callN hd hp hm hl hst hrm (xcs0 h1 h2) hw hC (fun r P' τ' h _ _ => by obtain ⟨rfl, rfl, hq⟩ := h; exact k τ' hq)
theorem X_OI {Q0 : Int32 → xT → Prop} (hd : decode M.2.1 pc = .ok (.invokevirtual idx, 3)) (hp : pc + 3 = pc') (hm : xMt M' As.length) {b ci : Nat} {fks : List Nat} (hl : Cond.methodLink M.1.cls idx M'.1 ∈ xtbl) (hin : Cond.instanceMethod M'.1 ∈ xtbl ∧ Cond.selects M'.1.cls M'.1 M'.1 ∈ xtbl) (hb : xO P b ci fks) (hcl : vwCl[ci]?.map (fun q => q.1) = some M'.1.cls) (hrm : xRm M M') (h1 : M'.2.2.2.2.cells = 0) (h2 : M'.2.2.2.2.slots = 0) (hw : (rest.map fun v => v.category).sum ≤ 8) (hC : CI cx M' (.ref b :: As) P τ Q0) (k : ∀ (x : Int32) (τ' : xT), Q0 x τ' → X cx M P Q pc' lv (.int x :: rest) P τ') : X cx M P Q pc lv (As.reverse ++ .ref b :: rest) P τ :=
  X_callV hd hp hm hl hin hb hcl hrm (xcs0 h1 h2) hw hC (fun r P' τ' h _ _ => by obtain ⟨rfl, x, rfl, hq⟩ := h; exact k x τ' hq)
theorem X_OL {Q0 : Int64 → xT → Prop} (hd : decode M.2.1 pc = .ok (.invokevirtual idx, 3)) (hp : pc + 3 = pc') (hm : xMt M' As.length) {b ci : Nat} {fks : List Nat} (hl : Cond.methodLink M.1.cls idx M'.1 ∈ xtbl) (hin : Cond.instanceMethod M'.1 ∈ xtbl ∧ Cond.selects M'.1.cls M'.1 M'.1 ∈ xtbl) (hb : xO P b ci fks) (hcl : vwCl[ci]?.map (fun q => q.1) = some M'.1.cls) (hrm : xRm M M') (h1 : M'.2.2.2.2.cells = 0) (h2 : M'.2.2.2.2.slots = 0) (hw : (rest.map fun v => v.category).sum ≤ 8) (hC : CL cx M' (.ref b :: As) P τ Q0) (k : ∀ (x : Int64) (τ' : xT), Q0 x τ' → X cx M P Q pc' lv (.long x :: rest) P τ') : X cx M P Q pc lv (As.reverse ++ .ref b :: rest) P τ :=
  X_callV hd hp hm hl hin hb hcl hrm (xcs0 h1 h2) hw hC (fun r P' τ' h _ _ => by obtain ⟨rfl, x, rfl, hq⟩ := h; exact k x τ' hq)
theorem X_OV {Q0 : xT → Prop} (hd : decode M.2.1 pc = .ok (.invokevirtual idx, 3)) (hp : pc + 3 = pc') (hm : xMt M' As.length) {b ci : Nat} {fks : List Nat} (hl : Cond.methodLink M.1.cls idx M'.1 ∈ xtbl) (hin : Cond.instanceMethod M'.1 ∈ xtbl ∧ Cond.selects M'.1.cls M'.1 M'.1 ∈ xtbl) (hb : xO P b ci fks) (hcl : vwCl[ci]?.map (fun q => q.1) = some M'.1.cls) (hrm : xRm M M') (h1 : M'.2.2.2.2.cells = 0) (h2 : M'.2.2.2.2.slots = 0) (hw : (rest.map fun v => v.category).sum ≤ 8) (hC : CV cx M' (.ref b :: As) P τ Q0) (k : ∀ (τ' : xT), Q0 τ' → X cx M P Q pc' lv (rest) P τ') : X cx M P Q pc lv (As.reverse ++ .ref b :: rest) P τ :=
  X_callV hd hp hm hl hin hb hcl hrm (xcs0 h1 h2) hw hC (fun r P' τ' h _ _ => by obtain ⟨rfl, rfl, hq⟩ := h; exact k τ' hq)
theorem X_eqi {P0 : xP} {x : Int32} (y : Int32) (h : x = y) (k : X cx M P0 Q pc lv (.int y :: st) P τ) : X cx M P0 Q pc lv (.int x :: st) P τ := h ▸ k
theorem X_eql {P0 : xP} {x : Int64} (y : Int64) (h : x = y) (k : X cx M P0 Q pc lv (.long y :: st) P τ) : X cx M P0 Q pc lv (.long x :: st) P τ := h ▸ k
theorem X_topi {P0 : xP} {x : Int32} (k : ∀ y : Int32, y = x → X cx M P0 Q pc lv (.int y :: st) P τ) : X cx M P0 Q pc lv (.int x :: st) P τ := k x rfl
theorem X_lv {P0 : xP} (lv' : List (Nat × Value)) (h : ∀ q ∈ lv', q ∈ lv) (k : X cx M P0 Q pc lv' st P τ) : X cx M P0 Q pc lv st P τ :=
  fun p l e s m args below meth c H locs ls C hH hS hF hl => k p l e s m args below meth c H locs ls C hH hS hF ⟨hl.1, hl.2.1, fun q hq => by
    obtain ⟨w, hw, rfl⟩ := List.mem_map.mp hq
    exact hl.2.2 _ (List.mem_map.mpr ⟨w, h w hw, rfl⟩)⟩
end XT
end
section
/-! ===== pure words ===== -/
def zI (p : Prop) [Decidable p] : Int32 := if p then nI 1 else nI 0
theorem zI_t {p : Prop} [Decidable p] (h : p) : zI p = nI 1 := if_pos h
theorem zI_f {p : Prop} [Decidable p] (h : ¬ p) : zI p = nI 0 := if_neg h
theorem zI_0 {p : Prop} [Decidable p] : zI p = 0 ↔ ¬ p := by
  unfold zI; split <;> rename_i h
  · exact ⟨fun e => absurd e (by decide), fun e => absurd h e⟩
  · exact ⟨fun _ => h, fun _ => rfl⟩
theorem zI_nar {p : Prop} [Decidable p] : narrow .boolean (.int (zI p)) = .int (zI p) := by
  unfold zI; split <;> rfl
theorem xI_len {P : xP} {a n : Nat} (h : xI P a n) : (xR P a 0 n ∧ 0 < 4) ∨ (a = 0 ∧ n = 4) := by
  rcases h with h | h
  · exact Or.inl ⟨h, by decide⟩
  · exact Or.inr h
theorem xI_lt {P : xP} {a n : Nat} (h : xI P a n) : n < 100000 := by
  rcases h with h | h
  · exact h.2.2
  · rw [h.2]; decide
theorem xsw_of {x : Int32} {n : Nat} (h : ¬ (x.toInt < 0 ∨ (n : Int) < x.toInt)) (hn : n < 100000) : ∃ j : Nat, j ≤ n ∧ x = nI j := by
  refine ⟨x.toInt.toNat, by omega, ?_⟩
  apply Int32.toInt_inj.mp
  rw [nI_toInt (by omega)]
  omega
/-- bit k of s -/
abbrev bt (s k : Nat) : Prop := s / 2 ^ k % 2 = 1
theorem bt_shr {s k : Nat} (hs : s < 2 ^ 31) (hk : k < 31) : (nI s >>> (nI k &&& 31)) &&& nI 1 = nI (s / 2 ^ k % 2) := by
  have h1 : nI k &&& 31 = nI k := by
    have := pk_andN (n := k) (by omega) (m := 31) 5 (by decide)
    rw [this]; congr 1; omega
  rw [h1]
  have h2 := pk_shrN (n := s) hs (nI k) k (by
    have : (nI k).toBitVec = BitVec.ofNat 32 k := rfl
    rw [this]
    have hk2 : k = 0 ∨ k = 1 ∨ k = 2 ∨ k = 3 ∨ k = 4 ∨ k = 5 ∨ k = 6 ∨ k = 7 ∨ k = 8 ∨ k = 9 ∨ k = 10 ∨ k = 11 ∨ k = 12 ∨ k = 13 ∨ k = 14 ∨ k = 15 ∨ k = 16 ∨ k = 17 ∨ k = 18 ∨ k = 19 ∨ k = 20 ∨ k = 21 ∨ k = 22 ∨ k = 23 ∨ k = 24 ∨ k = 25 ∨ k = 26 ∨ k = 27 ∨ k = 28 ∨ k = 29 ∨ k = 30 := by omega
    rcases hk2 with rfl | rfl | rfl | rfl | rfl | rfl | rfl | rfl | rfl | rfl | rfl | rfl | rfl | rfl | rfl | rfl | rfl | rfl | rfl | rfl | rfl | rfl | rfl | rfl | rfl | rfl | rfl | rfl | rfl | rfl | rfl <;> decide)
  rw [h2]
  have h3 : s / 2 ^ k < 2 ^ 32 := Nat.lt_of_le_of_lt (Nat.div_le_self _ _) (by omega)
  exact pk_andN h3 (m := nI 1) 1 (by decide)
theorem ltI {x : Int32} {n : Nat} (hn : n < 2 ^ 31) : x < nI n ↔ x.toInt < n := by rw [Int32.lt_iff_toInt_lt, nI_toInt hn]
theorem leI {x : Int32} {n : Nat} (hn : n < 2 ^ 31) : x ≤ nI n ↔ x.toInt ≤ n := by rw [Int32.le_iff_toInt_le, nI_toInt hn]
theorem gtI {x : Int32} {n : Nat} (hn : n < 2 ^ 31) : nI n < x ↔ (n : Int) < x.toInt := by rw [Int32.lt_iff_toInt_lt, nI_toInt hn]
theorem geI {x : Int32} {n : Nat} (hn : n < 2 ^ 31) : nI n ≤ x ↔ (n : Int) ≤ x.toInt := by rw [Int32.le_iff_toInt_le, nI_toInt hn]
theorem lt0 {x : Int32} : x < 0 ↔ x.toInt < 0 := by rw [Int32.lt_iff_toInt_lt, Int32.toInt_zero]
theorem ge0 {x : Int32} : 0 ≤ x ↔ 0 ≤ x.toInt := by rw [Int32.le_iff_toInt_le, Int32.toInt_zero]
theorem gt0 {x : Int32} : 0 < x ↔ 0 < x.toInt := by rw [Int32.lt_iff_toInt_lt, Int32.toInt_zero]
theorem nI_of3 {x : Int32} (h : 0 ≤ x.toInt) : x = nI x.toInt.toNat ∧ x.toInt.toNat < 2 ^ 31 := by
  have h1 : x.toInt < 2 ^ 31 := Int32.toInt_lt x
  refine ⟨?_, by omega⟩
  apply Int32.toInt_inj.mp
  rw [nI_toInt (by omega)]
  omega
/-- a loop that counts up -/
theorem xloop {σ : Type} (H Inv : Nat → σ → Prop) (n : Nat) (hx : ∀ s, Inv n s → H n s) (hs : ∀ j s, j < n → Inv j s → (∀ s', Inv (j + 1) s' → H (j + 1) s') → H j s) : ∀ (j : Nat) (s : σ), j ≤ n → Inv j s → H j s := by
  intro j s hj
  generalize hd : n - j = d
  induction d generalizing j s with
  | zero => intro h; have : j = n := by omega
            subst this; exact hx s h
  | succ d ih => exact fun h => hs j s (by omega) h (fun s' h' => ih (j + 1) s' (by omega) (by omega) h')
theorem xsi_self (τ : xT) (a k : Nat) (v : Int32) : (xsi τ a k v).1 a = upd (τ.1 a) k v := if_pos rfl
theorem xsi_ne (τ : xT) {a b : Nat} (k : Nat) (v : Int32) (h : b ≠ a) : (xsi τ a k v).1 b = τ.1 b := if_neg h
theorem xsl_self (τ : xT) (a k : Nat) (v : Int64) : (xsl τ a k v).2.1 a = vp_updL (τ.2.1 a) k v := if_pos rfl
theorem xsl_ne (τ : xT) {a b : Nat} (k : Nat) (v : Int64) (h : b ≠ a) : (xsl τ a k v).2.1 b = τ.2.1 b := if_neg h
/-- rows outside R are the same -/
def xeq (R : List Nat) (τ τ' : xT) : Prop := ∀ a, a ∉ R → τ'.1 a = τ.1 a ∧ τ'.2.1 a = τ.2.1 a ∧ τ'.2.2 a = τ.2.2 a
theorem xeq.rf {R : List Nat} {τ : xT} : xeq R τ τ := fun _ _ => ⟨rfl, rfl, rfl⟩
theorem xeq.tr {R : List Nat} {τ τ' τ2 : xT} (h : xeq R τ τ') (h2 : xeq R τ' τ2) : xeq R τ τ2 := fun a ha => ⟨(h2 a ha).1.trans (h a ha).1, (h2 a ha).2.1.trans (h a ha).2.1, (h2 a ha).2.2.trans (h a ha).2.2⟩
theorem xeq.mono {R R' : List Nat} {τ τ' : xT} (h : xeq R τ τ') (hR : ∀ a ∈ R, a ∈ R') : xeq R' τ τ' := fun a ha => h a (fun q => ha (hR a q))
theorem xeq.si {R : List Nat} {τ τ' : xT} {a k : Nat} {v : Int32} (h : xeq R τ τ') (ha : a ∈ R) : xeq R τ (xsi τ' a k v) := fun b hb => ⟨(xsi_ne τ' k v (fun e => hb (by rw [e]; exact ha))).trans (h b hb).1, (h b hb).2⟩
theorem xeq.sl {R : List Nat} {τ τ' : xT} {a k : Nat} {v : Int64} (h : xeq R τ τ') (ha : a ∈ R) : xeq R τ (xsl τ' a k v) := fun b hb => ⟨(h b hb).1, (xsl_ne τ' k v (fun e => hb (by rw [e]; exact ha))).trans (h b hb).2.1, (h b hb).2.2⟩
theorem xeq.sr {R : List Nat} {τ τ' : xT} {a k v : Nat} (h : xeq R τ τ') (ha : a ∈ R) : xeq R τ (xsr τ' a k v) := fun b hb => ⟨(h b hb).1, (h b hb).2.1, by
  rw [← (h b hb).2.2]
  funext j
  exact if_neg (fun e : b = a ∧ j = k => hb (by rw [e.1]; exact ha))⟩
theorem bt_shl {k : Nat} (hk : k < 31) : nI 1 <<< (nI k &&& 31) = nI (2 ^ k) := by
  have h : ∀ k, k < 31 → nI 1 <<< (nI k &&& 31) = nI (2 ^ k) := by decide +kernel
  exact h k hk
theorem bt_within : ∀ a, a < 64 → ∀ b, b < 64 → ((nI a &&& (nI b ^^^ (-1)) = 0) ↔ (a &&& b = a)) := by decide +kernel
section SM
variable (cx : xC)
set_option maxHeartbeats 4000000
set_option maxRecDepth 100000
theorem c_X4_has {P : xP} (τ : xT) (s k : Nat) (hs : s < 2 ^ 31) (hk : k < 31) : CI cx m_X4_has [.int (nI s), .int (nI k)] P τ (fun x τ' => τ' = τ ∧ x = zI (bt s k)) := by
  refine Ct_of (by decide) (Nat.le_of_ble_eq_true rfl) (lv := [(0, _), (1, _)]) rfl ?_
  refine X_iload_n (i := 0) (pc' := 1) dX4_has_0 rfl rfl rfl ?_
  refine X_iload_n (i := 1) (pc' := 2) dX4_has_1 rfl rfl rfl ?_
  refine X_ishr (pc' := 3) dX4_has_2 rfl ?_
  refine X_iconst (pc' := 4) (v := nI 1) dX4_has_3 rfl (by decide) ?_
  refine X_iand (pc' := 5) dX4_has_4 rfl ?_
  refine X_eqi (nI (s / 2 ^ k % 2)) (bt_shr hs hk) ?_
  refine X_iconst (pc' := 6) (v := nI 1) dX4_has_5 rfl (by decide) ?_
  refine X_icmp_ne (pc' := 9) (tgt := 13) dX4_has_6 rfl (by decide) (fun h_6 => ?_) (fun h_6 => ?_)
  · refine X_iconst (pc' := 14) (v := nI 0) dX4_has_13 rfl (by decide) ?_
    refine X_rz dX4_has_14 rfl (rfl) ⟨rfl, rfl⟩ ?_
    first
    | exact ⟨rfl, (zI_f (fun q => h_6 (congrArg nI q))).symm⟩
    | exact ⟨rfl, (zI_t ((nI_eq (by have h2 : s / 2 ^ k % 2 < 2 := Nat.mod_lt _ (by decide); omega) (by decide)).mp h_6)).symm⟩
  · refine X_iconst (pc' := 10) (v := nI 1) dX4_has_9 rfl (by decide) ?_
    refine X_goto (pc' := 0) (tgt := 14) dX4_has_10 (by decide) ?_
    refine X_rz dX4_has_14 rfl (rfl) ⟨rfl, rfl⟩ ?_
    first
    | exact ⟨rfl, (zI_f (fun q => h_6 (congrArg nI q))).symm⟩
    | exact ⟨rfl, (zI_t ((nI_eq (by have h2 : s / 2 ^ k % 2 < 2 := Nat.mod_lt _ (by decide); omega) (by decide)).mp h_6)).symm⟩

theorem c_X4_isCost {P : xP} (τ : xT) (p : Int32) : CI cx m_X4_isCost [.int p] P τ (fun x τ' => τ' = τ ∧ x = zI (0 ≤ p.toInt ∧ p.toInt ≤ 60)) := by
  refine Ct_of (by decide) (Nat.le_of_ble_eq_true rfl) (lv := [(0, _)]) rfl ?_
  refine X_iload_n (i := 0) (pc' := 1) dX4_isCost_0 rfl rfl rfl ?_
  refine X_if_lt (pc' := 4) (tgt := 14) dX4_isCost_1 rfl (by decide) (fun h_1 => ?_) (fun h_1 => ?_)
  · refine X_iconst (pc' := 15) (v := nI 0) dX4_isCost_14 rfl (by decide) ?_
    refine X_rz dX4_isCost_15 rfl (rfl) ⟨rfl, rfl⟩ ?_
    refine ⟨rfl, ?_⟩
    simp only [lt0, gtI (n := 60) (by decide)] at *
    first
      | exact (zI_t ⟨by omega, by omega⟩).symm
      | exact (zI_f (fun q => by omega)).symm
  · refine X_iload_n (i := 0) (pc' := 5) dX4_isCost_4 rfl rfl rfl ?_
    refine X_bipush (pc' := 7) (v := nI 60) dX4_isCost_5 rfl (by decide) ?_
    refine X_icmp_gt (pc' := 10) (tgt := 14) dX4_isCost_7 rfl (by decide) (fun h_7 => ?_) (fun h_7 => ?_)
    · refine X_iconst (pc' := 15) (v := nI 0) dX4_isCost_14 rfl (by decide) ?_
      refine X_rz dX4_isCost_15 rfl (rfl) ⟨rfl, rfl⟩ ?_
      refine ⟨rfl, ?_⟩
      simp only [lt0, gtI (n := 60) (by decide)] at *
      first
        | exact (zI_t ⟨by omega, by omega⟩).symm
        | exact (zI_f (fun q => by omega)).symm
    · refine X_iconst (pc' := 11) (v := nI 1) dX4_isCost_10 rfl (by decide) ?_
      refine X_goto (pc' := 0) (tgt := 15) dX4_isCost_11 (by decide) ?_
      refine X_rz dX4_isCost_15 rfl (rfl) ⟨rfl, rfl⟩ ?_
      refine ⟨rfl, ?_⟩
      simp only [lt0, gtI (n := 60) (by decide)] at *
      first
        | exact (zI_t ⟨by omega, by omega⟩).symm
        | exact (zI_f (fun q => by omega)).symm
theorem c_X4_bit {P : xP} (τ : xT) (k : Nat) (hk : k < 31) : CI cx m_X4_bit [.int (nI k)] P τ (fun x τ' => τ' = τ ∧ x = nI (2 ^ k)) := by
  refine Ct_of (by decide) (Nat.le_of_ble_eq_true rfl) (lv := [(0, _)]) rfl ?_
  refine X_iconst (pc' := 1) (v := nI 1) dX4_bit_0 rfl (by decide) ?_
  refine X_iload_n (i := 0) (pc' := 2) dX4_bit_1 rfl rfl rfl ?_
  refine X_ishl (pc' := 3) dX4_bit_2 rfl ?_
  refine X_ri dX4_bit_3 rfl ⟨rfl, rfl⟩ ?_
  exact ⟨rfl, bt_shl hk⟩
theorem c_X4_within {P : xP} (τ : xT) (a b : Nat) (ha : a < 64) (hb : b < 64) : CI cx m_X4_within [.int (nI a), .int (nI b)] P τ (fun x τ' => τ' = τ ∧ x = zI (a &&& b = a)) := by
  refine Ct_of (by decide) (Nat.le_of_ble_eq_true rfl) (lv := [(0, _), (1, _)]) rfl ?_
  refine X_iload_n (i := 0) (pc' := 1) dX4_within_0 rfl rfl rfl ?_
  refine X_iload_n (i := 1) (pc' := 2) dX4_within_1 rfl rfl rfl ?_
  refine X_iconst (pc' := 3) (v := (-1)) dX4_within_2 rfl (by decide) ?_
  refine X_ixor (pc' := 4) dX4_within_3 rfl ?_
  refine X_iand (pc' := 5) dX4_within_4 rfl ?_
  refine X_if_ne (pc' := 8) (tgt := 12) dX4_within_5 rfl (by decide) (fun h_5 => ?_) (fun h_5 => ?_)
  · refine X_iconst (pc' := 13) (v := nI 0) dX4_within_12 rfl (by decide) ?_
    refine X_rz dX4_within_13 rfl (rfl) ⟨rfl, rfl⟩ ?_
    refine ⟨rfl, ?_⟩
    have hw := bt_within a ha b hb
    first
      | exact (zI_t (hw.mp h_5)).symm
      | exact (zI_f (fun q => h_5 (hw.mpr q))).symm
  · refine X_iconst (pc' := 9) (v := nI 1) dX4_within_8 rfl (by decide) ?_
    refine X_goto (pc' := 0) (tgt := 13) dX4_within_9 (by decide) ?_
    refine X_rz dX4_within_13 rfl (rfl) ⟨rfl, rfl⟩ ?_
    refine ⟨rfl, ?_⟩
    have hw := bt_within a ha b hb
    first
      | exact (zI_t (hw.mp h_5)).symm
      | exact (zI_f (fun q => h_5 (hw.mpr q))).symm
theorem c_X4_at {P : xP} (τ : xT) (a n : Nat) (ha : xI P a n) (i : Int32) : CI cx m_X4_at [.ref a, .int i] P τ (fun x τ' => τ' = τ ∧ x = if 0 ≤ i.toInt ∧ i.toInt < n then τ.1 a i.toInt.toNat else nI 0) := by
  have hn := xI_lt ha
  refine Ct_of (by decide) (Nat.le_of_ble_eq_true rfl) (lv := [(0, _), (1, _)]) rfl ?_
  refine X_aload_n (i := 0) (pc' := 1) dX4_at_0 rfl rfl rfl ?_
  refine X_ifnull (pc' := 4) dX4_at_1 rfl ?_
  refine X_iload_n (i := 1) (pc' := 5) dX4_at_4 rfl rfl rfl ?_
  refine X_if_lt (pc' := 8) (tgt := 20) dX4_at_5 rfl (by decide) (fun h_5 => ?_) (fun h_5 => ?_)
  · refine X_iconst (pc' := 21) (v := nI 0) dX4_at_20 rfl (by decide) ?_
    refine X_ri dX4_at_21 rfl ⟨rfl, rfl⟩ ?_
    refine ⟨rfl, ?_⟩
    simp only [lt0, geI (n := n) (by omega)] at *
    first
      | exact (if_pos ⟨by omega, by omega⟩).symm
      | exact (if_neg (fun q => by omega)).symm
  · refine X_iload_n (i := 1) (pc' := 9) dX4_at_8 rfl rfl rfl ?_
    refine X_aload_n (i := 0) (pc' := 10) dX4_at_9 rfl rfl rfl ?_
    refine X_alen (pc' := 11) dX4_at_10 rfl (xI_len ha) ?_
    refine X_icmp_ge (pc' := 14) (tgt := 20) dX4_at_11 rfl (by decide) (fun h_11 => ?_) (fun h_11 => ?_)
    · refine X_iconst (pc' := 21) (v := nI 0) dX4_at_20 rfl (by decide) ?_
      refine X_ri dX4_at_21 rfl ⟨rfl, rfl⟩ ?_
      refine ⟨rfl, ?_⟩
      simp only [lt0, geI (n := n) (by omega)] at *
      first
        | exact (if_pos ⟨by omega, by omega⟩).symm
        | exact (if_neg (fun q => by omega)).symm
    · refine X_aload_n (i := 0) (pc' := 15) dX4_at_14 rfl rfl rfl ?_
      refine X_iload_n (i := 1) (pc' := 16) dX4_at_15 rfl rfl rfl ?_
      refine X_iald (pc' := 17) (j := i.toInt.toNat) dX4_at_16 rfl ha ((nI_of3 (by rw [lt0] at h_5; omega)).1) (by rw [lt0] at h_5; rw [geI (by omega)] at h_11; omega) ?_
      refine X_goto (pc' := 0) (tgt := 21) dX4_at_17 (by decide) ?_
      refine X_ri dX4_at_21 rfl ⟨rfl, rfl⟩ ?_
      refine ⟨rfl, ?_⟩
      simp only [lt0, geI (n := n) (by omega)] at *
      first
        | exact (if_pos ⟨by omega, by omega⟩).symm
        | exact (if_neg (fun q => by omega)).symm
theorem c_at_in {P : xP} (τ : xT) {a n j : Nat} (ha : xI P a n) (hj : j < n) : CI cx m_X4_at [.ref a, .int (nI j)] P τ (fun x τ' => τ' = τ ∧ x = τ.1 a j) := by
  have hn := xI_lt ha
  refine Ct.weaken (c_X4_at cx τ a n ha (nI j)) (fun r P' τ' h => ?_)
  obtain ⟨h1, x, h2, h3, h4⟩ := h
  refine ⟨h1, x, h2, h3, h4.trans ?_⟩
  rw [nI_toInt (by omega), if_pos ⟨by omega, by omega⟩]
  rfl
theorem c_X4_put {P : xP} (τ : xT) {a n j : Nat} (ha : xR P a 0 n) (hj : j < n) (v : Int32) : CV cx m_X4_put [.ref a, .int (nI j), .int v] P τ (fun τ' => τ' = xsi τ a j v) := by
  have hn := ha.2.2
  refine Ct_of (by decide) (Nat.le_of_ble_eq_true rfl) (lv := [(0, _), (1, _), (2, _)]) rfl ?_
  refine X_aload_n (i := 0) (pc' := 1) dX4_put_0 rfl rfl rfl ?_
  refine X_ifnull (pc' := 4) dX4_put_1 rfl ?_
  refine X_iload_n (i := 1) (pc' := 5) dX4_put_4 rfl rfl rfl ?_
  refine X_if_lt (pc' := 8) (tgt := 18) dX4_put_5 rfl (by decide) (fun h_5 => absurd h_5 (nI_pos (by omega))) (fun h_5 => ?_)
  refine X_iload_n (i := 1) (pc' := 9) dX4_put_8 rfl rfl rfl ?_
  refine X_aload_n (i := 0) (pc' := 10) dX4_put_9 rfl rfl rfl ?_
  refine X_alen (pc' := 11) dX4_put_10 rfl (Or.inl ⟨ha, by decide⟩) ?_
  refine X_icmp_ge (pc' := 14) (tgt := 18) dX4_put_11 rfl (by decide) (fun h_11 => absurd h_11 (nI_ge (by omega) (by omega))) (fun h_11 => ?_)
  refine X_aload_n (i := 0) (pc' := 15) dX4_put_14 rfl rfl rfl ?_
  refine X_iload_n (i := 1) (pc' := 16) dX4_put_15 rfl rfl rfl ?_
  refine X_iload_n (i := 2) (pc' := 17) dX4_put_16 rfl rfl rfl ?_
  refine X_iast (pc' := 18) (j := j) dX4_put_17 rfl ha (rfl) (hj) ?_
  refine X_rv dX4_put_18 rfl ⟨rfl, rfl⟩ ?_
  rfl
theorem c_X4_copyRow {P : xP} (τ : xT) {a b : Nat} (ha : xR P a 0 6) (hb : xR P b 0 6) (hab : a ≠ b) : CV cx m_X4_copyRow [.ref a, .ref b] P τ (fun τ' => xeq [b] τ τ' ∧ ∀ i, i < 6 → τ'.1 b i = τ.1 a i) := by
  refine Ct_of (by decide) (Nat.le_of_ble_eq_true rfl) (lv := [(0, _), (1, _)]) rfl ?_
  have hl : ∀ (j : Nat) (τ' : xT), j ≤ 6 → (xeq [b] τ τ' ∧ ∀ i, i < j → τ'.1 b i = τ.1 a i) → X cx m_X4_copyRow P (qV P (fun τ' => xeq [b] τ τ' ∧ ∀ i, i < 6 → τ'.1 b i = τ.1 a i)) 11 [(2, .int (nI j)), (0, .ref a), (1, .ref b)] [] P τ' := by
    refine xloop _ _ 6 (fun τ' h => ?_) (fun j τ' hj h ih => ?_)
    · refine X_iload_n (i := 2) (pc' := 12) dX4_copyRow_11 rfl rfl rfl ?_
      refine X_aload_n (i := 0) (pc' := 13) dX4_copyRow_12 rfl rfl rfl ?_
      refine X_alen (pc' := 14) dX4_copyRow_13 rfl (Or.inl ⟨ha, by decide⟩) ?_
      refine X_icmp_ge (pc' := 17) (tgt := 35) dX4_copyRow_14 rfl (by decide) (fun h_14 => ?_) (fun h_14 => absurd (nI_le (Nat.le_refl _) (by decide)) h_14)
      refine X_rv dX4_copyRow_35 rfl ⟨rfl, rfl⟩ ?_
      exact h
    · refine X_iload_n (i := 2) (pc' := 12) dX4_copyRow_11 rfl rfl rfl ?_
      refine X_aload_n (i := 0) (pc' := 13) dX4_copyRow_12 rfl rfl rfl ?_
      refine X_alen (pc' := 14) dX4_copyRow_13 rfl (Or.inl ⟨ha, by decide⟩) ?_
      refine X_icmp_ge (pc' := 17) (tgt := 35) dX4_copyRow_14 rfl (by decide) (fun h_14 => absurd h_14 (nI_ge hj (by decide))) (fun h_14 => ?_)
      refine X_iload_n (i := 2) (pc' := 18) dX4_copyRow_17 rfl rfl rfl ?_
      refine X_aload_n (i := 1) (pc' := 19) dX4_copyRow_18 rfl rfl rfl ?_
      refine X_alen (pc' := 20) dX4_copyRow_19 rfl (Or.inl ⟨hb, by decide⟩) ?_
      refine X_icmp_ge (pc' := 23) (tgt := 35) dX4_copyRow_20 rfl (by decide) (fun h_20 => absurd h_20 (nI_ge hj (by decide))) (fun h_20 => ?_)
      refine X_aload_n (i := 1) (pc' := 24) dX4_copyRow_23 rfl rfl rfl ?_
      refine X_iload_n (i := 2) (pc' := 25) dX4_copyRow_24 rfl rfl rfl ?_
      refine X_aload_n (i := 0) (pc' := 26) dX4_copyRow_25 rfl rfl rfl ?_
      refine X_iload_n (i := 2) (pc' := 27) dX4_copyRow_26 rfl rfl rfl ?_
      refine X_iald (pc' := 28) (j := j) dX4_copyRow_27 rfl (Or.inl ha) (rfl) (hj) ?_
      refine X_iast (pc' := 29) (j := j) dX4_copyRow_28 rfl hb (rfl) (hj) ?_
      refine X_iinc (pc' := 32) (v := nI (j + 1)) (lv' := [(2, _), (0, _), (1, _)]) dX4_copyRow_29 rfl rfl ((nI_succ j).symm) (Nat.le_of_ble_eq_true rfl) rfl ?_
      refine X_goto (pc' := 0) (tgt := 11) dX4_copyRow_32 (by decide) ?_
      refine ih _ ⟨h.1.si (by simp), fun i hi => ?_⟩
      rw [xsi_self]
      by_cases hij : i = j
      · subst hij; rw [pk_us, (h.1 a (by simp [hab])).1]
      · rw [pk_un hij]; exact h.2 i (by omega)
  refine X_aload_n (i := 0) (pc' := 1) dX4_copyRow_0 rfl rfl rfl ?_
  refine X_ifnull (pc' := 4) dX4_copyRow_1 rfl ?_
  refine X_aload_n (i := 1) (pc' := 5) dX4_copyRow_4 rfl rfl rfl ?_
  refine X_ifnonnull (pc' := 0) (tgt := 9) dX4_copyRow_5 (by decide) ?_
  refine X_iconst (pc' := 10) (v := nI 0) dX4_copyRow_9 rfl (by decide) ?_
  refine X_istore_n (i := 2) (pc' := 11) (lv' := [(2, _), (0, _), (1, _)]) dX4_copyRow_10 rfl rfl (Nat.le_of_ble_eq_true rfl) rfl ?_
  exact hl 0 τ (by omega) ⟨xeq.rf, fun i hi => absurd hi (by omega)⟩
end SM
end
section
/-! ===== what a post and a standing are, in numbers ===== -/
/-- how many letters, the pardon, the room, the kinds, who explains (bits) -/
abbrev PT : Type := Nat × Nat × Nat × (Nat → Nat) × (Nat → Nat)
abbrev pn (P : PT) : Nat := P.1
abbrev pp (P : PT) : Nat := P.2.1
abbrev pr (P : PT) : Nat := P.2.2.1
abbrev pk (P : PT) : Nat → Nat := P.2.2.2.1
abbrev px (P : PT) : Nat → Nat := P.2.2.2.2
/-- the day, sent (bits), sent this day, torn (bits), paid, waited, clocks -/
abbrev SN : Type := Nat × Nat × Nat × Nat × Nat × (Nat → Nat) × (Nat → Nat)
abbrev sDy (s : SN) : Nat := s.1
abbrev sSt (s : SN) : Nat := s.2.1
abbrev sTd (s : SN) : Nat := s.2.2.1
abbrev sTn (s : SN) : Nat := s.2.2.2.1
abbrev sPd (s : SN) : Nat := s.2.2.2.2.1
abbrev sWt (s : SN) : Nat → Nat := s.2.2.2.2.2.1
abbrev sCk (s : SN) : Nat → Nat := s.2.2.2.2.2.2
def Pok (P : PT) : Prop := pn P ≤ 6 ∧ pp P ≤ 9 ∧ (1 ≤ pr P ∧ pr P ≤ 3) ∧ (∀ k, k < pn P → pk P k ≤ 3) ∧ ∀ k, k < pn P → px P k < 64
/-- m bounds the days and what was paid -/
def Sok (P : PT) (m : Nat) (s : SN) : Prop := sDy s ≤ m ∧ sSt s < 2 ^ pn P ∧ sTd s ≤ 3 ∧ sTn s < 2 ^ pn P ∧ sPd s ≤ 600 * m ∧ (∀ k, k < pn P → sWt s k ≤ 99) ∧ ∀ k, k < pn P → sCk s k ≤ 3
theorem two6 {P : PT} (h : Pok P) : 2 ^ pn P ≤ 64 := Nat.pow_le_pow_right (n := 2) (by decide) h.1
def rate (k : Nat) : Nat := match k with | 0 => 1 | 1 => 2 | 2 => 3 | _ => 0
theorem rate_le (k : Nat) : rate k ≤ 3 := by unfold rate; split <;> omega
def ones (s : Nat) : Nat := s % 2 + s / 2 % 2 + s / 4 % 2 + s / 8 % 2 + s / 16 % 2 + s / 32 % 2
theorem ones_le (s : Nat) : ones s ≤ 6 := by unfold ones; omega
def cost (P : PT) (k days : Nat) (torn : Prop) [Decidable torn] (cnt today : Nat) : Nat := if today = pp P then (days * rate (pk P k) * (if torn then 2 else 1) - 3 * cnt) / 2 else days * rate (pk P k) * (if torn then 2 else 1) - 3 * cnt
theorem cost_le (P : PT) (k days : Nat) (torn : Prop) [Decidable torn] (cnt today : Nat) (h : days ≤ 99) : cost P k days torn cnt today ≤ 594 := by
  have h1 : days * rate (pk P k) ≤ 99 * 3 := Nat.mul_le_mul h (rate_le _)
  have h2 : days * rate (pk P k) * (if torn then 2 else 1) ≤ 99 * 3 * 2 := Nat.mul_le_mul h1 (by split <;> omega)
  unfold cost
  split
  · exact Nat.le_trans (Nat.div_le_self _ _) (by omega)
  · omega
def price (P : PT) (s : SN) (k : Nat) : Nat := cost P k (sWt s k) (bt (sTn s) k) (ones (px P k &&& sSt s)) (sDy s)
def costIn (P : PT) (s : SN) (k d sent : Nat) : Nat := cost P k (min 99 (sWt s k + (d - sCk s k))) (bt (sTn s) k) (ones (px P k &&& sent)) (sDy s + d)
theorem costIn_le (P : PT) (s : SN) (k d sent : Nat) : costIn P s k d sent ≤ 594 := cost_le _ _ _ _ _ _ (by omega)
theorem costIn_0 {P : PT} {m : Nat} {s : SN} (h : Sok P m s) {k : Nat} (hk : k < pn P) : costIn P s k 0 (sSt s) = price P s k := by
  unfold costIn price
  have := h.2.2.2.2.2.1 k hk
  rw [Nat.zero_sub, Nat.add_zero, Nat.add_zero, Nat.min_eq_right this]
def pass (s : SN) : SN := (sDy s + 1, sSt s, 0, sTn s, sPd s, fun i => if bt (sSt s) i then sWt s i else if 0 < sCk s i then sWt s i else min 99 (sWt s i + 1), fun i => if bt (sSt s) i then sCk s i else sCk s i - 1)
def sendS (P : PT) (s : SN) (k : Nat) : SN := (sDy s, sSt s ||| 2 ^ k, sTd s + 1, sTn s, sPd s + price P s k, sWt s, sCk s)
abbrev can (P : PT) (s : SN) (k : Nat) : Prop := k < pn P ∧ ¬ bt (sSt s) k ∧ sTd s < pr P
def nset (f : Nat → Nat) (k v : Nat) : Nat → Nat := fun i => if i = k then v else f i
theorem nset_s (f : Nat → Nat) (k v : Nat) : nset f k v k = v := if_pos rfl
theorem nset_n (f : Nat → Nat) {k i : Nat} (v : Nat) (h : i ≠ k) : nset f k v i = f i := if_neg h
theorem or_lt {a b n : Nat} (ha : a < 2 ^ n) (hb : b < 2 ^ n) : a ||| b < 2 ^ n := Nat.or_lt_two_pow ha hb
theorem pow_lt {k n : Nat} (h : k < n) : 2 ^ k < 2 ^ n := Nat.pow_lt_pow_right (by decide) h
theorem pass_ok {P : PT} {m : Nat} {s : SN} (h : Sok P m s) : Sok P (m + 1) (pass s) := by
  obtain ⟨h1, h2, h3, h4, h5, h6, h7⟩ := h
  refine ⟨by show sDy s + 1 ≤ m + 1; omega, h2, Nat.zero_le _, h4, by show sPd s ≤ 600 * (m + 1); omega, fun k hk => ?_, fun k hk => ?_⟩
  · have := h6 k hk
    show (if bt (sSt s) k then sWt s k else if 0 < sCk s k then sWt s k else min 99 (sWt s k + 1)) ≤ 99
    split
    · exact this
    · split <;> omega
  · have := h7 k hk
    show (if bt (sSt s) k then sCk s k else sCk s k - 1) ≤ 3
    split <;> omega
theorem price_le {P : PT} {m : Nat} {s : SN} (h : Sok P m s) {k : Nat} (hk : k < pn P) : price P s k ≤ 594 := cost_le _ _ _ _ _ _ (h.2.2.2.2.2.1 k hk)
theorem sendS_ok {P : PT} {m : Nat} {s : SN} (hP : Pok P) (h : Sok P m s) {k : Nat} (hc : can P s k) : Sok P (m + 1) (sendS P s k) := by
  have hp := price_le h hc.1
  obtain ⟨h1, h2, h3, h4, h5, h6, h7⟩ := h
  have hr := hP.2.2.1.2
  have hc3 := hc.2.2
  exact ⟨by show sDy s ≤ m + 1; omega, or_lt h2 (pow_lt hc.1), by show sTd s + 1 ≤ 3; omega, h4, by show sPd s + price P s k ≤ 600 * (m + 1); omega, h6, h7⟩
theorem Sok.mono {P : PT} {m m' : Nat} {s : SN} (h : Sok P m s) (hm : m ≤ m') : Sok P m' s := ⟨by have := h.1; omega, h.2.1, h.2.2.1, h.2.2.2.1, by have := h.2.2.2.2.1; have : 600 * m ≤ 600 * m' := Nat.mul_le_mul_left _ hm; omega, h.2.2.2.2.2⟩
/-! the class's pictures of them -/
def SR (τ : xT) (k n : Nat) (s : SN) : Prop := τ.1 k 0 = nI (sDy s) ∧ τ.1 k 1 = nI (sSt s) ∧ τ.1 k 2 = nI (sTd s) ∧ τ.1 k 3 = nI (sTn s) ∧ τ.1 k 4 = nI (sPd s) ∧ (∀ i, i < n → τ.1 (k + 1) i = nI (sWt s i)) ∧ ∀ i, i < n → τ.1 (k + 2) i = nI (sCk s i)
theorem SR.kept {τ τ' : xT} {k n : Nat} {s : SN} {R : List Nat} (h : SR τ k n s) (e : xeq R τ τ') (h0 : k ∉ R) (h1 : k + 1 ∉ R) (h2 : k + 2 ∉ R) : SR τ' k n s := by
  unfold SR
  rw [(e k h0).1, (e _ h1).1, (e _ h2).1]
  exact h
def TR (τ : xT) (k : Nat) (P : PT) : Prop := τ.1 k 0 = nI (pp P) ∧ τ.1 k 1 = nI (pr P) ∧ τ.1 k 2 = nI (pn P) ∧ (∀ i, i < pn P → τ.1 (k + 2) i = nI (pk P i)) ∧ ∀ i, i < pn P → τ.1 (k + 3) i = nI (px P i)
theorem TR.kept {τ τ' : xT} {k : Nat} {P : PT} {R : List Nat} (h : TR τ k P) (e : xeq R τ τ') (h0 : k ∉ R) (h2 : k + 2 ∉ R) (h3 : k + 3 ∉ R) : TR τ' k P := by
  unfold TR
  rw [(e k h0).1, (e _ h2).1, (e _ h3).1]
  exact h
theorem xrate_rate {k : Nat} (h : k < 4) : xrate k = nI (rate k) := by
  have : k = 0 ∨ k = 1 ∨ k = 2 ∨ k = 3 := by omega
  rcases this with rfl | rfl | rfl | rfl <;> rfl
end
section
/-! ===== Math.max, min, abs ===== -/
theorem mq_max : Cond.code Lib.Math.max.name Lib.Math.max.code 2 (some .int) ∈ xtbl ∧ Cond.static Lib.Math.max.name ∈ xtbl := ⟨xq2 60 (by decide +kernel) rfl, xq2 59 (by decide +kernel) rfl⟩
theorem mq_min : Cond.code Lib.Math.min.name Lib.Math.min.code 2 (some .int) ∈ xtbl ∧ Cond.static Lib.Math.min.name ∈ xtbl := ⟨xq2 63 (by decide +kernel) rfl, xq2 62 (by decide +kernel) rfl⟩
theorem mq_abs : Cond.code Lib.MathLoose.abs_long.x Lib.MathLoose.abs_long.code 2 (some .long) ∈ xtbl ∧ Cond.static Lib.MathLoose.abs_long.x ∈ xtbl := ⟨xq2 234 (by decide +kernel) rfl, xq2 233 (by decide +kernel) rfl⟩
theorem ml_X3_58 : Cond.methodLink "WaitedPost$Told" 58 Lib.Math.max.name ∈ xtbl := xq2 58 (by decide +kernel) rfl
theorem ml_X3_65 : Cond.methodLink "WaitedPost$Told" 65 Lib.Math.min.name ∈ xtbl := xq2 61 (by decide +kernel) rfl
theorem ml_X2_59 : Cond.methodLink "WaitedPost$Standing" 59 Lib.Math.min.name ∈ xtbl := xq2 111 (by decide +kernel) rfl
theorem ml_X4_242 : Cond.methodLink "WaitedPost" 242 Lib.MathLoose.abs_long.x ∈ xtbl := xq2 232 (by decide +kernel) rfl
theorem mini : Cond.initialized "java/lang/Math" ∈ xtbl := xq1 8 (by decide +kernel) rfl
theorem X_mmax {cx : xC} {M : xY} {P0 : xP} {Q : Option Value → xP → xT → Prop} {pc pc' idx : Nat} {lv : List (Nat × Value)} {st : List Value} {P : xP} {τ : xT} {x y : Int32} (hd : decode M.2.1 pc = .ok (.invokestatic idx, 3)) (hp : pc + 3 = pc') (hk : Cond.methodLink M.1.cls idx Lib.Math.max.name ∈ xtbl) (hr : 1 ≤ M.2.2.2.2.frames ∧ 21 ≤ M.2.2.2.2.locals) (hcs : P.1 - P0.1 ≤ M.2.2.2.2.cells ∧ P.2.1 - P0.2.1 ≤ M.2.2.2.2.slots) (hw : (st.map fun v => v.category).sum ≤ 8) (k : X cx M P0 Q pc' lv (.int (if x < y then y else x) :: st) P τ) : X cx M P0 Q pc lv (.int y :: .int x :: st) P τ := by
  subst hp
  intro p l e s m args below meth c H locs ls C hH hS hF hl
  have hts := xtbl_hts C.2.2.2.2.2.2.2.1
  have h8 : ((st.map (xup cx)).map fun v => v.category).sum ≤ 8 := by
    have : (st.map (xup cx)).map (fun v => v.category) = st.map (fun v => v.category) := by
      rw [List.map_map]; apply List.map_congr_left; intro v _; exact xup_cat cx v
    rw [this]; exact hw
  exact va_mmax C.1 C.2.1 (C.2.2.1.trans hl.1.symm) C.2.2.2.2.2.1 (hts _ hk) (hts _ mq_max.2) (hts _ mini) (hts _ mq_max.1) hr.1 (by omega) hcs.1 hcs.2 hd (k p l e s m args below meth c H locs ls C hH hS hF hl)
theorem X_mmin {cx : xC} {M : xY} {P0 : xP} {Q : Option Value → xP → xT → Prop} {pc pc' idx : Nat} {lv : List (Nat × Value)} {st : List Value} {P : xP} {τ : xT} {x y : Int32} (hd : decode M.2.1 pc = .ok (.invokestatic idx, 3)) (hp : pc + 3 = pc') (hk : Cond.methodLink M.1.cls idx Lib.Math.min.name ∈ xtbl) (hr : 1 ≤ M.2.2.2.2.frames ∧ 21 ≤ M.2.2.2.2.locals) (hcs : P.1 - P0.1 ≤ M.2.2.2.2.cells ∧ P.2.1 - P0.2.1 ≤ M.2.2.2.2.slots) (hw : (st.map fun v => v.category).sum ≤ 8) (k : X cx M P0 Q pc' lv (.int (if y < x then y else x) :: st) P τ) : X cx M P0 Q pc lv (.int y :: .int x :: st) P τ := by
  subst hp
  intro p l e s m args below meth c H locs ls C hH hS hF hl
  have hts := xtbl_hts C.2.2.2.2.2.2.2.1
  have h8 : ((st.map (xup cx)).map fun v => v.category).sum ≤ 8 := by
    have : (st.map (xup cx)).map (fun v => v.category) = st.map (fun v => v.category) := by
      rw [List.map_map]; apply List.map_congr_left; intro v _; exact xup_cat cx v
    rw [this]; exact hw
  exact va_mmin C.1 C.2.1 (C.2.2.1.trans hl.1.symm) C.2.2.2.2.2.1 (hts _ hk) (hts _ mq_min.2) (hts _ mini) (hts _ mq_min.1) hr.1 (by omega) hcs.1 hcs.2 hd (k p l e s m args below meth c H locs ls C hH hS hF hl)
theorem X_mabs {cx : xC} {M : xY} {P0 : xP} {Q : Option Value → xP → xT → Prop} {pc pc' idx : Nat} {lv : List (Nat × Value)} {st : List Value} {P : xP} {τ : xT} {x : Int64} (hd : decode M.2.1 pc = .ok (.invokestatic idx, 3)) (hp : pc + 3 = pc') (hk : Cond.methodLink M.1.cls idx Lib.MathLoose.abs_long.x ∈ xtbl) (hr : 1 ≤ M.2.2.2.2.frames ∧ 21 ≤ M.2.2.2.2.locals) (hcs : P.1 - P0.1 ≤ M.2.2.2.2.cells ∧ P.2.1 - P0.2.1 ≤ M.2.2.2.2.slots) (hw : (st.map fun v => v.category).sum ≤ 8) (k : X cx M P0 Q pc' lv (.long (if 0 < x then x else -x) :: st) P τ) : X cx M P0 Q pc lv (.long x :: st) P τ := by
  subst hp
  intro p l e s m args below meth c H locs ls C hH hS hF hl
  have hts := xtbl_hts C.2.2.2.2.2.2.2.1
  have h8 : ((st.map (xup cx)).map fun v => v.category).sum ≤ 8 := by
    have : (st.map (xup cx)).map (fun v => v.category) = st.map (fun v => v.category) := by
      rw [List.map_map]; apply List.map_congr_left; intro v _; exact xup_cat cx v
    rw [this]; exact hw
  exact va_mabs_long C.1 C.2.1 (C.2.2.1.trans hl.1.symm) C.2.2.2.2.2.1 (hts _ hk) (hts _ mq_abs.2) (hts _ mini) (hts _ mq_abs.1) hr.1 (by omega) hcs.1 hcs.2 hd (k p l e s m args below meth c H locs ls C hH hS hF hl)
end
section
/-! ===== calls of methods that change nothing ===== -/
section XPu
variable {cx : xC} {M : xY} {pc pc' : Nat} {lv : List (Nat × Value)} {st : List Value} {P : xP} {τ : xT}
variable {Q : Option Value → xP → xT → Prop} {M' : xY} {As rest : List Value} {idx : Nat}
theorem X_SIp {v : Int32} (hd : decode M.2.1 pc = .ok (.invokestatic idx, 3)) (hp : pc + 3 = pc') (hm : xMt M' As.length) (hl : Cond.methodLink M.1.cls idx M'.1 ∈ xtbl) (hst : Cond.static M'.1 ∈ xtbl) (hrm : xRm M M') (h1 : M'.2.2.2.2.cells = 0) (h2 : M'.2.2.2.2.slots = 0) (hw : (rest.map fun v => v.category).sum ≤ 8) (hC : CI cx M' As P τ (fun x τ' => τ' = τ ∧ x = v)) (k : X cx M P Q pc' lv (.int v :: rest) P τ) : X cx M P Q pc lv (As.reverse ++ rest) P τ :=
  X_SI hd hp hm hl hst hrm h1 h2 hw hC (fun x τ' h => by obtain ⟨rfl, rfl⟩ := h; exact k)
theorem X_SLp {v : Int64} (hd : decode M.2.1 pc = .ok (.invokestatic idx, 3)) (hp : pc + 3 = pc') (hm : xMt M' As.length) (hl : Cond.methodLink M.1.cls idx M'.1 ∈ xtbl) (hst : Cond.static M'.1 ∈ xtbl) (hrm : xRm M M') (h1 : M'.2.2.2.2.cells = 0) (h2 : M'.2.2.2.2.slots = 0) (hw : (rest.map fun v => v.category).sum ≤ 8) (hC : CL cx M' As P τ (fun x τ' => τ' = τ ∧ x = v)) (k : X cx M P Q pc' lv (.long v :: rest) P τ) : X cx M P Q pc lv (As.reverse ++ rest) P τ :=
  X_SL hd hp hm hl hst hrm h1 h2 hw hC (fun x τ' h => by obtain ⟨rfl, rfl⟩ := h; exact k)
theorem X_NIp {v : Int32} (hd : decode M.2.1 pc = .ok (.invokestatic idx, 3)) (hp : pc + 3 = pc') (hm : xMt M' As.length) {host : String} (hl : (M.1.cls, idx, M'.1, host) ∈ xnM) (hst : Cond.static M'.1 ∈ xtbl) (hrm : xRm M M') (h1 : M'.2.2.2.2.cells = 0) (h2 : M'.2.2.2.2.slots = 0) (hw : (rest.map fun v => v.category).sum ≤ 8) (hC : CI cx M' As P τ (fun x τ' => τ' = τ ∧ x = v)) (k : X cx M P Q pc' lv (.int v :: rest) P τ) : X cx M P Q pc lv (As.reverse ++ rest) P τ :=
  X_NI hd hp hm hl hst hrm h1 h2 hw hC (fun x τ' h => by obtain ⟨rfl, rfl⟩ := h; exact k)
theorem X_NLp {v : Int64} (hd : decode M.2.1 pc = .ok (.invokestatic idx, 3)) (hp : pc + 3 = pc') (hm : xMt M' As.length) {host : String} (hl : (M.1.cls, idx, M'.1, host) ∈ xnM) (hst : Cond.static M'.1 ∈ xtbl) (hrm : xRm M M') (h1 : M'.2.2.2.2.cells = 0) (h2 : M'.2.2.2.2.slots = 0) (hw : (rest.map fun v => v.category).sum ≤ 8) (hC : CL cx M' As P τ (fun x τ' => τ' = τ ∧ x = v)) (k : X cx M P Q pc' lv (.long v :: rest) P τ) : X cx M P Q pc lv (As.reverse ++ rest) P τ :=
  X_NL hd hp hm hl hst hrm h1 h2 hw hC (fun x τ' h => by obtain ⟨rfl, rfl⟩ := h; exact k)
theorem X_OIp {v : Int32} (hd : decode M.2.1 pc = .ok (.invokevirtual idx, 3)) (hp : pc + 3 = pc') (hm : xMt M' As.length) {b ci : Nat} {fks : List Nat} (hl : Cond.methodLink M.1.cls idx M'.1 ∈ xtbl) (hst : Cond.instanceMethod M'.1 ∈ xtbl ∧ Cond.selects M'.1.cls M'.1 M'.1 ∈ xtbl) (hb : xO P b ci fks) (hcl : vwCl[ci]?.map (fun q => q.1) = some M'.1.cls) (hrm : xRm M M') (h1 : M'.2.2.2.2.cells = 0) (h2 : M'.2.2.2.2.slots = 0) (hw : (rest.map fun v => v.category).sum ≤ 8) (hC : CI cx M' (.ref b :: As) P τ (fun x τ' => τ' = τ ∧ x = v)) (k : X cx M P Q pc' lv (.int v :: rest) P τ) : X cx M P Q pc lv (As.reverse ++ .ref b :: rest) P τ :=
  X_OI hd hp hm hl hst hb hcl hrm h1 h2 hw hC (fun x τ' h => by obtain ⟨rfl, rfl⟩ := h; exact k)
theorem X_OLp {v : Int64} (hd : decode M.2.1 pc = .ok (.invokevirtual idx, 3)) (hp : pc + 3 = pc') (hm : xMt M' As.length) {b ci : Nat} {fks : List Nat} (hl : Cond.methodLink M.1.cls idx M'.1 ∈ xtbl) (hst : Cond.instanceMethod M'.1 ∈ xtbl ∧ Cond.selects M'.1.cls M'.1 M'.1 ∈ xtbl) (hb : xO P b ci fks) (hcl : vwCl[ci]?.map (fun q => q.1) = some M'.1.cls) (hrm : xRm M M') (h1 : M'.2.2.2.2.cells = 0) (h2 : M'.2.2.2.2.slots = 0) (hw : (rest.map fun v => v.category).sum ≤ 8) (hC : CL cx M' (.ref b :: As) P τ (fun x τ' => τ' = τ ∧ x = v)) (k : X cx M P Q pc' lv (.long v :: rest) P τ) : X cx M P Q pc lv (As.reverse ++ .ref b :: rest) P τ :=
  X_OL hd hp hm hl hst hb hcl hrm h1 h2 hw hC (fun x τ' h => by obtain ⟨rfl, rfl⟩ := h; exact k)
end XPu
theorem xmin_nI {a b : Nat} (ha : a < 2 ^ 31) (hb : b < 2 ^ 31) : (if nI b < nI a then nI b else nI a) = nI (min a b) := by
  by_cases h : b < a
  · rw [if_pos (nI_lt h ha), Nat.min_eq_right (by omega)]
  · rw [if_neg (nI_nlt (by omega) hb), Nat.min_eq_left (by omega)]
theorem xpos_nI {a : Nat} (ha : a < 2 ^ 31) (h : ¬ nI a ≤ 0) : 0 < a := by
  rcases Nat.eq_zero_or_pos a with q | q
  · subst q; exact absurd (by decide) h
  · exact q
theorem xpos_nI' {a : Nat} (h : 0 < a) (ha : a < 2 ^ 31) (h2 : nI a ≤ 0) : False := nI_nle h ha h2
end
section
/-! ===== the JDK's own, and the standings ===== -/
section ST
variable (cx : xC)
set_option maxHeartbeats 4000000
set_option maxRecDepth 100000
theorem bc64 : ∀ s, s < 64 → (fun x0 : Int32 => (fun x1 : Int32 => (fun x2 : Int32 => (fun x3 : Int32 => (fun x4 : Int32 => (fun x5 : Int32 => x5 &&& nI 63) (x4 + (x4.toUInt32 >>> ((nI 16).toUInt32 &&& Int32.toUInt32 31)).toInt32)) (x3 + (x3.toUInt32 >>> ((nI 8).toUInt32 &&& Int32.toUInt32 31)).toInt32)) ((x2 + (x2.toUInt32 >>> ((nI 4).toUInt32 &&& Int32.toUInt32 31)).toInt32) &&& 252645135)) ((x1 &&& 858993459) + ((x1.toUInt32 >>> ((nI 2).toUInt32 &&& Int32.toUInt32 31)).toInt32 &&& 858993459))) (x0 - ((x0.toUInt32 >>> ((nI 1).toUInt32 &&& Int32.toUInt32 31)).toInt32 &&& 1431655765))) (nI s) = nI (ones s) := by decide +kernel
theorem c_bc {P : xP} (τ : xT) (s : Nat) (hs : s < 64) : CI cx m_J6_bitCount_0f7a4 [.int (nI s)] P τ (fun x τ' => τ' = τ ∧ x = nI (ones s)) := by
  refine Ct_of (by decide) (Nat.le_of_ble_eq_true rfl) (lv := [(0, _)]) rfl ?_
  refine X_iload_n (i := 0) (pc' := 1) dJ6_bitCount_0f7a4_0 rfl rfl rfl ?_
  refine X_iload_n (i := 0) (pc' := 2) dJ6_bitCount_0f7a4_1 rfl rfl rfl ?_
  refine X_iconst (pc' := 3) (v := nI 1) dJ6_bitCount_0f7a4_2 rfl (by decide) ?_
  refine X_iushr (pc' := 4) dJ6_bitCount_0f7a4_3 rfl ?_
  refine X_ldcw (pc' := 7) (v := (1431655765 : Int32)) dJ6_bitCount_0f7a4_4 rfl cn_J6_265 ?_
  refine X_iand (pc' := 8) dJ6_bitCount_0f7a4_7 rfl ?_
  refine X_isub (pc' := 9) dJ6_bitCount_0f7a4_8 rfl ?_
  refine X_istore_n (i := 0) (pc' := 10) (lv' := [(0, _)]) dJ6_bitCount_0f7a4_9 rfl rfl (Nat.le_of_ble_eq_true rfl) rfl ?_
  refine X_iload_n (i := 0) (pc' := 11) dJ6_bitCount_0f7a4_10 rfl rfl rfl ?_
  refine X_ldcw (pc' := 14) (v := (858993459 : Int32)) dJ6_bitCount_0f7a4_11 rfl cn_J6_266 ?_
  refine X_iand (pc' := 15) dJ6_bitCount_0f7a4_14 rfl ?_
  refine X_iload_n (i := 0) (pc' := 16) dJ6_bitCount_0f7a4_15 rfl rfl rfl ?_
  refine X_iconst (pc' := 17) (v := nI 2) dJ6_bitCount_0f7a4_16 rfl (by decide) ?_
  refine X_iushr (pc' := 18) dJ6_bitCount_0f7a4_17 rfl ?_
  refine X_ldcw (pc' := 21) (v := (858993459 : Int32)) dJ6_bitCount_0f7a4_18 rfl cn_J6_266 ?_
  refine X_iand (pc' := 22) dJ6_bitCount_0f7a4_21 rfl ?_
  refine X_iadd (pc' := 23) dJ6_bitCount_0f7a4_22 rfl ?_
  refine X_istore_n (i := 0) (pc' := 24) (lv' := [(0, _)]) dJ6_bitCount_0f7a4_23 rfl rfl (Nat.le_of_ble_eq_true rfl) rfl ?_
  refine X_iload_n (i := 0) (pc' := 25) dJ6_bitCount_0f7a4_24 rfl rfl rfl ?_
  refine X_iload_n (i := 0) (pc' := 26) dJ6_bitCount_0f7a4_25 rfl rfl rfl ?_
  refine X_iconst (pc' := 27) (v := nI 4) dJ6_bitCount_0f7a4_26 rfl (by decide) ?_
  refine X_iushr (pc' := 28) dJ6_bitCount_0f7a4_27 rfl ?_
  refine X_iadd (pc' := 29) dJ6_bitCount_0f7a4_28 rfl ?_
  refine X_ldcw (pc' := 32) (v := (252645135 : Int32)) dJ6_bitCount_0f7a4_29 rfl cn_J6_267 ?_
  refine X_iand (pc' := 33) dJ6_bitCount_0f7a4_32 rfl ?_
  refine X_istore_n (i := 0) (pc' := 34) (lv' := [(0, _)]) dJ6_bitCount_0f7a4_33 rfl rfl (Nat.le_of_ble_eq_true rfl) rfl ?_
  refine X_iload_n (i := 0) (pc' := 35) dJ6_bitCount_0f7a4_34 rfl rfl rfl ?_
  refine X_iload_n (i := 0) (pc' := 36) dJ6_bitCount_0f7a4_35 rfl rfl rfl ?_
  refine X_bipush (pc' := 38) (v := nI 8) dJ6_bitCount_0f7a4_36 rfl (by decide) ?_
  refine X_iushr (pc' := 39) dJ6_bitCount_0f7a4_38 rfl ?_
  refine X_iadd (pc' := 40) dJ6_bitCount_0f7a4_39 rfl ?_
  refine X_istore_n (i := 0) (pc' := 41) (lv' := [(0, _)]) dJ6_bitCount_0f7a4_40 rfl rfl (Nat.le_of_ble_eq_true rfl) rfl ?_
  refine X_iload_n (i := 0) (pc' := 42) dJ6_bitCount_0f7a4_41 rfl rfl rfl ?_
  refine X_iload_n (i := 0) (pc' := 43) dJ6_bitCount_0f7a4_42 rfl rfl rfl ?_
  refine X_bipush (pc' := 45) (v := nI 16) dJ6_bitCount_0f7a4_43 rfl (by decide) ?_
  refine X_iushr (pc' := 46) dJ6_bitCount_0f7a4_45 rfl ?_
  refine X_iadd (pc' := 47) dJ6_bitCount_0f7a4_46 rfl ?_
  refine X_istore_n (i := 0) (pc' := 48) (lv' := [(0, _)]) dJ6_bitCount_0f7a4_47 rfl rfl (Nat.le_of_ble_eq_true rfl) rfl ?_
  refine X_iload_n (i := 0) (pc' := 49) dJ6_bitCount_0f7a4_48 rfl rfl rfl ?_
  refine X_bipush (pc' := 51) (v := nI 63) dJ6_bitCount_0f7a4_49 rfl (by decide) ?_
  refine X_iand (pc' := 52) dJ6_bitCount_0f7a4_51 rfl ?_
  refine X_ri dJ6_bitCount_0f7a4_52 rfl ⟨rfl, rfl⟩ ?_
  exact ⟨rfl, bc64 s hs⟩
theorem c_fillI {P : xP} (τ : xT) {a n : Nat} (ha : xR P a 0 n) (v : Int32) : CV cx m_J7_fill_53178 [.ref a, .int v] P τ (fun τ' => xeq [a] τ τ' ∧ ∀ i, i < n → τ'.1 a i = v) := by
  have hn := ha.2.2
  refine Ct_of (by decide) (Nat.le_of_ble_eq_true rfl) (lv := [(0, _), (1, _)]) rfl ?_
  have hl : ∀ (j : Nat) (τ' : xT), j ≤ n → (xeq [a] τ τ' ∧ ∀ i, i < j → τ'.1 a i = v) → X cx m_J7_fill_53178 P (qV P (fun τ' => xeq [a] τ τ' ∧ ∀ i, i < n → τ'.1 a i = v)) 5 [(2, .int (nI j)), (3, .int (nI n)), (0, .ref a), (1, .int v)] [] P τ' := by
    refine xloop _ _ n (fun τ' h => ?_) (fun j τ' hj h ih => ?_)
    · refine X_iload_n (i := 2) (pc' := 6) dJ7_fill_53178_5 rfl rfl rfl ?_
      refine X_iload_n (i := 3) (pc' := 7) dJ7_fill_53178_6 rfl rfl rfl ?_
      refine X_icmp_ge (pc' := 10) (tgt := 20) dJ7_fill_53178_7 rfl (by decide) (fun h_7 => ?_) (fun h_7 => absurd (nI_le (Nat.le_refl _) (by omega)) h_7)
      refine X_rv dJ7_fill_53178_20 rfl ⟨rfl, rfl⟩ ?_
      exact h
    · refine X_iload_n (i := 2) (pc' := 6) dJ7_fill_53178_5 rfl rfl rfl ?_
      refine X_iload_n (i := 3) (pc' := 7) dJ7_fill_53178_6 rfl rfl rfl ?_
      refine X_icmp_ge (pc' := 10) (tgt := 20) dJ7_fill_53178_7 rfl (by decide) (fun h_7 => absurd h_7 (nI_ge hj (by omega))) (fun h_7 => ?_)
      refine X_aload_n (i := 0) (pc' := 11) dJ7_fill_53178_10 rfl rfl rfl ?_
      refine X_iload_n (i := 2) (pc' := 12) dJ7_fill_53178_11 rfl rfl rfl ?_
      refine X_iload_n (i := 1) (pc' := 13) dJ7_fill_53178_12 rfl rfl rfl ?_
      refine X_iast (pc' := 14) (j := j) dJ7_fill_53178_13 rfl ha (rfl) (hj) ?_
      refine X_iinc (pc' := 17) (v := nI (j + 1)) (lv' := [(2, _), (3, _), (0, _), (1, _)]) dJ7_fill_53178_14 rfl rfl ((nI_succ j).symm) (Nat.le_of_ble_eq_true rfl) rfl ?_
      refine X_goto (pc' := 0) (tgt := 5) dJ7_fill_53178_17 (by decide) ?_
      refine ih _ ⟨h.1.si (by simp), fun i hi => ?_⟩
      rw [xsi_self]
      by_cases hij : i = j
      · subst hij; rw [pk_us]
      · rw [pk_un hij]; exact h.2 i (by omega)
  refine X_iconst (pc' := 1) (v := nI 0) dJ7_fill_53178_0 rfl (by decide) ?_
  refine X_istore_n (i := 2) (pc' := 2) (lv' := [(2, _), (0, _), (1, _)]) dJ7_fill_53178_1 rfl rfl (Nat.le_of_ble_eq_true rfl) rfl ?_
  refine X_aload_n (i := 0) (pc' := 3) dJ7_fill_53178_2 rfl rfl rfl ?_
  refine X_alen (pc' := 4) dJ7_fill_53178_3 rfl (Or.inl ⟨ha, by decide⟩) ?_
  refine X_istore_n (i := 3) (pc' := 5) (lv' := [(3, _), (2, _), (0, _), (1, _)]) dJ7_fill_53178_4 rfl rfl (Nat.le_of_ble_eq_true rfl) rfl ?_
  exact X_lv _ (by simp) (hl 0 τ (by omega) ⟨xeq.rf, fun i hi => absurd hi (by omega)⟩)
theorem c_fillJ {P : xP} (τ : xT) {a n : Nat} (ha : xR P a 1 n) (v : Int64) : CV cx m_J7_fill_d0a16 [.ref a, .long v] P τ (fun τ' => xeq [a] τ τ' ∧ ∀ i, i < n → τ'.2.1 a i = v) := by
  have hn := ha.2.2
  refine Ct_of (by decide) (Nat.le_of_ble_eq_true rfl) (lv := [(0, _), (1, _)]) rfl ?_
  have hl : ∀ (j : Nat) (τ' : xT), j ≤ n → (xeq [a] τ τ' ∧ ∀ i, i < j → τ'.2.1 a i = v) → X cx m_J7_fill_d0a16 P (qV P (fun τ' => xeq [a] τ τ' ∧ ∀ i, i < n → τ'.2.1 a i = v)) 6 [(3, .int (nI j)), (4, .int (nI n)), (0, .ref a), (1, .long v)] [] P τ' := by
    refine xloop _ _ n (fun τ' h => ?_) (fun j τ' hj h ih => ?_)
    · refine X_iload_n (i := 3) (pc' := 7) dJ7_fill_d0a16_6 rfl rfl rfl ?_
      refine X_iload (pc' := 9) dJ7_fill_d0a16_7 rfl rfl ?_
      refine X_icmp_ge (pc' := 12) (tgt := 22) dJ7_fill_d0a16_9 rfl (by decide) (fun h_9 => ?_) (fun h_9 => absurd (nI_le (Nat.le_refl _) (by omega)) h_9)
      refine X_rv dJ7_fill_d0a16_22 rfl ⟨rfl, rfl⟩ ?_
      exact h
    · refine X_iload_n (i := 3) (pc' := 7) dJ7_fill_d0a16_6 rfl rfl rfl ?_
      refine X_iload (pc' := 9) dJ7_fill_d0a16_7 rfl rfl ?_
      refine X_icmp_ge (pc' := 12) (tgt := 22) dJ7_fill_d0a16_9 rfl (by decide) (fun h_9 => absurd h_9 (nI_ge hj (by omega))) (fun h_9 => ?_)
      refine X_aload_n (i := 0) (pc' := 13) dJ7_fill_d0a16_12 rfl rfl rfl ?_
      refine X_iload_n (i := 3) (pc' := 14) dJ7_fill_d0a16_13 rfl rfl rfl ?_
      refine X_lload_n (i := 1) (pc' := 15) dJ7_fill_d0a16_14 rfl rfl rfl ?_
      refine X_last (pc' := 16) (j := j) dJ7_fill_d0a16_15 rfl ha (rfl) (hj) ?_
      refine X_iinc (pc' := 19) (v := nI (j + 1)) (lv' := [(3, _), (4, _), (0, _), (1, _)]) dJ7_fill_d0a16_16 rfl rfl ((nI_succ j).symm) (Nat.le_of_ble_eq_true rfl) rfl ?_
      refine X_goto (pc' := 0) (tgt := 6) dJ7_fill_d0a16_19 (by decide) ?_
      refine X_lv [(3, .int (nI (j + 1))), (4, .int (nI n)), (0, .ref a), (1, .long v)] (by simp) (ih _ ⟨h.1.sl (by simp), fun i hi => ?_⟩)
      rw [xsl_self]
      by_cases hij : i = j
      · subst hij; rw [pk_uLs]
      · rw [pk_uLn hij]; exact h.2 i (by omega)
  refine X_iconst (pc' := 1) (v := nI 0) dJ7_fill_d0a16_0 rfl (by decide) ?_
  refine X_istore_n (i := 3) (pc' := 2) (lv' := [(3, _), (0, _), (1, _)]) dJ7_fill_d0a16_1 rfl rfl (Nat.le_of_ble_eq_true rfl) rfl ?_
  refine X_aload_n (i := 0) (pc' := 3) dJ7_fill_d0a16_2 rfl rfl rfl ?_
  refine X_alen (pc' := 4) dJ7_fill_d0a16_3 rfl (Or.inl ⟨ha, by decide⟩) ?_
  refine X_istore (pc' := 6) (lv' := [(4, _), (3, _), (0, _), (1, _)]) dJ7_fill_d0a16_4 rfl (Nat.le_of_ble_eq_true rfl) rfl ?_
  exact X_lv _ (by simp) (hl 0 τ (by omega) ⟨xeq.rf, fun i hi => absurd hi (by omega)⟩)
end ST
end
section
/-! ===== the standings' methods ===== -/
theorem st_apart : ∀ k ∈ stW, ∀ j ∈ stW, k ≠ j → k + 3 ≤ j ∨ j + 3 ≤ k := by decide +kernel
section SD
variable (cx : xC)
set_option maxHeartbeats 4000000
set_option maxRecDepth 100000
theorem c_take (τ : xT) {k j : Nat} (hk : k ∈ stW) (hj : j ∈ stW) (hne : k ≠ j) : CV cx m_X2_take [.ref k, .ref j] PW τ (fun τ' => xeq [k, k + 1, k + 2] τ τ' ∧ (∀ i, i < 5 → τ'.1 k i = τ.1 j i) ∧ (∀ i, i < 6 → τ'.1 (k + 1) i = τ.1 (j + 1) i) ∧ ∀ i, i < 6 → τ'.1 (k + 2) i = τ.1 (j + 2) i) := by
  have hap := st_apart k hk j hj hne
  have a1 : j ≠ k := by omega
  have a2 : j + 1 ≠ k := by omega
  have a3 : j + 2 ≠ k := by omega
  refine Ct_of (by decide) (Nat.le_of_ble_eq_true rfl) (lv := [(0, _), (1, _)]) rfl ?_
  refine X_aload_n (i := 1) (pc' := 1) dX2_take_0 rfl rfl rfl ?_
  refine X_ifnonnull (pc' := 0) (tgt := 5) dX2_take_1 (by decide) ?_
  refine X_aload_n (i := 0) (pc' := 6) dX2_take_5 rfl rfl rfl ?_
  refine X_aload_n (i := 1) (pc' := 7) dX2_take_6 rfl rfl rfl ?_
  refine X_get (pc' := 10) (v := .int _) dX2_take_7 rfl (gf_X2_18 _ rfl) (st_o hj) rfl rfl ?_
  refine X_putI (pc' := 13) dX2_take_10 rfl (pf_X2_18 _ rfl) (st_o hk) rfl ?_
  refine X_aload_n (i := 0) (pc' := 14) dX2_take_13 rfl rfl rfl ?_
  refine X_aload_n (i := 1) (pc' := 15) dX2_take_14 rfl rfl rfl ?_
  refine X_get (pc' := 18) (v := .int _) dX2_take_15 rfl (gf_X2_22 _ rfl) (st_o hj) rfl rfl ?_
  refine X_putI (pc' := 21) dX2_take_18 rfl (pf_X2_22 _ rfl) (st_o hk) rfl ?_
  refine X_aload_n (i := 0) (pc' := 22) dX2_take_21 rfl rfl rfl ?_
  refine X_aload_n (i := 1) (pc' := 23) dX2_take_22 rfl rfl rfl ?_
  refine X_get (pc' := 26) (v := .int _) dX2_take_23 rfl (gf_X2_25 _ rfl) (st_o hj) rfl rfl ?_
  refine X_putI (pc' := 29) dX2_take_26 rfl (pf_X2_25 _ rfl) (st_o hk) rfl ?_
  refine X_aload_n (i := 0) (pc' := 30) dX2_take_29 rfl rfl rfl ?_
  refine X_aload_n (i := 1) (pc' := 31) dX2_take_30 rfl rfl rfl ?_
  refine X_get (pc' := 34) (v := .int _) dX2_take_31 rfl (gf_X2_28 _ rfl) (st_o hj) rfl rfl ?_
  refine X_putI (pc' := 37) dX2_take_34 rfl (pf_X2_28 _ rfl) (st_o hk) rfl ?_
  refine X_aload_n (i := 0) (pc' := 38) dX2_take_37 rfl rfl rfl ?_
  refine X_aload_n (i := 1) (pc' := 39) dX2_take_38 rfl rfl rfl ?_
  refine X_get (pc' := 42) (v := .int _) dX2_take_39 rfl (gf_X2_31 _ rfl) (st_o hj) rfl rfl ?_
  refine X_putI (pc' := 45) dX2_take_42 rfl (pf_X2_31 _ rfl) (st_o hk) rfl ?_
  generalize hτa : (xsi _ _ _ _) = τa
  have e1 : xeq [k] τ τa := by rw [← hτa]; exact ((((xeq.rf.si (by simp)).si (by simp)).si (by simp)).si (by simp)).si (by simp)
  have e2 : ∀ i, i < 5 → τa.1 k i = τ.1 j i := by
    intro i hi
    rw [← hτa]
    have hi2 : i = 0 ∨ i = 1 ∨ i = 2 ∨ i = 3 ∨ i = 4 := by omega
    rcases hi2 with rfl | rfl | rfl | rfl | rfl <;> simp [xsi, upd, a1]
  refine X_aload_n (i := 1) (pc' := 46) dX2_take_45 rfl rfl rfl ?_
  refine X_get (pc' := 49) (v := .ref (j + 1)) dX2_take_46 rfl (gf_X2_9 _ rfl) (st_o hj) rfl rfl ?_
  refine X_aload_n (i := 0) (pc' := 50) dX2_take_49 rfl rfl rfl ?_
  refine X_get (pc' := 53) (v := .ref (k + 1)) dX2_take_50 rfl (gf_X2_9 _ rfl) (st_o hk) rfl rfl ?_
  refine X_NV (As := [_, _]) (rest := []) (pc' := 56) dX2_take_53 rfl k_X4_copyRow l_X2_43 s_X4_copyRow ⟨by decide, by decide⟩ rfl rfl (Nat.le_of_ble_eq_true rfl) (c_X4_copyRow cx τa (st_w hj) (st_w hk) (by omega)) (fun τ_53 h_53 => ?_)
  refine X_aload_n (i := 1) (pc' := 57) dX2_take_56 rfl rfl rfl ?_
  refine X_get (pc' := 60) (v := .ref (j + 2)) dX2_take_57 rfl (gf_X2_15 _ rfl) (st_o hj) rfl rfl ?_
  refine X_aload_n (i := 0) (pc' := 61) dX2_take_60 rfl rfl rfl ?_
  refine X_get (pc' := 64) (v := .ref (k + 2)) dX2_take_61 rfl (gf_X2_15 _ rfl) (st_o hk) rfl rfl ?_
  refine X_NV (As := [_, _]) (rest := []) (pc' := 67) dX2_take_64 rfl k_X4_copyRow l_X2_43 s_X4_copyRow ⟨by decide, by decide⟩ rfl rfl (Nat.le_of_ble_eq_true rfl) (c_X4_copyRow cx τ_53 (st_c hj) (st_c hk) (by omega)) (fun τ_64 h_64 => ?_)
  refine X_rv dX2_take_67 rfl ⟨rfl, rfl⟩ ?_
  refine ⟨(e1.mono (by simp)).tr ((h_53.1.mono (by simp)).tr (h_64.1.mono (by simp))), fun i hi => ?_, fun i hi => ?_, fun i hi => ?_⟩
  · rw [(h_64.1 k (by simp)).1, (h_53.1 k (by simp)).1]; exact e2 i hi
  · rw [(h_64.1 (k + 1) (by simp)).1, h_53.2 i hi, (e1 (j + 1) (by simp; omega)).1]
  · rw [h_64.2 i hi, (h_53.1 (j + 2) (by simp; omega)).1, (e1 (j + 2) (by simp; omega)).1]
theorem SR_take {τ τ' : xT} {k j n : Nat} {s : SN} (hn : n ≤ 6) (h : SR τ j n s) (h1 : ∀ i, i < 5 → τ'.1 k i = τ.1 j i) (h2 : ∀ i, i < 6 → τ'.1 (k + 1) i = τ.1 (j + 1) i) (h3 : ∀ i, i < 6 → τ'.1 (k + 2) i = τ.1 (j + 2) i) : SR τ' k n s := by
  obtain ⟨q0, q1, q2, q3, q4, q5, q6⟩ := h
  exact ⟨(h1 0 (by decide)).trans q0, (h1 1 (by decide)).trans q1, (h1 2 (by decide)).trans q2, (h1 3 (by decide)).trans q3, (h1 4 (by decide)).trans q4, fun i hi => (h2 i (by omega)).trans (q5 i hi), fun i hi => (h3 i (by omega)).trans (q6 i hi)⟩
theorem ct_take (τ : xT) {k j n : Nat} {s : SN} (hk : k ∈ stW) (hj : j ∈ stW) (hne : k ≠ j) (hn : n ≤ 6) (h : SR τ j n s) : CV cx m_X2_take [.ref k, .ref j] PW τ (fun τ' => xeq [k, k + 1, k + 2] τ τ' ∧ SR τ' k n s) :=
  Ct.weaken (c_take cx τ hk hj hne) (fun r P' τ' q => by
    obtain ⟨q1, q2, q3, q4, q5, q6⟩ := q
    exact ⟨q1, q2, q3, SR_take hn h q4 q5 q6⟩)
theorem c_passDay (τ : xT) {k n m : Nat} {s : SN} {P : PT} (hk : k ∈ stW) (hP : Pok P) (hn : pn P = n) (h : SR τ k n s) (ho : Sok P m s) (hm : m < 10000) : CV cx m_X2_passDay [.ref k, .int (nI n)] PW τ (fun τ' => xeq [k, k + 1, k + 2] τ τ' ∧ SR τ' k n (pass s)) := by
  subst hn
  have hn6 := hP.1
  have h26 := two6 hP
  obtain ⟨q0, q1, q2, q3, q4, q5, q6⟩ := h
  obtain ⟨o0, o1, o2, o3, o4, o5, o6⟩ := ho
  refine Ct_of (by decide) (Nat.le_of_ble_eq_true rfl) (lv := [(0, _), (1, _)]) rfl ?_
  have hl : ∀ (j : Nat) (τ' : xT), j ≤ pn P → (xeq [k + 1, k + 2] τ τ' ∧ (∀ i, i < pn P → τ'.1 (k + 1) i = nI (if i < j then sWt (pass s) i else sWt s i)) ∧ ∀ i, i < pn P → τ'.1 (k + 2) i = nI (if i < j then sCk (pass s) i else sCk s i)) → X cx m_X2_passDay PW (qV PW (fun τ' => xeq [k, k + 1, k + 2] τ τ' ∧ SR τ' k (pn P) (pass s))) 2 [(2, .int (nI j)), (0, .ref k), (1, .int (nI (pn P)))] [] PW τ' := by
    refine xloop _ _ (pn P) (fun τ' h => ?_) (fun j τ' hj h ih => ?_)
    · have e0 := (h.1 k (by simp)).1
      refine X_iload_n (i := 2) (pc' := 3) dX2_passDay_2 rfl rfl rfl ?_
      refine X_iload_n (i := 1) (pc' := 4) dX2_passDay_3 rfl rfl rfl ?_
      refine X_icmp_ge (pc' := 7) (tgt := 77) dX2_passDay_4 rfl (by decide) (fun h_4 => ?_) (fun h_4 => absurd (nI_le (Nat.le_refl _) (by omega)) h_4)
      refine X_aload_n (i := 0) (pc' := 78) dX2_passDay_77 rfl rfl rfl ?_
      refine X_dup (pc' := 79) dX2_passDay_78 rfl rfl ?_
      refine X_get (pc' := 82) (v := .int _) dX2_passDay_79 rfl (gf_X2_18 _ rfl) (st_o hk) rfl rfl ?_
      refine X_iconst (pc' := 83) (v := nI 1) dX2_passDay_82 rfl (by decide) ?_
      refine X_iadd (pc' := 84) dX2_passDay_83 rfl ?_
      refine X_eqi (nI (sDy s + 1)) (by show τ'.1 k 0 + nI 1 = _; rw [e0, q0, nI_add]) ?_
      refine X_putI (pc' := 87) dX2_passDay_84 rfl (pf_X2_18 _ rfl) (st_o hk) rfl ?_
      refine X_aload_n (i := 0) (pc' := 88) dX2_passDay_87 rfl rfl rfl ?_
      refine X_iconst (pc' := 89) (v := nI 0) dX2_passDay_88 rfl (by decide) ?_
      refine X_putI (pc' := 92) dX2_passDay_89 rfl (pf_X2_25 _ rfl) (st_o hk) rfl ?_
      refine X_rv dX2_passDay_92 rfl ⟨rfl, rfl⟩ ?_
      refine ⟨((h.1.mono (by simp)).si (by simp)).si (by simp), ?_⟩
      refine ⟨by simp [xsi, upd, pass], by simp [xsi, upd, e0, q1, pass], by simp [xsi, upd, pass], by simp [xsi, upd, e0, q3, pass], by simp [xsi, upd, e0, q4, pass], fun i hi => ?_, fun i hi => ?_⟩
      · rw [xsi_ne _ _ _ (by omega), xsi_ne _ _ _ (by omega), h.2.1 i hi, if_pos hi]
      · rw [xsi_ne _ _ _ (by omega), xsi_ne _ _ _ (by omega), h.2.2 i hi, if_pos hi]
    · have e0 := (h.1 k (by simp)).1
      have v1 := h.2.1 j hj
      have v2 := h.2.2 j hj
      rw [if_neg (Nat.lt_irrefl j)] at v1 v2
      have b1 := o5 j hj
      have b2 := o6 j hj
      have fin : ∀ τ2 : xT, xeq [k + 1, k + 2] τ' τ2 → (∀ i, i < pn P → τ2.1 (k + 1) i = if i = j then nI (sWt (pass s) i) else τ'.1 (k + 1) i) → (∀ i, i < pn P → τ2.1 (k + 2) i = if i = j then nI (sCk (pass s) i) else τ'.1 (k + 2) i) → X cx m_X2_passDay PW (qV PW (fun τ' => xeq [k, k + 1, k + 2] τ τ' ∧ SR τ' k (pn P) (pass s))) 2 [(2, .int (nI (j + 1))), (0, .ref k), (1, .int (nI (pn P)))] [] PW τ2 := by
        intro τ2 g1 g2 g3
        refine ih τ2 ⟨h.1.tr g1, fun i hi => ?_, fun i hi => ?_⟩
        · rw [g2 i hi]
          by_cases hij : i = j
          · subst hij; rw [if_pos rfl, if_pos (by omega)]
          · rw [if_neg hij, h.2.1 i hi]; congr 1
            by_cases hlt : i < j
            · rw [if_pos hlt, if_pos (by omega)]
            · rw [if_neg hlt, if_neg (by omega)]
        · rw [g3 i hi]
          by_cases hij : i = j
          · subst hij; rw [if_pos rfl, if_pos (by omega)]
          · rw [if_neg hij, h.2.2 i hi]; congr 1
            by_cases hlt : i < j
            · rw [if_pos hlt, if_pos (by omega)]
            · rw [if_neg hlt, if_neg (by omega)]
      refine X_iload_n (i := 2) (pc' := 3) dX2_passDay_2 rfl rfl rfl ?_
      refine X_iload_n (i := 1) (pc' := 4) dX2_passDay_3 rfl rfl rfl ?_
      refine X_icmp_ge (pc' := 7) (tgt := 77) dX2_passDay_4 rfl (by decide) (fun h_4 => absurd h_4 (nI_ge hj (by omega))) (fun h_4 => ?_)
      refine X_aload_n (i := 0) (pc' := 8) dX2_passDay_7 rfl rfl rfl ?_
      refine X_get (pc' := 11) (v := .int _) dX2_passDay_8 rfl (gf_X2_22 _ rfl) (st_o hk) rfl rfl ?_
      refine X_eqi (nI (sSt s)) (by show τ'.1 k 1 = _; rw [e0, q1]) ?_
      refine X_iload_n (i := 2) (pc' := 12) dX2_passDay_11 rfl rfl rfl ?_
      refine X_NIp (As := [_, _]) (rest := []) (pc' := 15) dX2_passDay_12 rfl k_X4_has l_X2_47 s_X4_has ⟨by decide, by decide⟩ rfl rfl (Nat.le_of_ble_eq_true rfl) (c_X4_has cx τ' (sSt s) j (by omega) (by omega)) ?_
      refine X_if_eq (pc' := 18) (tgt := 21) dX2_passDay_15 rfl (by decide) (fun h_15 => ?_) (fun h_15 => ?_)
      · refine X_aload_n (i := 0) (pc' := 22) dX2_passDay_21 rfl rfl rfl ?_
        refine X_get (pc' := 25) (v := .ref (k + 2)) dX2_passDay_22 rfl (gf_X2_15 _ rfl) (st_o hk) rfl rfl ?_
        refine X_iload_n (i := 2) (pc' := 26) dX2_passDay_25 rfl rfl rfl ?_
        refine X_NIp (As := [_, _]) (rest := []) (pc' := 29) dX2_passDay_26 rfl k_X4_at l_X2_51 s_X4_at ⟨by decide, by decide⟩ rfl rfl (Nat.le_of_ble_eq_true rfl) (c_at_in cx τ' (Or.inl (st_c hk)) (show j < 6 by omega)) ?_
        refine X_eqi (nI (sCk s j)) (v2) ?_
        refine X_istore_n (i := 3) (pc' := 30) (lv' := [(3, _), (2, _), (0, _), (1, _)]) dX2_passDay_29 rfl rfl (Nat.le_of_ble_eq_true rfl) rfl ?_
        refine X_iload_n (i := 3) (pc' := 31) dX2_passDay_30 rfl rfl rfl ?_
        refine X_if_le (pc' := 34) (tgt := 48) dX2_passDay_31 rfl (by decide) (fun h_31 => ?_) (fun h_31 => ?_)
        · refine X_aload_n (i := 0) (pc' := 49) dX2_passDay_48 rfl rfl rfl ?_
          refine X_get (pc' := 52) (v := .ref (k + 1)) dX2_passDay_49 rfl (gf_X2_9 _ rfl) (st_o hk) rfl rfl ?_
          refine X_iload_n (i := 2) (pc' := 53) dX2_passDay_52 rfl rfl rfl ?_
          refine X_bipush (pc' := 55) (v := nI 99) dX2_passDay_53 rfl (by decide) ?_
          refine X_aload_n (i := 0) (pc' := 56) dX2_passDay_55 rfl rfl rfl ?_
          refine X_get (pc' := 59) (v := .ref (k + 1)) dX2_passDay_56 rfl (gf_X2_9 _ rfl) (st_o hk) rfl rfl ?_
          refine X_iload_n (i := 2) (pc' := 60) dX2_passDay_59 rfl rfl rfl ?_
          refine X_NIp (As := [_, _]) (rest := [_, _, _]) (pc' := 63) dX2_passDay_60 rfl k_X4_at l_X2_51 s_X4_at ⟨by decide, by decide⟩ rfl rfl (Nat.le_of_ble_eq_true rfl) (c_at_in cx τ' (Or.inl (st_w hk)) (show j < 6 by omega)) ?_
          refine X_eqi (nI (sWt s j)) (v1) ?_
          refine X_iconst (pc' := 64) (v := nI 1) dX2_passDay_63 rfl (by decide) ?_
          refine X_iadd (pc' := 65) dX2_passDay_64 rfl ?_
          refine X_eqi (nI (sWt s j + 1)) (nI_add _ _) ?_
          refine X_mmin (pc' := 68) dX2_passDay_65 rfl ml_X2_59 ⟨by decide, by decide⟩ ⟨Nat.le_of_eq (Nat.sub_self _), Nat.le_of_eq (Nat.sub_self _)⟩ (Nat.le_of_ble_eq_true rfl) ?_
          refine X_eqi (nI (min 99 (sWt s j + 1))) (xmin_nI (by omega) (by omega)) ?_
          refine X_NV (As := [_, _, _]) (rest := []) (pc' := 71) dX2_passDay_68 rfl k_X4_put l_X2_55 s_X4_put ⟨by decide, by decide⟩ rfl rfl (Nat.le_of_ble_eq_true rfl) (c_X4_put cx τ' (st_w hk) (show j < 6 by omega) _) (fun τ_68 h_68 => ?_)
          refine X_iinc (pc' := 74) (v := nI (j + 1)) (lv' := [(2, _), (3, _), (0, _), (1, _)]) dX2_passDay_71 rfl rfl ((nI_succ j).symm) (Nat.le_of_ble_eq_true rfl) rfl ?_
          refine X_goto (pc' := 0) (tgt := 2) dX2_passDay_74 (by decide) ?_
          first
            | exact X_lv _ (by simp) (fin τ' xeq.rf (fun i hi => by
                have hb : bt (sSt s) j := Classical.not_not.mp (fun q => h_15 (zI_0.mpr q))
                by_cases hij : i = j
                · subst hij; rw [if_pos rfl, v1]; show _ = nI (if bt (sSt s) i then sWt s i else _); rw [if_pos hb]
                · rw [if_neg hij]) (fun i hi => by
                have hb : bt (sSt s) j := Classical.not_not.mp (fun q => h_15 (zI_0.mpr q))
                by_cases hij : i = j
                · subst hij; rw [if_pos rfl, v2]; show _ = nI (if bt (sSt s) i then sCk s i else _); rw [if_pos hb]
                · rw [if_neg hij]))
            | (subst h_42
               exact X_lv _ (by simp) (fin _ (xeq.rf.si (by simp)) (fun i hi => by
                have hb : ¬ bt (sSt s) j := zI_0.mp h_15
                have hc : 0 < sCk s j := xpos_nI (by omega) h_31
                rw [xsi_ne _ _ _ (by omega)]
                by_cases hij : i = j
                · subst hij; rw [if_pos rfl, v1]; show _ = nI (if bt (sSt s) i then sWt s i else if 0 < sCk s i then sWt s i else _); rw [if_neg hb, if_pos hc]
                · rw [if_neg hij]) (fun i hi => by
                have hb : ¬ bt (sSt s) j := zI_0.mp h_15
                rw [xsi_self]
                by_cases hij : i = j
                · subst hij; rw [if_pos rfl, pk_us]; show _ = nI (if bt (sSt s) i then sCk s i else sCk s i - 1); rw [if_neg hb]
                · rw [if_neg hij, pk_un hij])))
            | (subst h_68
               exact X_lv _ (by simp) (fin _ (xeq.rf.si (by simp)) (fun i hi => by
                have hb : ¬ bt (sSt s) j := zI_0.mp h_15
                have hc : ¬ 0 < sCk s j := fun q => xpos_nI' q (by omega) h_31
                rw [xsi_self]
                by_cases hij : i = j
                · subst hij; rw [if_pos rfl, pk_us]; show _ = nI (if bt (sSt s) i then sWt s i else if 0 < sCk s i then sWt s i else min 99 (sWt s i + 1)); rw [if_neg hb, if_neg hc]
                · rw [if_neg hij, pk_un hij]) (fun i hi => by
                have hb : ¬ bt (sSt s) j := zI_0.mp h_15
                have hc : ¬ 0 < sCk s j := fun q => xpos_nI' q (by omega) h_31
                rw [xsi_ne _ _ _ (by omega)]
                by_cases hij : i = j
                · subst hij; rw [if_pos rfl, v2]; show _ = nI (if bt (sSt s) i then sCk s i else sCk s i - 1); rw [if_neg hb]; congr 1; omega
                · rw [if_neg hij])))
        · refine X_aload_n (i := 0) (pc' := 35) dX2_passDay_34 rfl rfl rfl ?_
          refine X_get (pc' := 38) (v := .ref (k + 2)) dX2_passDay_35 rfl (gf_X2_15 _ rfl) (st_o hk) rfl rfl ?_
          refine X_iload_n (i := 2) (pc' := 39) dX2_passDay_38 rfl rfl rfl ?_
          refine X_iload_n (i := 3) (pc' := 40) dX2_passDay_39 rfl rfl rfl ?_
          refine X_iconst (pc' := 41) (v := nI 1) dX2_passDay_40 rfl (by decide) ?_
          refine X_isub (pc' := 42) dX2_passDay_41 rfl ?_
          refine X_eqi (nI (sCk s j - 1)) (pk_sub (xpos_nI (by omega) h_31)) ?_
          refine X_NV (As := [_, _, _]) (rest := []) (pc' := 45) dX2_passDay_42 rfl k_X4_put l_X2_55 s_X4_put ⟨by decide, by decide⟩ rfl rfl (Nat.le_of_ble_eq_true rfl) (c_X4_put cx τ' (st_c hk) (show j < 6 by omega) _) (fun τ_42 h_42 => ?_)
          refine X_goto (pc' := 0) (tgt := 71) dX2_passDay_45 (by decide) ?_
          refine X_iinc (pc' := 74) (v := nI (j + 1)) (lv' := [(2, _), (3, _), (0, _), (1, _)]) dX2_passDay_71 rfl rfl ((nI_succ j).symm) (Nat.le_of_ble_eq_true rfl) rfl ?_
          refine X_goto (pc' := 0) (tgt := 2) dX2_passDay_74 (by decide) ?_
          first
            | exact X_lv _ (by simp) (fin τ' xeq.rf (fun i hi => by
                have hb : bt (sSt s) j := Classical.not_not.mp (fun q => h_15 (zI_0.mpr q))
                by_cases hij : i = j
                · subst hij; rw [if_pos rfl, v1]; show _ = nI (if bt (sSt s) i then sWt s i else _); rw [if_pos hb]
                · rw [if_neg hij]) (fun i hi => by
                have hb : bt (sSt s) j := Classical.not_not.mp (fun q => h_15 (zI_0.mpr q))
                by_cases hij : i = j
                · subst hij; rw [if_pos rfl, v2]; show _ = nI (if bt (sSt s) i then sCk s i else _); rw [if_pos hb]
                · rw [if_neg hij]))
            | (subst h_42
               exact X_lv _ (by simp) (fin _ (xeq.rf.si (by simp)) (fun i hi => by
                have hb : ¬ bt (sSt s) j := zI_0.mp h_15
                have hc : 0 < sCk s j := xpos_nI (by omega) h_31
                rw [xsi_ne _ _ _ (by omega)]
                by_cases hij : i = j
                · subst hij; rw [if_pos rfl, v1]; show _ = nI (if bt (sSt s) i then sWt s i else if 0 < sCk s i then sWt s i else _); rw [if_neg hb, if_pos hc]
                · rw [if_neg hij]) (fun i hi => by
                have hb : ¬ bt (sSt s) j := zI_0.mp h_15
                rw [xsi_self]
                by_cases hij : i = j
                · subst hij; rw [if_pos rfl, pk_us]; show _ = nI (if bt (sSt s) i then sCk s i else sCk s i - 1); rw [if_neg hb]
                · rw [if_neg hij, pk_un hij])))
            | (subst h_68
               exact X_lv _ (by simp) (fin _ (xeq.rf.si (by simp)) (fun i hi => by
                have hb : ¬ bt (sSt s) j := zI_0.mp h_15
                have hc : ¬ 0 < sCk s j := fun q => xpos_nI' q (by omega) h_31
                rw [xsi_self]
                by_cases hij : i = j
                · subst hij; rw [if_pos rfl, pk_us]; show _ = nI (if bt (sSt s) i then sWt s i else if 0 < sCk s i then sWt s i else min 99 (sWt s i + 1)); rw [if_neg hb, if_neg hc]
                · rw [if_neg hij, pk_un hij]) (fun i hi => by
                have hb : ¬ bt (sSt s) j := zI_0.mp h_15
                have hc : ¬ 0 < sCk s j := fun q => xpos_nI' q (by omega) h_31
                rw [xsi_ne _ _ _ (by omega)]
                by_cases hij : i = j
                · subst hij; rw [if_pos rfl, v2]; show _ = nI (if bt (sSt s) i then sCk s i else sCk s i - 1); rw [if_neg hb]; congr 1; omega
                · rw [if_neg hij])))
      · refine X_goto (pc' := 0) (tgt := 71) dX2_passDay_18 (by decide) ?_
        refine X_iinc (pc' := 74) (v := nI (j + 1)) (lv' := [(2, _), (0, _), (1, _)]) dX2_passDay_71 rfl rfl ((nI_succ j).symm) (Nat.le_of_ble_eq_true rfl) rfl ?_
        refine X_goto (pc' := 0) (tgt := 2) dX2_passDay_74 (by decide) ?_
        first
          | exact X_lv _ (by simp) (fin τ' xeq.rf (fun i hi => by
              have hb : bt (sSt s) j := Classical.not_not.mp (fun q => h_15 (zI_0.mpr q))
              by_cases hij : i = j
              · subst hij; rw [if_pos rfl, v1]; show _ = nI (if bt (sSt s) i then sWt s i else _); rw [if_pos hb]
              · rw [if_neg hij]) (fun i hi => by
              have hb : bt (sSt s) j := Classical.not_not.mp (fun q => h_15 (zI_0.mpr q))
              by_cases hij : i = j
              · subst hij; rw [if_pos rfl, v2]; show _ = nI (if bt (sSt s) i then sCk s i else _); rw [if_pos hb]
              · rw [if_neg hij]))
          | (subst h_42
             exact X_lv _ (by simp) (fin _ (xeq.rf.si (by simp)) (fun i hi => by
              have hb : ¬ bt (sSt s) j := zI_0.mp h_15
              have hc : 0 < sCk s j := xpos_nI (by omega) h_31
              rw [xsi_ne _ _ _ (by omega)]
              by_cases hij : i = j
              · subst hij; rw [if_pos rfl, v1]; show _ = nI (if bt (sSt s) i then sWt s i else if 0 < sCk s i then sWt s i else _); rw [if_neg hb, if_pos hc]
              · rw [if_neg hij]) (fun i hi => by
              have hb : ¬ bt (sSt s) j := zI_0.mp h_15
              rw [xsi_self]
              by_cases hij : i = j
              · subst hij; rw [if_pos rfl, pk_us]; show _ = nI (if bt (sSt s) i then sCk s i else sCk s i - 1); rw [if_neg hb]
              · rw [if_neg hij, pk_un hij])))
          | (subst h_68
             exact X_lv _ (by simp) (fin _ (xeq.rf.si (by simp)) (fun i hi => by
              have hb : ¬ bt (sSt s) j := zI_0.mp h_15
              have hc : ¬ 0 < sCk s j := fun q => xpos_nI' q (by omega) h_31
              rw [xsi_self]
              by_cases hij : i = j
              · subst hij; rw [if_pos rfl, pk_us]; show _ = nI (if bt (sSt s) i then sWt s i else if 0 < sCk s i then sWt s i else min 99 (sWt s i + 1)); rw [if_neg hb, if_neg hc]
              · rw [if_neg hij, pk_un hij]) (fun i hi => by
              have hb : ¬ bt (sSt s) j := zI_0.mp h_15
              have hc : ¬ 0 < sCk s j := fun q => xpos_nI' q (by omega) h_31
              rw [xsi_ne _ _ _ (by omega)]
              by_cases hij : i = j
              · subst hij; rw [if_pos rfl, v2]; show _ = nI (if bt (sSt s) i then sCk s i else sCk s i - 1); rw [if_neg hb]; congr 1; omega
              · rw [if_neg hij])))
  refine X_iconst (pc' := 1) (v := nI 0) dX2_passDay_0 rfl (by decide) ?_
  refine X_istore_n (i := 2) (pc' := 2) (lv' := [(2, _), (0, _), (1, _)]) dX2_passDay_1 rfl rfl (Nat.le_of_ble_eq_true rfl) rfl ?_
  exact hl 0 τ (by omega) ⟨xeq.rf, fun i hi => by rw [if_neg (by omega)]; exact q5 i hi, fun i hi => by rw [if_neg (by omega)]; exact q6 i hi⟩
end SD
end
section
/-! ===== what was told: prices ===== -/
theorem X_rates {cx : xC} {M : xY} {P0 : xP} {Q : Option Value → xP → xT → Prop} {pc : Nat} {lv : List (Nat × Value)} {st : List Value} {P : xP} {τ : xT} (k : (∀ j, τ.1 0 j = xrate j) → X cx M P0 Q pc lv st P τ) : X cx M P0 Q pc lv st P τ := fun p l e s m args below meth c H locs ls C hH hS hF hl => k hH.1.2.2.1 p l e s m args below meth c H locs ls C hH hS hF hl
theorem xmax_sub {a b : Nat} (ha : a < 2 ^ 30) (hb : b < 2 ^ 30) : (if nI 0 < nI a - nI b then nI a - nI b else nI 0) = nI (a - b) := by
  have h := pk_sub_toInt ha hb
  by_cases q : b < a
  · rw [if_pos (by rw [Int32.lt_iff_toInt_lt, h]; show (0 : Int) < _; omega), pk_sub (by omega)]
  · rw [if_neg (by rw [Int32.lt_iff_toInt_lt, h]; show ¬ (0 : Int) < _; omega)]
    congr 1; omega
theorem and_lt64 {a b : Nat} (ha : a < 64) : a &&& b < 64 := Nat.lt_of_le_of_lt Nat.and_le_left ha
theorem nI_and {a b : Nat} (ha : a < 2 ^ 31) (hb : b < 2 ^ 31) : nI a &&& nI b = nI (a &&& b) := by
  apply Int32.toBitVec_inj.mp
  apply BitVec.eq_of_toNat_eq
  have e : (nI a &&& nI b).toBitVec = (nI a).toBitVec &&& (nI b).toBitVec := rfl
  rw [e, BitVec.toNat_and, pk_tn (by omega), pk_tn (by omega), pk_tn (Nat.lt_of_le_of_lt Nat.and_le_left (by omega))]
theorem nI_or {a b : Nat} (ha : a < 2 ^ 31) (hb : b < 2 ^ 31) : nI a ||| nI b = nI (a ||| b) := by
  apply Int32.toBitVec_inj.mp
  apply BitVec.eq_of_toNat_eq
  have e : (nI a ||| nI b).toBitVec = (nI a).toBitVec ||| (nI b).toBitVec := rfl
  have h : a ||| b < 2 ^ 31 := Nat.or_lt_two_pow ha hb
  rw [e, BitVec.toNat_or, pk_tn (by omega), pk_tn (by omega), pk_tn (by omega)]
section TD
variable (cx : xC)
set_option maxHeartbeats 4000000
set_option maxRecDepth 100000
theorem c_costOf (τ : xT) {P : PT} (hP : Pok P) (h : TR τ 8 P) {k d st td : Nat} (hk : k < pn P) (hd : d ≤ 99) {tp : Prop} [Decidable tp] (hst : st < 64) (htd : td < 100000) : CI cx m_X3_costOf [.ref 8, .int (nI k), .int (nI d), .int (zI tp), .int (nI st), .int (nI td)] PW τ (fun x τ' => τ' = τ ∧ x = nI (cost P k d tp (ones (px P k &&& st)) td)) := by
  obtain ⟨q0, q1, q2, q3, q4⟩ := h
  have hn6 := hP.1
  have hkk := hP.2.2.2.1 k hk
  have hxk := hP.2.2.2.2 k hk
  have b1 : d * rate (pk P k) ≤ 99 * 3 := Nat.mul_le_mul hd (rate_le _)
  have b2 : d * rate (pk P k) * (if tp then 2 else 1) ≤ 99 * 3 * 2 := Nat.mul_le_mul b1 (by split <;> omega)
  have b3 := ones_le (px P k &&& st)
  refine Ct_of (by decide) (Nat.le_of_ble_eq_true rfl) (lv := [(0, _), (1, _), (2, _), (3, _), (4, _), (5, _)]) rfl ?_
  refine X_rates (fun hr => ?_)
  refine X_iload_n (i := 2) (pc' := 1) dX3_costOf_0 rfl rfl rfl ?_
  refine X_gets (pc' := 4) dX3_costOf_1 rfl gs_X3_78 ?_
  refine X_aload_n (i := 0) (pc' := 5) dX3_costOf_4 rfl rfl rfl ?_
  refine X_get (pc' := 8) (v := .ref 10) dX3_costOf_5 rfl (gf_X3_19 _ rfl) o_W_8 rfl rfl ?_
  refine X_iload_n (i := 1) (pc' := 9) dX3_costOf_8 rfl rfl rfl ?_
  refine X_NIp (As := [_, _]) (rest := [_, _]) (pc' := 12) dX3_costOf_9 rfl k_X4_at l_X3_45 s_X4_at ⟨by decide, by decide⟩ rfl rfl (Nat.le_of_ble_eq_true rfl) (c_at_in cx τ (Or.inl r_W_10) (show k < 6 by omega)) ?_
  refine X_eqi (nI (pk P k)) (q3 k hk) ?_
  refine X_NIp (As := [_, _]) (rest := [_]) (pc' := 15) dX3_costOf_12 rfl k_X4_at l_X3_45 s_X4_at ⟨by decide, by decide⟩ rfl rfl (Nat.le_of_ble_eq_true rfl) (c_at_in cx τ (Or.inr ⟨rfl, rfl⟩) (show pk P k < 4 by omega)) ?_
  refine X_eqi (nI (rate (pk P k))) (by rw [hr]; exact xrate_rate (by omega)) ?_
  refine X_imul (pc' := 16) dX3_costOf_15 rfl ?_
  refine X_eqi (nI (d * rate (pk P k))) (pk_mul _ _) ?_
  refine X_iload_n (i := 3) (pc' := 17) dX3_costOf_16 rfl rfl rfl ?_
  refine X_if_eq (pc' := 20) (tgt := 24) dX3_costOf_17 rfl (by decide) (fun h_17 => ?_) (fun h_17 => ?_)
  · refine X_iconst (pc' := 25) (v := nI 1) dX3_costOf_24 rfl (by decide) ?_
    refine X_imul (pc' := 26) dX3_costOf_25 rfl ?_
    refine X_eqi (nI (d * rate (pk P k) * (if tp then 2 else 1))) (by first | rw [if_pos (Classical.not_not.mp fun q => h_17 (zI_0.mpr q)), pk_mul] | rw [if_neg (zI_0.mp h_17), pk_mul]) ?_
    refine X_istore (pc' := 28) (lv' := [(6, _), (0, _), (1, _), (2, _), (3, _), (4, _), (5, _)]) dX3_costOf_26 rfl (Nat.le_of_ble_eq_true rfl) rfl ?_
    refine X_iconst (pc' := 29) (v := nI 3) dX3_costOf_28 rfl (by decide) ?_
    refine X_aload_n (i := 0) (pc' := 30) dX3_costOf_29 rfl rfl rfl ?_
    refine X_get (pc' := 33) (v := .ref 11) dX3_costOf_30 rfl (gf_X3_22 _ rfl) o_W_8 rfl rfl ?_
    refine X_iload_n (i := 1) (pc' := 34) dX3_costOf_33 rfl rfl rfl ?_
    refine X_NIp (As := [_, _]) (rest := [_]) (pc' := 37) dX3_costOf_34 rfl k_X4_at l_X3_45 s_X4_at ⟨by decide, by decide⟩ rfl rfl (Nat.le_of_ble_eq_true rfl) (c_at_in cx τ (Or.inl r_W_11) (show k < 6 by omega)) ?_
    refine X_eqi (nI (px P k)) (q4 k hk) ?_
    refine X_iload (pc' := 39) dX3_costOf_37 rfl rfl ?_
    refine X_iand (pc' := 40) dX3_costOf_39 rfl ?_
    refine X_eqi (nI (px P k &&& st)) (nI_and (by omega) (by omega)) ?_
    refine X_SIp (As := [_]) (rest := [_]) (pc' := 43) dX3_costOf_40 rfl k_J6_bitCount_0f7a4 l_X3_81 s_J6_bitCount_0f7a4 ⟨by decide, by decide⟩ rfl rfl (Nat.le_of_ble_eq_true rfl) (c_bc cx τ (px P k &&& st) (and_lt64 hxk)) ?_
    refine X_imul (pc' := 44) dX3_costOf_43 rfl ?_
    refine X_eqi (nI (3 * ones (px P k &&& st))) (pk_mul _ _) ?_
    refine X_istore (pc' := 46) (lv' := [(7, _), (6, _), (0, _), (1, _), (2, _), (3, _), (4, _), (5, _)]) dX3_costOf_44 rfl (Nat.le_of_ble_eq_true rfl) rfl ?_
    refine X_iconst (pc' := 47) (v := nI 0) dX3_costOf_46 rfl (by decide) ?_
    refine X_iload (pc' := 49) dX3_costOf_47 rfl rfl ?_
    refine X_iload (pc' := 51) dX3_costOf_49 rfl rfl ?_
    refine X_isub (pc' := 52) dX3_costOf_51 rfl ?_
    refine X_mmax (pc' := 55) dX3_costOf_52 rfl ml_X3_58 ⟨by decide, by decide⟩ ⟨Nat.le_of_eq (Nat.sub_self _), Nat.le_of_eq (Nat.sub_self _)⟩ (Nat.le_of_ble_eq_true rfl) ?_
    refine X_eqi (nI (d * rate (pk P k) * (if tp then 2 else 1) - 3 * ones (px P k &&& st))) (xmax_sub (by omega) (by omega)) ?_
    refine X_istore (pc' := 57) (lv' := [(8, _), (7, _), (6, _), (0, _), (1, _), (2, _), (3, _), (4, _), (5, _)]) dX3_costOf_55 rfl (Nat.le_of_ble_eq_true rfl) rfl ?_
    refine X_iload (pc' := 59) dX3_costOf_57 rfl rfl ?_
    refine X_aload_n (i := 0) (pc' := 60) dX3_costOf_59 rfl rfl rfl ?_
    refine X_get (pc' := 63) (v := .int _) dX3_costOf_60 rfl (gf_X3_25 _ rfl) o_W_8 rfl rfl ?_
    refine X_eqi (nI (pp P)) (q0) ?_
    refine X_icmp_ne (pc' := 66) (tgt := 73) dX3_costOf_63 rfl (by decide) (fun h_63 => ?_) (fun h_63 => ?_)
    · refine X_iload (pc' := 75) dX3_costOf_73 rfl rfl ?_
      refine X_ri dX3_costOf_75 rfl ⟨rfl, rfl⟩ ?_
      have hpp := hP.2.1
      have he : (nI td = nI (pp P)) ↔ td = pp P := nI_eq (by omega) (by omega)
      unfold cost
      first
        | exact ⟨rfl, by rw [if_neg (fun q => h_63 (he.mpr q))]⟩
        | exact ⟨rfl, by rw [if_pos (he.mp h_63)]⟩
    · refine X_iload (pc' := 68) dX3_costOf_66 rfl rfl ?_
      refine X_iconst (pc' := 69) (v := nI 2) dX3_costOf_68 rfl (by decide) ?_
      refine X_idiv (pc' := 70) dX3_costOf_69 rfl (by decide) ?_
      refine X_eqi (nI ((d * rate (pk P k) * (if tp then 2 else 1) - 3 * ones (px P k &&& st)) / 2)) (pk_div (by omega) (by decide) (by decide)) ?_
      refine X_goto (pc' := 0) (tgt := 75) dX3_costOf_70 (by decide) ?_
      refine X_ri dX3_costOf_75 rfl ⟨rfl, rfl⟩ ?_
      have hpp := hP.2.1
      have he : (nI td = nI (pp P)) ↔ td = pp P := nI_eq (by omega) (by omega)
      unfold cost
      first
        | exact ⟨rfl, by rw [if_neg (fun q => h_63 (he.mpr q))]⟩
        | exact ⟨rfl, by rw [if_pos (he.mp h_63)]⟩
  · refine X_iconst (pc' := 21) (v := nI 2) dX3_costOf_20 rfl (by decide) ?_
    refine X_goto (pc' := 0) (tgt := 25) dX3_costOf_21 (by decide) ?_
    refine X_imul (pc' := 26) dX3_costOf_25 rfl ?_
    refine X_eqi (nI (d * rate (pk P k) * (if tp then 2 else 1))) (by first | rw [if_pos (Classical.not_not.mp fun q => h_17 (zI_0.mpr q)), pk_mul] | rw [if_neg (zI_0.mp h_17), pk_mul]) ?_
    refine X_istore (pc' := 28) (lv' := [(6, _), (0, _), (1, _), (2, _), (3, _), (4, _), (5, _)]) dX3_costOf_26 rfl (Nat.le_of_ble_eq_true rfl) rfl ?_
    refine X_iconst (pc' := 29) (v := nI 3) dX3_costOf_28 rfl (by decide) ?_
    refine X_aload_n (i := 0) (pc' := 30) dX3_costOf_29 rfl rfl rfl ?_
    refine X_get (pc' := 33) (v := .ref 11) dX3_costOf_30 rfl (gf_X3_22 _ rfl) o_W_8 rfl rfl ?_
    refine X_iload_n (i := 1) (pc' := 34) dX3_costOf_33 rfl rfl rfl ?_
    refine X_NIp (As := [_, _]) (rest := [_]) (pc' := 37) dX3_costOf_34 rfl k_X4_at l_X3_45 s_X4_at ⟨by decide, by decide⟩ rfl rfl (Nat.le_of_ble_eq_true rfl) (c_at_in cx τ (Or.inl r_W_11) (show k < 6 by omega)) ?_
    refine X_eqi (nI (px P k)) (q4 k hk) ?_
    refine X_iload (pc' := 39) dX3_costOf_37 rfl rfl ?_
    refine X_iand (pc' := 40) dX3_costOf_39 rfl ?_
    refine X_eqi (nI (px P k &&& st)) (nI_and (by omega) (by omega)) ?_
    refine X_SIp (As := [_]) (rest := [_]) (pc' := 43) dX3_costOf_40 rfl k_J6_bitCount_0f7a4 l_X3_81 s_J6_bitCount_0f7a4 ⟨by decide, by decide⟩ rfl rfl (Nat.le_of_ble_eq_true rfl) (c_bc cx τ (px P k &&& st) (and_lt64 hxk)) ?_
    refine X_imul (pc' := 44) dX3_costOf_43 rfl ?_
    refine X_eqi (nI (3 * ones (px P k &&& st))) (pk_mul _ _) ?_
    refine X_istore (pc' := 46) (lv' := [(7, _), (6, _), (0, _), (1, _), (2, _), (3, _), (4, _), (5, _)]) dX3_costOf_44 rfl (Nat.le_of_ble_eq_true rfl) rfl ?_
    refine X_iconst (pc' := 47) (v := nI 0) dX3_costOf_46 rfl (by decide) ?_
    refine X_iload (pc' := 49) dX3_costOf_47 rfl rfl ?_
    refine X_iload (pc' := 51) dX3_costOf_49 rfl rfl ?_
    refine X_isub (pc' := 52) dX3_costOf_51 rfl ?_
    refine X_mmax (pc' := 55) dX3_costOf_52 rfl ml_X3_58 ⟨by decide, by decide⟩ ⟨Nat.le_of_eq (Nat.sub_self _), Nat.le_of_eq (Nat.sub_self _)⟩ (Nat.le_of_ble_eq_true rfl) ?_
    refine X_eqi (nI (d * rate (pk P k) * (if tp then 2 else 1) - 3 * ones (px P k &&& st))) (xmax_sub (by omega) (by omega)) ?_
    refine X_istore (pc' := 57) (lv' := [(8, _), (7, _), (6, _), (0, _), (1, _), (2, _), (3, _), (4, _), (5, _)]) dX3_costOf_55 rfl (Nat.le_of_ble_eq_true rfl) rfl ?_
    refine X_iload (pc' := 59) dX3_costOf_57 rfl rfl ?_
    refine X_aload_n (i := 0) (pc' := 60) dX3_costOf_59 rfl rfl rfl ?_
    refine X_get (pc' := 63) (v := .int _) dX3_costOf_60 rfl (gf_X3_25 _ rfl) o_W_8 rfl rfl ?_
    refine X_eqi (nI (pp P)) (q0) ?_
    refine X_icmp_ne (pc' := 66) (tgt := 73) dX3_costOf_63 rfl (by decide) (fun h_63 => ?_) (fun h_63 => ?_)
    · refine X_iload (pc' := 75) dX3_costOf_73 rfl rfl ?_
      refine X_ri dX3_costOf_75 rfl ⟨rfl, rfl⟩ ?_
      have hpp := hP.2.1
      have he : (nI td = nI (pp P)) ↔ td = pp P := nI_eq (by omega) (by omega)
      unfold cost
      first
        | exact ⟨rfl, by rw [if_neg (fun q => h_63 (he.mpr q))]⟩
        | exact ⟨rfl, by rw [if_pos (he.mp h_63)]⟩
    · refine X_iload (pc' := 68) dX3_costOf_66 rfl rfl ?_
      refine X_iconst (pc' := 69) (v := nI 2) dX3_costOf_68 rfl (by decide) ?_
      refine X_idiv (pc' := 70) dX3_costOf_69 rfl (by decide) ?_
      refine X_eqi (nI ((d * rate (pk P k) * (if tp then 2 else 1) - 3 * ones (px P k &&& st)) / 2)) (pk_div (by omega) (by decide) (by decide)) ?_
      refine X_goto (pc' := 0) (tgt := 75) dX3_costOf_70 (by decide) ?_
      refine X_ri dX3_costOf_75 rfl ⟨rfl, rfl⟩ ?_
      have hpp := hP.2.1
      have he : (nI td = nI (pp P)) ↔ td = pp P := nI_eq (by omega) (by omega)
      unfold cost
      first
        | exact ⟨rfl, by rw [if_neg (fun q => h_63 (he.mpr q))]⟩
        | exact ⟨rfl, by rw [if_pos (he.mp h_63)]⟩
theorem c_costIn (τ : xT) {P : PT} {m k : Nat} {s : SN} (hP : Pok P) (h : TR τ 8 P) (hk : k ∈ stW) (hs : SR τ k (pn P) s) (ho : Sok P m s) (hm : m < 10000) {j d st : Nat} (hj : j < pn P) (hd : d < 1000) (hst : st < 64) : CI cx m_X3_costIn [.ref 8, .ref k, .int (nI j), .int (nI d), .int (nI st)] PW τ (fun x τ' => τ' = τ ∧ x = nI (costIn P s j d st)) := by
  obtain ⟨q0, q1, q2, q3, q4, q5, q6⟩ := hs
  obtain ⟨o0, o1, o2, o3, o4, o5, o6⟩ := ho
  have hn6 := hP.1
  have h26 := two6 hP
  have b5 := o5 j hj
  have b6 := o6 j hj
  refine Ct_of (by decide) (Nat.le_of_ble_eq_true rfl) (lv := [(0, _), (1, _), (2, _), (3, _), (4, _)]) rfl ?_
  refine X_aload_n (i := 1) (pc' := 1) dX3_costIn_0 rfl rfl rfl ?_
  refine X_ifnonnull (pc' := 0) (tgt := 6) dX3_costIn_1 (by decide) ?_
  refine X_iconst (pc' := 7) (v := nI 0) dX3_costIn_6 rfl (by decide) ?_
  refine X_iload_n (i := 3) (pc' := 8) dX3_costIn_7 rfl rfl rfl ?_
  refine X_aload_n (i := 1) (pc' := 9) dX3_costIn_8 rfl rfl rfl ?_
  refine X_get (pc' := 12) (v := .ref (k + 2)) dX3_costIn_9 rfl (gf_X3_53 _ rfl) (st_o hk) rfl rfl ?_
  refine X_iload_n (i := 2) (pc' := 13) dX3_costIn_12 rfl rfl rfl ?_
  refine X_NIp (As := [_, _]) (rest := [_, _]) (pc' := 16) dX3_costIn_13 rfl k_X4_at l_X3_45 s_X4_at ⟨by decide, by decide⟩ rfl rfl (Nat.le_of_ble_eq_true rfl) (c_at_in cx τ (Or.inl (st_c hk)) (show j < 6 by omega)) ?_
  refine X_eqi (nI (sCk s j)) (q6 j hj) ?_
  refine X_isub (pc' := 17) dX3_costIn_16 rfl ?_
  refine X_mmax (pc' := 20) dX3_costIn_17 rfl ml_X3_58 ⟨by decide, by decide⟩ ⟨Nat.le_of_eq (Nat.sub_self _), Nat.le_of_eq (Nat.sub_self _)⟩ (Nat.le_of_ble_eq_true rfl) ?_
  refine X_eqi (nI (d - sCk s j)) (xmax_sub (by omega) (by omega)) ?_
  refine X_istore (pc' := 22) (lv' := [(5, _), (0, _), (1, _), (2, _), (3, _), (4, _)]) dX3_costIn_20 rfl (Nat.le_of_ble_eq_true rfl) rfl ?_
  refine X_bipush (pc' := 24) (v := nI 99) dX3_costIn_22 rfl (by decide) ?_
  refine X_aload_n (i := 1) (pc' := 25) dX3_costIn_24 rfl rfl rfl ?_
  refine X_get (pc' := 28) (v := .ref (k + 1)) dX3_costIn_25 rfl (gf_X3_64 _ rfl) (st_o hk) rfl rfl ?_
  refine X_iload_n (i := 2) (pc' := 29) dX3_costIn_28 rfl rfl rfl ?_
  refine X_NIp (As := [_, _]) (rest := [_]) (pc' := 32) dX3_costIn_29 rfl k_X4_at l_X3_45 s_X4_at ⟨by decide, by decide⟩ rfl rfl (Nat.le_of_ble_eq_true rfl) (c_at_in cx τ (Or.inl (st_w hk)) (show j < 6 by omega)) ?_
  refine X_eqi (nI (sWt s j)) (q5 j hj) ?_
  refine X_iload (pc' := 34) dX3_costIn_32 rfl rfl ?_
  refine X_iadd (pc' := 35) dX3_costIn_34 rfl ?_
  refine X_eqi (nI (sWt s j + (d - sCk s j))) (nI_add _ _) ?_
  refine X_mmin (pc' := 38) dX3_costIn_35 rfl ml_X3_65 ⟨by decide, by decide⟩ ⟨Nat.le_of_eq (Nat.sub_self _), Nat.le_of_eq (Nat.sub_self _)⟩ (Nat.le_of_ble_eq_true rfl) ?_
  refine X_eqi (nI (min 99 (sWt s j + (d - sCk s j)))) (xmin_nI (by omega) (by omega)) ?_
  refine X_istore (pc' := 40) (lv' := [(6, _), (5, _), (0, _), (1, _), (2, _), (3, _), (4, _)]) dX3_costIn_38 rfl (Nat.le_of_ble_eq_true rfl) rfl ?_
  refine X_aload_n (i := 0) (pc' := 41) dX3_costIn_40 rfl rfl rfl ?_
  refine X_iload_n (i := 2) (pc' := 42) dX3_costIn_41 rfl rfl rfl ?_
  refine X_iload (pc' := 44) dX3_costIn_42 rfl rfl ?_
  refine X_aload_n (i := 1) (pc' := 45) dX3_costIn_44 rfl rfl rfl ?_
  refine X_get (pc' := 48) (v := .int _) dX3_costIn_45 rfl (gf_X3_68 _ rfl) (st_o hk) rfl rfl ?_
  refine X_eqi (nI (sTn s)) (q3) ?_
  refine X_iload_n (i := 2) (pc' := 49) dX3_costIn_48 rfl rfl rfl ?_
  refine X_NIp (As := [_, _]) (rest := [_, _, _]) (pc' := 52) dX3_costIn_49 rfl k_X4_has l_X3_49 s_X4_has ⟨by decide, by decide⟩ rfl rfl (Nat.le_of_ble_eq_true rfl) (c_X4_has cx τ (sTn s) j (by omega) (by omega)) ?_
  refine X_iload (pc' := 54) dX3_costIn_52 rfl rfl ?_
  refine X_aload_n (i := 1) (pc' := 55) dX3_costIn_54 rfl rfl rfl ?_
  refine X_get (pc' := 58) (v := .int _) dX3_costIn_55 rfl (gf_X3_71 _ rfl) (st_o hk) rfl rfl ?_
  refine X_eqi (nI (sDy s)) (q0) ?_
  refine X_iload_n (i := 3) (pc' := 59) dX3_costIn_58 rfl rfl rfl ?_
  refine X_iadd (pc' := 60) dX3_costIn_59 rfl ?_
  refine X_eqi (nI (sDy s + d)) (nI_add _ _) ?_
  refine X_OIp (As := [_, _, _, _, _]) (rest := []) (pc' := 63) dX3_costIn_60 rfl k_X3_costOf l_X3_74 v_X3_costOf o_W_8 rfl ⟨by decide, by decide⟩ rfl rfl (Nat.le_of_ble_eq_true rfl) (c_costOf cx τ hP h hj (by omega) hst (by omega)) ?_
  refine X_ri dX3_costIn_63 rfl ⟨rfl, rfl⟩ ?_
  exact ⟨rfl, rfl⟩
end TD
end
