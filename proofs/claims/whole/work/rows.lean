section
-- ===== PART A: goes FIRST, ahead of the names: the tables' words, and 'selects' of the private methods out of them =====
/-- a private method of a class that the tables say can be made, by its rows of tables_1 -/
def lw_okq (q : MethodName × Nat) : Prop := (q.1.cls ≠ "java/lang/invoke/MethodHandle" ∧ q.1.cls ≠ "java/lang/invoke/VarHandle") ∧ Cond.instantiable q.1.cls q.2 ∈ tables_1 ∧ Cond.privateMethod q.1 ∈ tables_1 ∧ Cond.instanceMethod q.1 ∈ tables_1
theorem lw_p0 : lw_okq (⟨"TastelessCook$Text", "skipBlanks", "()V"⟩, 7) := ⟨⟨by decide +kernel, by decide +kernel⟩, List.mem_of_getElem? (i := 23) (by decide +kernel), List.mem_of_getElem? (i := 273) (by decide +kernel), List.mem_of_getElem? (i := 274) (by decide +kernel)⟩
theorem lw_p1 : lw_okq (⟨"TastelessCook$Text", "isAt", "(II)Z"⟩, 7) := ⟨⟨by decide +kernel, by decide +kernel⟩, List.mem_of_getElem? (i := 23) (by decide +kernel), List.mem_of_getElem? (i := 277) (by decide +kernel), List.mem_of_getElem? (i := 278) (by decide +kernel)⟩
theorem lw_p2 : lw_okq (⟨"TastelessCook$Text", "readItem", "()Z"⟩, 7) := ⟨⟨by decide +kernel, by decide +kernel⟩, List.mem_of_getElem? (i := 23) (by decide +kernel), List.mem_of_getElem? (i := 281) (by decide +kernel), List.mem_of_getElem? (i := 282) (by decide +kernel)⟩
theorem lw_p3 : lw_okq (⟨"TastelessCook$Text", "readRow", "([I)Z"⟩, 7) := ⟨⟨by decide +kernel, by decide +kernel⟩, List.mem_of_getElem? (i := 23) (by decide +kernel), List.mem_of_getElem? (i := 285) (by decide +kernel), List.mem_of_getElem? (i := 286) (by decide +kernel)⟩
theorem lw_p4 : lw_okq (⟨"TastelessCook$Text", "digitAt", "(I)I"⟩, 7) := ⟨⟨by decide +kernel, by decide +kernel⟩, List.mem_of_getElem? (i := 23) (by decide +kernel), List.mem_of_getElem? (i := 289) (by decide +kernel), List.mem_of_getElem? (i := 290) (by decide +kernel)⟩
theorem lw_p5 : lw_okq (⟨"TastelessCook", "beginAnew", "()V"⟩, 9) := ⟨⟨by decide +kernel, by decide +kernel⟩, List.mem_of_getElem? (i := 15) (by decide +kernel), List.mem_of_getElem? (i := 293) (by decide +kernel), List.mem_of_getElem? (i := 294) (by decide +kernel)⟩
theorem lw_p6 : lw_okq (⟨"TastelessCook$Planner", "forgetReached", "()V"⟩, 8) := ⟨⟨by decide +kernel, by decide +kernel⟩, List.mem_of_getElem? (i := 184) (by decide +kernel), List.mem_of_getElem? (i := 435) (by decide +kernel), List.mem_of_getElem? (i := 436) (by decide +kernel)⟩
theorem lw_p7 : lw_okq (⟨"TastelessCook$Planner", "reach", "(III)V"⟩, 8) := ⟨⟨by decide +kernel, by decide +kernel⟩, List.mem_of_getElem? (i := 184) (by decide +kernel), List.mem_of_getElem? (i := 440) (by decide +kernel), List.mem_of_getElem? (i := 441) (by decide +kernel)⟩
theorem lw_p8 : lw_okq (⟨"TastelessCook$Planner", "tellRow", "(I)V"⟩, 8) := ⟨⟨by decide +kernel, by decide +kernel⟩, List.mem_of_getElem? (i := 184) (by decide +kernel), List.mem_of_getElem? (i := 454) (by decide +kernel), List.mem_of_getElem? (i := 455) (by decide +kernel)⟩
theorem lw_p9 : lw_okq (⟨"TastelessCook$Planner", "goOnFrom", "(I)V"⟩, 8) := ⟨⟨by decide +kernel, by decide +kernel⟩, List.mem_of_getElem? (i := 184) (by decide +kernel), List.mem_of_getElem? (i := 459) (by decide +kernel), List.mem_of_getElem? (i := 460) (by decide +kernel)⟩
theorem lw_p10 : lw_okq (⟨"TastelessCook$Brothers", "mindPart", "(III[I)I"⟩, 4) := ⟨⟨by decide +kernel, by decide +kernel⟩, List.mem_of_getElem? (i := 60) (by decide +kernel), List.mem_of_getElem? (i := 476) (by decide +kernel), List.mem_of_getElem? (i := 477) (by decide +kernel)⟩
theorem lw_p11 : lw_okq (⟨"TastelessCook$Stranger", "fits", "(I)Z"⟩, 9) := ⟨⟨by decide +kernel, by decide +kernel⟩, List.mem_of_getElem? (i := 142) (by decide +kernel), List.mem_of_getElem? (i := 535) (by decide +kernel), List.mem_of_getElem? (i := 536) (by decide +kernel)⟩
theorem lw_p12 : lw_okq (⟨"TastelessCook$Stranger", "foresee", "([I)V"⟩, 9) := ⟨⟨by decide +kernel, by decide +kernel⟩, List.mem_of_getElem? (i := 142) (by decide +kernel), List.mem_of_getElem? (i := 551) (by decide +kernel), List.mem_of_getElem? (i := 552) (by decide +kernel)⟩
theorem lw_p13 : lw_okq (⟨"TastelessCook$Stranger", "tallyGuess", "()V"⟩, 9) := ⟨⟨by decide +kernel, by decide +kernel⟩, List.mem_of_getElem? (i := 142) (by decide +kernel), List.mem_of_getElem? (i := 557) (by decide +kernel), List.mem_of_getElem? (i := 558) (by decide +kernel)⟩
theorem lw_p14 : lw_okq (⟨"TastelessCook$Stranger", "mostTelling", "()I"⟩, 9) := ⟨⟨by decide +kernel, by decide +kernel⟩, List.mem_of_getElem? (i := 142) (by decide +kernel), List.mem_of_getElem? (i := 561) (by decide +kernel), List.mem_of_getElem? (i := 562) (by decide +kernel)⟩
theorem lw_p15 : lw_okq (⟨"TastelessCook", "asBrother", "(I)I"⟩, 9) := ⟨⟨by decide +kernel, by decide +kernel⟩, List.mem_of_getElem? (i := 15) (by decide +kernel), List.mem_of_getElem? (i := 572) (by decide +kernel), List.mem_of_getElem? (i := 573) (by decide +kernel)⟩
def lw_privs_1 : List (MethodName × Nat) := [(⟨"TastelessCook$Text", "skipBlanks", "()V"⟩, 7), (⟨"TastelessCook$Text", "isAt", "(II)Z"⟩, 7), (⟨"TastelessCook$Text", "readItem", "()Z"⟩, 7), (⟨"TastelessCook$Text", "readRow", "([I)Z"⟩, 7), (⟨"TastelessCook$Text", "digitAt", "(I)I"⟩, 7), (⟨"TastelessCook", "beginAnew", "()V"⟩, 9), (⟨"TastelessCook$Planner", "forgetReached", "()V"⟩, 8), (⟨"TastelessCook$Planner", "reach", "(III)V"⟩, 8), (⟨"TastelessCook$Planner", "tellRow", "(I)V"⟩, 8), (⟨"TastelessCook$Planner", "goOnFrom", "(I)V"⟩, 8), (⟨"TastelessCook$Brothers", "mindPart", "(III[I)I"⟩, 4), (⟨"TastelessCook$Stranger", "fits", "(I)Z"⟩, 9), (⟨"TastelessCook$Stranger", "foresee", "([I)V"⟩, 9), (⟨"TastelessCook$Stranger", "tallyGuess", "()V"⟩, 9), (⟨"TastelessCook$Stranger", "mostTelling", "()I"⟩, 9), (⟨"TastelessCook", "asBrother", "(I)I"⟩, 9)]
theorem lw_r1 : ∀ q ∈ lw_privs_1, lw_okq q := List.forall_mem_cons.mpr ⟨lw_p0, List.forall_mem_cons.mpr ⟨lw_p1, List.forall_mem_cons.mpr ⟨lw_p2, List.forall_mem_cons.mpr ⟨lw_p3, List.forall_mem_cons.mpr ⟨lw_p4, List.forall_mem_cons.mpr ⟨lw_p5, List.forall_mem_cons.mpr ⟨lw_p6, List.forall_mem_cons.mpr ⟨lw_p7, List.forall_mem_cons.mpr ⟨lw_p8, List.forall_mem_cons.mpr ⟨lw_p9, List.forall_mem_cons.mpr ⟨lw_p10, List.forall_mem_cons.mpr ⟨lw_p11, List.forall_mem_cons.mpr ⟨lw_p12, List.forall_mem_cons.mpr ⟨lw_p13, List.forall_mem_cons.mpr ⟨lw_p14, List.forall_mem_cons.mpr ⟨lw_p15, fun _ h => absurd h List.not_mem_nil⟩⟩⟩⟩⟩⟩⟩⟩⟩⟩⟩⟩⟩⟩⟩⟩
theorem lw_p16 : lw_okq (⟨"TastelessCook", "asNovice", "(I)I"⟩, 9) := ⟨⟨by decide +kernel, by decide +kernel⟩, List.mem_of_getElem? (i := 15) (by decide +kernel), List.mem_of_getElem? (i := 576) (by decide +kernel), List.mem_of_getElem? (i := 577) (by decide +kernel)⟩
theorem lw_p17 : lw_okq (⟨"TastelessCook", "asAbbot", "(I)I"⟩, 9) := ⟨⟨by decide +kernel, by decide +kernel⟩, List.mem_of_getElem? (i := 15) (by decide +kernel), List.mem_of_getElem? (i := 581) (by decide +kernel), List.mem_of_getElem? (i := 582) (by decide +kernel)⟩
theorem lw_p18 : lw_okq (⟨"TastelessCook", "asGiles", "(I)I"⟩, 9) := ⟨⟨by decide +kernel, by decide +kernel⟩, List.mem_of_getElem? (i := 15) (by decide +kernel), List.mem_of_getElem? (i := 586) (by decide +kernel), List.mem_of_getElem? (i := 587) (by decide +kernel)⟩
theorem lw_p19 : lw_okq (⟨"TastelessCook", "asPrior", "(I)I"⟩, 9) := ⟨⟨by decide +kernel, by decide +kernel⟩, List.mem_of_getElem? (i := 15) (by decide +kernel), List.mem_of_getElem? (i := 591) (by decide +kernel), List.mem_of_getElem? (i := 592) (by decide +kernel)⟩
theorem lw_p20 : lw_okq (⟨"TastelessCook", "asCellarer", "(I)I"⟩, 9) := ⟨⟨by decide +kernel, by decide +kernel⟩, List.mem_of_getElem? (i := 15) (by decide +kernel), List.mem_of_getElem? (i := 596) (by decide +kernel), List.mem_of_getElem? (i := 597) (by decide +kernel)⟩
theorem lw_p21 : lw_okq (⟨"TastelessCookModel", "next", "()V"⟩, 26) := ⟨⟨by decide +kernel, by decide +kernel⟩, List.mem_of_getElem? (i := 627) (by decide +kernel), List.mem_of_getElem? (i := 727) (by decide +kernel), List.mem_of_getElem? (i := 728) (by decide +kernel)⟩
theorem lw_p22 : lw_okq (⟨"TastelessCookModel", "letterAt", "(I)I"⟩, 26) := ⟨⟨by decide +kernel, by decide +kernel⟩, List.mem_of_getElem? (i := 627) (by decide +kernel), List.mem_of_getElem? (i := 731) (by decide +kernel), List.mem_of_getElem? (i := 732) (by decide +kernel)⟩
theorem lw_p23 : lw_okq (⟨"TastelessCookModel", "readItem", "()V"⟩, 26) := ⟨⟨by decide +kernel, by decide +kernel⟩, List.mem_of_getElem? (i := 627) (by decide +kernel), List.mem_of_getElem? (i := 738) (by decide +kernel), List.mem_of_getElem? (i := 739) (by decide +kernel)⟩
theorem lw_p24 : lw_okq (⟨"TastelessCookModel", "readBrother", "()V"⟩, 26) := ⟨⟨by decide +kernel, by decide +kernel⟩, List.mem_of_getElem? (i := 627) (by decide +kernel), List.mem_of_getElem? (i := 742) (by decide +kernel), List.mem_of_getElem? (i := 743) (by decide +kernel)⟩
theorem lw_p25 : lw_okq (⟨"TastelessCookModel", "takesNumber", "(II)I"⟩, 26) := ⟨⟨by decide +kernel, by decide +kernel⟩, List.mem_of_getElem? (i := 627) (by decide +kernel), List.mem_of_getElem? (i := 746) (by decide +kernel), List.mem_of_getElem? (i := 747) (by decide +kernel)⟩
theorem lw_p26 : lw_okq (⟨"TastelessCookModel", "readPot", "()V"⟩, 26) := ⟨⟨by decide +kernel, by decide +kernel⟩, List.mem_of_getElem? (i := 627) (by decide +kernel), List.mem_of_getElem? (i := 750) (by decide +kernel), List.mem_of_getElem? (i := 751) (by decide +kernel)⟩
theorem lw_p27 : lw_okq (⟨"TastelessCookModel", "settles", "()V"⟩, 26) := ⟨⟨by decide +kernel, by decide +kernel⟩, List.mem_of_getElem? (i := 627) (by decide +kernel), List.mem_of_getElem? (i := 754) (by decide +kernel), List.mem_of_getElem? (i := 755) (by decide +kernel)⟩
theorem lw_p28 : lw_okq (⟨"TastelessCookModel", "isBrother", "(I)Z"⟩, 26) := ⟨⟨by decide +kernel, by decide +kernel⟩, List.mem_of_getElem? (i := 627) (by decide +kernel), List.mem_of_getElem? (i := 769) (by decide +kernel), List.mem_of_getElem? (i := 770) (by decide +kernel)⟩
theorem lw_p29 : lw_okq (⟨"TastelessCookModel", "asItIs", "()V"⟩, 26) := ⟨⟨by decide +kernel, by decide +kernel⟩, List.mem_of_getElem? (i := 627) (by decide +kernel), List.mem_of_getElem? (i := 773) (by decide +kernel), List.mem_of_getElem? (i := 774) (by decide +kernel)⟩
theorem lw_p30 : lw_okq (⟨"TastelessCookModel", "mien", "(I)I"⟩, 26) := ⟨⟨by decide +kernel, by decide +kernel⟩, List.mem_of_getElem? (i := 627) (by decide +kernel), List.mem_of_getElem? (i := 780) (by decide +kernel), List.mem_of_getElem? (i := 781) (by decide +kernel)⟩
theorem lw_p31 : lw_okq (⟨"TastelessCookModel", "mienBy", "(IZ)I"⟩, 26) := ⟨⟨by decide +kernel, by decide +kernel⟩, List.mem_of_getElem? (i := 627) (by decide +kernel), List.mem_of_getElem? (i := 787) (by decide +kernel), List.mem_of_getElem? (i := 788) (by decide +kernel)⟩
def lw_privs_2 : List (MethodName × Nat) := [(⟨"TastelessCook", "asNovice", "(I)I"⟩, 9), (⟨"TastelessCook", "asAbbot", "(I)I"⟩, 9), (⟨"TastelessCook", "asGiles", "(I)I"⟩, 9), (⟨"TastelessCook", "asPrior", "(I)I"⟩, 9), (⟨"TastelessCook", "asCellarer", "(I)I"⟩, 9), (⟨"TastelessCookModel", "next", "()V"⟩, 26), (⟨"TastelessCookModel", "letterAt", "(I)I"⟩, 26), (⟨"TastelessCookModel", "readItem", "()V"⟩, 26), (⟨"TastelessCookModel", "readBrother", "()V"⟩, 26), (⟨"TastelessCookModel", "takesNumber", "(II)I"⟩, 26), (⟨"TastelessCookModel", "readPot", "()V"⟩, 26), (⟨"TastelessCookModel", "settles", "()V"⟩, 26), (⟨"TastelessCookModel", "isBrother", "(I)Z"⟩, 26), (⟨"TastelessCookModel", "asItIs", "()V"⟩, 26), (⟨"TastelessCookModel", "mien", "(I)I"⟩, 26), (⟨"TastelessCookModel", "mienBy", "(IZ)I"⟩, 26)]
theorem lw_r2 : ∀ q ∈ lw_privs_2, lw_okq q := List.forall_mem_cons.mpr ⟨lw_p16, List.forall_mem_cons.mpr ⟨lw_p17, List.forall_mem_cons.mpr ⟨lw_p18, List.forall_mem_cons.mpr ⟨lw_p19, List.forall_mem_cons.mpr ⟨lw_p20, List.forall_mem_cons.mpr ⟨lw_p21, List.forall_mem_cons.mpr ⟨lw_p22, List.forall_mem_cons.mpr ⟨lw_p23, List.forall_mem_cons.mpr ⟨lw_p24, List.forall_mem_cons.mpr ⟨lw_p25, List.forall_mem_cons.mpr ⟨lw_p26, List.forall_mem_cons.mpr ⟨lw_p27, List.forall_mem_cons.mpr ⟨lw_p28, List.forall_mem_cons.mpr ⟨lw_p29, List.forall_mem_cons.mpr ⟨lw_p30, List.forall_mem_cons.mpr ⟨lw_p31, fun _ h => absurd h List.not_mem_nil⟩⟩⟩⟩⟩⟩⟩⟩⟩⟩⟩⟩⟩⟩⟩⟩
theorem lw_p32 : lw_okq (⟨"TastelessCookModel", "offOf", "(IIZ)I"⟩, 26) := ⟨⟨by decide +kernel, by decide +kernel⟩, List.mem_of_getElem? (i := 627) (by decide +kernel), List.mem_of_getElem? (i := 791) (by decide +kernel), List.mem_of_getElem? (i := 792) (by decide +kernel)⟩
theorem lw_p33 : lw_okq (⟨"TastelessCookModel", "mind", "(I)I"⟩, 26) := ⟨⟨by decide +kernel, by decide +kernel⟩, List.mem_of_getElem? (i := 627) (by decide +kernel), List.mem_of_getElem? (i := 801) (by decide +kernel), List.mem_of_getElem? (i := 802) (by decide +kernel)⟩
theorem lw_p34 : lw_okq (⟨"TastelessCookModel", "calm", "()I"⟩, 26) := ⟨⟨by decide +kernel, by decide +kernel⟩, List.mem_of_getElem? (i := 627) (by decide +kernel), List.mem_of_getElem? (i := 814) (by decide +kernel), List.mem_of_getElem? (i := 815) (by decide +kernel)⟩
theorem lw_p35 : lw_okq (⟨"TastelessCookModel", "inPot", "()I"⟩, 26) := ⟨⟨by decide +kernel, by decide +kernel⟩, List.mem_of_getElem? (i := 627) (by decide +kernel), List.mem_of_getElem? (i := 818) (by decide +kernel), List.mem_of_getElem? (i := 819) (by decide +kernel)⟩
theorem lw_p36 : lw_okq (⟨"TastelessCookModel", "mindAll", "()I"⟩, 26) := ⟨⟨by decide +kernel, by decide +kernel⟩, List.mem_of_getElem? (i := 627) (by decide +kernel), List.mem_of_getElem? (i := 822) (by decide +kernel), List.mem_of_getElem? (i := 823) (by decide +kernel)⟩
theorem lw_p37 : lw_okq (⟨"TastelessCookModel", "remembers", "()V"⟩, 26) := ⟨⟨by decide +kernel, by decide +kernel⟩, List.mem_of_getElem? (i := 627) (by decide +kernel), List.mem_of_getElem? (i := 830) (by decide +kernel), List.mem_of_getElem? (i := 831) (by decide +kernel)⟩
theorem lw_p38 : lw_okq (⟨"TastelessCookModel", "does", "(I)V"⟩, 26) := ⟨⟨by decide +kernel, by decide +kernel⟩, List.mem_of_getElem? (i := 627) (by decide +kernel), List.mem_of_getElem? (i := 838) (by decide +kernel), List.mem_of_getElem? (i := 839) (by decide +kernel)⟩
theorem lw_p39 : lw_okq (⟨"TastelessCookModel", "calmsBy", "(III)Z"⟩, 26) := ⟨⟨by decide +kernel, by decide +kernel⟩, List.mem_of_getElem? (i := 627) (by decide +kernel), List.mem_of_getElem? (i := 864) (by decide +kernel), List.mem_of_getElem? (i := 865) (by decide +kernel)⟩
theorem lw_p40 : lw_okq (⟨"TastelessCookModel", "canBe", "(I)Z"⟩, 26) := ⟨⟨by decide +kernel, by decide +kernel⟩, List.mem_of_getElem? (i := 627) (by decide +kernel), List.mem_of_getElem? (i := 868) (by decide +kernel), List.mem_of_getElem? (i := 869) (by decide +kernel)⟩
theorem lw_p41 : lw_okq (⟨"TastelessCookModel", "leastOf", "(I)I"⟩, 26) := ⟨⟨by decide +kernel, by decide +kernel⟩, List.mem_of_getElem? (i := 627) (by decide +kernel), List.mem_of_getElem? (i := 876) (by decide +kernel), List.mem_of_getElem? (i := 877) (by decide +kernel)⟩
theorem lw_p42 : lw_okq (⟨"TastelessCookModel", "middleOf", "(II)I"⟩, 26) := ⟨⟨by decide +kernel, by decide +kernel⟩, List.mem_of_getElem? (i := 627) (by decide +kernel), List.mem_of_getElem? (i := 880) (by decide +kernel), List.mem_of_getElem? (i := 881) (by decide +kernel)⟩
theorem lw_p43 : lw_okq (⟨"TastelessCookModel", "mindOf", "(III)I"⟩, 26) := ⟨⟨by decide +kernel, by decide +kernel⟩, List.mem_of_getElem? (i := 627) (by decide +kernel), List.mem_of_getElem? (i := 884) (by decide +kernel), List.mem_of_getElem? (i := 885) (by decide +kernel)⟩
theorem lw_p44 : lw_okq (⟨"TastelessCookModel", "isSo", "(I)Z"⟩, 26) := ⟨⟨by decide +kernel, by decide +kernel⟩, List.mem_of_getElem? (i := 627) (by decide +kernel), List.mem_of_getElem? (i := 911) (by decide +kernel), List.mem_of_getElem? (i := 912) (by decide +kernel)⟩
theorem lw_p45 : lw_okq (⟨"TastelessCookModel", "greatestPart", "()I"⟩, 26) := ⟨⟨by decide +kernel, by decide +kernel⟩, List.mem_of_getElem? (i := 627) (by decide +kernel), List.mem_of_getElem? (i := 926) (by decide +kernel), List.mem_of_getElem? (i := 927) (by decide +kernel)⟩
def lw_privs_3 : List (MethodName × Nat) := [(⟨"TastelessCookModel", "offOf", "(IIZ)I"⟩, 26), (⟨"TastelessCookModel", "mind", "(I)I"⟩, 26), (⟨"TastelessCookModel", "calm", "()I"⟩, 26), (⟨"TastelessCookModel", "inPot", "()I"⟩, 26), (⟨"TastelessCookModel", "mindAll", "()I"⟩, 26), (⟨"TastelessCookModel", "remembers", "()V"⟩, 26), (⟨"TastelessCookModel", "does", "(I)V"⟩, 26), (⟨"TastelessCookModel", "calmsBy", "(III)Z"⟩, 26), (⟨"TastelessCookModel", "canBe", "(I)Z"⟩, 26), (⟨"TastelessCookModel", "leastOf", "(I)I"⟩, 26), (⟨"TastelessCookModel", "middleOf", "(II)I"⟩, 26), (⟨"TastelessCookModel", "mindOf", "(III)I"⟩, 26), (⟨"TastelessCookModel", "isSo", "(I)Z"⟩, 26), (⟨"TastelessCookModel", "greatestPart", "()I"⟩, 26)]
theorem lw_r3 : ∀ q ∈ lw_privs_3, lw_okq q := List.forall_mem_cons.mpr ⟨lw_p32, List.forall_mem_cons.mpr ⟨lw_p33, List.forall_mem_cons.mpr ⟨lw_p34, List.forall_mem_cons.mpr ⟨lw_p35, List.forall_mem_cons.mpr ⟨lw_p36, List.forall_mem_cons.mpr ⟨lw_p37, List.forall_mem_cons.mpr ⟨lw_p38, List.forall_mem_cons.mpr ⟨lw_p39, List.forall_mem_cons.mpr ⟨lw_p40, List.forall_mem_cons.mpr ⟨lw_p41, List.forall_mem_cons.mpr ⟨lw_p42, List.forall_mem_cons.mpr ⟨lw_p43, List.forall_mem_cons.mpr ⟨lw_p44, List.forall_mem_cons.mpr ⟨lw_p45, fun _ h => absurd h List.not_mem_nil⟩⟩⟩⟩⟩⟩⟩⟩⟩⟩⟩⟩⟩⟩
def lw_privs : List (MethodName × Nat) := lw_privs_1 ++ (lw_privs_2 ++ (lw_privs_3))
def lw_tbl : List Cond := k2_sels lw_privs ++ tables_1
theorem lw_privs_ok : ∀ q ∈ lw_privs, lw_okq q := by
  show ∀ q ∈ lw_privs_1 ++ (lw_privs_2 ++ (lw_privs_3)), lw_okq q
  exact List.forall_mem_append.mpr ⟨lw_r1, List.forall_mem_append.mpr ⟨lw_r2, lw_r3⟩⟩
end
section
def RX0 : String := "TastelessCook$Brothers"
def TX0 : u_T := fun k => match k with
  | 0 => ("TastelessCook$Brothers", "all", "[LTastelessCook$Taster;", true)
  | 1 => ("TastelessCook$Brothers", "many", "I", false)
  | 2 => ("TastelessCook$Brothers", "leastMinds", "[I", true)
  | _ => ("TastelessCook$Brothers", "ways", "[I", true)
def tyX0 : Nat → FieldType := fun k => match k with
  | 0 => .array (.object "TastelessCook$Taster")
  | 1 => .int
  | 2 => .array .int
  | _ => .array .int
theorem nmX0 : ∀ a, a < 4 → ∀ b, b < 4 → a ≠ b → (TX0 a).2.1 ≠ (TX0 b).2.1 := by decide +kernel
theorem tyX0_ok : ∀ k, k < 4 → parseFieldDescriptor (TX0 k).2.2.1 = some (tyX0 k) := by decide +kernel
abbrev cX0_init : ByteArray := prog_2_method_1_code
def yX0_init : MethodName := ⟨RX0, "<init>", "()V"⟩
abbrev cX0_become : ByteArray := prog_2_method_2_code
def yX0_become : MethodName := ⟨RX0, "become", "([[II)V"⟩
abbrev cX0_has : ByteArray := prog_2_method_3_code
def yX0_has : MethodName := ⟨RX0, "has", "(I)Z"⟩
abbrev cX0_everyone : ByteArray := prog_2_method_4_code
def yX0_everyone : MethodName := ⟨RX0, "everyone", "()I"⟩
abbrev cX0_mienOf : ByteArray := prog_2_method_5_code
def yX0_mienOf : MethodName := ⟨RX0, "mienOf", "(ILTastelessCook$Scene;)I"⟩
abbrev cX0_mindOf : ByteArray := prog_2_method_6_code
def yX0_mindOf : MethodName := ⟨RX0, "mindOf", "(ILTastelessCook$Scene;)I"⟩
abbrev cX0_mindOfAll : ByteArray := prog_2_method_7_code
def yX0_mindOfAll : MethodName := ⟨RX0, "mindOfAll", "(LTastelessCook$Scene;)I"⟩
abbrev cX0_calmSet : ByteArray := prog_2_method_8_code
def yX0_calmSet : MethodName := ⟨RX0, "calmSet", "(LTastelessCook$Scene;)I"⟩
abbrev cX0_howManyCalm : ByteArray := prog_2_method_9_code
def yX0_howManyCalm : MethodName := ⟨RX0, "howManyCalm", "(LTastelessCook$Scene;)I"⟩
abbrev cX0_areCalm : ByteArray := prog_2_method_10_code
def yX0_areCalm : MethodName := ⟨RX0, "areCalm", "(ILTastelessCook$Scene;)Z"⟩
abbrev cX0_mindPart : ByteArray := prog_2_method_11_code
def yX0_mindPart : MethodName := ⟨RX0, "mindPart", "(III[I)I"⟩
abbrev cX0_bestAmount : ByteArray := prog_2_method_12_code
def yX0_bestAmount : MethodName := ⟨RX0, "bestAmount", "(II[I)I"⟩
abbrev cX0_leastMind : ByteArray := prog_2_method_13_code
def yX0_leastMind : MethodName := ⟨RX0, "leastMind", "(I[I)I"⟩
abbrev cX0_bestParting : ByteArray := prog_2_method_14_code
def yX0_bestParting : MethodName := ⟨RX0, "bestParting", "([I)I"⟩
abbrev cX0_partedMind : ByteArray := prog_2_method_15_code
def yX0_partedMind : MethodName := ⟨RX0, "partedMind", "(I)I"⟩
abbrev cX0_countWays : ByteArray := prog_2_method_16_code
def yX0_countWays : MethodName := ⟨RX0, "countWays", "([II)V"⟩
abbrev cX0_waysFrom : ByteArray := prog_2_method_17_code
def yX0_waysFrom : MethodName := ⟨RX0, "waysFrom", "(I)I"⟩
def RX1 : String := "TastelessCook$Past"
def TX1 : u_T := fun k => match k with
  | 0 => ("TastelessCook$Past", "scenes", "[LTastelessCook$Scene;", true)
  | 1 => ("TastelessCook$Past", "next", "I", false)
  | _ => ("TastelessCook$Past", "known", "I", false)
def tyX1 : Nat → FieldType := fun k => match k with
  | 0 => .array (.object "TastelessCook$Scene")
  | 1 => .int
  | _ => .int
theorem nmX1 : ∀ a, a < 3 → ∀ b, b < 3 → a ≠ b → (TX1 a).2.1 ≠ (TX1 b).2.1 := by decide +kernel
theorem tyX1_ok : ∀ k, k < 3 → parseFieldDescriptor (TX1 k).2.2.1 = some (tyX1 k) := by decide +kernel
abbrev cX1_init : ByteArray := prog_3_method_1_code
def yX1_init : MethodName := ⟨RX1, "<init>", "()V"⟩
abbrev cX1_remember : ByteArray := prog_3_method_2_code
def yX1_remember : MethodName := ⟨RX1, "remember", "(LTastelessCook$Scene;)V"⟩
abbrev cX1_bringBack : ByteArray := prog_3_method_3_code
def yX1_bringBack : MethodName := ⟨RX1, "bringBack", "(LTastelessCook$Scene;)I"⟩
def RX2 : String := "TastelessCook$Planner"
def TX2 : u_T := fun k => match k with
  | 0 => ("TastelessCook$Planner", "row", "[I", true)
  | 1 => ("TastelessCook$Planner", "reached", "[I", true)
  | 2 => ("TastelessCook$Planner", "lengths", "[I", true)
  | 3 => ("TastelessCook$Planner", "from", "[I", true)
  | 4 => ("TastelessCook$Planner", "deeds", "[I", true)
  | 5 => ("TastelessCook$Planner", "many", "I", false)
  | 6 => ("TastelessCook$Planner", "known", "[Z", true)
  | _ => ("TastelessCook$Planner", "trial", "LTastelessCook$Scene;", true)
def tyX2 : Nat → FieldType := fun k => match k with
  | 0 => .array .int
  | 1 => .array .int
  | 2 => .array .int
  | 3 => .array .int
  | 4 => .array .int
  | 5 => .int
  | 6 => .array .boolean
  | _ => .object "TastelessCook$Scene"
theorem nmX2 : ∀ a, a < 8 → ∀ b, b < 8 → a ≠ b → (TX2 a).2.1 ≠ (TX2 b).2.1 := by decide +kernel
theorem tyX2_ok : ∀ k, k < 8 → parseFieldDescriptor (TX2 k).2.2.1 = some (tyX2 k) := by decide +kernel
abbrev cX2_init : ByteArray := prog_4_method_1_code
def yX2_init : MethodName := ⟨RX2, "<init>", "()V"⟩
abbrev cX2_search : ByteArray := prog_4_method_2_code
def yX2_search : MethodName := ⟨RX2, "search", "(LTastelessCook$Brothers;LTastelessCook$Scene;I)I"⟩
abbrev cX2_forgetReached : ByteArray := prog_4_method_3_code
def yX2_forgetReached : MethodName := ⟨RX2, "forgetReached", "()V"⟩
abbrev cX2_goOnFrom : ByteArray := prog_4_method_4_code
def yX2_goOnFrom : MethodName := ⟨RX2, "goOnFrom", "(I)V"⟩
abbrev cX2_reach : ByteArray := prog_4_method_5_code
def yX2_reach : MethodName := ⟨RX2, "reach", "(III)V"⟩
abbrev cX2_tellRow : ByteArray := prog_4_method_6_code
def yX2_tellRow : MethodName := ⟨RX2, "tellRow", "(I)V"⟩
def RX3 : String := "TastelessCook$Scene"
def TX3 : u_T := fun k => match k with
  | 0 => ("TastelessCook$Scene", "pot", "[I", true)
  | 1 => ("TastelessCook$Scene", "cold", "[I", true)
  | _ => ("TastelessCook$Scene", "shown", "[I", true)
def tyX3 : Nat → FieldType := fun k => match k with
  | 0 => .array .int
  | 1 => .array .int
  | _ => .array .int
theorem nmX3 : ∀ a, a < 3 → ∀ b, b < 3 → a ≠ b → (TX3 a).2.1 ≠ (TX3 b).2.1 := by decide +kernel
theorem tyX3_ok : ∀ k, k < 3 → parseFieldDescriptor (TX3 k).2.2.1 = some (tyX3 k) := by decide +kernel
abbrev cX3_init : ByteArray := prog_5_method_1_code
def yX3_init : MethodName := ⟨RX3, "<init>", "()V"⟩
abbrev cX3_become : ByteArray := prog_5_method_2_code
def yX3_become : MethodName := ⟨RX3, "become", "(LTastelessCook$Scene;)V"⟩
abbrev cX3_begin : ByteArray := prog_5_method_3_code
def yX3_begin : MethodName := ⟨RX3, "begin", "([I[[II)V"⟩
abbrev cX3_coldSet : ByteArray := prog_5_method_4_code
def yX3_coldSet : MethodName := ⟨RX3, "coldSet", "()I"⟩
def RX4 : String := "TastelessCook$Stranger"
def TX4 : u_T := fun k => match k with
  | 0 => ("TastelessCook$Stranger", "miens", "[I", true)
  | 1 => ("TastelessCook$Stranger", "pots", "[[I", true)
  | 2 => ("TastelessCook$Stranger", "sights", "I", false)
  | 3 => ("TastelessCook$Stranger", "guess", "LTastelessCook$Taster;", true)
  | 4 => ("TastelessCook$Stranger", "rows", "I", false)
  | 5 => ("TastelessCook$Stranger", "least", "I", false)
  | 6 => ("TastelessCook$Stranger", "greatest", "I", false)
  | 7 => ("TastelessCook$Stranger", "after", "[[I", true)
  | _ => ("TastelessCook$Stranger", "tally", "[[I", true)
def tyX4 : Nat → FieldType := fun k => match k with
  | 0 => .array .int
  | 1 => .array (.array .int)
  | 2 => .int
  | 3 => .object "TastelessCook$Taster"
  | 4 => .int
  | 5 => .int
  | 6 => .int
  | 7 => .array (.array .int)
  | _ => .array (.array .int)
theorem nmX4 : ∀ a, a < 9 → ∀ b, b < 9 → a ≠ b → (TX4 a).2.1 ≠ (TX4 b).2.1 := by decide +kernel
theorem tyX4_ok : ∀ k, k < 9 → parseFieldDescriptor (TX4 k).2.2.1 = some (tyX4 k) := by decide +kernel
abbrev cX4_init : ByteArray := prog_6_method_1_code
def yX4_init : MethodName := ⟨RX4, "<init>", "()V"⟩
abbrev cX4_notice : ByteArray := prog_6_method_2_code
def yX4_notice : MethodName := ⟨RX4, "notice", "([II)I"⟩
abbrev cX4_fits : ByteArray := prog_6_method_3_code
def yX4_fits : MethodName := ⟨RX4, "fits", "(I)Z"⟩
abbrev cX4_gather : ByteArray := prog_6_method_4_code
def yX4_gather : MethodName := ⟨RX4, "gather", "(I)V"⟩
abbrev cX4_bestQuestion : ByteArray := prog_6_method_5_code
def yX4_bestQuestion : MethodName := ⟨RX4, "bestQuestion", "([I)I"⟩
abbrev cX4_foresee : ByteArray := prog_6_method_6_code
def yX4_foresee : MethodName := ⟨RX4, "foresee", "([I)V"⟩
abbrev cX4_tallyGuess : ByteArray := prog_6_method_7_code
def yX4_tallyGuess : MethodName := ⟨RX4, "tallyGuess", "()V"⟩
abbrev cX4_mostTelling : ByteArray := prog_6_method_8_code
def yX4_mostTelling : MethodName := ⟨RX4, "mostTelling", "()I"⟩
abbrev cX4_greatestOf : ByteArray := prog_6_method_9_code
def yX4_greatestOf : MethodName := ⟨RX4, "greatestOf", "([I)I"⟩
def RX5 : String := "TastelessCook$Taster"
def TX5 : u_T := fun k => match k with
  | 0 => ("TastelessCook$Taster", "likes", "[I", true)
  | _ => ("TastelessCook$Taster", "blunt", "I", false)
def tyX5 : Nat → FieldType := fun k => match k with
  | 0 => .array .int
  | _ => .int
theorem nmX5 : ∀ a, a < 2 → ∀ b, b < 2 → a ≠ b → (TX5 a).2.1 ≠ (TX5 b).2.1 := by decide +kernel
theorem tyX5_ok : ∀ k, k < 2 → parseFieldDescriptor (TX5 k).2.2.1 = some (tyX5 k) := by decide +kernel
abbrev cX5_init : ByteArray := prog_7_method_1_code
def yX5_init : MethodName := ⟨RX5, "<init>", "()V"⟩
abbrev cX5_offBy : ByteArray := prog_7_method_2_code
def yX5_offBy : MethodName := ⟨RX5, "offBy", "(III)I"⟩
abbrev cX5_mien : ByteArray := prog_7_method_3_code
def yX5_mien : MethodName := ⟨RX5, "mien", "([II)I"⟩
abbrev cX5_mind : ByteArray := prog_7_method_4_code
def yX5_mind : MethodName := ⟨RX5, "mind", "([II)I"⟩
def RX6 : String := "TastelessCook$Text"
def TX6 : u_T := fun k => match k with
  | 0 => ("TastelessCook$Text", "letters", "[I", true)
  | 1 => ("TastelessCook$Text", "length", "I", false)
  | 2 => ("TastelessCook$Text", "rows", "[[I", true)
  | 3 => ("TastelessCook$Text", "brothers", "I", false)
  | 4 => ("TastelessCook$Text", "pot", "[I", true)
  | 5 => ("TastelessCook$Text", "potTold", "Z", false)
  | _ => ("TastelessCook$Text", "place", "I", false)
def tyX6 : Nat → FieldType := fun k => match k with
  | 0 => .array .int
  | 1 => .int
  | 2 => .array (.array .int)
  | 3 => .int
  | 4 => .array .int
  | 5 => .boolean
  | _ => .int
theorem nmX6 : ∀ a, a < 7 → ∀ b, b < 7 → a ≠ b → (TX6 a).2.1 ≠ (TX6 b).2.1 := by decide +kernel
theorem tyX6_ok : ∀ k, k < 7 → parseFieldDescriptor (TX6 k).2.2.1 = some (tyX6 k) := by decide +kernel
abbrev cX6_init : ByteArray := prog_8_method_1_code
def yX6_init : MethodName := ⟨RX6, "<init>", "()V"⟩
abbrev cX6_append : ByteArray := prog_8_method_2_code
def yX6_append : MethodName := ⟨RX6, "append", "(I)I"⟩
abbrev cX6_empty : ByteArray := prog_8_method_3_code
def yX6_empty : MethodName := ⟨RX6, "empty", "()I"⟩
abbrev cX6_read : ByteArray := prog_8_method_4_code
def yX6_read : MethodName := ⟨RX6, "read", "()I"⟩
abbrev cX6_readItem : ByteArray := prog_8_method_5_code
def yX6_readItem : MethodName := ⟨RX6, "readItem", "()Z"⟩
abbrev cX6_readRow : ByteArray := prog_8_method_6_code
def yX6_readRow : MethodName := ⟨RX6, "readRow", "([I)Z"⟩
abbrev cX6_skipBlanks : ByteArray := prog_8_method_7_code
def yX6_skipBlanks : MethodName := ⟨RX6, "skipBlanks", "()V"⟩
abbrev cX6_isAt : ByteArray := prog_8_method_8_code
def yX6_isAt : MethodName := ⟨RX6, "isAt", "(II)Z"⟩
abbrev cX6_digitAt : ByteArray := prog_8_method_9_code
def yX6_digitAt : MethodName := ⟨RX6, "digitAt", "(I)I"⟩
def RX7 : String := "TastelessCook"
def TX7 : u_T := fun k => match k with
  | 0 => ("TastelessCook", "text", "LTastelessCook$Text;", true)
  | 1 => ("TastelessCook", "brothers", "LTastelessCook$Brothers;", true)
  | 2 => ("TastelessCook", "present", "LTastelessCook$Scene;", true)
  | 3 => ("TastelessCook", "past", "LTastelessCook$Past;", true)
  | 4 => ("TastelessCook", "images", "[LTastelessCook$Scene;", true)
  | 5 => ("TastelessCook", "kept", "[Z", true)
  | 6 => ("TastelessCook", "stranger", "LTastelessCook$Stranger;", true)
  | 7 => ("TastelessCook", "planner", "LTastelessCook$Planner;", true)
  | _ => ("TastelessCook", "traced", "J", false)
def tyX7 : Nat → FieldType := fun k => match k with
  | 0 => .object "TastelessCook$Text"
  | 1 => .object "TastelessCook$Brothers"
  | 2 => .object "TastelessCook$Scene"
  | 3 => .object "TastelessCook$Past"
  | 4 => .array (.object "TastelessCook$Scene")
  | 5 => .array .boolean
  | 6 => .object "TastelessCook$Stranger"
  | 7 => .object "TastelessCook$Planner"
  | _ => .long
theorem nmX7 : ∀ a, a < 9 → ∀ b, b < 9 → a ≠ b → (TX7 a).2.1 ≠ (TX7 b).2.1 := by decide +kernel
theorem tyX7_ok : ∀ k, k < 9 → parseFieldDescriptor (TX7 k).2.2.1 = some (tyX7 k) := by decide +kernel
abbrev cX7_init : ByteArray := prog_1_method_1_code
def yX7_init : MethodName := ⟨RX7, "<init>", "()V"⟩
abbrev cX7_type : ByteArray := prog_1_method_2_code
def yX7_type : MethodName := ⟨RX7, "type", "(I)I"⟩
abbrev cX7_clear : ByteArray := prog_1_method_3_code
def yX7_clear : MethodName := ⟨RX7, "clear", "()I"⟩
abbrev cX7_kitchen : ByteArray := prog_1_method_4_code
def yX7_kitchen : MethodName := ⟨RX7, "kitchen", "()I"⟩
abbrev cX7_pot : ByteArray := prog_1_method_5_code
def yX7_pot : MethodName := ⟨RX7, "pot", "(I)I"⟩
abbrev cX7_brother : ByteArray := prog_1_method_6_code
def yX7_brother : MethodName := ⟨RX7, "brother", "(II)I"⟩
abbrev cX7_off : ByteArray := prog_1_method_7_code
def yX7_off : MethodName := ⟨RX7, "off", "(II)I"⟩
abbrev cX7_now : ByteArray := prog_1_method_8_code
def yX7_now : MethodName := ⟨RX7, "now", "(I)I"⟩
abbrev cX7_adds : ByteArray := prog_1_method_9_code
def yX7_adds : MethodName := ⟨RX7, "adds", "(I)I"⟩
abbrev cX7_waters : ByteArray := prog_1_method_10_code
def yX7_waters : MethodName := ⟨RX7, "waters", "()I"⟩
abbrev cX7_sends : ByteArray := prog_1_method_11_code
def yX7_sends : MethodName := ⟨RX7, "sends", "(I)I"⟩
abbrev cX7_colds : ByteArray := prog_1_method_12_code
def yX7_colds : MethodName := ⟨RX7, "colds", "(II)I"⟩
abbrev cX7_undo : ByteArray := prog_1_method_13_code
def yX7_undo : MethodName := ⟨RX7, "undo", "()I"⟩
abbrev cX7_plan : ByteArray := prog_1_method_14_code
def yX7_plan : MethodName := ⟨RX7, "plan", "(II)I"⟩
abbrev cX7_middle : ByteArray := prog_1_method_15_code
def yX7_middle : MethodName := ⟨RX7, "middle", "(I)I"⟩
abbrev cX7_parted : ByteArray := prog_1_method_16_code
def yX7_parted : MethodName := ⟨RX7, "parted", "(I)I"⟩
abbrev cX7_odds : ByteArray := prog_1_method_17_code
def yX7_odds : MethodName := ⟨RX7, "odds", "(III)I"⟩
abbrev cX7_sees : ByteArray := prog_1_method_18_code
def yX7_sees : MethodName := ⟨RX7, "sees", "(I)I"⟩
abbrev cX7_forget : ByteArray := prog_1_method_19_code
def yX7_forget : MethodName := ⟨RX7, "forget", "()I"⟩
abbrev cX7_likings : ByteArray := prog_1_method_20_code
def yX7_likings : MethodName := ⟨RX7, "likings", "(II)I"⟩
abbrev cX7_ask : ByteArray := prog_1_method_21_code
def yX7_ask : MethodName := ⟨RX7, "ask", "()I"⟩
abbrev cX7_rate : ByteArray := prog_1_method_22_code
def yX7_rate : MethodName := ⟨RX7, "rate", "(II)I"⟩
abbrev cX7_keep : ByteArray := prog_1_method_23_code
def yX7_keep : MethodName := ⟨RX7, "keep", "(I)I"⟩
abbrev cX7_back : ByteArray := prog_1_method_24_code
def yX7_back : MethodName := ⟨RX7, "back", "(I)I"⟩
abbrev cX7_count : ByteArray := prog_1_method_25_code
def yX7_count : MethodName := ⟨RX7, "count", "(I)I"⟩
abbrev cX7_trace : ByteArray := prog_1_method_26_code
def yX7_trace : MethodName := ⟨RX7, "trace", "()J"⟩
abbrev cX7_beginAnew : ByteArray := prog_1_method_27_code
def yX7_beginAnew : MethodName := ⟨RX7, "beginAnew", "()V"⟩
abbrev cX7_asBrother : ByteArray := prog_1_method_28_code
def yX7_asBrother : MethodName := ⟨RX7, "asBrother", "(I)I"⟩
abbrev cX7_asNovice : ByteArray := prog_1_method_29_code
def yX7_asNovice : MethodName := ⟨RX7, "asNovice", "(I)I"⟩
abbrev cX7_asAbbot : ByteArray := prog_1_method_30_code
def yX7_asAbbot : MethodName := ⟨RX7, "asAbbot", "(I)I"⟩
abbrev cX7_asGiles : ByteArray := prog_1_method_31_code
def yX7_asGiles : MethodName := ⟨RX7, "asGiles", "(I)I"⟩
abbrev cX7_asPrior : ByteArray := prog_1_method_32_code
def yX7_asPrior : MethodName := ⟨RX7, "asPrior", "(I)I"⟩
abbrev cX7_asCellarer : ByteArray := prog_1_method_33_code
def yX7_asCellarer : MethodName := ⟨RX7, "asCellarer", "(I)I"⟩
abbrev cX7_isPart : ByteArray := prog_1_method_34_code
def yX7_isPart : MethodName := ⟨RX7, "isPart", "(I)Z"⟩
abbrev cX7_isImage : ByteArray := prog_1_method_35_code
def yX7_isImage : MethodName := ⟨RX7, "isImage", "(I)Z"⟩
abbrev cX7_total : ByteArray := prog_1_method_36_code
def yX7_total : MethodName := ⟨RX7, "total", "([I)I"⟩
abbrev cX7_change : ByteArray := prog_1_method_37_code
def yX7_change : MethodName := ⟨RX7, "change", "([II)V"⟩
abbrev cX7_numberOf : ByteArray := prog_1_method_38_code
def yX7_numberOf : MethodName := ⟨RX7, "numberOf", "([I)I"⟩
abbrev cX7_rowOf : ByteArray := prog_1_method_39_code
def yX7_rowOf : MethodName := ⟨RX7, "rowOf", "(I[I)V"⟩
abbrev cX7_inLeastTerms : ByteArray := prog_1_method_40_code
def yX7_inLeastTerms : MethodName := ⟨RX7, "inLeastTerms", "(III)I"⟩
def RX8 : String := "TastelessCookModel"
def TX8 : u_T := fun k => match k with
  | 0 => ("TastelessCookModel", "brothers", "I", false)
  | 1 => ("TastelessCookModel", "likes", "[I", true)
  | 2 => ("TastelessCookModel", "blunt", "[I", true)
  | 3 => ("TastelessCookModel", "st", "[I", true)
  | 4 => ("TastelessCookModel", "was", "[I", true)
  | 5 => ("TastelessCookModel", "known", "I", false)
  | 6 => ("TastelessCookModel", "images", "[I", true)
  | 7 => ("TastelessCookModel", "isKept", "[Z", true)
  | 8 => ("TastelessCookModel", "toldMany", "I", false)
  | 9 => ("TastelessCookModel", "toldPot", "[I", true)
  | 10 => ("TastelessCookModel", "toldMien", "[I", true)
  | 11 => ("TastelessCookModel", "trace", "J", false)
  | 12 => ("TastelessCookModel", "text", "[I", true)
  | 13 => ("TastelessCookModel", "texted", "I", false)
  | 14 => ("TastelessCookModel", "cursor", "I", false)
  | 15 => ("TastelessCookModel", "start", "I", false)
  | 16 => ("TastelessCookModel", "token", "I", false)
  | 17 => ("TastelessCookModel", "number", "I", false)
  | 18 => ("TastelessCookModel", "isWrong", "Z", false)
  | 19 => ("TastelessCookModel", "items", "I", false)
  | 20 => ("TastelessCookModel", "saidBrothers", "I", false)
  | 21 => ("TastelessCookModel", "said", "[I", true)
  | 22 => ("TastelessCookModel", "isPot", "Z", false)
  | 23 => ("TastelessCookModel", "saidPot", "[I", true)
  | 24 => ("TastelessCookModel", "now", "[I", true)
  | _ => ("TastelessCookModel", "parts", "[I", true)
def tyX8 : Nat → FieldType := fun k => match k with
  | 0 => .int
  | 1 => .array .int
  | 2 => .array .int
  | 3 => .array .int
  | 4 => .array .int
  | 5 => .int
  | 6 => .array .int
  | 7 => .array .boolean
  | 8 => .int
  | 9 => .array .int
  | 10 => .array .int
  | 11 => .long
  | 12 => .array .int
  | 13 => .int
  | 14 => .int
  | 15 => .int
  | 16 => .int
  | 17 => .int
  | 18 => .boolean
  | 19 => .int
  | 20 => .int
  | 21 => .array .int
  | 22 => .boolean
  | 23 => .array .int
  | 24 => .array .int
  | _ => .array .int
theorem nmX8 : ∀ a, a < 26 → ∀ b, b < 26 → a ≠ b → (TX8 a).2.1 ≠ (TX8 b).2.1 := by decide +kernel
theorem tyX8_ok : ∀ k, k < 26 → parseFieldDescriptor (TX8 k).2.2.1 = some (tyX8 k) := by decide +kernel
abbrev cX8_init : ByteArray := prog_10_method_1_code
def yX8_init : MethodName := ⟨RX8, "<init>", "()V"⟩
abbrev cX8_in : ByteArray := prog_10_method_3_code
def yX8_in : MethodName := ⟨RX8, "in", "(III)Z"⟩
abbrev cX8_has : ByteArray := prog_10_method_4_code
def yX8_has : MethodName := ⟨RX8, "has", "(II)Z"⟩
abbrev cX8_bits : ByteArray := prog_10_method_5_code
def yX8_bits : MethodName := ⟨RX8, "bits", "(I)I"⟩
abbrev cX8_isBrother : ByteArray := prog_10_method_6_code
def yX8_isBrother : MethodName := ⟨RX8, "isBrother", "(I)Z"⟩
abbrev cX8_isPart : ByteArray := prog_10_method_7_code
def yX8_isPart : MethodName := ⟨RX8, "isPart", "(I)Z"⟩
abbrev cX8_copy : ByteArray := prog_10_method_8_code
def yX8_copy : MethodName := ⟨RX8, "copy", "([II[II)V"⟩
abbrev cX8_type : ByteArray := prog_10_method_9_code
def yX8_type : MethodName := ⟨RX8, "type", "(I)I"⟩
abbrev cX8_clear : ByteArray := prog_10_method_10_code
def yX8_clear : MethodName := ⟨RX8, "clear", "()I"⟩
abbrev cX8_letterAt : ByteArray := prog_10_method_11_code
def yX8_letterAt : MethodName := ⟨RX8, "letterAt", "(I)I"⟩
abbrev cX8_isFigure : ByteArray := prog_10_method_12_code
def yX8_isFigure : MethodName := ⟨RX8, "isFigure", "(I)Z"⟩
abbrev cX8_next : ByteArray := prog_10_method_13_code
def yX8_next : MethodName := ⟨RX8, "next", "()V"⟩
abbrev cX8_takesNumber : ByteArray := prog_10_method_14_code
def yX8_takesNumber : MethodName := ⟨RX8, "takesNumber", "(II)I"⟩
abbrev cX8_readBrother : ByteArray := prog_10_method_15_code
def yX8_readBrother : MethodName := ⟨RX8, "readBrother", "()V"⟩
abbrev cX8_readPot : ByteArray := prog_10_method_16_code
def yX8_readPot : MethodName := ⟨RX8, "readPot", "()V"⟩
abbrev cX8_readItem : ByteArray := prog_10_method_17_code
def yX8_readItem : MethodName := ⟨RX8, "readItem", "()V"⟩
abbrev cX8_kitchen : ByteArray := prog_10_method_18_code
def yX8_kitchen : MethodName := ⟨RX8, "kitchen", "()I"⟩
abbrev cX8_settles : ByteArray := prog_10_method_19_code
def yX8_settles : MethodName := ⟨RX8, "settles", "()V"⟩
abbrev cX8_asItIs : ByteArray := prog_10_method_20_code
def yX8_asItIs : MethodName := ⟨RX8, "asItIs", "()V"⟩
abbrev cX8_tasted : ByteArray := prog_10_method_21_code
def yX8_tasted : MethodName := ⟨RX8, "tasted", "(IIZ)I"⟩
abbrev cX8_far : ByteArray := prog_10_method_22_code
def yX8_far : MethodName := ⟨RX8, "far", "(I)I"⟩
abbrev cX8_offOf : ByteArray := prog_10_method_23_code
def yX8_offOf : MethodName := ⟨RX8, "offOf", "(IIZ)I"⟩
abbrev cX8_mienBy : ByteArray := prog_10_method_24_code
def yX8_mienBy : MethodName := ⟨RX8, "mienBy", "(IZ)I"⟩
abbrev cX8_mien : ByteArray := prog_10_method_25_code
def yX8_mien : MethodName := ⟨RX8, "mien", "(I)I"⟩
abbrev cX8_mind : ByteArray := prog_10_method_26_code
def yX8_mind : MethodName := ⟨RX8, "mind", "(I)I"⟩
abbrev cX8_calm : ByteArray := prog_10_method_27_code
def yX8_calm : MethodName := ⟨RX8, "calm", "()I"⟩
abbrev cX8_inPot : ByteArray := prog_10_method_28_code
def yX8_inPot : MethodName := ⟨RX8, "inPot", "()I"⟩
abbrev cX8_mindAll : ByteArray := prog_10_method_29_code
def yX8_mindAll : MethodName := ⟨RX8, "mindAll", "()I"⟩
abbrev cX8_canBe : ByteArray := prog_10_method_30_code
def yX8_canBe : MethodName := ⟨RX8, "canBe", "(I)Z"⟩
abbrev cX8_does : ByteArray := prog_10_method_31_code
def yX8_does : MethodName := ⟨RX8, "does", "(I)V"⟩
abbrev cX8_pot : ByteArray := prog_10_method_32_code
def yX8_pot : MethodName := ⟨RX8, "pot", "(I)I"⟩
abbrev cX8_brother : ByteArray := prog_10_method_33_code
def yX8_brother : MethodName := ⟨RX8, "brother", "(II)I"⟩
abbrev cX8_off : ByteArray := prog_10_method_34_code
def yX8_off : MethodName := ⟨RX8, "off", "(II)I"⟩
abbrev cX8_now : ByteArray := prog_10_method_35_code
def yX8_now : MethodName := ⟨RX8, "now", "(I)I"⟩
abbrev cX8_remembers : ByteArray := prog_10_method_36_code
def yX8_remembers : MethodName := ⟨RX8, "remembers", "()V"⟩
abbrev cX8_adds : ByteArray := prog_10_method_37_code
def yX8_adds : MethodName := ⟨RX8, "adds", "(I)I"⟩
abbrev cX8_waters : ByteArray := prog_10_method_38_code
def yX8_waters : MethodName := ⟨RX8, "waters", "()I"⟩
abbrev cX8_sends : ByteArray := prog_10_method_39_code
def yX8_sends : MethodName := ⟨RX8, "sends", "(I)I"⟩
abbrev cX8_colds : ByteArray := prog_10_method_40_code
def yX8_colds : MethodName := ⟨RX8, "colds", "(II)I"⟩
abbrev cX8_undo : ByteArray := prog_10_method_41_code
def yX8_undo : MethodName := ⟨RX8, "undo", "()I"⟩
abbrev cX8_fives : ByteArray := prog_10_method_42_code
def yX8_fives : MethodName := ⟨RX8, "fives", "(I)I"⟩
abbrev cX8_calmsBy : ByteArray := prog_10_method_43_code
def yX8_calmsBy : MethodName := ⟨RX8, "calmsBy", "(III)Z"⟩
abbrev cX8_plan : ByteArray := prog_10_method_44_code
def yX8_plan : MethodName := ⟨RX8, "plan", "(II)I"⟩
abbrev cX8_mindOf : ByteArray := prog_10_method_45_code
def yX8_mindOf : MethodName := ⟨RX8, "mindOf", "(III)I"⟩
abbrev cX8_middleOf : ByteArray := prog_10_method_46_code
def yX8_middleOf : MethodName := ⟨RX8, "middleOf", "(II)I"⟩
abbrev cX8_leastOf : ByteArray := prog_10_method_47_code
def yX8_leastOf : MethodName := ⟨RX8, "leastOf", "(I)I"⟩
abbrev cX8_middle : ByteArray := prog_10_method_48_code
def yX8_middle : MethodName := ⟨RX8, "middle", "(I)I"⟩
abbrev cX8_parted : ByteArray := prog_10_method_49_code
def yX8_parted : MethodName := ⟨RX8, "parted", "(I)I"⟩
abbrev cX8_lowest : ByteArray := prog_10_method_50_code
def yX8_lowest : MethodName := ⟨RX8, "lowest", "(III)I"⟩
abbrev cX8_odds : ByteArray := prog_10_method_51_code
def yX8_odds : MethodName := ⟨RX8, "odds", "(III)I"⟩
abbrev cX8_sees : ByteArray := prog_10_method_52_code
def yX8_sees : MethodName := ⟨RX8, "sees", "(I)I"⟩
abbrev cX8_forget : ByteArray := prog_10_method_53_code
def yX8_forget : MethodName := ⟨RX8, "forget", "()I"⟩
abbrev cX8_likeOf : ByteArray := prog_10_method_54_code
def yX8_likeOf : MethodName := ⟨RX8, "likeOf", "(II)I"⟩
abbrev cX8_mienOf : ByteArray := prog_10_method_55_code
def yX8_mienOf : MethodName := ⟨RX8, "mienOf", "(I[II)I"⟩
abbrev cX8_isSo : ByteArray := prog_10_method_56_code
def yX8_isSo : MethodName := ⟨RX8, "isSo", "(I)Z"⟩
abbrev cX8_likings : ByteArray := prog_10_method_57_code
def yX8_likings : MethodName := ⟨RX8, "likings", "(II)I"⟩
abbrev cX8_greatestPart : ByteArray := prog_10_method_58_code
def yX8_greatestPart : MethodName := ⟨RX8, "greatestPart", "()I"⟩
abbrev cX8_ask : ByteArray := prog_10_method_59_code
def yX8_ask : MethodName := ⟨RX8, "ask", "()I"⟩
abbrev cX8_rate : ByteArray := prog_10_method_60_code
def yX8_rate : MethodName := ⟨RX8, "rate", "(II)I"⟩
abbrev cX8_keep : ByteArray := prog_10_method_61_code
def yX8_keep : MethodName := ⟨RX8, "keep", "(I)I"⟩
abbrev cX8_back : ByteArray := prog_10_method_62_code
def yX8_back : MethodName := ⟨RX8, "back", "(I)I"⟩
abbrev cX8_count : ByteArray := prog_10_method_63_code
def yX8_count : MethodName := ⟨RX8, "count", "(I)I"⟩
abbrev cX8_trace : ByteArray := prog_10_method_64_code
def yX8_trace : MethodName := ⟨RX8, "trace", "()J"⟩
def RJ6 : String := "java/lang/Integer"
def TJ6 : u_T := fun k => match k with
  | _ => ("", "", "", false)
def tyJ6 : Nat → FieldType := fun k => match k with
  | _ => .int
theorem nmJ6 : ∀ a, a < 0 → ∀ b, b < 0 → a ≠ b → (TJ6 a).2.1 ≠ (TJ6 b).2.1 := by decide +kernel
theorem tyJ6_ok : ∀ k, k < 0 → parseFieldDescriptor (TJ6 k).2.2.1 = some (tyJ6 k) := by decide +kernel
abbrev cJ6_bitCount_0f7a4 : ByteArray := prog_11_method_49_code
def yJ6_bitCount_0f7a4 : MethodName := ⟨RJ6, "bitCount", "(I)I"⟩
def RJ9 : String := "java/lang/Math"
def TJ9 : u_T := fun k => match k with
  | _ => ("", "", "", false)
def tyJ9 : Nat → FieldType := fun k => match k with
  | _ => .int
theorem nmJ9 : ∀ a, a < 0 → ∀ b, b < 0 → a ≠ b → (TJ9 a).2.1 ≠ (TJ9 b).2.1 := by decide +kernel
theorem tyJ9_ok : ∀ k, k < 0 → parseFieldDescriptor (TJ9 k).2.2.1 = some (tyJ9 k) := by decide +kernel
abbrev cJ9_abs_0f7a4 : ByteArray := prog_12_method_59_code
def yJ9_abs_0f7a4 : MethodName := ⟨RJ9, "abs", "(I)I"⟩
abbrev cJ9_max_7cf53 : ByteArray := prog_12_method_65_code
def yJ9_max_7cf53 : MethodName := ⟨RJ9, "max", "(II)I"⟩
abbrev cJ9_min_7cf53 : ByteArray := prog_12_method_69_code
def yJ9_min_7cf53 : MethodName := ⟨RJ9, "min", "(II)I"⟩
def RJ10 : String := "java/lang/System"
def TJ10 : u_T := fun k => match k with
  | _ => ("", "", "", false)
def tyJ10 : Nat → FieldType := fun k => match k with
  | _ => .int
theorem nmJ10 : ∀ a, a < 0 → ∀ b, b < 0 → a ≠ b → (TJ10 a).2.1 ≠ (TJ10 b).2.1 := by decide +kernel
theorem tyJ10_ok : ∀ k, k < 0 → parseFieldDescriptor (TJ10 k).2.2.1 = some (tyJ10 k) := by decide +kernel
def RJ7 : String := "java/util/Arrays"
def TJ7 : u_T := fun k => match k with
  | _ => ("", "", "", false)
def tyJ7 : Nat → FieldType := fun k => match k with
  | _ => .int
theorem nmJ7 : ∀ a, a < 0 → ∀ b, b < 0 → a ≠ b → (TJ7 a).2.1 ≠ (TJ7 b).2.1 := by decide +kernel
theorem tyJ7_ok : ∀ k, k < 0 → parseFieldDescriptor (TJ7 k).2.2.1 = some (tyJ7 k) := by decide +kernel
abbrev cJ7_fill_53178 : ByteArray := prog_14_method_103_code
def yJ7_fill_53178 : MethodName := ⟨RJ7, "fill", "([II)V"⟩
def RL : String := "TastelessCookLaw"
abbrev cL_law : ByteArray := code
def yL_law : MethodName := ⟨RL, "law", "([I)Z"⟩
abbrev vwCl : List vw_C := [(RX0, TX0, 4), (RX1, TX1, 3), (RX2, TX2, 8), (RX3, TX3, 3), (RX4, TX4, 9), (RX5, TX5, 2), (RX6, TX6, 7), (RX7, TX7, 9), (RX8, TX8, 26)]
end
section
theorem dX0_init_0 : decode cX0_init 0 = .ok (.aload_n 0, 1) := by decide +kernel
theorem dX0_init_1 : decode cX0_init 1 = .ok (.invokespecial 3, 3) := by decide +kernel
theorem dX0_init_4 : decode cX0_init 4 = .ok (.aload_n 0, 1) := by decide +kernel
theorem dX0_init_5 : decode cX0_init 5 = .ok (.bipush 6, 2) := by decide +kernel
theorem dX0_init_7 : decode cX0_init 7 = .ok (.anewarray 9, 3) := by decide +kernel
theorem dX0_init_10 : decode cX0_init 10 = .ok (.putfield 11, 3) := by decide +kernel
theorem dX0_init_13 : decode cX0_init 13 = .ok (.aload_n 0, 1) := by decide +kernel
theorem dX0_init_14 : decode cX0_init 14 = .ok (.bipush 64, 2) := by decide +kernel
theorem dX0_init_16 : decode cX0_init 16 = .ok (.newarray .int, 2) := by decide +kernel
theorem dX0_init_18 : decode cX0_init 18 = .ok (.putfield 17, 3) := by decide +kernel
theorem dX0_init_21 : decode cX0_init 21 = .ok (.aload_n 0, 1) := by decide +kernel
theorem dX0_init_22 : decode cX0_init 22 = .ok (.bipush 7, 2) := by decide +kernel
theorem dX0_init_24 : decode cX0_init 24 = .ok (.newarray .int, 2) := by decide +kernel
theorem dX0_init_26 : decode cX0_init 26 = .ok (.putfield 21, 3) := by decide +kernel
theorem dX0_init_29 : decode cX0_init 29 = .ok (.iconst 0, 1) := by decide +kernel
theorem dX0_init_30 : decode cX0_init 30 = .ok (.istore_n 1, 1) := by decide +kernel
theorem dX0_init_31 : decode cX0_init 31 = .ok (.iload_n 1, 1) := by decide +kernel
theorem dX0_init_32 : decode cX0_init 32 = .ok (.bipush 6, 2) := by decide +kernel
theorem dX0_init_34 : decode cX0_init 34 = .ok (.if_icmp .ge 22, 3) := by decide +kernel
theorem dX0_init_37 : decode cX0_init 37 = .ok (.aload_n 0, 1) := by decide +kernel
theorem dX0_init_38 : decode cX0_init 38 = .ok (.getfield 11, 3) := by decide +kernel
theorem dX0_init_41 : decode cX0_init 41 = .ok (.iload_n 1, 1) := by decide +kernel
theorem dX0_init_42 : decode cX0_init 42 = .ok (.new 9, 3) := by decide +kernel
theorem dX0_init_45 : decode cX0_init 45 = .ok (.dup, 1) := by decide +kernel
theorem dX0_init_46 : decode cX0_init 46 = .ok (.invokespecial 24, 3) := by decide +kernel
theorem dX0_init_49 : decode cX0_init 49 = .ok (.aastore, 1) := by decide +kernel
theorem dX0_init_50 : decode cX0_init 50 = .ok (.iinc 1 1, 3) := by decide +kernel
theorem dX0_init_53 : decode cX0_init 53 = .ok (.goto (-22), 3) := by decide +kernel
theorem dX0_init_56 : decode cX0_init 56 = .ok (.return_, 1) := by decide +kernel
theorem dX0_become_0 : decode cX0_become 0 = .ok (.aload_n 0, 1) := by decide +kernel
theorem dX0_become_1 : decode cX0_become 1 = .ok (.iload_n 2, 1) := by decide +kernel
theorem dX0_become_2 : decode cX0_become 2 = .ok (.bipush 6, 2) := by decide +kernel
theorem dX0_become_4 : decode cX0_become 4 = .ok (.invokestatic 25, 3) := by decide +kernel
theorem dX0_become_7 : decode cX0_become 7 = .ok (.putfield 31, 3) := by decide +kernel
theorem dX0_become_10 : decode cX0_become 10 = .ok (.iconst 0, 1) := by decide +kernel
theorem dX0_become_11 : decode cX0_become 11 = .ok (.istore_n 3, 1) := by decide +kernel
theorem dX0_become_12 : decode cX0_become 12 = .ok (.iload_n 3, 1) := by decide +kernel
theorem dX0_become_13 : decode cX0_become 13 = .ok (.aload_n 0, 1) := by decide +kernel
theorem dX0_become_14 : decode cX0_become 14 = .ok (.getfield 31, 3) := by decide +kernel
theorem dX0_become_17 : decode cX0_become 17 = .ok (.if_icmp .ge 41, 3) := by decide +kernel
theorem dX0_become_20 : decode cX0_become 20 = .ok (.aload_n 1, 1) := by decide +kernel
theorem dX0_become_21 : decode cX0_become 21 = .ok (.iload_n 3, 1) := by decide +kernel
theorem dX0_become_22 : decode cX0_become 22 = .ok (.aaload, 1) := by decide +kernel
theorem dX0_become_23 : decode cX0_become 23 = .ok (.iconst 0, 1) := by decide +kernel
theorem dX0_become_24 : decode cX0_become 24 = .ok (.aload_n 0, 1) := by decide +kernel
theorem dX0_become_25 : decode cX0_become 25 = .ok (.getfield 11, 3) := by decide +kernel
theorem dX0_become_28 : decode cX0_become 28 = .ok (.iload_n 3, 1) := by decide +kernel
theorem dX0_become_29 : decode cX0_become 29 = .ok (.aaload, 1) := by decide +kernel
theorem dX0_become_30 : decode cX0_become 30 = .ok (.getfield 35, 3) := by decide +kernel
theorem dX0_become_33 : decode cX0_become 33 = .ok (.iconst 0, 1) := by decide +kernel
theorem dX0_become_34 : decode cX0_become 34 = .ok (.iconst 4, 1) := by decide +kernel
theorem dX0_become_35 : decode cX0_become 35 = .ok (.invokestatic 38, 3) := by decide +kernel
theorem dX0_become_38 : decode cX0_become 38 = .ok (.aload_n 0, 1) := by decide +kernel
theorem dX0_become_39 : decode cX0_become 39 = .ok (.getfield 11, 3) := by decide +kernel
theorem dX0_become_42 : decode cX0_become 42 = .ok (.iload_n 3, 1) := by decide +kernel
theorem dX0_become_43 : decode cX0_become 43 = .ok (.aaload, 1) := by decide +kernel
theorem dX0_become_44 : decode cX0_become 44 = .ok (.aload_n 1, 1) := by decide +kernel
theorem dX0_become_45 : decode cX0_become 45 = .ok (.iload_n 3, 1) := by decide +kernel
theorem dX0_become_46 : decode cX0_become 46 = .ok (.aaload, 1) := by decide +kernel
theorem dX0_become_47 : decode cX0_become 47 = .ok (.iconst 4, 1) := by decide +kernel
theorem dX0_become_48 : decode cX0_become 48 = .ok (.iaload, 1) := by decide +kernel
theorem dX0_become_49 : decode cX0_become 49 = .ok (.putfield 44, 3) := by decide +kernel
theorem dX0_become_52 : decode cX0_become 52 = .ok (.iinc 3 1, 3) := by decide +kernel
theorem dX0_become_55 : decode cX0_become 55 = .ok (.goto (-43), 3) := by decide +kernel
theorem dX0_become_58 : decode cX0_become 58 = .ok (.return_, 1) := by decide +kernel
theorem dX0_has_0 : decode cX0_has 0 = .ok (.iload_n 1, 1) := by decide +kernel
theorem dX0_has_1 : decode cX0_has 1 = .ok (.ifCond .lt 15, 3) := by decide +kernel
theorem dX0_has_4 : decode cX0_has 4 = .ok (.iload_n 1, 1) := by decide +kernel
theorem dX0_has_5 : decode cX0_has 5 = .ok (.aload_n 0, 1) := by decide +kernel
theorem dX0_has_6 : decode cX0_has 6 = .ok (.getfield 31, 3) := by decide +kernel
theorem dX0_has_9 : decode cX0_has 9 = .ok (.if_icmp .ge 7, 3) := by decide +kernel
theorem dX0_has_12 : decode cX0_has 12 = .ok (.iconst 1, 1) := by decide +kernel
theorem dX0_has_13 : decode cX0_has 13 = .ok (.goto 4, 3) := by decide +kernel
theorem dX0_has_16 : decode cX0_has 16 = .ok (.iconst 0, 1) := by decide +kernel
theorem dX0_has_17 : decode cX0_has 17 = .ok (.ireturn, 1) := by decide +kernel
theorem dX0_everyone_0 : decode cX0_everyone 0 = .ok (.iconst 1, 1) := by decide +kernel
theorem dX0_everyone_1 : decode cX0_everyone 1 = .ok (.aload_n 0, 1) := by decide +kernel
theorem dX0_everyone_2 : decode cX0_everyone 2 = .ok (.getfield 31, 3) := by decide +kernel
theorem dX0_everyone_5 : decode cX0_everyone 5 = .ok (.ishl, 1) := by decide +kernel
theorem dX0_everyone_6 : decode cX0_everyone 6 = .ok (.iconst 1, 1) := by decide +kernel
theorem dX0_everyone_7 : decode cX0_everyone 7 = .ok (.isub, 1) := by decide +kernel
theorem dX0_everyone_8 : decode cX0_everyone 8 = .ok (.ireturn, 1) := by decide +kernel
theorem dX0_mienOf_0 : decode cX0_mienOf 0 = .ok (.aload_n 0, 1) := by decide +kernel
theorem dX0_mienOf_1 : decode cX0_mienOf 1 = .ok (.getfield 11, 3) := by decide +kernel
theorem dX0_mienOf_4 : decode cX0_mienOf 4 = .ok (.iload_n 1, 1) := by decide +kernel
theorem dX0_mienOf_5 : decode cX0_mienOf 5 = .ok (.aaload, 1) := by decide +kernel
theorem dX0_mienOf_6 : decode cX0_mienOf 6 = .ok (.aload_n 2, 1) := by decide +kernel
theorem dX0_mienOf_7 : decode cX0_mienOf 7 = .ok (.getfield 47, 3) := by decide +kernel
theorem dX0_mienOf_10 : decode cX0_mienOf 10 = .ok (.aload_n 2, 1) := by decide +kernel
theorem dX0_mienOf_11 : decode cX0_mienOf 11 = .ok (.getfield 52, 3) := by decide +kernel
theorem dX0_mienOf_14 : decode cX0_mienOf 14 = .ok (.iload_n 1, 1) := by decide +kernel
theorem dX0_mienOf_15 : decode cX0_mienOf 15 = .ok (.iaload, 1) := by decide +kernel
theorem dX0_mienOf_16 : decode cX0_mienOf 16 = .ok (.invokevirtual 55, 3) := by decide +kernel
theorem dX0_mienOf_19 : decode cX0_mienOf 19 = .ok (.ireturn, 1) := by decide +kernel
theorem dX0_mindOf_0 : decode cX0_mindOf 0 = .ok (.aload_n 0, 1) := by decide +kernel
theorem dX0_mindOf_1 : decode cX0_mindOf 1 = .ok (.getfield 11, 3) := by decide +kernel
theorem dX0_mindOf_4 : decode cX0_mindOf 4 = .ok (.iload_n 1, 1) := by decide +kernel
theorem dX0_mindOf_5 : decode cX0_mindOf 5 = .ok (.aaload, 1) := by decide +kernel
theorem dX0_mindOf_6 : decode cX0_mindOf 6 = .ok (.aload_n 2, 1) := by decide +kernel
theorem dX0_mindOf_7 : decode cX0_mindOf 7 = .ok (.getfield 47, 3) := by decide +kernel
theorem dX0_mindOf_10 : decode cX0_mindOf 10 = .ok (.aload_n 2, 1) := by decide +kernel
theorem dX0_mindOf_11 : decode cX0_mindOf 11 = .ok (.getfield 52, 3) := by decide +kernel
theorem dX0_mindOf_14 : decode cX0_mindOf 14 = .ok (.iload_n 1, 1) := by decide +kernel
theorem dX0_mindOf_15 : decode cX0_mindOf 15 = .ok (.iaload, 1) := by decide +kernel
theorem dX0_mindOf_16 : decode cX0_mindOf 16 = .ok (.invokevirtual 59, 3) := by decide +kernel
theorem dX0_mindOf_19 : decode cX0_mindOf 19 = .ok (.ireturn, 1) := by decide +kernel
theorem dX0_mindOfAll_0 : decode cX0_mindOfAll 0 = .ok (.iconst 0, 1) := by decide +kernel
theorem dX0_mindOfAll_1 : decode cX0_mindOfAll 1 = .ok (.istore_n 2, 1) := by decide +kernel
theorem dX0_mindOfAll_2 : decode cX0_mindOfAll 2 = .ok (.iconst 0, 1) := by decide +kernel
theorem dX0_mindOfAll_3 : decode cX0_mindOfAll 3 = .ok (.istore_n 3, 1) := by decide +kernel
theorem dX0_mindOfAll_4 : decode cX0_mindOfAll 4 = .ok (.iload_n 3, 1) := by decide +kernel
theorem dX0_mindOfAll_5 : decode cX0_mindOfAll 5 = .ok (.aload_n 0, 1) := by decide +kernel
theorem dX0_mindOfAll_6 : decode cX0_mindOfAll 6 = .ok (.getfield 31, 3) := by decide +kernel
theorem dX0_mindOfAll_9 : decode cX0_mindOfAll 9 = .ok (.if_icmp .ge 18, 3) := by decide +kernel
theorem dX0_mindOfAll_12 : decode cX0_mindOfAll 12 = .ok (.iload_n 2, 1) := by decide +kernel
theorem dX0_mindOfAll_13 : decode cX0_mindOfAll 13 = .ok (.aload_n 0, 1) := by decide +kernel
theorem dX0_mindOfAll_14 : decode cX0_mindOfAll 14 = .ok (.iload_n 3, 1) := by decide +kernel
theorem dX0_mindOfAll_15 : decode cX0_mindOfAll 15 = .ok (.aload_n 1, 1) := by decide +kernel
theorem dX0_mindOfAll_16 : decode cX0_mindOfAll 16 = .ok (.invokevirtual 62, 3) := by decide +kernel
theorem dX0_mindOfAll_19 : decode cX0_mindOfAll 19 = .ok (.iadd, 1) := by decide +kernel
theorem dX0_mindOfAll_20 : decode cX0_mindOfAll 20 = .ok (.istore_n 2, 1) := by decide +kernel
theorem dX0_mindOfAll_21 : decode cX0_mindOfAll 21 = .ok (.iinc 3 1, 3) := by decide +kernel
theorem dX0_mindOfAll_24 : decode cX0_mindOfAll 24 = .ok (.goto (-20), 3) := by decide +kernel
theorem dX0_mindOfAll_27 : decode cX0_mindOfAll 27 = .ok (.iload_n 2, 1) := by decide +kernel
theorem dX0_mindOfAll_28 : decode cX0_mindOfAll 28 = .ok (.ireturn, 1) := by decide +kernel
theorem dX0_calmSet_0 : decode cX0_calmSet 0 = .ok (.iconst 0, 1) := by decide +kernel
theorem dX0_calmSet_1 : decode cX0_calmSet 1 = .ok (.istore_n 2, 1) := by decide +kernel
theorem dX0_calmSet_2 : decode cX0_calmSet 2 = .ok (.iconst 0, 1) := by decide +kernel
theorem dX0_calmSet_3 : decode cX0_calmSet 3 = .ok (.istore_n 3, 1) := by decide +kernel
theorem dX0_calmSet_4 : decode cX0_calmSet 4 = .ok (.iload_n 3, 1) := by decide +kernel
theorem dX0_calmSet_5 : decode cX0_calmSet 5 = .ok (.aload_n 0, 1) := by decide +kernel
theorem dX0_calmSet_6 : decode cX0_calmSet 6 = .ok (.getfield 31, 3) := by decide +kernel
theorem dX0_calmSet_9 : decode cX0_calmSet 9 = .ok (.if_icmp .ge 24, 3) := by decide +kernel
theorem dX0_calmSet_12 : decode cX0_calmSet 12 = .ok (.aload_n 0, 1) := by decide +kernel
theorem dX0_calmSet_13 : decode cX0_calmSet 13 = .ok (.iload_n 3, 1) := by decide +kernel
theorem dX0_calmSet_14 : decode cX0_calmSet 14 = .ok (.aload_n 1, 1) := by decide +kernel
theorem dX0_calmSet_15 : decode cX0_calmSet 15 = .ok (.invokevirtual 66, 3) := by decide +kernel
theorem dX0_calmSet_18 : decode cX0_calmSet 18 = .ok (.ifCond .ne 9, 3) := by decide +kernel
theorem dX0_calmSet_21 : decode cX0_calmSet 21 = .ok (.iload_n 2, 1) := by decide +kernel
theorem dX0_calmSet_22 : decode cX0_calmSet 22 = .ok (.iconst 1, 1) := by decide +kernel
theorem dX0_calmSet_23 : decode cX0_calmSet 23 = .ok (.iload_n 3, 1) := by decide +kernel
theorem dX0_calmSet_24 : decode cX0_calmSet 24 = .ok (.ishl, 1) := by decide +kernel
theorem dX0_calmSet_25 : decode cX0_calmSet 25 = .ok (.ior, 1) := by decide +kernel
theorem dX0_calmSet_26 : decode cX0_calmSet 26 = .ok (.istore_n 2, 1) := by decide +kernel
theorem dX0_calmSet_27 : decode cX0_calmSet 27 = .ok (.iinc 3 1, 3) := by decide +kernel
theorem dX0_calmSet_30 : decode cX0_calmSet 30 = .ok (.goto (-26), 3) := by decide +kernel
theorem dX0_calmSet_33 : decode cX0_calmSet 33 = .ok (.iload_n 2, 1) := by decide +kernel
theorem dX0_calmSet_34 : decode cX0_calmSet 34 = .ok (.ireturn, 1) := by decide +kernel
theorem dX0_howManyCalm_0 : decode cX0_howManyCalm 0 = .ok (.aload_n 0, 1) := by decide +kernel
theorem dX0_howManyCalm_1 : decode cX0_howManyCalm 1 = .ok (.aload_n 1, 1) := by decide +kernel
theorem dX0_howManyCalm_2 : decode cX0_howManyCalm 2 = .ok (.invokevirtual 69, 3) := by decide +kernel
theorem dX0_howManyCalm_5 : decode cX0_howManyCalm 5 = .ok (.invokestatic 73, 3) := by decide +kernel
theorem dX0_howManyCalm_8 : decode cX0_howManyCalm 8 = .ok (.ireturn, 1) := by decide +kernel
theorem dX0_areCalm_0 : decode cX0_areCalm 0 = .ok (.iconst 0, 1) := by decide +kernel
theorem dX0_areCalm_1 : decode cX0_areCalm 1 = .ok (.istore_n 3, 1) := by decide +kernel
theorem dX0_areCalm_2 : decode cX0_areCalm 2 = .ok (.iload_n 3, 1) := by decide +kernel
theorem dX0_areCalm_3 : decode cX0_areCalm 3 = .ok (.aload_n 0, 1) := by decide +kernel
theorem dX0_areCalm_4 : decode cX0_areCalm 4 = .ok (.getfield 31, 3) := by decide +kernel
theorem dX0_areCalm_7 : decode cX0_areCalm 7 = .ok (.if_icmp .ge 29, 3) := by decide +kernel
theorem dX0_areCalm_10 : decode cX0_areCalm 10 = .ok (.iload_n 1, 1) := by decide +kernel
theorem dX0_areCalm_11 : decode cX0_areCalm 11 = .ok (.iload_n 3, 1) := by decide +kernel
theorem dX0_areCalm_12 : decode cX0_areCalm 12 = .ok (.ishr, 1) := by decide +kernel
theorem dX0_areCalm_13 : decode cX0_areCalm 13 = .ok (.iconst 1, 1) := by decide +kernel
theorem dX0_areCalm_14 : decode cX0_areCalm 14 = .ok (.iand, 1) := by decide +kernel
theorem dX0_areCalm_15 : decode cX0_areCalm 15 = .ok (.iconst 1, 1) := by decide +kernel
theorem dX0_areCalm_16 : decode cX0_areCalm 16 = .ok (.if_icmp .ne 14, 3) := by decide +kernel
theorem dX0_areCalm_19 : decode cX0_areCalm 19 = .ok (.aload_n 0, 1) := by decide +kernel
theorem dX0_areCalm_20 : decode cX0_areCalm 20 = .ok (.iload_n 3, 1) := by decide +kernel
theorem dX0_areCalm_21 : decode cX0_areCalm 21 = .ok (.aload_n 2, 1) := by decide +kernel
theorem dX0_areCalm_22 : decode cX0_areCalm 22 = .ok (.invokevirtual 66, 3) := by decide +kernel
theorem dX0_areCalm_25 : decode cX0_areCalm 25 = .ok (.ifCond .eq 5, 3) := by decide +kernel
theorem dX0_areCalm_28 : decode cX0_areCalm 28 = .ok (.iconst 0, 1) := by decide +kernel
theorem dX0_areCalm_29 : decode cX0_areCalm 29 = .ok (.ireturn, 1) := by decide +kernel
theorem dX0_areCalm_30 : decode cX0_areCalm 30 = .ok (.iinc 3 1, 3) := by decide +kernel
theorem dX0_areCalm_33 : decode cX0_areCalm 33 = .ok (.goto (-31), 3) := by decide +kernel
theorem dX0_areCalm_36 : decode cX0_areCalm 36 = .ok (.iconst 1, 1) := by decide +kernel
theorem dX0_areCalm_37 : decode cX0_areCalm 37 = .ok (.ireturn, 1) := by decide +kernel
theorem dX0_mindPart_0 : decode cX0_mindPart 0 = .ok (.iconst 0, 1) := by decide +kernel
theorem dX0_mindPart_1 : decode cX0_mindPart 1 = .ok (.istore 5, 2) := by decide +kernel
theorem dX0_mindPart_3 : decode cX0_mindPart 3 = .ok (.iconst 0, 1) := by decide +kernel
theorem dX0_mindPart_4 : decode cX0_mindPart 4 = .ok (.istore 6, 2) := by decide +kernel
theorem dX0_mindPart_6 : decode cX0_mindPart 6 = .ok (.iload 6, 2) := by decide +kernel
theorem dX0_mindPart_8 : decode cX0_mindPart 8 = .ok (.aload_n 0, 1) := by decide +kernel
theorem dX0_mindPart_9 : decode cX0_mindPart 9 = .ok (.getfield 31, 3) := by decide +kernel
theorem dX0_mindPart_12 : decode cX0_mindPart 12 = .ok (.if_icmp .ge 44, 3) := by decide +kernel
theorem dX0_mindPart_15 : decode cX0_mindPart 15 = .ok (.iload_n 1, 1) := by decide +kernel
theorem dX0_mindPart_16 : decode cX0_mindPart 16 = .ok (.iload 6, 2) := by decide +kernel
theorem dX0_mindPart_18 : decode cX0_mindPart 18 = .ok (.ishr, 1) := by decide +kernel
theorem dX0_mindPart_19 : decode cX0_mindPart 19 = .ok (.iconst 1, 1) := by decide +kernel
theorem dX0_mindPart_20 : decode cX0_mindPart 20 = .ok (.iand, 1) := by decide +kernel
theorem dX0_mindPart_21 : decode cX0_mindPart 21 = .ok (.iconst 1, 1) := by decide +kernel
theorem dX0_mindPart_22 : decode cX0_mindPart 22 = .ok (.if_icmp .ne 28, 3) := by decide +kernel
theorem dX0_mindPart_25 : decode cX0_mindPart 25 = .ok (.iload 5, 2) := by decide +kernel
theorem dX0_mindPart_27 : decode cX0_mindPart 27 = .ok (.aload_n 0, 1) := by decide +kernel
theorem dX0_mindPart_28 : decode cX0_mindPart 28 = .ok (.getfield 11, 3) := by decide +kernel
theorem dX0_mindPart_31 : decode cX0_mindPart 31 = .ok (.iload 6, 2) := by decide +kernel
theorem dX0_mindPart_33 : decode cX0_mindPart 33 = .ok (.aaload, 1) := by decide +kernel
theorem dX0_mindPart_34 : decode cX0_mindPart 34 = .ok (.iload_n 2, 1) := by decide +kernel
theorem dX0_mindPart_35 : decode cX0_mindPart 35 = .ok (.iload_n 3, 1) := by decide +kernel
theorem dX0_mindPart_36 : decode cX0_mindPart 36 = .ok (.aload 4, 2) := by decide +kernel
theorem dX0_mindPart_38 : decode cX0_mindPart 38 = .ok (.iload 6, 2) := by decide +kernel
theorem dX0_mindPart_40 : decode cX0_mindPart 40 = .ok (.iaload, 1) := by decide +kernel
theorem dX0_mindPart_41 : decode cX0_mindPart 41 = .ok (.invokevirtual 79, 3) := by decide +kernel
theorem dX0_mindPart_44 : decode cX0_mindPart 44 = .ok (.invokestatic 83, 3) := by decide +kernel
theorem dX0_mindPart_47 : decode cX0_mindPart 47 = .ok (.iadd, 1) := by decide +kernel
theorem dX0_mindPart_48 : decode cX0_mindPart 48 = .ok (.istore 5, 2) := by decide +kernel
theorem dX0_mindPart_50 : decode cX0_mindPart 50 = .ok (.iinc 6 1, 3) := by decide +kernel
theorem dX0_mindPart_53 : decode cX0_mindPart 53 = .ok (.goto (-47), 3) := by decide +kernel
theorem dX0_mindPart_56 : decode cX0_mindPart 56 = .ok (.iload 5, 2) := by decide +kernel
theorem dX0_mindPart_58 : decode cX0_mindPart 58 = .ok (.ireturn, 1) := by decide +kernel
theorem dX0_bestAmount_0 : decode cX0_bestAmount 0 = .ok (.iconst 0, 1) := by decide +kernel
theorem dX0_bestAmount_1 : decode cX0_bestAmount 1 = .ok (.istore 4, 2) := by decide +kernel
theorem dX0_bestAmount_3 : decode cX0_bestAmount 3 = .ok (.aload_n 0, 1) := by decide +kernel
theorem dX0_bestAmount_4 : decode cX0_bestAmount 4 = .ok (.iload_n 1, 1) := by decide +kernel
theorem dX0_bestAmount_5 : decode cX0_bestAmount 5 = .ok (.iload_n 2, 1) := by decide +kernel
theorem dX0_bestAmount_6 : decode cX0_bestAmount 6 = .ok (.iconst 0, 1) := by decide +kernel
theorem dX0_bestAmount_7 : decode cX0_bestAmount 7 = .ok (.aload_n 3, 1) := by decide +kernel
theorem dX0_bestAmount_8 : decode cX0_bestAmount 8 = .ok (.invokevirtual 86, 3) := by decide +kernel
theorem dX0_bestAmount_11 : decode cX0_bestAmount 11 = .ok (.istore 5, 2) := by decide +kernel
theorem dX0_bestAmount_13 : decode cX0_bestAmount 13 = .ok (.iconst 1, 1) := by decide +kernel
theorem dX0_bestAmount_14 : decode cX0_bestAmount 14 = .ok (.istore 6, 2) := by decide +kernel
theorem dX0_bestAmount_16 : decode cX0_bestAmount 16 = .ok (.iload 6, 2) := by decide +kernel
theorem dX0_bestAmount_18 : decode cX0_bestAmount 18 = .ok (.iconst 5, 1) := by decide +kernel
theorem dX0_bestAmount_19 : decode cX0_bestAmount 19 = .ok (.if_icmp .gt 35, 3) := by decide +kernel
theorem dX0_bestAmount_22 : decode cX0_bestAmount 22 = .ok (.aload_n 0, 1) := by decide +kernel
theorem dX0_bestAmount_23 : decode cX0_bestAmount 23 = .ok (.iload_n 1, 1) := by decide +kernel
theorem dX0_bestAmount_24 : decode cX0_bestAmount 24 = .ok (.iload_n 2, 1) := by decide +kernel
theorem dX0_bestAmount_25 : decode cX0_bestAmount 25 = .ok (.iload 6, 2) := by decide +kernel
theorem dX0_bestAmount_27 : decode cX0_bestAmount 27 = .ok (.aload_n 3, 1) := by decide +kernel
theorem dX0_bestAmount_28 : decode cX0_bestAmount 28 = .ok (.invokevirtual 86, 3) := by decide +kernel
theorem dX0_bestAmount_31 : decode cX0_bestAmount 31 = .ok (.istore 7, 2) := by decide +kernel
theorem dX0_bestAmount_33 : decode cX0_bestAmount 33 = .ok (.iload 7, 2) := by decide +kernel
theorem dX0_bestAmount_35 : decode cX0_bestAmount 35 = .ok (.iload 5, 2) := by decide +kernel
theorem dX0_bestAmount_37 : decode cX0_bestAmount 37 = .ok (.if_icmp .ge 11, 3) := by decide +kernel
theorem dX0_bestAmount_40 : decode cX0_bestAmount 40 = .ok (.iload 7, 2) := by decide +kernel
theorem dX0_bestAmount_42 : decode cX0_bestAmount 42 = .ok (.istore 5, 2) := by decide +kernel
theorem dX0_bestAmount_44 : decode cX0_bestAmount 44 = .ok (.iload 6, 2) := by decide +kernel
theorem dX0_bestAmount_46 : decode cX0_bestAmount 46 = .ok (.istore 4, 2) := by decide +kernel
theorem dX0_bestAmount_48 : decode cX0_bestAmount 48 = .ok (.iinc 6 1, 3) := by decide +kernel
theorem dX0_bestAmount_51 : decode cX0_bestAmount 51 = .ok (.goto (-35), 3) := by decide +kernel
theorem dX0_bestAmount_54 : decode cX0_bestAmount 54 = .ok (.iload 4, 2) := by decide +kernel
theorem dX0_bestAmount_56 : decode cX0_bestAmount 56 = .ok (.ireturn, 1) := by decide +kernel
theorem dX0_leastMind_0 : decode cX0_leastMind 0 = .ok (.iconst 0, 1) := by decide +kernel
theorem dX0_leastMind_1 : decode cX0_leastMind 1 = .ok (.istore_n 3, 1) := by decide +kernel
theorem dX0_leastMind_2 : decode cX0_leastMind 2 = .ok (.iconst 0, 1) := by decide +kernel
theorem dX0_leastMind_3 : decode cX0_leastMind 3 = .ok (.istore 4, 2) := by decide +kernel
theorem dX0_leastMind_5 : decode cX0_leastMind 5 = .ok (.iload 4, 2) := by decide +kernel
theorem dX0_leastMind_7 : decode cX0_leastMind 7 = .ok (.iconst 4, 1) := by decide +kernel
theorem dX0_leastMind_8 : decode cX0_leastMind 8 = .ok (.if_icmp .ge 28, 3) := by decide +kernel
theorem dX0_leastMind_11 : decode cX0_leastMind 11 = .ok (.iload_n 3, 1) := by decide +kernel
theorem dX0_leastMind_12 : decode cX0_leastMind 12 = .ok (.aload_n 0, 1) := by decide +kernel
theorem dX0_leastMind_13 : decode cX0_leastMind 13 = .ok (.iload_n 1, 1) := by decide +kernel
theorem dX0_leastMind_14 : decode cX0_leastMind 14 = .ok (.iload 4, 2) := by decide +kernel
theorem dX0_leastMind_16 : decode cX0_leastMind 16 = .ok (.aload_n 0, 1) := by decide +kernel
theorem dX0_leastMind_17 : decode cX0_leastMind 17 = .ok (.iload_n 1, 1) := by decide +kernel
theorem dX0_leastMind_18 : decode cX0_leastMind 18 = .ok (.iload 4, 2) := by decide +kernel
theorem dX0_leastMind_20 : decode cX0_leastMind 20 = .ok (.aload_n 2, 1) := by decide +kernel
theorem dX0_leastMind_21 : decode cX0_leastMind 21 = .ok (.invokevirtual 90, 3) := by decide +kernel
theorem dX0_leastMind_24 : decode cX0_leastMind 24 = .ok (.aload_n 2, 1) := by decide +kernel
theorem dX0_leastMind_25 : decode cX0_leastMind 25 = .ok (.invokevirtual 86, 3) := by decide +kernel
theorem dX0_leastMind_28 : decode cX0_leastMind 28 = .ok (.iadd, 1) := by decide +kernel
theorem dX0_leastMind_29 : decode cX0_leastMind 29 = .ok (.istore_n 3, 1) := by decide +kernel
theorem dX0_leastMind_30 : decode cX0_leastMind 30 = .ok (.iinc 4 1, 3) := by decide +kernel
theorem dX0_leastMind_33 : decode cX0_leastMind 33 = .ok (.goto (-28), 3) := by decide +kernel
theorem dX0_leastMind_36 : decode cX0_leastMind 36 = .ok (.iload_n 3, 1) := by decide +kernel
theorem dX0_leastMind_37 : decode cX0_leastMind 37 = .ok (.ireturn, 1) := by decide +kernel
theorem dX0_bestParting_0 : decode cX0_bestParting 0 = .ok (.aload_n 0, 1) := by decide +kernel
theorem dX0_bestParting_1 : decode cX0_bestParting 1 = .ok (.invokevirtual 94, 3) := by decide +kernel
theorem dX0_bestParting_4 : decode cX0_bestParting 4 = .ok (.istore_n 2, 1) := by decide +kernel
theorem dX0_bestParting_5 : decode cX0_bestParting 5 = .ok (.iconst 0, 1) := by decide +kernel
theorem dX0_bestParting_6 : decode cX0_bestParting 6 = .ok (.istore_n 3, 1) := by decide +kernel
theorem dX0_bestParting_7 : decode cX0_bestParting 7 = .ok (.iload_n 3, 1) := by decide +kernel
theorem dX0_bestParting_8 : decode cX0_bestParting 8 = .ok (.iload_n 2, 1) := by decide +kernel
theorem dX0_bestParting_9 : decode cX0_bestParting 9 = .ok (.if_icmp .gt 21, 3) := by decide +kernel
theorem dX0_bestParting_12 : decode cX0_bestParting 12 = .ok (.aload_n 0, 1) := by decide +kernel
theorem dX0_bestParting_13 : decode cX0_bestParting 13 = .ok (.getfield 17, 3) := by decide +kernel
theorem dX0_bestParting_16 : decode cX0_bestParting 16 = .ok (.iload_n 3, 1) := by decide +kernel
theorem dX0_bestParting_17 : decode cX0_bestParting 17 = .ok (.aload_n 0, 1) := by decide +kernel
theorem dX0_bestParting_18 : decode cX0_bestParting 18 = .ok (.iload_n 3, 1) := by decide +kernel
theorem dX0_bestParting_19 : decode cX0_bestParting 19 = .ok (.aload_n 1, 1) := by decide +kernel
theorem dX0_bestParting_20 : decode cX0_bestParting 20 = .ok (.invokevirtual 98, 3) := by decide +kernel
theorem dX0_bestParting_23 : decode cX0_bestParting 23 = .ok (.iastore, 1) := by decide +kernel
theorem dX0_bestParting_24 : decode cX0_bestParting 24 = .ok (.iinc 3 1, 3) := by decide +kernel
theorem dX0_bestParting_27 : decode cX0_bestParting 27 = .ok (.goto (-20), 3) := by decide +kernel
theorem dX0_bestParting_30 : decode cX0_bestParting 30 = .ok (.iconst 0, 1) := by decide +kernel
theorem dX0_bestParting_31 : decode cX0_bestParting 31 = .ok (.istore_n 3, 1) := by decide +kernel
theorem dX0_bestParting_32 : decode cX0_bestParting 32 = .ok (.iconst 1, 1) := by decide +kernel
theorem dX0_bestParting_33 : decode cX0_bestParting 33 = .ok (.istore 4, 2) := by decide +kernel
theorem dX0_bestParting_35 : decode cX0_bestParting 35 = .ok (.iload 4, 2) := by decide +kernel
theorem dX0_bestParting_37 : decode cX0_bestParting 37 = .ok (.iload_n 2, 1) := by decide +kernel
theorem dX0_bestParting_38 : decode cX0_bestParting 38 = .ok (.if_icmp .gt 26, 3) := by decide +kernel
theorem dX0_bestParting_41 : decode cX0_bestParting 41 = .ok (.aload_n 0, 1) := by decide +kernel
theorem dX0_bestParting_42 : decode cX0_bestParting 42 = .ok (.iload 4, 2) := by decide +kernel
theorem dX0_bestParting_44 : decode cX0_bestParting 44 = .ok (.invokevirtual 102, 3) := by decide +kernel
theorem dX0_bestParting_47 : decode cX0_bestParting 47 = .ok (.aload_n 0, 1) := by decide +kernel
theorem dX0_bestParting_48 : decode cX0_bestParting 48 = .ok (.iload_n 3, 1) := by decide +kernel
theorem dX0_bestParting_49 : decode cX0_bestParting 49 = .ok (.invokevirtual 102, 3) := by decide +kernel
theorem dX0_bestParting_52 : decode cX0_bestParting 52 = .ok (.if_icmp .ge 6, 3) := by decide +kernel
theorem dX0_bestParting_55 : decode cX0_bestParting 55 = .ok (.iload 4, 2) := by decide +kernel
theorem dX0_bestParting_57 : decode cX0_bestParting 57 = .ok (.istore_n 3, 1) := by decide +kernel
theorem dX0_bestParting_58 : decode cX0_bestParting 58 = .ok (.iinc 4 1, 3) := by decide +kernel
theorem dX0_bestParting_61 : decode cX0_bestParting 61 = .ok (.goto (-26), 3) := by decide +kernel
theorem dX0_bestParting_64 : decode cX0_bestParting 64 = .ok (.iload_n 3, 1) := by decide +kernel
theorem dX0_bestParting_65 : decode cX0_bestParting 65 = .ok (.ireturn, 1) := by decide +kernel
theorem dX0_partedMind_0 : decode cX0_partedMind 0 = .ok (.aload_n 0, 1) := by decide +kernel
theorem dX0_partedMind_1 : decode cX0_partedMind 1 = .ok (.getfield 17, 3) := by decide +kernel
theorem dX0_partedMind_4 : decode cX0_partedMind 4 = .ok (.iload_n 1, 1) := by decide +kernel
theorem dX0_partedMind_5 : decode cX0_partedMind 5 = .ok (.iaload, 1) := by decide +kernel
theorem dX0_partedMind_6 : decode cX0_partedMind 6 = .ok (.aload_n 0, 1) := by decide +kernel
theorem dX0_partedMind_7 : decode cX0_partedMind 7 = .ok (.getfield 17, 3) := by decide +kernel
theorem dX0_partedMind_10 : decode cX0_partedMind 10 = .ok (.aload_n 0, 1) := by decide +kernel
theorem dX0_partedMind_11 : decode cX0_partedMind 11 = .ok (.invokevirtual 94, 3) := by decide +kernel
theorem dX0_partedMind_14 : decode cX0_partedMind 14 = .ok (.iload_n 1, 1) := by decide +kernel
theorem dX0_partedMind_15 : decode cX0_partedMind 15 = .ok (.isub, 1) := by decide +kernel
theorem dX0_partedMind_16 : decode cX0_partedMind 16 = .ok (.iaload, 1) := by decide +kernel
theorem dX0_partedMind_17 : decode cX0_partedMind 17 = .ok (.iadd, 1) := by decide +kernel
theorem dX0_partedMind_18 : decode cX0_partedMind 18 = .ok (.ireturn, 1) := by decide +kernel
theorem dX0_countWays_0 : decode cX0_countWays 0 = .ok (.aload_n 0, 1) := by decide +kernel
theorem dX0_countWays_1 : decode cX0_countWays 1 = .ok (.getfield 21, 3) := by decide +kernel
theorem dX0_countWays_4 : decode cX0_countWays 4 = .ok (.iconst 0, 1) := by decide +kernel
theorem dX0_countWays_5 : decode cX0_countWays 5 = .ok (.invokestatic 105, 3) := by decide +kernel
theorem dX0_countWays_8 : decode cX0_countWays 8 = .ok (.aload_n 0, 1) := by decide +kernel
theorem dX0_countWays_9 : decode cX0_countWays 9 = .ok (.getfield 21, 3) := by decide +kernel
theorem dX0_countWays_12 : decode cX0_countWays 12 = .ok (.iconst 0, 1) := by decide +kernel
theorem dX0_countWays_13 : decode cX0_countWays 13 = .ok (.iconst 1, 1) := by decide +kernel
theorem dX0_countWays_14 : decode cX0_countWays 14 = .ok (.iastore, 1) := by decide +kernel
theorem dX0_countWays_15 : decode cX0_countWays 15 = .ok (.iconst 0, 1) := by decide +kernel
theorem dX0_countWays_16 : decode cX0_countWays 16 = .ok (.istore_n 3, 1) := by decide +kernel
theorem dX0_countWays_17 : decode cX0_countWays 17 = .ok (.iload_n 3, 1) := by decide +kernel
theorem dX0_countWays_18 : decode cX0_countWays 18 = .ok (.aload_n 0, 1) := by decide +kernel
theorem dX0_countWays_19 : decode cX0_countWays 19 = .ok (.getfield 31, 3) := by decide +kernel
theorem dX0_countWays_22 : decode cX0_countWays 22 = .ok (.if_icmp .ge 120, 3) := by decide +kernel
theorem dX0_countWays_25 : decode cX0_countWays 25 = .ok (.aload_n 0, 1) := by decide +kernel
theorem dX0_countWays_26 : decode cX0_countWays 26 = .ok (.getfield 11, 3) := by decide +kernel
theorem dX0_countWays_29 : decode cX0_countWays 29 = .ok (.iload_n 3, 1) := by decide +kernel
theorem dX0_countWays_30 : decode cX0_countWays 30 = .ok (.aaload, 1) := by decide +kernel
theorem dX0_countWays_31 : decode cX0_countWays 31 = .ok (.aload_n 1, 1) := by decide +kernel
theorem dX0_countWays_32 : decode cX0_countWays 32 = .ok (.iconst 1, 1) := by decide +kernel
theorem dX0_countWays_33 : decode cX0_countWays 33 = .ok (.invokevirtual 55, 3) := by decide +kernel
theorem dX0_countWays_36 : decode cX0_countWays 36 = .ok (.ifCond .ne 7, 3) := by decide +kernel
theorem dX0_countWays_39 : decode cX0_countWays 39 = .ok (.iload_n 2, 1) := by decide +kernel
theorem dX0_countWays_40 : decode cX0_countWays 40 = .ok (.goto 4, 3) := by decide +kernel
theorem dX0_countWays_43 : decode cX0_countWays 43 = .ok (.iconst 0, 1) := by decide +kernel
theorem dX0_countWays_44 : decode cX0_countWays 44 = .ok (.istore 4, 2) := by decide +kernel
theorem dX0_countWays_46 : decode cX0_countWays 46 = .ok (.iload 4, 2) := by decide +kernel
theorem dX0_countWays_48 : decode cX0_countWays 48 = .ok (.aload_n 0, 1) := by decide +kernel
theorem dX0_countWays_49 : decode cX0_countWays 49 = .ok (.getfield 11, 3) := by decide +kernel
theorem dX0_countWays_52 : decode cX0_countWays 52 = .ok (.iload_n 3, 1) := by decide +kernel
theorem dX0_countWays_53 : decode cX0_countWays 53 = .ok (.aaload, 1) := by decide +kernel
theorem dX0_countWays_54 : decode cX0_countWays 54 = .ok (.aload_n 1, 1) := by decide +kernel
theorem dX0_countWays_55 : decode cX0_countWays 55 = .ok (.iconst 0, 1) := by decide +kernel
theorem dX0_countWays_56 : decode cX0_countWays 56 = .ok (.invokevirtual 55, 3) := by decide +kernel
theorem dX0_countWays_59 : decode cX0_countWays 59 = .ok (.ifCond .ne 10, 3) := by decide +kernel
theorem dX0_countWays_62 : decode cX0_countWays 62 = .ok (.bipush 10, 2) := by decide +kernel
theorem dX0_countWays_64 : decode cX0_countWays 64 = .ok (.iload_n 2, 1) := by decide +kernel
theorem dX0_countWays_65 : decode cX0_countWays 65 = .ok (.isub, 1) := by decide +kernel
theorem dX0_countWays_66 : decode cX0_countWays 66 = .ok (.goto 4, 3) := by decide +kernel
theorem dX0_countWays_69 : decode cX0_countWays 69 = .ok (.iconst 0, 1) := by decide +kernel
theorem dX0_countWays_70 : decode cX0_countWays 70 = .ok (.iadd, 1) := by decide +kernel
theorem dX0_countWays_71 : decode cX0_countWays 71 = .ok (.istore 4, 2) := by decide +kernel
theorem dX0_countWays_73 : decode cX0_countWays 73 = .ok (.iload_n 3, 1) := by decide +kernel
theorem dX0_countWays_74 : decode cX0_countWays 74 = .ok (.iconst 1, 1) := by decide +kernel
theorem dX0_countWays_75 : decode cX0_countWays 75 = .ok (.iadd, 1) := by decide +kernel
theorem dX0_countWays_76 : decode cX0_countWays 76 = .ok (.istore 5, 2) := by decide +kernel
theorem dX0_countWays_78 : decode cX0_countWays 78 = .ok (.iload 5, 2) := by decide +kernel
theorem dX0_countWays_80 : decode cX0_countWays 80 = .ok (.ifCond .le 42, 3) := by decide +kernel
theorem dX0_countWays_83 : decode cX0_countWays 83 = .ok (.aload_n 0, 1) := by decide +kernel
theorem dX0_countWays_84 : decode cX0_countWays 84 = .ok (.getfield 21, 3) := by decide +kernel
theorem dX0_countWays_87 : decode cX0_countWays 87 = .ok (.iload 5, 2) := by decide +kernel
theorem dX0_countWays_89 : decode cX0_countWays 89 = .ok (.aload_n 0, 1) := by decide +kernel
theorem dX0_countWays_90 : decode cX0_countWays 90 = .ok (.getfield 21, 3) := by decide +kernel
theorem dX0_countWays_93 : decode cX0_countWays 93 = .ok (.iload 5, 2) := by decide +kernel
theorem dX0_countWays_95 : decode cX0_countWays 95 = .ok (.iaload, 1) := by decide +kernel
theorem dX0_countWays_96 : decode cX0_countWays 96 = .ok (.bipush 10, 2) := by decide +kernel
theorem dX0_countWays_98 : decode cX0_countWays 98 = .ok (.iload 4, 2) := by decide +kernel
theorem dX0_countWays_100 : decode cX0_countWays 100 = .ok (.isub, 1) := by decide +kernel
theorem dX0_countWays_101 : decode cX0_countWays 101 = .ok (.imul, 1) := by decide +kernel
theorem dX0_countWays_102 : decode cX0_countWays 102 = .ok (.aload_n 0, 1) := by decide +kernel
theorem dX0_countWays_103 : decode cX0_countWays 103 = .ok (.getfield 21, 3) := by decide +kernel
theorem dX0_countWays_106 : decode cX0_countWays 106 = .ok (.iload 5, 2) := by decide +kernel
theorem dX0_countWays_108 : decode cX0_countWays 108 = .ok (.iconst 1, 1) := by decide +kernel
theorem dX0_countWays_109 : decode cX0_countWays 109 = .ok (.isub, 1) := by decide +kernel
theorem dX0_countWays_110 : decode cX0_countWays 110 = .ok (.iaload, 1) := by decide +kernel
theorem dX0_countWays_111 : decode cX0_countWays 111 = .ok (.iload 4, 2) := by decide +kernel
theorem dX0_countWays_113 : decode cX0_countWays 113 = .ok (.imul, 1) := by decide +kernel
theorem dX0_countWays_114 : decode cX0_countWays 114 = .ok (.iadd, 1) := by decide +kernel
theorem dX0_countWays_115 : decode cX0_countWays 115 = .ok (.iastore, 1) := by decide +kernel
theorem dX0_countWays_116 : decode cX0_countWays 116 = .ok (.iinc 5 (-1), 3) := by decide +kernel
theorem dX0_countWays_119 : decode cX0_countWays 119 = .ok (.goto (-41), 3) := by decide +kernel
theorem dX0_countWays_122 : decode cX0_countWays 122 = .ok (.aload_n 0, 1) := by decide +kernel
theorem dX0_countWays_123 : decode cX0_countWays 123 = .ok (.getfield 21, 3) := by decide +kernel
theorem dX0_countWays_126 : decode cX0_countWays 126 = .ok (.iconst 0, 1) := by decide +kernel
theorem dX0_countWays_127 : decode cX0_countWays 127 = .ok (.dup2, 1) := by decide +kernel
theorem dX0_countWays_128 : decode cX0_countWays 128 = .ok (.iaload, 1) := by decide +kernel
theorem dX0_countWays_129 : decode cX0_countWays 129 = .ok (.bipush 10, 2) := by decide +kernel
theorem dX0_countWays_131 : decode cX0_countWays 131 = .ok (.iload 4, 2) := by decide +kernel
theorem dX0_countWays_133 : decode cX0_countWays 133 = .ok (.isub, 1) := by decide +kernel
theorem dX0_countWays_134 : decode cX0_countWays 134 = .ok (.imul, 1) := by decide +kernel
theorem dX0_countWays_135 : decode cX0_countWays 135 = .ok (.iastore, 1) := by decide +kernel
theorem dX0_countWays_136 : decode cX0_countWays 136 = .ok (.iinc 3 1, 3) := by decide +kernel
theorem dX0_countWays_139 : decode cX0_countWays 139 = .ok (.goto (-122), 3) := by decide +kernel
theorem dX0_countWays_142 : decode cX0_countWays 142 = .ok (.return_, 1) := by decide +kernel
theorem dX0_waysFrom_0 : decode cX0_waysFrom 0 = .ok (.iconst 0, 1) := by decide +kernel
theorem dX0_waysFrom_1 : decode cX0_waysFrom 1 = .ok (.istore_n 2, 1) := by decide +kernel
theorem dX0_waysFrom_2 : decode cX0_waysFrom 2 = .ok (.iload_n 1, 1) := by decide +kernel
theorem dX0_waysFrom_3 : decode cX0_waysFrom 3 = .ok (.istore_n 3, 1) := by decide +kernel
theorem dX0_waysFrom_4 : decode cX0_waysFrom 4 = .ok (.iload_n 3, 1) := by decide +kernel
theorem dX0_waysFrom_5 : decode cX0_waysFrom 5 = .ok (.bipush 6, 2) := by decide +kernel
theorem dX0_waysFrom_7 : decode cX0_waysFrom 7 = .ok (.if_icmp .gt 18, 3) := by decide +kernel
theorem dX0_waysFrom_10 : decode cX0_waysFrom 10 = .ok (.iload_n 2, 1) := by decide +kernel
theorem dX0_waysFrom_11 : decode cX0_waysFrom 11 = .ok (.aload_n 0, 1) := by decide +kernel
theorem dX0_waysFrom_12 : decode cX0_waysFrom 12 = .ok (.getfield 21, 3) := by decide +kernel
theorem dX0_waysFrom_15 : decode cX0_waysFrom 15 = .ok (.iload_n 3, 1) := by decide +kernel
theorem dX0_waysFrom_16 : decode cX0_waysFrom 16 = .ok (.iaload, 1) := by decide +kernel
theorem dX0_waysFrom_17 : decode cX0_waysFrom 17 = .ok (.iadd, 1) := by decide +kernel
theorem dX0_waysFrom_18 : decode cX0_waysFrom 18 = .ok (.istore_n 2, 1) := by decide +kernel
theorem dX0_waysFrom_19 : decode cX0_waysFrom 19 = .ok (.iinc 3 1, 3) := by decide +kernel
theorem dX0_waysFrom_22 : decode cX0_waysFrom 22 = .ok (.goto (-18), 3) := by decide +kernel
theorem dX0_waysFrom_25 : decode cX0_waysFrom 25 = .ok (.iload_n 2, 1) := by decide +kernel
theorem dX0_waysFrom_26 : decode cX0_waysFrom 26 = .ok (.ireturn, 1) := by decide +kernel
theorem dX1_init_0 : decode cX1_init 0 = .ok (.aload_n 0, 1) := by decide +kernel
theorem dX1_init_1 : decode cX1_init 1 = .ok (.invokespecial 3, 3) := by decide +kernel
theorem dX1_init_4 : decode cX1_init 4 = .ok (.aload_n 0, 1) := by decide +kernel
theorem dX1_init_5 : decode cX1_init 5 = .ok (.bipush 10, 2) := by decide +kernel
theorem dX1_init_7 : decode cX1_init 7 = .ok (.anewarray 9, 3) := by decide +kernel
theorem dX1_init_10 : decode cX1_init 10 = .ok (.putfield 11, 3) := by decide +kernel
theorem dX1_init_13 : decode cX1_init 13 = .ok (.iconst 0, 1) := by decide +kernel
theorem dX1_init_14 : decode cX1_init 14 = .ok (.istore_n 1, 1) := by decide +kernel
theorem dX1_init_15 : decode cX1_init 15 = .ok (.iload_n 1, 1) := by decide +kernel
theorem dX1_init_16 : decode cX1_init 16 = .ok (.bipush 10, 2) := by decide +kernel
theorem dX1_init_18 : decode cX1_init 18 = .ok (.if_icmp .ge 22, 3) := by decide +kernel
theorem dX1_init_21 : decode cX1_init 21 = .ok (.aload_n 0, 1) := by decide +kernel
theorem dX1_init_22 : decode cX1_init 22 = .ok (.getfield 11, 3) := by decide +kernel
theorem dX1_init_25 : decode cX1_init 25 = .ok (.iload_n 1, 1) := by decide +kernel
theorem dX1_init_26 : decode cX1_init 26 = .ok (.new 9, 3) := by decide +kernel
theorem dX1_init_29 : decode cX1_init 29 = .ok (.dup, 1) := by decide +kernel
theorem dX1_init_30 : decode cX1_init 30 = .ok (.invokespecial 17, 3) := by decide +kernel
theorem dX1_init_33 : decode cX1_init 33 = .ok (.aastore, 1) := by decide +kernel
theorem dX1_init_34 : decode cX1_init 34 = .ok (.iinc 1 1, 3) := by decide +kernel
theorem dX1_init_37 : decode cX1_init 37 = .ok (.goto (-22), 3) := by decide +kernel
theorem dX1_init_40 : decode cX1_init 40 = .ok (.return_, 1) := by decide +kernel
theorem dX1_remember_0 : decode cX1_remember 0 = .ok (.aload_n 0, 1) := by decide +kernel
theorem dX1_remember_1 : decode cX1_remember 1 = .ok (.getfield 11, 3) := by decide +kernel
theorem dX1_remember_4 : decode cX1_remember 4 = .ok (.aload_n 0, 1) := by decide +kernel
theorem dX1_remember_5 : decode cX1_remember 5 = .ok (.getfield 18, 3) := by decide +kernel
theorem dX1_remember_8 : decode cX1_remember 8 = .ok (.aaload, 1) := by decide +kernel
theorem dX1_remember_9 : decode cX1_remember 9 = .ok (.aload_n 1, 1) := by decide +kernel
theorem dX1_remember_10 : decode cX1_remember 10 = .ok (.invokevirtual 22, 3) := by decide +kernel
theorem dX1_remember_13 : decode cX1_remember 13 = .ok (.aload_n 0, 1) := by decide +kernel
theorem dX1_remember_14 : decode cX1_remember 14 = .ok (.aload_n 0, 1) := by decide +kernel
theorem dX1_remember_15 : decode cX1_remember 15 = .ok (.getfield 18, 3) := by decide +kernel
theorem dX1_remember_18 : decode cX1_remember 18 = .ok (.iconst 1, 1) := by decide +kernel
theorem dX1_remember_19 : decode cX1_remember 19 = .ok (.iadd, 1) := by decide +kernel
theorem dX1_remember_20 : decode cX1_remember 20 = .ok (.bipush 10, 2) := by decide +kernel
theorem dX1_remember_22 : decode cX1_remember 22 = .ok (.if_icmp .ge 12, 3) := by decide +kernel
theorem dX1_remember_25 : decode cX1_remember 25 = .ok (.aload_n 0, 1) := by decide +kernel
theorem dX1_remember_26 : decode cX1_remember 26 = .ok (.getfield 18, 3) := by decide +kernel
theorem dX1_remember_29 : decode cX1_remember 29 = .ok (.iconst 1, 1) := by decide +kernel
theorem dX1_remember_30 : decode cX1_remember 30 = .ok (.iadd, 1) := by decide +kernel
theorem dX1_remember_31 : decode cX1_remember 31 = .ok (.goto 4, 3) := by decide +kernel
theorem dX1_remember_34 : decode cX1_remember 34 = .ok (.iconst 0, 1) := by decide +kernel
theorem dX1_remember_35 : decode cX1_remember 35 = .ok (.putfield 18, 3) := by decide +kernel
theorem dX1_remember_38 : decode cX1_remember 38 = .ok (.aload_n 0, 1) := by decide +kernel
theorem dX1_remember_39 : decode cX1_remember 39 = .ok (.bipush 10, 2) := by decide +kernel
theorem dX1_remember_41 : decode cX1_remember 41 = .ok (.aload_n 0, 1) := by decide +kernel
theorem dX1_remember_42 : decode cX1_remember 42 = .ok (.getfield 26, 3) := by decide +kernel
theorem dX1_remember_45 : decode cX1_remember 45 = .ok (.iconst 1, 1) := by decide +kernel
theorem dX1_remember_46 : decode cX1_remember 46 = .ok (.iadd, 1) := by decide +kernel
theorem dX1_remember_47 : decode cX1_remember 47 = .ok (.invokestatic 29, 3) := by decide +kernel
theorem dX1_remember_50 : decode cX1_remember 50 = .ok (.putfield 26, 3) := by decide +kernel
theorem dX1_remember_53 : decode cX1_remember 53 = .ok (.return_, 1) := by decide +kernel
theorem dX1_bringBack_0 : decode cX1_bringBack 0 = .ok (.aload_n 0, 1) := by decide +kernel
theorem dX1_bringBack_1 : decode cX1_bringBack 1 = .ok (.aload_n 0, 1) := by decide +kernel
theorem dX1_bringBack_2 : decode cX1_bringBack 2 = .ok (.getfield 18, 3) := by decide +kernel
theorem dX1_bringBack_5 : decode cX1_bringBack 5 = .ok (.ifCond .le 12, 3) := by decide +kernel
theorem dX1_bringBack_8 : decode cX1_bringBack 8 = .ok (.aload_n 0, 1) := by decide +kernel
theorem dX1_bringBack_9 : decode cX1_bringBack 9 = .ok (.getfield 18, 3) := by decide +kernel
theorem dX1_bringBack_12 : decode cX1_bringBack 12 = .ok (.iconst 1, 1) := by decide +kernel
theorem dX1_bringBack_13 : decode cX1_bringBack 13 = .ok (.isub, 1) := by decide +kernel
theorem dX1_bringBack_14 : decode cX1_bringBack 14 = .ok (.goto 5, 3) := by decide +kernel
theorem dX1_bringBack_17 : decode cX1_bringBack 17 = .ok (.bipush 9, 2) := by decide +kernel
theorem dX1_bringBack_19 : decode cX1_bringBack 19 = .ok (.putfield 18, 3) := by decide +kernel
theorem dX1_bringBack_22 : decode cX1_bringBack 22 = .ok (.aload_n 0, 1) := by decide +kernel
theorem dX1_bringBack_23 : decode cX1_bringBack 23 = .ok (.dup, 1) := by decide +kernel
theorem dX1_bringBack_24 : decode cX1_bringBack 24 = .ok (.getfield 26, 3) := by decide +kernel
theorem dX1_bringBack_27 : decode cX1_bringBack 27 = .ok (.iconst 1, 1) := by decide +kernel
theorem dX1_bringBack_28 : decode cX1_bringBack 28 = .ok (.isub, 1) := by decide +kernel
theorem dX1_bringBack_29 : decode cX1_bringBack 29 = .ok (.putfield 26, 3) := by decide +kernel
theorem dX1_bringBack_32 : decode cX1_bringBack 32 = .ok (.aload_n 1, 1) := by decide +kernel
theorem dX1_bringBack_33 : decode cX1_bringBack 33 = .ok (.aload_n 0, 1) := by decide +kernel
theorem dX1_bringBack_34 : decode cX1_bringBack 34 = .ok (.getfield 11, 3) := by decide +kernel
theorem dX1_bringBack_37 : decode cX1_bringBack 37 = .ok (.aload_n 0, 1) := by decide +kernel
theorem dX1_bringBack_38 : decode cX1_bringBack 38 = .ok (.getfield 18, 3) := by decide +kernel
theorem dX1_bringBack_41 : decode cX1_bringBack 41 = .ok (.aaload, 1) := by decide +kernel
theorem dX1_bringBack_42 : decode cX1_bringBack 42 = .ok (.invokevirtual 22, 3) := by decide +kernel
theorem dX1_bringBack_45 : decode cX1_bringBack 45 = .ok (.aload_n 0, 1) := by decide +kernel
theorem dX1_bringBack_46 : decode cX1_bringBack 46 = .ok (.getfield 26, 3) := by decide +kernel
theorem dX1_bringBack_49 : decode cX1_bringBack 49 = .ok (.ireturn, 1) := by decide +kernel
theorem dX2_init_0 : decode cX2_init 0 = .ok (.aload_n 0, 1) := by decide +kernel
theorem dX2_init_1 : decode cX2_init 1 = .ok (.invokespecial 3, 3) := by decide +kernel
theorem dX2_init_4 : decode cX2_init 4 = .ok (.aload_n 0, 1) := by decide +kernel
theorem dX2_init_5 : decode cX2_init 5 = .ok (.iconst 5, 1) := by decide +kernel
theorem dX2_init_6 : decode cX2_init 6 = .ok (.newarray .int, 2) := by decide +kernel
theorem dX2_init_8 : decode cX2_init 8 = .ok (.putfield 9, 3) := by decide +kernel
theorem dX2_init_11 : decode cX2_init 11 = .ok (.aload_n 0, 1) := by decide +kernel
theorem dX2_init_12 : decode cX2_init 12 = .ok (.sipush 1296, 3) := by decide +kernel
theorem dX2_init_15 : decode cX2_init 15 = .ok (.newarray .int, 2) := by decide +kernel
theorem dX2_init_17 : decode cX2_init 17 = .ok (.putfield 15, 3) := by decide +kernel
theorem dX2_init_20 : decode cX2_init 20 = .ok (.aload_n 0, 1) := by decide +kernel
theorem dX2_init_21 : decode cX2_init 21 = .ok (.sipush 1296, 3) := by decide +kernel
theorem dX2_init_24 : decode cX2_init 24 = .ok (.newarray .int, 2) := by decide +kernel
theorem dX2_init_26 : decode cX2_init 26 = .ok (.putfield 18, 3) := by decide +kernel
theorem dX2_init_29 : decode cX2_init 29 = .ok (.aload_n 0, 1) := by decide +kernel
theorem dX2_init_30 : decode cX2_init 30 = .ok (.sipush 1296, 3) := by decide +kernel
theorem dX2_init_33 : decode cX2_init 33 = .ok (.newarray .int, 2) := by decide +kernel
theorem dX2_init_35 : decode cX2_init 35 = .ok (.putfield 21, 3) := by decide +kernel
theorem dX2_init_38 : decode cX2_init 38 = .ok (.aload_n 0, 1) := by decide +kernel
theorem dX2_init_39 : decode cX2_init 39 = .ok (.sipush 1296, 3) := by decide +kernel
theorem dX2_init_42 : decode cX2_init 42 = .ok (.newarray .int, 2) := by decide +kernel
theorem dX2_init_44 : decode cX2_init 44 = .ok (.putfield 24, 3) := by decide +kernel
theorem dX2_init_47 : decode cX2_init 47 = .ok (.aload_n 0, 1) := by decide +kernel
theorem dX2_init_48 : decode cX2_init 48 = .ok (.sipush 1296, 3) := by decide +kernel
theorem dX2_init_51 : decode cX2_init 51 = .ok (.newarray .boolean, 2) := by decide +kernel
theorem dX2_init_53 : decode cX2_init 53 = .ok (.putfield 27, 3) := by decide +kernel
theorem dX2_init_56 : decode cX2_init 56 = .ok (.aload_n 0, 1) := by decide +kernel
theorem dX2_init_57 : decode cX2_init 57 = .ok (.new 31, 3) := by decide +kernel
theorem dX2_init_60 : decode cX2_init 60 = .ok (.dup, 1) := by decide +kernel
theorem dX2_init_61 : decode cX2_init 61 = .ok (.invokespecial 33, 3) := by decide +kernel
theorem dX2_init_64 : decode cX2_init 64 = .ok (.putfield 34, 3) := by decide +kernel
theorem dX2_init_67 : decode cX2_init 67 = .ok (.return_, 1) := by decide +kernel
theorem dX2_search_0 : decode cX2_search 0 = .ok (.aload_n 0, 1) := by decide +kernel
theorem dX2_search_1 : decode cX2_search 1 = .ok (.invokevirtual 38, 3) := by decide +kernel
theorem dX2_search_4 : decode cX2_search 4 = .ok (.aload_n 0, 1) := by decide +kernel
theorem dX2_search_5 : decode cX2_search 5 = .ok (.getfield 34, 3) := by decide +kernel
theorem dX2_search_8 : decode cX2_search 8 = .ok (.aload_n 2, 1) := by decide +kernel
theorem dX2_search_9 : decode cX2_search 9 = .ok (.invokevirtual 41, 3) := by decide +kernel
theorem dX2_search_12 : decode cX2_search 12 = .ok (.aload_n 0, 1) := by decide +kernel
theorem dX2_search_13 : decode cX2_search 13 = .ok (.iconst 0, 1) := by decide +kernel
theorem dX2_search_14 : decode cX2_search 14 = .ok (.iconst 0, 1) := by decide +kernel
theorem dX2_search_15 : decode cX2_search 15 = .ok (.bipush (-9), 2) := by decide +kernel
theorem dX2_search_17 : decode cX2_search 17 = .ok (.invokevirtual 45, 3) := by decide +kernel
theorem dX2_search_20 : decode cX2_search 20 = .ok (.iconst 0, 1) := by decide +kernel
theorem dX2_search_21 : decode cX2_search 21 = .ok (.istore 4, 2) := by decide +kernel
theorem dX2_search_23 : decode cX2_search 23 = .ok (.iload 4, 2) := by decide +kernel
theorem dX2_search_25 : decode cX2_search 25 = .ok (.aload_n 0, 1) := by decide +kernel
theorem dX2_search_26 : decode cX2_search 26 = .ok (.getfield 49, 3) := by decide +kernel
theorem dX2_search_29 : decode cX2_search 29 = .ok (.if_icmp .ge 77, 3) := by decide +kernel
theorem dX2_search_32 : decode cX2_search 32 = .ok (.iload 4, 2) := by decide +kernel
theorem dX2_search_34 : decode cX2_search 34 = .ok (.sipush 1296, 3) := by decide +kernel
theorem dX2_search_37 : decode cX2_search 37 = .ok (.if_icmp .ge 69, 3) := by decide +kernel
theorem dX2_search_40 : decode cX2_search 40 = .ok (.aload_n 0, 1) := by decide +kernel
theorem dX2_search_41 : decode cX2_search 41 = .ok (.getfield 15, 3) := by decide +kernel
theorem dX2_search_44 : decode cX2_search 44 = .ok (.iload 4, 2) := by decide +kernel
theorem dX2_search_46 : decode cX2_search 46 = .ok (.iaload, 1) := by decide +kernel
theorem dX2_search_47 : decode cX2_search 47 = .ok (.aload_n 0, 1) := by decide +kernel
theorem dX2_search_48 : decode cX2_search 48 = .ok (.getfield 34, 3) := by decide +kernel
theorem dX2_search_51 : decode cX2_search 51 = .ok (.getfield 53, 3) := by decide +kernel
theorem dX2_search_54 : decode cX2_search 54 = .ok (.invokestatic 56, 3) := by decide +kernel
theorem dX2_search_57 : decode cX2_search 57 = .ok (.aload_n 1, 1) := by decide +kernel
theorem dX2_search_58 : decode cX2_search 58 = .ok (.iload_n 3, 1) := by decide +kernel
theorem dX2_search_59 : decode cX2_search 59 = .ok (.aload_n 0, 1) := by decide +kernel
theorem dX2_search_60 : decode cX2_search 60 = .ok (.getfield 34, 3) := by decide +kernel
theorem dX2_search_63 : decode cX2_search 63 = .ok (.invokevirtual 60, 3) := by decide +kernel
theorem dX2_search_66 : decode cX2_search 66 = .ok (.ifCond .eq 17, 3) := by decide +kernel
theorem dX2_search_69 : decode cX2_search 69 = .ok (.aload_n 0, 1) := by decide +kernel
theorem dX2_search_70 : decode cX2_search 70 = .ok (.iload 4, 2) := by decide +kernel
theorem dX2_search_72 : decode cX2_search 72 = .ok (.invokevirtual 66, 3) := by decide +kernel
theorem dX2_search_75 : decode cX2_search 75 = .ok (.aload_n 0, 1) := by decide +kernel
theorem dX2_search_76 : decode cX2_search 76 = .ok (.getfield 18, 3) := by decide +kernel
theorem dX2_search_79 : decode cX2_search 79 = .ok (.iload 4, 2) := by decide +kernel
theorem dX2_search_81 : decode cX2_search 81 = .ok (.iaload, 1) := by decide +kernel
theorem dX2_search_82 : decode cX2_search 82 = .ok (.ireturn, 1) := by decide +kernel
theorem dX2_search_83 : decode cX2_search 83 = .ok (.aload_n 0, 1) := by decide +kernel
theorem dX2_search_84 : decode cX2_search 84 = .ok (.getfield 18, 3) := by decide +kernel
theorem dX2_search_87 : decode cX2_search 87 = .ok (.iload 4, 2) := by decide +kernel
theorem dX2_search_89 : decode cX2_search 89 = .ok (.iaload, 1) := by decide +kernel
theorem dX2_search_90 : decode cX2_search 90 = .ok (.iconst 5, 1) := by decide +kernel
theorem dX2_search_91 : decode cX2_search 91 = .ok (.if_icmp .ge 9, 3) := by decide +kernel
theorem dX2_search_94 : decode cX2_search 94 = .ok (.aload_n 0, 1) := by decide +kernel
theorem dX2_search_95 : decode cX2_search 95 = .ok (.iload 4, 2) := by decide +kernel
theorem dX2_search_97 : decode cX2_search 97 = .ok (.invokevirtual 70, 3) := by decide +kernel
theorem dX2_search_100 : decode cX2_search 100 = .ok (.iinc 4 1, 3) := by decide +kernel
theorem dX2_search_103 : decode cX2_search 103 = .ok (.goto (-80), 3) := by decide +kernel
theorem dX2_search_106 : decode cX2_search 106 = .ok (.bipush (-9), 2) := by decide +kernel
theorem dX2_search_108 : decode cX2_search 108 = .ok (.ireturn, 1) := by decide +kernel
theorem dX2_forgetReached_0 : decode cX2_forgetReached 0 = .ok (.iconst 0, 1) := by decide +kernel
theorem dX2_forgetReached_1 : decode cX2_forgetReached 1 = .ok (.istore_n 1, 1) := by decide +kernel
theorem dX2_forgetReached_2 : decode cX2_forgetReached 2 = .ok (.iload_n 1, 1) := by decide +kernel
theorem dX2_forgetReached_3 : decode cX2_forgetReached 3 = .ok (.aload_n 0, 1) := by decide +kernel
theorem dX2_forgetReached_4 : decode cX2_forgetReached 4 = .ok (.getfield 49, 3) := by decide +kernel
theorem dX2_forgetReached_7 : decode cX2_forgetReached 7 = .ok (.if_icmp .ge 28, 3) := by decide +kernel
theorem dX2_forgetReached_10 : decode cX2_forgetReached 10 = .ok (.iload_n 1, 1) := by decide +kernel
theorem dX2_forgetReached_11 : decode cX2_forgetReached 11 = .ok (.sipush 1296, 3) := by decide +kernel
theorem dX2_forgetReached_14 : decode cX2_forgetReached 14 = .ok (.if_icmp .ge 21, 3) := by decide +kernel
theorem dX2_forgetReached_17 : decode cX2_forgetReached 17 = .ok (.aload_n 0, 1) := by decide +kernel
theorem dX2_forgetReached_18 : decode cX2_forgetReached 18 = .ok (.getfield 27, 3) := by decide +kernel
theorem dX2_forgetReached_21 : decode cX2_forgetReached 21 = .ok (.aload_n 0, 1) := by decide +kernel
theorem dX2_forgetReached_22 : decode cX2_forgetReached 22 = .ok (.getfield 15, 3) := by decide +kernel
theorem dX2_forgetReached_25 : decode cX2_forgetReached 25 = .ok (.iload_n 1, 1) := by decide +kernel
theorem dX2_forgetReached_26 : decode cX2_forgetReached 26 = .ok (.iaload, 1) := by decide +kernel
theorem dX2_forgetReached_27 : decode cX2_forgetReached 27 = .ok (.iconst 0, 1) := by decide +kernel
theorem dX2_forgetReached_28 : decode cX2_forgetReached 28 = .ok (.bastore, 1) := by decide +kernel
theorem dX2_forgetReached_29 : decode cX2_forgetReached 29 = .ok (.iinc 1 1, 3) := by decide +kernel
theorem dX2_forgetReached_32 : decode cX2_forgetReached 32 = .ok (.goto (-30), 3) := by decide +kernel
theorem dX2_forgetReached_35 : decode cX2_forgetReached 35 = .ok (.aload_n 0, 1) := by decide +kernel
theorem dX2_forgetReached_36 : decode cX2_forgetReached 36 = .ok (.iconst 0, 1) := by decide +kernel
theorem dX2_forgetReached_37 : decode cX2_forgetReached 37 = .ok (.putfield 49, 3) := by decide +kernel
theorem dX2_forgetReached_40 : decode cX2_forgetReached 40 = .ok (.return_, 1) := by decide +kernel
theorem dX2_goOnFrom_0 : decode cX2_goOnFrom 0 = .ok (.iconst 0, 1) := by decide +kernel
theorem dX2_goOnFrom_1 : decode cX2_goOnFrom 1 = .ok (.istore_n 2, 1) := by decide +kernel
theorem dX2_goOnFrom_2 : decode cX2_goOnFrom 2 = .ok (.iload_n 2, 1) := by decide +kernel
theorem dX2_goOnFrom_3 : decode cX2_goOnFrom 3 = .ok (.iconst 5, 1) := by decide +kernel
theorem dX2_goOnFrom_4 : decode cX2_goOnFrom 4 = .ok (.if_icmp .ge 50, 3) := by decide +kernel
theorem dX2_goOnFrom_7 : decode cX2_goOnFrom 7 = .ok (.aload_n 0, 1) := by decide +kernel
theorem dX2_goOnFrom_8 : decode cX2_goOnFrom 8 = .ok (.getfield 15, 3) := by decide +kernel
theorem dX2_goOnFrom_11 : decode cX2_goOnFrom 11 = .ok (.iload_n 1, 1) := by decide +kernel
theorem dX2_goOnFrom_12 : decode cX2_goOnFrom 12 = .ok (.iaload, 1) := by decide +kernel
theorem dX2_goOnFrom_13 : decode cX2_goOnFrom 13 = .ok (.aload_n 0, 1) := by decide +kernel
theorem dX2_goOnFrom_14 : decode cX2_goOnFrom 14 = .ok (.getfield 34, 3) := by decide +kernel
theorem dX2_goOnFrom_17 : decode cX2_goOnFrom 17 = .ok (.getfield 53, 3) := by decide +kernel
theorem dX2_goOnFrom_20 : decode cX2_goOnFrom 20 = .ok (.invokestatic 56, 3) := by decide +kernel
theorem dX2_goOnFrom_23 : decode cX2_goOnFrom 23 = .ok (.aload_n 0, 1) := by decide +kernel
theorem dX2_goOnFrom_24 : decode cX2_goOnFrom 24 = .ok (.getfield 34, 3) := by decide +kernel
theorem dX2_goOnFrom_27 : decode cX2_goOnFrom 27 = .ok (.getfield 53, 3) := by decide +kernel
theorem dX2_goOnFrom_30 : decode cX2_goOnFrom 30 = .ok (.iload_n 2, 1) := by decide +kernel
theorem dX2_goOnFrom_31 : decode cX2_goOnFrom 31 = .ok (.invokestatic 73, 3) := by decide +kernel
theorem dX2_goOnFrom_34 : decode cX2_goOnFrom 34 = .ok (.aload_n 0, 1) := by decide +kernel
theorem dX2_goOnFrom_35 : decode cX2_goOnFrom 35 = .ok (.aload_n 0, 1) := by decide +kernel
theorem dX2_goOnFrom_36 : decode cX2_goOnFrom 36 = .ok (.getfield 18, 3) := by decide +kernel
theorem dX2_goOnFrom_39 : decode cX2_goOnFrom 39 = .ok (.iload_n 1, 1) := by decide +kernel
theorem dX2_goOnFrom_40 : decode cX2_goOnFrom 40 = .ok (.iaload, 1) := by decide +kernel
theorem dX2_goOnFrom_41 : decode cX2_goOnFrom 41 = .ok (.iconst 1, 1) := by decide +kernel
theorem dX2_goOnFrom_42 : decode cX2_goOnFrom 42 = .ok (.iadd, 1) := by decide +kernel
theorem dX2_goOnFrom_43 : decode cX2_goOnFrom 43 = .ok (.iload_n 1, 1) := by decide +kernel
theorem dX2_goOnFrom_44 : decode cX2_goOnFrom 44 = .ok (.iload_n 2, 1) := by decide +kernel
theorem dX2_goOnFrom_45 : decode cX2_goOnFrom 45 = .ok (.invokevirtual 45, 3) := by decide +kernel
theorem dX2_goOnFrom_48 : decode cX2_goOnFrom 48 = .ok (.iinc 2 1, 3) := by decide +kernel
theorem dX2_goOnFrom_51 : decode cX2_goOnFrom 51 = .ok (.goto (-49), 3) := by decide +kernel
theorem dX2_goOnFrom_54 : decode cX2_goOnFrom 54 = .ok (.return_, 1) := by decide +kernel
theorem dX2_reach_0 : decode cX2_reach 0 = .ok (.aload_n 0, 1) := by decide +kernel
theorem dX2_reach_1 : decode cX2_reach 1 = .ok (.getfield 34, 3) := by decide +kernel
theorem dX2_reach_4 : decode cX2_reach 4 = .ok (.getfield 53, 3) := by decide +kernel
theorem dX2_reach_7 : decode cX2_reach 7 = .ok (.invokestatic 77, 3) := by decide +kernel
theorem dX2_reach_10 : decode cX2_reach 10 = .ok (.istore 4, 2) := by decide +kernel
theorem dX2_reach_12 : decode cX2_reach 12 = .ok (.iload 4, 2) := by decide +kernel
theorem dX2_reach_14 : decode cX2_reach 14 = .ok (.ifCond .lt 31, 3) := by decide +kernel
theorem dX2_reach_17 : decode cX2_reach 17 = .ok (.iload 4, 2) := by decide +kernel
theorem dX2_reach_19 : decode cX2_reach 19 = .ok (.sipush 1296, 3) := by decide +kernel
theorem dX2_reach_22 : decode cX2_reach 22 = .ok (.if_icmp .ge 23, 3) := by decide +kernel
theorem dX2_reach_25 : decode cX2_reach 25 = .ok (.aload_n 0, 1) := by decide +kernel
theorem dX2_reach_26 : decode cX2_reach 26 = .ok (.getfield 49, 3) := by decide +kernel
theorem dX2_reach_29 : decode cX2_reach 29 = .ok (.sipush 1296, 3) := by decide +kernel
theorem dX2_reach_32 : decode cX2_reach 32 = .ok (.if_icmp .ge 13, 3) := by decide +kernel
theorem dX2_reach_35 : decode cX2_reach 35 = .ok (.aload_n 0, 1) := by decide +kernel
theorem dX2_reach_36 : decode cX2_reach 36 = .ok (.getfield 27, 3) := by decide +kernel
theorem dX2_reach_39 : decode cX2_reach 39 = .ok (.iload 4, 2) := by decide +kernel
theorem dX2_reach_41 : decode cX2_reach 41 = .ok (.baload, 1) := by decide +kernel
theorem dX2_reach_42 : decode cX2_reach 42 = .ok (.ifCond .eq 4, 3) := by decide +kernel
theorem dX2_reach_45 : decode cX2_reach 45 = .ok (.return_, 1) := by decide +kernel
theorem dX2_reach_46 : decode cX2_reach 46 = .ok (.aload_n 0, 1) := by decide +kernel
theorem dX2_reach_47 : decode cX2_reach 47 = .ok (.getfield 27, 3) := by decide +kernel
theorem dX2_reach_50 : decode cX2_reach 50 = .ok (.iload 4, 2) := by decide +kernel
theorem dX2_reach_52 : decode cX2_reach 52 = .ok (.iconst 1, 1) := by decide +kernel
theorem dX2_reach_53 : decode cX2_reach 53 = .ok (.bastore, 1) := by decide +kernel
theorem dX2_reach_54 : decode cX2_reach 54 = .ok (.aload_n 0, 1) := by decide +kernel
theorem dX2_reach_55 : decode cX2_reach 55 = .ok (.getfield 15, 3) := by decide +kernel
theorem dX2_reach_58 : decode cX2_reach 58 = .ok (.aload_n 0, 1) := by decide +kernel
theorem dX2_reach_59 : decode cX2_reach 59 = .ok (.getfield 49, 3) := by decide +kernel
theorem dX2_reach_62 : decode cX2_reach 62 = .ok (.iload 4, 2) := by decide +kernel
theorem dX2_reach_64 : decode cX2_reach 64 = .ok (.iastore, 1) := by decide +kernel
theorem dX2_reach_65 : decode cX2_reach 65 = .ok (.aload_n 0, 1) := by decide +kernel
theorem dX2_reach_66 : decode cX2_reach 66 = .ok (.getfield 18, 3) := by decide +kernel
theorem dX2_reach_69 : decode cX2_reach 69 = .ok (.aload_n 0, 1) := by decide +kernel
theorem dX2_reach_70 : decode cX2_reach 70 = .ok (.getfield 49, 3) := by decide +kernel
theorem dX2_reach_73 : decode cX2_reach 73 = .ok (.iload_n 1, 1) := by decide +kernel
theorem dX2_reach_74 : decode cX2_reach 74 = .ok (.iastore, 1) := by decide +kernel
theorem dX2_reach_75 : decode cX2_reach 75 = .ok (.aload_n 0, 1) := by decide +kernel
theorem dX2_reach_76 : decode cX2_reach 76 = .ok (.getfield 21, 3) := by decide +kernel
theorem dX2_reach_79 : decode cX2_reach 79 = .ok (.aload_n 0, 1) := by decide +kernel
theorem dX2_reach_80 : decode cX2_reach 80 = .ok (.getfield 49, 3) := by decide +kernel
theorem dX2_reach_83 : decode cX2_reach 83 = .ok (.iload_n 2, 1) := by decide +kernel
theorem dX2_reach_84 : decode cX2_reach 84 = .ok (.iastore, 1) := by decide +kernel
theorem dX2_reach_85 : decode cX2_reach 85 = .ok (.aload_n 0, 1) := by decide +kernel
theorem dX2_reach_86 : decode cX2_reach 86 = .ok (.getfield 24, 3) := by decide +kernel
theorem dX2_reach_89 : decode cX2_reach 89 = .ok (.aload_n 0, 1) := by decide +kernel
theorem dX2_reach_90 : decode cX2_reach 90 = .ok (.getfield 49, 3) := by decide +kernel
theorem dX2_reach_93 : decode cX2_reach 93 = .ok (.iload_n 3, 1) := by decide +kernel
theorem dX2_reach_94 : decode cX2_reach 94 = .ok (.iastore, 1) := by decide +kernel
theorem dX2_reach_95 : decode cX2_reach 95 = .ok (.aload_n 0, 1) := by decide +kernel
theorem dX2_reach_96 : decode cX2_reach 96 = .ok (.dup, 1) := by decide +kernel
theorem dX2_reach_97 : decode cX2_reach 97 = .ok (.getfield 49, 3) := by decide +kernel
theorem dX2_reach_100 : decode cX2_reach 100 = .ok (.iconst 1, 1) := by decide +kernel
theorem dX2_reach_101 : decode cX2_reach 101 = .ok (.iadd, 1) := by decide +kernel
theorem dX2_reach_102 : decode cX2_reach 102 = .ok (.putfield 49, 3) := by decide +kernel
theorem dX2_reach_105 : decode cX2_reach 105 = .ok (.return_, 1) := by decide +kernel
theorem dX2_tellRow_0 : decode cX2_tellRow 0 = .ok (.iload_n 1, 1) := by decide +kernel
theorem dX2_tellRow_1 : decode cX2_tellRow 1 = .ok (.istore_n 2, 1) := by decide +kernel
theorem dX2_tellRow_2 : decode cX2_tellRow 2 = .ok (.aload_n 0, 1) := by decide +kernel
theorem dX2_tellRow_3 : decode cX2_tellRow 3 = .ok (.getfield 18, 3) := by decide +kernel
theorem dX2_tellRow_6 : decode cX2_tellRow 6 = .ok (.iload_n 1, 1) := by decide +kernel
theorem dX2_tellRow_7 : decode cX2_tellRow 7 = .ok (.iaload, 1) := by decide +kernel
theorem dX2_tellRow_8 : decode cX2_tellRow 8 = .ok (.iconst 5, 1) := by decide +kernel
theorem dX2_tellRow_9 : decode cX2_tellRow 9 = .ok (.invokestatic 81, 3) := by decide +kernel
theorem dX2_tellRow_12 : decode cX2_tellRow 12 = .ok (.iconst 1, 1) := by decide +kernel
theorem dX2_tellRow_13 : decode cX2_tellRow 13 = .ok (.isub, 1) := by decide +kernel
theorem dX2_tellRow_14 : decode cX2_tellRow 14 = .ok (.istore_n 3, 1) := by decide +kernel
theorem dX2_tellRow_15 : decode cX2_tellRow 15 = .ok (.iload_n 3, 1) := by decide +kernel
theorem dX2_tellRow_16 : decode cX2_tellRow 16 = .ok (.ifCond .lt 28, 3) := by decide +kernel
theorem dX2_tellRow_19 : decode cX2_tellRow 19 = .ok (.aload_n 0, 1) := by decide +kernel
theorem dX2_tellRow_20 : decode cX2_tellRow 20 = .ok (.getfield 9, 3) := by decide +kernel
theorem dX2_tellRow_23 : decode cX2_tellRow 23 = .ok (.iload_n 3, 1) := by decide +kernel
theorem dX2_tellRow_24 : decode cX2_tellRow 24 = .ok (.aload_n 0, 1) := by decide +kernel
theorem dX2_tellRow_25 : decode cX2_tellRow 25 = .ok (.getfield 24, 3) := by decide +kernel
theorem dX2_tellRow_28 : decode cX2_tellRow 28 = .ok (.iload_n 2, 1) := by decide +kernel
theorem dX2_tellRow_29 : decode cX2_tellRow 29 = .ok (.iaload, 1) := by decide +kernel
theorem dX2_tellRow_30 : decode cX2_tellRow 30 = .ok (.iastore, 1) := by decide +kernel
theorem dX2_tellRow_31 : decode cX2_tellRow 31 = .ok (.aload_n 0, 1) := by decide +kernel
theorem dX2_tellRow_32 : decode cX2_tellRow 32 = .ok (.getfield 21, 3) := by decide +kernel
theorem dX2_tellRow_35 : decode cX2_tellRow 35 = .ok (.iload_n 2, 1) := by decide +kernel
theorem dX2_tellRow_36 : decode cX2_tellRow 36 = .ok (.iaload, 1) := by decide +kernel
theorem dX2_tellRow_37 : decode cX2_tellRow 37 = .ok (.istore_n 2, 1) := by decide +kernel
theorem dX2_tellRow_38 : decode cX2_tellRow 38 = .ok (.iinc 3 (-1), 3) := by decide +kernel
theorem dX2_tellRow_41 : decode cX2_tellRow 41 = .ok (.goto (-26), 3) := by decide +kernel
theorem dX2_tellRow_44 : decode cX2_tellRow 44 = .ok (.return_, 1) := by decide +kernel
theorem dX3_init_0 : decode cX3_init 0 = .ok (.aload_n 0, 1) := by decide +kernel
theorem dX3_init_1 : decode cX3_init 1 = .ok (.invokespecial 3, 3) := by decide +kernel
theorem dX3_init_4 : decode cX3_init 4 = .ok (.aload_n 0, 1) := by decide +kernel
theorem dX3_init_5 : decode cX3_init 5 = .ok (.iconst 4, 1) := by decide +kernel
theorem dX3_init_6 : decode cX3_init 6 = .ok (.newarray .int, 2) := by decide +kernel
theorem dX3_init_8 : decode cX3_init 8 = .ok (.putfield 9, 3) := by decide +kernel
theorem dX3_init_11 : decode cX3_init 11 = .ok (.aload_n 0, 1) := by decide +kernel
theorem dX3_init_12 : decode cX3_init 12 = .ok (.bipush 6, 2) := by decide +kernel
theorem dX3_init_14 : decode cX3_init 14 = .ok (.newarray .int, 2) := by decide +kernel
theorem dX3_init_16 : decode cX3_init 16 = .ok (.putfield 15, 3) := by decide +kernel
theorem dX3_init_19 : decode cX3_init 19 = .ok (.aload_n 0, 1) := by decide +kernel
theorem dX3_init_20 : decode cX3_init 20 = .ok (.bipush 6, 2) := by decide +kernel
theorem dX3_init_22 : decode cX3_init 22 = .ok (.newarray .int, 2) := by decide +kernel
theorem dX3_init_24 : decode cX3_init 24 = .ok (.putfield 18, 3) := by decide +kernel
theorem dX3_init_27 : decode cX3_init 27 = .ok (.return_, 1) := by decide +kernel
theorem dX3_become_0 : decode cX3_become 0 = .ok (.aload_n 1, 1) := by decide +kernel
theorem dX3_become_1 : decode cX3_become 1 = .ok (.getfield 9, 3) := by decide +kernel
theorem dX3_become_4 : decode cX3_become 4 = .ok (.iconst 0, 1) := by decide +kernel
theorem dX3_become_5 : decode cX3_become 5 = .ok (.aload_n 0, 1) := by decide +kernel
theorem dX3_become_6 : decode cX3_become 6 = .ok (.getfield 9, 3) := by decide +kernel
theorem dX3_become_9 : decode cX3_become 9 = .ok (.iconst 0, 1) := by decide +kernel
theorem dX3_become_10 : decode cX3_become 10 = .ok (.iconst 4, 1) := by decide +kernel
theorem dX3_become_11 : decode cX3_become 11 = .ok (.invokestatic 21, 3) := by decide +kernel
theorem dX3_become_14 : decode cX3_become 14 = .ok (.aload_n 1, 1) := by decide +kernel
theorem dX3_become_15 : decode cX3_become 15 = .ok (.getfield 15, 3) := by decide +kernel
theorem dX3_become_18 : decode cX3_become 18 = .ok (.iconst 0, 1) := by decide +kernel
theorem dX3_become_19 : decode cX3_become 19 = .ok (.aload_n 0, 1) := by decide +kernel
theorem dX3_become_20 : decode cX3_become 20 = .ok (.getfield 15, 3) := by decide +kernel
theorem dX3_become_23 : decode cX3_become 23 = .ok (.iconst 0, 1) := by decide +kernel
theorem dX3_become_24 : decode cX3_become 24 = .ok (.bipush 6, 2) := by decide +kernel
theorem dX3_become_26 : decode cX3_become 26 = .ok (.invokestatic 21, 3) := by decide +kernel
theorem dX3_become_29 : decode cX3_become 29 = .ok (.aload_n 1, 1) := by decide +kernel
theorem dX3_become_30 : decode cX3_become 30 = .ok (.getfield 18, 3) := by decide +kernel
theorem dX3_become_33 : decode cX3_become 33 = .ok (.iconst 0, 1) := by decide +kernel
theorem dX3_become_34 : decode cX3_become 34 = .ok (.aload_n 0, 1) := by decide +kernel
theorem dX3_become_35 : decode cX3_become 35 = .ok (.getfield 18, 3) := by decide +kernel
theorem dX3_become_38 : decode cX3_become 38 = .ok (.iconst 0, 1) := by decide +kernel
theorem dX3_become_39 : decode cX3_become 39 = .ok (.bipush 6, 2) := by decide +kernel
theorem dX3_become_41 : decode cX3_become 41 = .ok (.invokestatic 21, 3) := by decide +kernel
theorem dX3_become_44 : decode cX3_become 44 = .ok (.return_, 1) := by decide +kernel
theorem dX3_begin_0 : decode cX3_begin 0 = .ok (.aload_n 1, 1) := by decide +kernel
theorem dX3_begin_1 : decode cX3_begin 1 = .ok (.iconst 0, 1) := by decide +kernel
theorem dX3_begin_2 : decode cX3_begin 2 = .ok (.aload_n 0, 1) := by decide +kernel
theorem dX3_begin_3 : decode cX3_begin 3 = .ok (.getfield 9, 3) := by decide +kernel
theorem dX3_begin_6 : decode cX3_begin 6 = .ok (.iconst 0, 1) := by decide +kernel
theorem dX3_begin_7 : decode cX3_begin 7 = .ok (.iconst 4, 1) := by decide +kernel
theorem dX3_begin_8 : decode cX3_begin 8 = .ok (.invokestatic 21, 3) := by decide +kernel
theorem dX3_begin_11 : decode cX3_begin 11 = .ok (.iconst 0, 1) := by decide +kernel
theorem dX3_begin_12 : decode cX3_begin 12 = .ok (.istore 4, 2) := by decide +kernel
theorem dX3_begin_14 : decode cX3_begin 14 = .ok (.iload 4, 2) := by decide +kernel
theorem dX3_begin_16 : decode cX3_begin 16 = .ok (.bipush 6, 2) := by decide +kernel
theorem dX3_begin_18 : decode cX3_begin 18 = .ok (.if_icmp .ge 41, 3) := by decide +kernel
theorem dX3_begin_21 : decode cX3_begin 21 = .ok (.aload_n 0, 1) := by decide +kernel
theorem dX3_begin_22 : decode cX3_begin 22 = .ok (.getfield 15, 3) := by decide +kernel
theorem dX3_begin_25 : decode cX3_begin 25 = .ok (.iload 4, 2) := by decide +kernel
theorem dX3_begin_27 : decode cX3_begin 27 = .ok (.iload 4, 2) := by decide +kernel
theorem dX3_begin_29 : decode cX3_begin 29 = .ok (.iload_n 3, 1) := by decide +kernel
theorem dX3_begin_30 : decode cX3_begin 30 = .ok (.if_icmp .ge 12, 3) := by decide +kernel
theorem dX3_begin_33 : decode cX3_begin 33 = .ok (.aload_n 2, 1) := by decide +kernel
theorem dX3_begin_34 : decode cX3_begin 34 = .ok (.iload 4, 2) := by decide +kernel
theorem dX3_begin_36 : decode cX3_begin 36 = .ok (.aaload, 1) := by decide +kernel
theorem dX3_begin_37 : decode cX3_begin 37 = .ok (.iconst 5, 1) := by decide +kernel
theorem dX3_begin_38 : decode cX3_begin 38 = .ok (.iaload, 1) := by decide +kernel
theorem dX3_begin_39 : decode cX3_begin 39 = .ok (.goto 4, 3) := by decide +kernel
theorem dX3_begin_42 : decode cX3_begin 42 = .ok (.iconst 0, 1) := by decide +kernel
theorem dX3_begin_43 : decode cX3_begin 43 = .ok (.iastore, 1) := by decide +kernel
theorem dX3_begin_44 : decode cX3_begin 44 = .ok (.aload_n 0, 1) := by decide +kernel
theorem dX3_begin_45 : decode cX3_begin 45 = .ok (.getfield 18, 3) := by decide +kernel
theorem dX3_begin_48 : decode cX3_begin 48 = .ok (.iload 4, 2) := by decide +kernel
theorem dX3_begin_50 : decode cX3_begin 50 = .ok (.bipush (-9), 2) := by decide +kernel
theorem dX3_begin_52 : decode cX3_begin 52 = .ok (.iastore, 1) := by decide +kernel
theorem dX3_begin_53 : decode cX3_begin 53 = .ok (.iinc 4 1, 3) := by decide +kernel
theorem dX3_begin_56 : decode cX3_begin 56 = .ok (.goto (-42), 3) := by decide +kernel
theorem dX3_begin_59 : decode cX3_begin 59 = .ok (.return_, 1) := by decide +kernel
theorem dX3_coldSet_0 : decode cX3_coldSet 0 = .ok (.iconst 0, 1) := by decide +kernel
theorem dX3_coldSet_1 : decode cX3_coldSet 1 = .ok (.istore_n 1, 1) := by decide +kernel
theorem dX3_coldSet_2 : decode cX3_coldSet 2 = .ok (.iconst 0, 1) := by decide +kernel
theorem dX3_coldSet_3 : decode cX3_coldSet 3 = .ok (.istore_n 2, 1) := by decide +kernel
theorem dX3_coldSet_4 : decode cX3_coldSet 4 = .ok (.iload_n 2, 1) := by decide +kernel
theorem dX3_coldSet_5 : decode cX3_coldSet 5 = .ok (.bipush 6, 2) := by decide +kernel
theorem dX3_coldSet_7 : decode cX3_coldSet 7 = .ok (.if_icmp .ge 20, 3) := by decide +kernel
theorem dX3_coldSet_10 : decode cX3_coldSet 10 = .ok (.iload_n 1, 1) := by decide +kernel
theorem dX3_coldSet_11 : decode cX3_coldSet 11 = .ok (.aload_n 0, 1) := by decide +kernel
theorem dX3_coldSet_12 : decode cX3_coldSet 12 = .ok (.getfield 15, 3) := by decide +kernel
theorem dX3_coldSet_15 : decode cX3_coldSet 15 = .ok (.iload_n 2, 1) := by decide +kernel
theorem dX3_coldSet_16 : decode cX3_coldSet 16 = .ok (.iaload, 1) := by decide +kernel
theorem dX3_coldSet_17 : decode cX3_coldSet 17 = .ok (.iload_n 2, 1) := by decide +kernel
theorem dX3_coldSet_18 : decode cX3_coldSet 18 = .ok (.ishl, 1) := by decide +kernel
theorem dX3_coldSet_19 : decode cX3_coldSet 19 = .ok (.ior, 1) := by decide +kernel
theorem dX3_coldSet_20 : decode cX3_coldSet 20 = .ok (.istore_n 1, 1) := by decide +kernel
theorem dX3_coldSet_21 : decode cX3_coldSet 21 = .ok (.iinc 2 1, 3) := by decide +kernel
theorem dX3_coldSet_24 : decode cX3_coldSet 24 = .ok (.goto (-20), 3) := by decide +kernel
theorem dX3_coldSet_27 : decode cX3_coldSet 27 = .ok (.iload_n 1, 1) := by decide +kernel
theorem dX3_coldSet_28 : decode cX3_coldSet 28 = .ok (.ireturn, 1) := by decide +kernel
theorem dX4_init_0 : decode cX4_init 0 = .ok (.aload_n 0, 1) := by decide +kernel
theorem dX4_init_1 : decode cX4_init 1 = .ok (.invokespecial 3, 3) := by decide +kernel
theorem dX4_init_4 : decode cX4_init 4 = .ok (.aload_n 0, 1) := by decide +kernel
theorem dX4_init_5 : decode cX4_init 5 = .ok (.iconst 4, 1) := by decide +kernel
theorem dX4_init_6 : decode cX4_init 6 = .ok (.newarray .int, 2) := by decide +kernel
theorem dX4_init_8 : decode cX4_init 8 = .ok (.putfield 9, 3) := by decide +kernel
theorem dX4_init_11 : decode cX4_init 11 = .ok (.aload_n 0, 1) := by decide +kernel
theorem dX4_init_12 : decode cX4_init 12 = .ok (.iconst 4, 1) := by decide +kernel
theorem dX4_init_13 : decode cX4_init 13 = .ok (.iconst 4, 1) := by decide +kernel
theorem dX4_init_14 : decode cX4_init 14 = .ok (.multianewarray 15 2, 4) := by decide +kernel
theorem dX4_init_18 : decode cX4_init 18 = .ok (.putfield 17, 3) := by decide +kernel
theorem dX4_init_21 : decode cX4_init 21 = .ok (.aload_n 0, 1) := by decide +kernel
theorem dX4_init_22 : decode cX4_init 22 = .ok (.new 20, 3) := by decide +kernel
theorem dX4_init_25 : decode cX4_init 25 = .ok (.dup, 1) := by decide +kernel
theorem dX4_init_26 : decode cX4_init 26 = .ok (.invokespecial 22, 3) := by decide +kernel
theorem dX4_init_29 : decode cX4_init 29 = .ok (.putfield 23, 3) := by decide +kernel
theorem dX4_init_32 : decode cX4_init 32 = .ok (.aload_n 0, 1) := by decide +kernel
theorem dX4_init_33 : decode cX4_init 33 = .ok (.bipush 6, 2) := by decide +kernel
theorem dX4_init_35 : decode cX4_init 35 = .ok (.iconst 4, 1) := by decide +kernel
theorem dX4_init_36 : decode cX4_init 36 = .ok (.multianewarray 15 2, 4) := by decide +kernel
theorem dX4_init_40 : decode cX4_init 40 = .ok (.putfield 27, 3) := by decide +kernel
theorem dX4_init_43 : decode cX4_init 43 = .ok (.aload_n 0, 1) := by decide +kernel
theorem dX4_init_44 : decode cX4_init 44 = .ok (.bipush 6, 2) := by decide +kernel
theorem dX4_init_46 : decode cX4_init 46 = .ok (.bipush 9, 2) := by decide +kernel
theorem dX4_init_48 : decode cX4_init 48 = .ok (.multianewarray 15 2, 4) := by decide +kernel
theorem dX4_init_52 : decode cX4_init 52 = .ok (.putfield 30, 3) := by decide +kernel
theorem dX4_init_55 : decode cX4_init 55 = .ok (.return_, 1) := by decide +kernel
theorem dX4_notice_0 : decode cX4_notice 0 = .ok (.aload_n 0, 1) := by decide +kernel
theorem dX4_notice_1 : decode cX4_notice 1 = .ok (.getfield 33, 3) := by decide +kernel
theorem dX4_notice_4 : decode cX4_notice 4 = .ok (.iconst 4, 1) := by decide +kernel
theorem dX4_notice_5 : decode cX4_notice 5 = .ok (.if_icmp .ge 39, 3) := by decide +kernel
theorem dX4_notice_8 : decode cX4_notice 8 = .ok (.aload_n 1, 1) := by decide +kernel
theorem dX4_notice_9 : decode cX4_notice 9 = .ok (.iconst 0, 1) := by decide +kernel
theorem dX4_notice_10 : decode cX4_notice 10 = .ok (.aload_n 0, 1) := by decide +kernel
theorem dX4_notice_11 : decode cX4_notice 11 = .ok (.getfield 17, 3) := by decide +kernel
theorem dX4_notice_14 : decode cX4_notice 14 = .ok (.aload_n 0, 1) := by decide +kernel
theorem dX4_notice_15 : decode cX4_notice 15 = .ok (.getfield 33, 3) := by decide +kernel
theorem dX4_notice_18 : decode cX4_notice 18 = .ok (.aaload, 1) := by decide +kernel
theorem dX4_notice_19 : decode cX4_notice 19 = .ok (.iconst 0, 1) := by decide +kernel
theorem dX4_notice_20 : decode cX4_notice 20 = .ok (.iconst 4, 1) := by decide +kernel
theorem dX4_notice_21 : decode cX4_notice 21 = .ok (.invokestatic 37, 3) := by decide +kernel
theorem dX4_notice_24 : decode cX4_notice 24 = .ok (.aload_n 0, 1) := by decide +kernel
theorem dX4_notice_25 : decode cX4_notice 25 = .ok (.getfield 9, 3) := by decide +kernel
theorem dX4_notice_28 : decode cX4_notice 28 = .ok (.aload_n 0, 1) := by decide +kernel
theorem dX4_notice_29 : decode cX4_notice 29 = .ok (.getfield 33, 3) := by decide +kernel
theorem dX4_notice_32 : decode cX4_notice 32 = .ok (.iload_n 2, 1) := by decide +kernel
theorem dX4_notice_33 : decode cX4_notice 33 = .ok (.iastore, 1) := by decide +kernel
theorem dX4_notice_34 : decode cX4_notice 34 = .ok (.aload_n 0, 1) := by decide +kernel
theorem dX4_notice_35 : decode cX4_notice 35 = .ok (.dup, 1) := by decide +kernel
theorem dX4_notice_36 : decode cX4_notice 36 = .ok (.getfield 33, 3) := by decide +kernel
theorem dX4_notice_39 : decode cX4_notice 39 = .ok (.iconst 1, 1) := by decide +kernel
theorem dX4_notice_40 : decode cX4_notice 40 = .ok (.iadd, 1) := by decide +kernel
theorem dX4_notice_41 : decode cX4_notice 41 = .ok (.putfield 33, 3) := by decide +kernel
theorem dX4_notice_44 : decode cX4_notice 44 = .ok (.aload_n 0, 1) := by decide +kernel
theorem dX4_notice_45 : decode cX4_notice 45 = .ok (.getfield 33, 3) := by decide +kernel
theorem dX4_notice_48 : decode cX4_notice 48 = .ok (.ireturn, 1) := by decide +kernel
theorem dX4_fits_0 : decode cX4_fits 0 = .ok (.iload_n 1, 1) := by decide +kernel
theorem dX4_fits_1 : decode cX4_fits 1 = .ok (.aload_n 0, 1) := by decide +kernel
theorem dX4_fits_2 : decode cX4_fits 2 = .ok (.getfield 23, 3) := by decide +kernel
theorem dX4_fits_5 : decode cX4_fits 5 = .ok (.getfield 43, 3) := by decide +kernel
theorem dX4_fits_8 : decode cX4_fits 8 = .ok (.invokestatic 46, 3) := by decide +kernel
theorem dX4_fits_11 : decode cX4_fits 11 = .ok (.iconst 0, 1) := by decide +kernel
theorem dX4_fits_12 : decode cX4_fits 12 = .ok (.istore_n 2, 1) := by decide +kernel
theorem dX4_fits_13 : decode cX4_fits 13 = .ok (.iload_n 2, 1) := by decide +kernel
theorem dX4_fits_14 : decode cX4_fits 14 = .ok (.aload_n 0, 1) := by decide +kernel
theorem dX4_fits_15 : decode cX4_fits 15 = .ok (.getfield 33, 3) := by decide +kernel
theorem dX4_fits_18 : decode cX4_fits 18 = .ok (.if_icmp .ge 39, 3) := by decide +kernel
theorem dX4_fits_21 : decode cX4_fits 21 = .ok (.iload_n 2, 1) := by decide +kernel
theorem dX4_fits_22 : decode cX4_fits 22 = .ok (.iconst 4, 1) := by decide +kernel
theorem dX4_fits_23 : decode cX4_fits 23 = .ok (.if_icmp .ge 34, 3) := by decide +kernel
theorem dX4_fits_26 : decode cX4_fits 26 = .ok (.aload_n 0, 1) := by decide +kernel
theorem dX4_fits_27 : decode cX4_fits 27 = .ok (.getfield 23, 3) := by decide +kernel
theorem dX4_fits_30 : decode cX4_fits 30 = .ok (.aload_n 0, 1) := by decide +kernel
theorem dX4_fits_31 : decode cX4_fits 31 = .ok (.getfield 17, 3) := by decide +kernel
theorem dX4_fits_34 : decode cX4_fits 34 = .ok (.iload_n 2, 1) := by decide +kernel
theorem dX4_fits_35 : decode cX4_fits 35 = .ok (.aaload, 1) := by decide +kernel
theorem dX4_fits_36 : decode cX4_fits 36 = .ok (.iconst 0, 1) := by decide +kernel
theorem dX4_fits_37 : decode cX4_fits 37 = .ok (.invokevirtual 50, 3) := by decide +kernel
theorem dX4_fits_40 : decode cX4_fits 40 = .ok (.aload_n 0, 1) := by decide +kernel
theorem dX4_fits_41 : decode cX4_fits 41 = .ok (.getfield 9, 3) := by decide +kernel
theorem dX4_fits_44 : decode cX4_fits 44 = .ok (.iload_n 2, 1) := by decide +kernel
theorem dX4_fits_45 : decode cX4_fits 45 = .ok (.iaload, 1) := by decide +kernel
theorem dX4_fits_46 : decode cX4_fits 46 = .ok (.if_icmp .eq 5, 3) := by decide +kernel
theorem dX4_fits_49 : decode cX4_fits 49 = .ok (.iconst 0, 1) := by decide +kernel
theorem dX4_fits_50 : decode cX4_fits 50 = .ok (.ireturn, 1) := by decide +kernel
theorem dX4_fits_51 : decode cX4_fits 51 = .ok (.iinc 2 1, 3) := by decide +kernel
theorem dX4_fits_54 : decode cX4_fits 54 = .ok (.goto (-41), 3) := by decide +kernel
theorem dX4_fits_57 : decode cX4_fits 57 = .ok (.iconst 1, 1) := by decide +kernel
theorem dX4_fits_58 : decode cX4_fits 58 = .ok (.ireturn, 1) := by decide +kernel
theorem dX4_gather_0 : decode cX4_gather 0 = .ok (.aload_n 0, 1) := by decide +kernel
theorem dX4_gather_1 : decode cX4_gather 1 = .ok (.iconst 0, 1) := by decide +kernel
theorem dX4_gather_2 : decode cX4_gather 2 = .ok (.putfield 54, 3) := by decide +kernel
theorem dX4_gather_5 : decode cX4_gather 5 = .ok (.aload_n 0, 1) := by decide +kernel
theorem dX4_gather_6 : decode cX4_gather 6 = .ok (.iconst 5, 1) := by decide +kernel
theorem dX4_gather_7 : decode cX4_gather 7 = .ok (.putfield 57, 3) := by decide +kernel
theorem dX4_gather_10 : decode cX4_gather 10 = .ok (.aload_n 0, 1) := by decide +kernel
theorem dX4_gather_11 : decode cX4_gather 11 = .ok (.iconst 0, 1) := by decide +kernel
theorem dX4_gather_12 : decode cX4_gather 12 = .ok (.putfield 60, 3) := by decide +kernel
theorem dX4_gather_15 : decode cX4_gather 15 = .ok (.iconst 0, 1) := by decide +kernel
theorem dX4_gather_16 : decode cX4_gather 16 = .ok (.istore_n 2, 1) := by decide +kernel
theorem dX4_gather_17 : decode cX4_gather 17 = .ok (.iload_n 2, 1) := by decide +kernel
theorem dX4_gather_18 : decode cX4_gather 18 = .ok (.sipush 1296, 3) := by decide +kernel
theorem dX4_gather_21 : decode cX4_gather 21 = .ok (.if_icmp .ge 67, 3) := by decide +kernel
theorem dX4_gather_24 : decode cX4_gather 24 = .ok (.aload_n 0, 1) := by decide +kernel
theorem dX4_gather_25 : decode cX4_gather 25 = .ok (.iload_n 2, 1) := by decide +kernel
theorem dX4_gather_26 : decode cX4_gather 26 = .ok (.invokevirtual 63, 3) := by decide +kernel
theorem dX4_gather_29 : decode cX4_gather 29 = .ok (.ifCond .eq 53, 3) := by decide +kernel
theorem dX4_gather_32 : decode cX4_gather 32 = .ok (.aload_n 0, 1) := by decide +kernel
theorem dX4_gather_33 : decode cX4_gather 33 = .ok (.dup, 1) := by decide +kernel
theorem dX4_gather_34 : decode cX4_gather 34 = .ok (.getfield 54, 3) := by decide +kernel
theorem dX4_gather_37 : decode cX4_gather 37 = .ok (.iconst 1, 1) := by decide +kernel
theorem dX4_gather_38 : decode cX4_gather 38 = .ok (.iadd, 1) := by decide +kernel
theorem dX4_gather_39 : decode cX4_gather 39 = .ok (.putfield 54, 3) := by decide +kernel
theorem dX4_gather_42 : decode cX4_gather 42 = .ok (.aload_n 0, 1) := by decide +kernel
theorem dX4_gather_43 : decode cX4_gather 43 = .ok (.aload_n 0, 1) := by decide +kernel
theorem dX4_gather_44 : decode cX4_gather 44 = .ok (.getfield 57, 3) := by decide +kernel
theorem dX4_gather_47 : decode cX4_gather 47 = .ok (.aload_n 0, 1) := by decide +kernel
theorem dX4_gather_48 : decode cX4_gather 48 = .ok (.getfield 23, 3) := by decide +kernel
theorem dX4_gather_51 : decode cX4_gather 51 = .ok (.getfield 43, 3) := by decide +kernel
theorem dX4_gather_54 : decode cX4_gather 54 = .ok (.iload_n 1, 1) := by decide +kernel
theorem dX4_gather_55 : decode cX4_gather 55 = .ok (.iaload, 1) := by decide +kernel
theorem dX4_gather_56 : decode cX4_gather 56 = .ok (.invokestatic 67, 3) := by decide +kernel
theorem dX4_gather_59 : decode cX4_gather 59 = .ok (.putfield 57, 3) := by decide +kernel
theorem dX4_gather_62 : decode cX4_gather 62 = .ok (.aload_n 0, 1) := by decide +kernel
theorem dX4_gather_63 : decode cX4_gather 63 = .ok (.aload_n 0, 1) := by decide +kernel
theorem dX4_gather_64 : decode cX4_gather 64 = .ok (.getfield 60, 3) := by decide +kernel
theorem dX4_gather_67 : decode cX4_gather 67 = .ok (.aload_n 0, 1) := by decide +kernel
theorem dX4_gather_68 : decode cX4_gather 68 = .ok (.getfield 23, 3) := by decide +kernel
theorem dX4_gather_71 : decode cX4_gather 71 = .ok (.getfield 43, 3) := by decide +kernel
theorem dX4_gather_74 : decode cX4_gather 74 = .ok (.iload_n 1, 1) := by decide +kernel
theorem dX4_gather_75 : decode cX4_gather 75 = .ok (.iaload, 1) := by decide +kernel
theorem dX4_gather_76 : decode cX4_gather 76 = .ok (.invokestatic 73, 3) := by decide +kernel
theorem dX4_gather_79 : decode cX4_gather 79 = .ok (.putfield 60, 3) := by decide +kernel
theorem dX4_gather_82 : decode cX4_gather 82 = .ok (.iinc 2 1, 3) := by decide +kernel
theorem dX4_gather_85 : decode cX4_gather 85 = .ok (.goto (-68), 3) := by decide +kernel
theorem dX4_gather_88 : decode cX4_gather 88 = .ok (.return_, 1) := by decide +kernel
theorem dX4_bestQuestion_0 : decode cX4_bestQuestion 0 = .ok (.aload_n 0, 1) := by decide +kernel
theorem dX4_bestQuestion_1 : decode cX4_bestQuestion 1 = .ok (.aload_n 1, 1) := by decide +kernel
theorem dX4_bestQuestion_2 : decode cX4_bestQuestion 2 = .ok (.invokevirtual 76, 3) := by decide +kernel
theorem dX4_bestQuestion_5 : decode cX4_bestQuestion 5 = .ok (.aload_n 0, 1) := by decide +kernel
theorem dX4_bestQuestion_6 : decode cX4_bestQuestion 6 = .ok (.iconst 0, 1) := by decide +kernel
theorem dX4_bestQuestion_7 : decode cX4_bestQuestion 7 = .ok (.putfield 54, 3) := by decide +kernel
theorem dX4_bestQuestion_10 : decode cX4_bestQuestion 10 = .ok (.iconst 0, 1) := by decide +kernel
theorem dX4_bestQuestion_11 : decode cX4_bestQuestion 11 = .ok (.istore_n 2, 1) := by decide +kernel
theorem dX4_bestQuestion_12 : decode cX4_bestQuestion 12 = .ok (.iload_n 2, 1) := by decide +kernel
theorem dX4_bestQuestion_13 : decode cX4_bestQuestion 13 = .ok (.sipush 1296, 3) := by decide +kernel
theorem dX4_bestQuestion_16 : decode cX4_bestQuestion 16 = .ok (.if_icmp .ge 31, 3) := by decide +kernel
theorem dX4_bestQuestion_19 : decode cX4_bestQuestion 19 = .ok (.aload_n 0, 1) := by decide +kernel
theorem dX4_bestQuestion_20 : decode cX4_bestQuestion 20 = .ok (.iload_n 2, 1) := by decide +kernel
theorem dX4_bestQuestion_21 : decode cX4_bestQuestion 21 = .ok (.invokevirtual 63, 3) := by decide +kernel
theorem dX4_bestQuestion_24 : decode cX4_bestQuestion 24 = .ok (.ifCond .eq 17, 3) := by decide +kernel
theorem dX4_bestQuestion_27 : decode cX4_bestQuestion 27 = .ok (.aload_n 0, 1) := by decide +kernel
theorem dX4_bestQuestion_28 : decode cX4_bestQuestion 28 = .ok (.dup, 1) := by decide +kernel
theorem dX4_bestQuestion_29 : decode cX4_bestQuestion 29 = .ok (.getfield 54, 3) := by decide +kernel
theorem dX4_bestQuestion_32 : decode cX4_bestQuestion 32 = .ok (.iconst 1, 1) := by decide +kernel
theorem dX4_bestQuestion_33 : decode cX4_bestQuestion 33 = .ok (.iadd, 1) := by decide +kernel
theorem dX4_bestQuestion_34 : decode cX4_bestQuestion 34 = .ok (.putfield 54, 3) := by decide +kernel
theorem dX4_bestQuestion_37 : decode cX4_bestQuestion 37 = .ok (.aload_n 0, 1) := by decide +kernel
theorem dX4_bestQuestion_38 : decode cX4_bestQuestion 38 = .ok (.invokevirtual 80, 3) := by decide +kernel
theorem dX4_bestQuestion_41 : decode cX4_bestQuestion 41 = .ok (.iinc 2 1, 3) := by decide +kernel
theorem dX4_bestQuestion_44 : decode cX4_bestQuestion 44 = .ok (.goto (-32), 3) := by decide +kernel
theorem dX4_bestQuestion_47 : decode cX4_bestQuestion 47 = .ok (.aload_n 0, 1) := by decide +kernel
theorem dX4_bestQuestion_48 : decode cX4_bestQuestion 48 = .ok (.getfield 54, 3) := by decide +kernel
theorem dX4_bestQuestion_51 : decode cX4_bestQuestion 51 = .ok (.iconst 1, 1) := by decide +kernel
theorem dX4_bestQuestion_52 : decode cX4_bestQuestion 52 = .ok (.if_icmp .gt 8, 3) := by decide +kernel
theorem dX4_bestQuestion_55 : decode cX4_bestQuestion 55 = .ok (.bipush (-9), 2) := by decide +kernel
theorem dX4_bestQuestion_57 : decode cX4_bestQuestion 57 = .ok (.goto 7, 3) := by decide +kernel
theorem dX4_bestQuestion_60 : decode cX4_bestQuestion 60 = .ok (.aload_n 0, 1) := by decide +kernel
theorem dX4_bestQuestion_61 : decode cX4_bestQuestion 61 = .ok (.invokevirtual 83, 3) := by decide +kernel
theorem dX4_bestQuestion_64 : decode cX4_bestQuestion 64 = .ok (.ireturn, 1) := by decide +kernel
theorem dX4_foresee_0 : decode cX4_foresee 0 = .ok (.iconst 0, 1) := by decide +kernel
theorem dX4_foresee_1 : decode cX4_foresee 1 = .ok (.istore_n 2, 1) := by decide +kernel
theorem dX4_foresee_2 : decode cX4_foresee 2 = .ok (.iload_n 2, 1) := by decide +kernel
theorem dX4_foresee_3 : decode cX4_foresee 3 = .ok (.iconst 5, 1) := by decide +kernel
theorem dX4_foresee_4 : decode cX4_foresee 4 = .ok (.if_icmp .gt 42, 3) := by decide +kernel
theorem dX4_foresee_7 : decode cX4_foresee 7 = .ok (.aload_n 1, 1) := by decide +kernel
theorem dX4_foresee_8 : decode cX4_foresee 8 = .ok (.iconst 0, 1) := by decide +kernel
theorem dX4_foresee_9 : decode cX4_foresee 9 = .ok (.aload_n 0, 1) := by decide +kernel
theorem dX4_foresee_10 : decode cX4_foresee 10 = .ok (.getfield 27, 3) := by decide +kernel
theorem dX4_foresee_13 : decode cX4_foresee 13 = .ok (.iload_n 2, 1) := by decide +kernel
theorem dX4_foresee_14 : decode cX4_foresee 14 = .ok (.aaload, 1) := by decide +kernel
theorem dX4_foresee_15 : decode cX4_foresee 15 = .ok (.iconst 0, 1) := by decide +kernel
theorem dX4_foresee_16 : decode cX4_foresee 16 = .ok (.iconst 4, 1) := by decide +kernel
theorem dX4_foresee_17 : decode cX4_foresee 17 = .ok (.invokestatic 37, 3) := by decide +kernel
theorem dX4_foresee_20 : decode cX4_foresee 20 = .ok (.aload_n 0, 1) := by decide +kernel
theorem dX4_foresee_21 : decode cX4_foresee 21 = .ok (.getfield 27, 3) := by decide +kernel
theorem dX4_foresee_24 : decode cX4_foresee 24 = .ok (.iload_n 2, 1) := by decide +kernel
theorem dX4_foresee_25 : decode cX4_foresee 25 = .ok (.aaload, 1) := by decide +kernel
theorem dX4_foresee_26 : decode cX4_foresee 26 = .ok (.iload_n 2, 1) := by decide +kernel
theorem dX4_foresee_27 : decode cX4_foresee 27 = .ok (.invokestatic 87, 3) := by decide +kernel
theorem dX4_foresee_30 : decode cX4_foresee 30 = .ok (.aload_n 0, 1) := by decide +kernel
theorem dX4_foresee_31 : decode cX4_foresee 31 = .ok (.getfield 30, 3) := by decide +kernel
theorem dX4_foresee_34 : decode cX4_foresee 34 = .ok (.iload_n 2, 1) := by decide +kernel
theorem dX4_foresee_35 : decode cX4_foresee 35 = .ok (.aaload, 1) := by decide +kernel
theorem dX4_foresee_36 : decode cX4_foresee 36 = .ok (.iconst 0, 1) := by decide +kernel
theorem dX4_foresee_37 : decode cX4_foresee 37 = .ok (.invokestatic 91, 3) := by decide +kernel
theorem dX4_foresee_40 : decode cX4_foresee 40 = .ok (.iinc 2 1, 3) := by decide +kernel
theorem dX4_foresee_43 : decode cX4_foresee 43 = .ok (.goto (-41), 3) := by decide +kernel
theorem dX4_foresee_46 : decode cX4_foresee 46 = .ok (.return_, 1) := by decide +kernel
theorem dX4_tallyGuess_0 : decode cX4_tallyGuess 0 = .ok (.iconst 0, 1) := by decide +kernel
theorem dX4_tallyGuess_1 : decode cX4_tallyGuess 1 = .ok (.istore_n 1, 1) := by decide +kernel
theorem dX4_tallyGuess_2 : decode cX4_tallyGuess 2 = .ok (.iload_n 1, 1) := by decide +kernel
theorem dX4_tallyGuess_3 : decode cX4_tallyGuess 3 = .ok (.iconst 5, 1) := by decide +kernel
theorem dX4_tallyGuess_4 : decode cX4_tallyGuess 4 = .ok (.if_icmp .gt 34, 3) := by decide +kernel
theorem dX4_tallyGuess_7 : decode cX4_tallyGuess 7 = .ok (.aload_n 0, 1) := by decide +kernel
theorem dX4_tallyGuess_8 : decode cX4_tallyGuess 8 = .ok (.getfield 30, 3) := by decide +kernel
theorem dX4_tallyGuess_11 : decode cX4_tallyGuess 11 = .ok (.iload_n 1, 1) := by decide +kernel
theorem dX4_tallyGuess_12 : decode cX4_tallyGuess 12 = .ok (.aaload, 1) := by decide +kernel
theorem dX4_tallyGuess_13 : decode cX4_tallyGuess 13 = .ok (.aload_n 0, 1) := by decide +kernel
theorem dX4_tallyGuess_14 : decode cX4_tallyGuess 14 = .ok (.getfield 23, 3) := by decide +kernel
theorem dX4_tallyGuess_17 : decode cX4_tallyGuess 17 = .ok (.aload_n 0, 1) := by decide +kernel
theorem dX4_tallyGuess_18 : decode cX4_tallyGuess 18 = .ok (.getfield 27, 3) := by decide +kernel
theorem dX4_tallyGuess_21 : decode cX4_tallyGuess 21 = .ok (.iload_n 1, 1) := by decide +kernel
theorem dX4_tallyGuess_22 : decode cX4_tallyGuess 22 = .ok (.aaload, 1) := by decide +kernel
theorem dX4_tallyGuess_23 : decode cX4_tallyGuess 23 = .ok (.iconst 0, 1) := by decide +kernel
theorem dX4_tallyGuess_24 : decode cX4_tallyGuess 24 = .ok (.invokevirtual 50, 3) := by decide +kernel
theorem dX4_tallyGuess_27 : decode cX4_tallyGuess 27 = .ok (.dup2, 1) := by decide +kernel
theorem dX4_tallyGuess_28 : decode cX4_tallyGuess 28 = .ok (.iaload, 1) := by decide +kernel
theorem dX4_tallyGuess_29 : decode cX4_tallyGuess 29 = .ok (.iconst 1, 1) := by decide +kernel
theorem dX4_tallyGuess_30 : decode cX4_tallyGuess 30 = .ok (.iadd, 1) := by decide +kernel
theorem dX4_tallyGuess_31 : decode cX4_tallyGuess 31 = .ok (.iastore, 1) := by decide +kernel
theorem dX4_tallyGuess_32 : decode cX4_tallyGuess 32 = .ok (.iinc 1 1, 3) := by decide +kernel
theorem dX4_tallyGuess_35 : decode cX4_tallyGuess 35 = .ok (.goto (-33), 3) := by decide +kernel
theorem dX4_tallyGuess_38 : decode cX4_tallyGuess 38 = .ok (.return_, 1) := by decide +kernel
theorem dX4_mostTelling_0 : decode cX4_mostTelling 0 = .ok (.iconst 0, 1) := by decide +kernel
theorem dX4_mostTelling_1 : decode cX4_mostTelling 1 = .ok (.istore_n 1, 1) := by decide +kernel
theorem dX4_mostTelling_2 : decode cX4_mostTelling 2 = .ok (.iconst 1, 1) := by decide +kernel
theorem dX4_mostTelling_3 : decode cX4_mostTelling 3 = .ok (.istore_n 2, 1) := by decide +kernel
theorem dX4_mostTelling_4 : decode cX4_mostTelling 4 = .ok (.iload_n 2, 1) := by decide +kernel
theorem dX4_mostTelling_5 : decode cX4_mostTelling 5 = .ok (.iconst 5, 1) := by decide +kernel
theorem dX4_mostTelling_6 : decode cX4_mostTelling 6 = .ok (.if_icmp .gt 32, 3) := by decide +kernel
theorem dX4_mostTelling_9 : decode cX4_mostTelling 9 = .ok (.aload_n 0, 1) := by decide +kernel
theorem dX4_mostTelling_10 : decode cX4_mostTelling 10 = .ok (.getfield 30, 3) := by decide +kernel
theorem dX4_mostTelling_13 : decode cX4_mostTelling 13 = .ok (.iload_n 2, 1) := by decide +kernel
theorem dX4_mostTelling_14 : decode cX4_mostTelling 14 = .ok (.aaload, 1) := by decide +kernel
theorem dX4_mostTelling_15 : decode cX4_mostTelling 15 = .ok (.invokestatic 96, 3) := by decide +kernel
theorem dX4_mostTelling_18 : decode cX4_mostTelling 18 = .ok (.aload_n 0, 1) := by decide +kernel
theorem dX4_mostTelling_19 : decode cX4_mostTelling 19 = .ok (.getfield 30, 3) := by decide +kernel
theorem dX4_mostTelling_22 : decode cX4_mostTelling 22 = .ok (.iload_n 1, 1) := by decide +kernel
theorem dX4_mostTelling_23 : decode cX4_mostTelling 23 = .ok (.aaload, 1) := by decide +kernel
theorem dX4_mostTelling_24 : decode cX4_mostTelling 24 = .ok (.invokestatic 96, 3) := by decide +kernel
theorem dX4_mostTelling_27 : decode cX4_mostTelling 27 = .ok (.if_icmp .ge 5, 3) := by decide +kernel
theorem dX4_mostTelling_30 : decode cX4_mostTelling 30 = .ok (.iload_n 2, 1) := by decide +kernel
theorem dX4_mostTelling_31 : decode cX4_mostTelling 31 = .ok (.istore_n 1, 1) := by decide +kernel
theorem dX4_mostTelling_32 : decode cX4_mostTelling 32 = .ok (.iinc 2 1, 3) := by decide +kernel
theorem dX4_mostTelling_35 : decode cX4_mostTelling 35 = .ok (.goto (-31), 3) := by decide +kernel
theorem dX4_mostTelling_38 : decode cX4_mostTelling 38 = .ok (.iload_n 1, 1) := by decide +kernel
theorem dX4_mostTelling_39 : decode cX4_mostTelling 39 = .ok (.ireturn, 1) := by decide +kernel
theorem dX4_greatestOf_0 : decode cX4_greatestOf 0 = .ok (.iconst 0, 1) := by decide +kernel
theorem dX4_greatestOf_1 : decode cX4_greatestOf 1 = .ok (.istore_n 1, 1) := by decide +kernel
theorem dX4_greatestOf_2 : decode cX4_greatestOf 2 = .ok (.aload_n 0, 1) := by decide +kernel
theorem dX4_greatestOf_3 : decode cX4_greatestOf 3 = .ok (.astore_n 2, 1) := by decide +kernel
theorem dX4_greatestOf_4 : decode cX4_greatestOf 4 = .ok (.aload_n 2, 1) := by decide +kernel
theorem dX4_greatestOf_5 : decode cX4_greatestOf 5 = .ok (.arraylength, 1) := by decide +kernel
theorem dX4_greatestOf_6 : decode cX4_greatestOf 6 = .ok (.istore_n 3, 1) := by decide +kernel
theorem dX4_greatestOf_7 : decode cX4_greatestOf 7 = .ok (.iconst 0, 1) := by decide +kernel
theorem dX4_greatestOf_8 : decode cX4_greatestOf 8 = .ok (.istore 4, 2) := by decide +kernel
theorem dX4_greatestOf_10 : decode cX4_greatestOf 10 = .ok (.iload 4, 2) := by decide +kernel
theorem dX4_greatestOf_12 : decode cX4_greatestOf 12 = .ok (.iload_n 3, 1) := by decide +kernel
theorem dX4_greatestOf_13 : decode cX4_greatestOf 13 = .ok (.if_icmp .ge 22, 3) := by decide +kernel
theorem dX4_greatestOf_16 : decode cX4_greatestOf 16 = .ok (.aload_n 2, 1) := by decide +kernel
theorem dX4_greatestOf_17 : decode cX4_greatestOf 17 = .ok (.iload 4, 2) := by decide +kernel
theorem dX4_greatestOf_19 : decode cX4_greatestOf 19 = .ok (.iaload, 1) := by decide +kernel
theorem dX4_greatestOf_20 : decode cX4_greatestOf 20 = .ok (.istore 5, 2) := by decide +kernel
theorem dX4_greatestOf_22 : decode cX4_greatestOf 22 = .ok (.iload_n 1, 1) := by decide +kernel
theorem dX4_greatestOf_23 : decode cX4_greatestOf 23 = .ok (.iload 5, 2) := by decide +kernel
theorem dX4_greatestOf_25 : decode cX4_greatestOf 25 = .ok (.invokestatic 73, 3) := by decide +kernel
theorem dX4_greatestOf_28 : decode cX4_greatestOf 28 = .ok (.istore_n 1, 1) := by decide +kernel
theorem dX4_greatestOf_29 : decode cX4_greatestOf 29 = .ok (.iinc 4 1, 3) := by decide +kernel
theorem dX4_greatestOf_32 : decode cX4_greatestOf 32 = .ok (.goto (-22), 3) := by decide +kernel
theorem dX4_greatestOf_35 : decode cX4_greatestOf 35 = .ok (.iload_n 1, 1) := by decide +kernel
theorem dX4_greatestOf_36 : decode cX4_greatestOf 36 = .ok (.ireturn, 1) := by decide +kernel
theorem dX5_init_0 : decode cX5_init 0 = .ok (.aload_n 0, 1) := by decide +kernel
theorem dX5_init_1 : decode cX5_init 1 = .ok (.invokespecial 3, 3) := by decide +kernel
theorem dX5_init_4 : decode cX5_init 4 = .ok (.aload_n 0, 1) := by decide +kernel
theorem dX5_init_5 : decode cX5_init 5 = .ok (.iconst 4, 1) := by decide +kernel
theorem dX5_init_6 : decode cX5_init 6 = .ok (.newarray .int, 2) := by decide +kernel
theorem dX5_init_8 : decode cX5_init 8 = .ok (.putfield 9, 3) := by decide +kernel
theorem dX5_init_11 : decode cX5_init 11 = .ok (.return_, 1) := by decide +kernel
theorem dX5_offBy_0 : decode cX5_offBy 0 = .ok (.iload_n 1, 1) := by decide +kernel
theorem dX5_offBy_1 : decode cX5_offBy 1 = .ok (.iconst 3, 1) := by decide +kernel
theorem dX5_offBy_2 : decode cX5_offBy 2 = .ok (.if_icmp .ne 14, 3) := by decide +kernel
theorem dX5_offBy_5 : decode cX5_offBy 5 = .ok (.iload_n 3, 1) := by decide +kernel
theorem dX5_offBy_6 : decode cX5_offBy 6 = .ok (.iconst 1, 1) := by decide +kernel
theorem dX5_offBy_7 : decode cX5_offBy 7 = .ok (.if_icmp .ne 9, 3) := by decide +kernel
theorem dX5_offBy_10 : decode cX5_offBy 10 = .ok (.iload_n 2, 1) := by decide +kernel
theorem dX5_offBy_11 : decode cX5_offBy 11 = .ok (.iconst 2, 1) := by decide +kernel
theorem dX5_offBy_12 : decode cX5_offBy 12 = .ok (.idiv, 1) := by decide +kernel
theorem dX5_offBy_13 : decode cX5_offBy 13 = .ok (.goto 4, 3) := by decide +kernel
theorem dX5_offBy_16 : decode cX5_offBy 16 = .ok (.iload_n 2, 1) := by decide +kernel
theorem dX5_offBy_17 : decode cX5_offBy 17 = .ok (.istore 4, 2) := by decide +kernel
theorem dX5_offBy_19 : decode cX5_offBy 19 = .ok (.iload 4, 2) := by decide +kernel
theorem dX5_offBy_21 : decode cX5_offBy 21 = .ok (.aload_n 0, 1) := by decide +kernel
theorem dX5_offBy_22 : decode cX5_offBy 22 = .ok (.getfield 9, 3) := by decide +kernel
theorem dX5_offBy_25 : decode cX5_offBy 25 = .ok (.iload_n 1, 1) := by decide +kernel
theorem dX5_offBy_26 : decode cX5_offBy 26 = .ok (.iaload, 1) := by decide +kernel
theorem dX5_offBy_27 : decode cX5_offBy 27 = .ok (.isub, 1) := by decide +kernel
theorem dX5_offBy_28 : decode cX5_offBy 28 = .ok (.ireturn, 1) := by decide +kernel
theorem dX5_mien_0 : decode cX5_mien 0 = .ok (.aload_n 0, 1) := by decide +kernel
theorem dX5_mien_1 : decode cX5_mien 1 = .ok (.getfield 15, 3) := by decide +kernel
theorem dX5_mien_4 : decode cX5_mien 4 = .ok (.istore_n 3, 1) := by decide +kernel
theorem dX5_mien_5 : decode cX5_mien 5 = .ok (.iconst 0, 1) := by decide +kernel
theorem dX5_mien_6 : decode cX5_mien 6 = .ok (.istore 4, 2) := by decide +kernel
theorem dX5_mien_8 : decode cX5_mien 8 = .ok (.iconst 0, 1) := by decide +kernel
theorem dX5_mien_9 : decode cX5_mien 9 = .ok (.istore 5, 2) := by decide +kernel
theorem dX5_mien_11 : decode cX5_mien 11 = .ok (.iload 5, 2) := by decide +kernel
theorem dX5_mien_13 : decode cX5_mien 13 = .ok (.iconst 4, 1) := by decide +kernel
theorem dX5_mien_14 : decode cX5_mien 14 = .ok (.if_icmp .ge 54, 3) := by decide +kernel
theorem dX5_mien_17 : decode cX5_mien 17 = .ok (.aload_n 0, 1) := by decide +kernel
theorem dX5_mien_18 : decode cX5_mien 18 = .ok (.iload 5, 2) := by decide +kernel
theorem dX5_mien_20 : decode cX5_mien 20 = .ok (.aload_n 1, 1) := by decide +kernel
theorem dX5_mien_21 : decode cX5_mien 21 = .ok (.iload 5, 2) := by decide +kernel
theorem dX5_mien_23 : decode cX5_mien 23 = .ok (.iaload, 1) := by decide +kernel
theorem dX5_mien_24 : decode cX5_mien 24 = .ok (.iload_n 2, 1) := by decide +kernel
theorem dX5_mien_25 : decode cX5_mien 25 = .ok (.invokevirtual 19, 3) := by decide +kernel
theorem dX5_mien_28 : decode cX5_mien 28 = .ok (.istore 6, 2) := by decide +kernel
theorem dX5_mien_30 : decode cX5_mien 30 = .ok (.iload 6, 2) := by decide +kernel
theorem dX5_mien_32 : decode cX5_mien 32 = .ok (.invokestatic 23, 3) := by decide +kernel
theorem dX5_mien_35 : decode cX5_mien 35 = .ok (.iload_n 3, 1) := by decide +kernel
theorem dX5_mien_36 : decode cX5_mien 36 = .ok (.if_icmp .le 26, 3) := by decide +kernel
theorem dX5_mien_39 : decode cX5_mien 39 = .ok (.iload 6, 2) := by decide +kernel
theorem dX5_mien_41 : decode cX5_mien 41 = .ok (.invokestatic 23, 3) := by decide +kernel
theorem dX5_mien_44 : decode cX5_mien 44 = .ok (.istore_n 3, 1) := by decide +kernel
theorem dX5_mien_45 : decode cX5_mien 45 = .ok (.iconst 2, 1) := by decide +kernel
theorem dX5_mien_46 : decode cX5_mien 46 = .ok (.iload 5, 2) := by decide +kernel
theorem dX5_mien_48 : decode cX5_mien 48 = .ok (.imul, 1) := by decide +kernel
theorem dX5_mien_49 : decode cX5_mien 49 = .ok (.iload 6, 2) := by decide +kernel
theorem dX5_mien_51 : decode cX5_mien 51 = .ok (.ifCond .le 7, 3) := by decide +kernel
theorem dX5_mien_54 : decode cX5_mien 54 = .ok (.iconst 1, 1) := by decide +kernel
theorem dX5_mien_55 : decode cX5_mien 55 = .ok (.goto 4, 3) := by decide +kernel
theorem dX5_mien_58 : decode cX5_mien 58 = .ok (.iconst 2, 1) := by decide +kernel
theorem dX5_mien_59 : decode cX5_mien 59 = .ok (.iadd, 1) := by decide +kernel
theorem dX5_mien_60 : decode cX5_mien 60 = .ok (.istore 4, 2) := by decide +kernel
theorem dX5_mien_62 : decode cX5_mien 62 = .ok (.iinc 5 1, 3) := by decide +kernel
theorem dX5_mien_65 : decode cX5_mien 65 = .ok (.goto (-54), 3) := by decide +kernel
theorem dX5_mien_68 : decode cX5_mien 68 = .ok (.iload 4, 2) := by decide +kernel
theorem dX5_mien_70 : decode cX5_mien 70 = .ok (.ireturn, 1) := by decide +kernel
theorem dX5_mind_0 : decode cX5_mind 0 = .ok (.iconst 0, 1) := by decide +kernel
theorem dX5_mind_1 : decode cX5_mind 1 = .ok (.istore_n 3, 1) := by decide +kernel
theorem dX5_mind_2 : decode cX5_mind 2 = .ok (.iconst 0, 1) := by decide +kernel
theorem dX5_mind_3 : decode cX5_mind 3 = .ok (.istore 4, 2) := by decide +kernel
theorem dX5_mind_5 : decode cX5_mind 5 = .ok (.iload 4, 2) := by decide +kernel
theorem dX5_mind_7 : decode cX5_mind 7 = .ok (.iconst 4, 1) := by decide +kernel
theorem dX5_mind_8 : decode cX5_mind 8 = .ok (.if_icmp .ge 26, 3) := by decide +kernel
theorem dX5_mind_11 : decode cX5_mind 11 = .ok (.iload_n 3, 1) := by decide +kernel
theorem dX5_mind_12 : decode cX5_mind 12 = .ok (.aload_n 0, 1) := by decide +kernel
theorem dX5_mind_13 : decode cX5_mind 13 = .ok (.iload 4, 2) := by decide +kernel
theorem dX5_mind_15 : decode cX5_mind 15 = .ok (.aload_n 1, 1) := by decide +kernel
theorem dX5_mind_16 : decode cX5_mind 16 = .ok (.iload 4, 2) := by decide +kernel
theorem dX5_mind_18 : decode cX5_mind 18 = .ok (.iaload, 1) := by decide +kernel
theorem dX5_mind_19 : decode cX5_mind 19 = .ok (.iload_n 2, 1) := by decide +kernel
theorem dX5_mind_20 : decode cX5_mind 20 = .ok (.invokevirtual 19, 3) := by decide +kernel
theorem dX5_mind_23 : decode cX5_mind 23 = .ok (.invokestatic 23, 3) := by decide +kernel
theorem dX5_mind_26 : decode cX5_mind 26 = .ok (.iadd, 1) := by decide +kernel
theorem dX5_mind_27 : decode cX5_mind 27 = .ok (.istore_n 3, 1) := by decide +kernel
theorem dX5_mind_28 : decode cX5_mind 28 = .ok (.iinc 4 1, 3) := by decide +kernel
theorem dX5_mind_31 : decode cX5_mind 31 = .ok (.goto (-26), 3) := by decide +kernel
theorem dX5_mind_34 : decode cX5_mind 34 = .ok (.iload_n 3, 1) := by decide +kernel
theorem dX5_mind_35 : decode cX5_mind 35 = .ok (.ireturn, 1) := by decide +kernel
theorem dX6_init_0 : decode cX6_init 0 = .ok (.aload_n 0, 1) := by decide +kernel
theorem dX6_init_1 : decode cX6_init 1 = .ok (.invokespecial 3, 3) := by decide +kernel
theorem dX6_init_4 : decode cX6_init 4 = .ok (.aload_n 0, 1) := by decide +kernel
theorem dX6_init_5 : decode cX6_init 5 = .ok (.bipush 120, 2) := by decide +kernel
theorem dX6_init_7 : decode cX6_init 7 = .ok (.newarray .int, 2) := by decide +kernel
theorem dX6_init_9 : decode cX6_init 9 = .ok (.putfield 9, 3) := by decide +kernel
theorem dX6_init_12 : decode cX6_init 12 = .ok (.aload_n 0, 1) := by decide +kernel
theorem dX6_init_13 : decode cX6_init 13 = .ok (.bipush 6, 2) := by decide +kernel
theorem dX6_init_15 : decode cX6_init 15 = .ok (.getstatic 15, 3) := by decide +kernel
theorem dX6_init_18 : decode cX6_init 18 = .ok (.arraylength, 1) := by decide +kernel
theorem dX6_init_19 : decode cX6_init 19 = .ok (.multianewarray 18 2, 4) := by decide +kernel
theorem dX6_init_23 : decode cX6_init 23 = .ok (.putfield 20, 3) := by decide +kernel
theorem dX6_init_26 : decode cX6_init 26 = .ok (.aload_n 0, 1) := by decide +kernel
theorem dX6_init_27 : decode cX6_init 27 = .ok (.iconst 4, 1) := by decide +kernel
theorem dX6_init_28 : decode cX6_init 28 = .ok (.newarray .int, 2) := by decide +kernel
theorem dX6_init_30 : decode cX6_init 30 = .ok (.putfield 23, 3) := by decide +kernel
theorem dX6_init_33 : decode cX6_init 33 = .ok (.return_, 1) := by decide +kernel
theorem dX6_append_0 : decode cX6_append 0 = .ok (.aload_n 0, 1) := by decide +kernel
theorem dX6_append_1 : decode cX6_append 1 = .ok (.getfield 26, 3) := by decide +kernel
theorem dX6_append_4 : decode cX6_append 4 = .ok (.bipush 120, 2) := by decide +kernel
theorem dX6_append_6 : decode cX6_append 6 = .ok (.if_icmp .ge 23, 3) := by decide +kernel
theorem dX6_append_9 : decode cX6_append 9 = .ok (.aload_n 0, 1) := by decide +kernel
theorem dX6_append_10 : decode cX6_append 10 = .ok (.getfield 9, 3) := by decide +kernel
theorem dX6_append_13 : decode cX6_append 13 = .ok (.aload_n 0, 1) := by decide +kernel
theorem dX6_append_14 : decode cX6_append 14 = .ok (.getfield 26, 3) := by decide +kernel
theorem dX6_append_17 : decode cX6_append 17 = .ok (.iload_n 1, 1) := by decide +kernel
theorem dX6_append_18 : decode cX6_append 18 = .ok (.iastore, 1) := by decide +kernel
theorem dX6_append_19 : decode cX6_append 19 = .ok (.aload_n 0, 1) := by decide +kernel
theorem dX6_append_20 : decode cX6_append 20 = .ok (.dup, 1) := by decide +kernel
theorem dX6_append_21 : decode cX6_append 21 = .ok (.getfield 26, 3) := by decide +kernel
theorem dX6_append_24 : decode cX6_append 24 = .ok (.iconst 1, 1) := by decide +kernel
theorem dX6_append_25 : decode cX6_append 25 = .ok (.iadd, 1) := by decide +kernel
theorem dX6_append_26 : decode cX6_append 26 = .ok (.putfield 26, 3) := by decide +kernel
theorem dX6_append_29 : decode cX6_append 29 = .ok (.aload_n 0, 1) := by decide +kernel
theorem dX6_append_30 : decode cX6_append 30 = .ok (.getfield 26, 3) := by decide +kernel
theorem dX6_append_33 : decode cX6_append 33 = .ok (.ireturn, 1) := by decide +kernel
theorem dX6_empty_0 : decode cX6_empty 0 = .ok (.aload_n 0, 1) := by decide +kernel
theorem dX6_empty_1 : decode cX6_empty 1 = .ok (.getfield 26, 3) := by decide +kernel
theorem dX6_empty_4 : decode cX6_empty 4 = .ok (.istore_n 1, 1) := by decide +kernel
theorem dX6_empty_5 : decode cX6_empty 5 = .ok (.aload_n 0, 1) := by decide +kernel
theorem dX6_empty_6 : decode cX6_empty 6 = .ok (.iconst 0, 1) := by decide +kernel
theorem dX6_empty_7 : decode cX6_empty 7 = .ok (.putfield 26, 3) := by decide +kernel
theorem dX6_empty_10 : decode cX6_empty 10 = .ok (.iload_n 1, 1) := by decide +kernel
theorem dX6_empty_11 : decode cX6_empty 11 = .ok (.ireturn, 1) := by decide +kernel
theorem dX6_read_0 : decode cX6_read 0 = .ok (.aload_n 0, 1) := by decide +kernel
theorem dX6_read_1 : decode cX6_read 1 = .ok (.iconst 0, 1) := by decide +kernel
theorem dX6_read_2 : decode cX6_read 2 = .ok (.putfield 30, 3) := by decide +kernel
theorem dX6_read_5 : decode cX6_read 5 = .ok (.aload_n 0, 1) := by decide +kernel
theorem dX6_read_6 : decode cX6_read 6 = .ok (.iconst 0, 1) := by decide +kernel
theorem dX6_read_7 : decode cX6_read 7 = .ok (.putfield 33, 3) := by decide +kernel
theorem dX6_read_10 : decode cX6_read 10 = .ok (.aload_n 0, 1) := by decide +kernel
theorem dX6_read_11 : decode cX6_read 11 = .ok (.iconst 0, 1) := by decide +kernel
theorem dX6_read_12 : decode cX6_read 12 = .ok (.putfield 36, 3) := by decide +kernel
theorem dX6_read_15 : decode cX6_read 15 = .ok (.aload_n 0, 1) := by decide +kernel
theorem dX6_read_16 : decode cX6_read 16 = .ok (.getfield 23, 3) := by decide +kernel
theorem dX6_read_19 : decode cX6_read 19 = .ok (.iconst 0, 1) := by decide +kernel
theorem dX6_read_20 : decode cX6_read 20 = .ok (.invokestatic 40, 3) := by decide +kernel
theorem dX6_read_23 : decode cX6_read 23 = .ok (.iconst 0, 1) := by decide +kernel
theorem dX6_read_24 : decode cX6_read 24 = .ok (.istore_n 1, 1) := by decide +kernel
theorem dX6_read_25 : decode cX6_read 25 = .ok (.iload_n 1, 1) := by decide +kernel
theorem dX6_read_26 : decode cX6_read 26 = .ok (.bipush 120, 2) := by decide +kernel
theorem dX6_read_28 : decode cX6_read 28 = .ok (.if_icmp .gt 41, 3) := by decide +kernel
theorem dX6_read_31 : decode cX6_read 31 = .ok (.aload_n 0, 1) := by decide +kernel
theorem dX6_read_32 : decode cX6_read 32 = .ok (.invokevirtual 46, 3) := by decide +kernel
theorem dX6_read_35 : decode cX6_read 35 = .ok (.aload_n 0, 1) := by decide +kernel
theorem dX6_read_36 : decode cX6_read 36 = .ok (.getfield 30, 3) := by decide +kernel
theorem dX6_read_39 : decode cX6_read 39 = .ok (.aload_n 0, 1) := by decide +kernel
theorem dX6_read_40 : decode cX6_read 40 = .ok (.getfield 26, 3) := by decide +kernel
theorem dX6_read_43 : decode cX6_read 43 = .ok (.if_icmp .lt 5, 3) := by decide +kernel
theorem dX6_read_46 : decode cX6_read 46 = .ok (.iload_n 1, 1) := by decide +kernel
theorem dX6_read_47 : decode cX6_read 47 = .ok (.ireturn, 1) := by decide +kernel
theorem dX6_read_48 : decode cX6_read 48 = .ok (.aload_n 0, 1) := by decide +kernel
theorem dX6_read_49 : decode cX6_read 49 = .ok (.invokevirtual 49, 3) := by decide +kernel
theorem dX6_read_52 : decode cX6_read 52 = .ok (.ifCond .ne 11, 3) := by decide +kernel
theorem dX6_read_55 : decode cX6_read 55 = .ok (.bipush (-10), 2) := by decide +kernel
theorem dX6_read_57 : decode cX6_read 57 = .ok (.aload_n 0, 1) := by decide +kernel
theorem dX6_read_58 : decode cX6_read 58 = .ok (.getfield 30, 3) := by decide +kernel
theorem dX6_read_61 : decode cX6_read 61 = .ok (.isub, 1) := by decide +kernel
theorem dX6_read_62 : decode cX6_read 62 = .ok (.ireturn, 1) := by decide +kernel
theorem dX6_read_63 : decode cX6_read 63 = .ok (.iinc 1 1, 3) := by decide +kernel
theorem dX6_read_66 : decode cX6_read 66 = .ok (.goto (-41), 3) := by decide +kernel
theorem dX6_read_69 : decode cX6_read 69 = .ok (.bipush (-10), 2) := by decide +kernel
theorem dX6_read_71 : decode cX6_read 71 = .ok (.aload_n 0, 1) := by decide +kernel
theorem dX6_read_72 : decode cX6_read 72 = .ok (.getfield 30, 3) := by decide +kernel
theorem dX6_read_75 : decode cX6_read 75 = .ok (.isub, 1) := by decide +kernel
theorem dX6_read_76 : decode cX6_read 76 = .ok (.ireturn, 1) := by decide +kernel
theorem dX6_readItem_0 : decode cX6_readItem 0 = .ok (.aload_n 0, 1) := by decide +kernel
theorem dX6_readItem_1 : decode cX6_readItem 1 = .ok (.aload_n 0, 1) := by decide +kernel
theorem dX6_readItem_2 : decode cX6_readItem 2 = .ok (.getfield 30, 3) := by decide +kernel
theorem dX6_readItem_5 : decode cX6_readItem 5 = .ok (.bipush 98, 2) := by decide +kernel
theorem dX6_readItem_7 : decode cX6_readItem 7 = .ok (.invokevirtual 53, 3) := by decide +kernel
theorem dX6_readItem_10 : decode cX6_readItem 10 = .ok (.ifCond .eq 48, 3) := by decide +kernel
theorem dX6_readItem_13 : decode cX6_readItem 13 = .ok (.aload_n 0, 1) := by decide +kernel
theorem dX6_readItem_14 : decode cX6_readItem 14 = .ok (.getfield 33, 3) := by decide +kernel
theorem dX6_readItem_17 : decode cX6_readItem 17 = .ok (.bipush 6, 2) := by decide +kernel
theorem dX6_readItem_19 : decode cX6_readItem 19 = .ok (.if_icmp .ge 39, 3) := by decide +kernel
theorem dX6_readItem_22 : decode cX6_readItem 22 = .ok (.aload_n 0, 1) := by decide +kernel
theorem dX6_readItem_23 : decode cX6_readItem 23 = .ok (.dup, 1) := by decide +kernel
theorem dX6_readItem_24 : decode cX6_readItem 24 = .ok (.getfield 30, 3) := by decide +kernel
theorem dX6_readItem_27 : decode cX6_readItem 27 = .ok (.iconst 1, 1) := by decide +kernel
theorem dX6_readItem_28 : decode cX6_readItem 28 = .ok (.iadd, 1) := by decide +kernel
theorem dX6_readItem_29 : decode cX6_readItem 29 = .ok (.putfield 30, 3) := by decide +kernel
theorem dX6_readItem_32 : decode cX6_readItem 32 = .ok (.aload_n 0, 1) := by decide +kernel
theorem dX6_readItem_33 : decode cX6_readItem 33 = .ok (.dup, 1) := by decide +kernel
theorem dX6_readItem_34 : decode cX6_readItem 34 = .ok (.getfield 33, 3) := by decide +kernel
theorem dX6_readItem_37 : decode cX6_readItem 37 = .ok (.iconst 1, 1) := by decide +kernel
theorem dX6_readItem_38 : decode cX6_readItem 38 = .ok (.iadd, 1) := by decide +kernel
theorem dX6_readItem_39 : decode cX6_readItem 39 = .ok (.putfield 33, 3) := by decide +kernel
theorem dX6_readItem_42 : decode cX6_readItem 42 = .ok (.aload_n 0, 1) := by decide +kernel
theorem dX6_readItem_43 : decode cX6_readItem 43 = .ok (.aload_n 0, 1) := by decide +kernel
theorem dX6_readItem_44 : decode cX6_readItem 44 = .ok (.getfield 20, 3) := by decide +kernel
theorem dX6_readItem_47 : decode cX6_readItem 47 = .ok (.aload_n 0, 1) := by decide +kernel
theorem dX6_readItem_48 : decode cX6_readItem 48 = .ok (.getfield 33, 3) := by decide +kernel
theorem dX6_readItem_51 : decode cX6_readItem 51 = .ok (.iconst 1, 1) := by decide +kernel
theorem dX6_readItem_52 : decode cX6_readItem 52 = .ok (.isub, 1) := by decide +kernel
theorem dX6_readItem_53 : decode cX6_readItem 53 = .ok (.aaload, 1) := by decide +kernel
theorem dX6_readItem_54 : decode cX6_readItem 54 = .ok (.invokevirtual 57, 3) := by decide +kernel
theorem dX6_readItem_57 : decode cX6_readItem 57 = .ok (.ireturn, 1) := by decide +kernel
theorem dX6_readItem_58 : decode cX6_readItem 58 = .ok (.aload_n 0, 1) := by decide +kernel
theorem dX6_readItem_59 : decode cX6_readItem 59 = .ok (.aload_n 0, 1) := by decide +kernel
theorem dX6_readItem_60 : decode cX6_readItem 60 = .ok (.getfield 30, 3) := by decide +kernel
theorem dX6_readItem_63 : decode cX6_readItem 63 = .ok (.bipush 112, 2) := by decide +kernel
theorem dX6_readItem_65 : decode cX6_readItem 65 = .ok (.invokevirtual 53, 3) := by decide +kernel
theorem dX6_readItem_68 : decode cX6_readItem 68 = .ok (.ifCond .eq 34, 3) := by decide +kernel
theorem dX6_readItem_71 : decode cX6_readItem 71 = .ok (.aload_n 0, 1) := by decide +kernel
theorem dX6_readItem_72 : decode cX6_readItem 72 = .ok (.getfield 36, 3) := by decide +kernel
theorem dX6_readItem_75 : decode cX6_readItem 75 = .ok (.ifCond .ne 27, 3) := by decide +kernel
theorem dX6_readItem_78 : decode cX6_readItem 78 = .ok (.aload_n 0, 1) := by decide +kernel
theorem dX6_readItem_79 : decode cX6_readItem 79 = .ok (.dup, 1) := by decide +kernel
theorem dX6_readItem_80 : decode cX6_readItem 80 = .ok (.getfield 30, 3) := by decide +kernel
theorem dX6_readItem_83 : decode cX6_readItem 83 = .ok (.iconst 1, 1) := by decide +kernel
theorem dX6_readItem_84 : decode cX6_readItem 84 = .ok (.iadd, 1) := by decide +kernel
theorem dX6_readItem_85 : decode cX6_readItem 85 = .ok (.putfield 30, 3) := by decide +kernel
theorem dX6_readItem_88 : decode cX6_readItem 88 = .ok (.aload_n 0, 1) := by decide +kernel
theorem dX6_readItem_89 : decode cX6_readItem 89 = .ok (.iconst 1, 1) := by decide +kernel
theorem dX6_readItem_90 : decode cX6_readItem 90 = .ok (.putfield 36, 3) := by decide +kernel
theorem dX6_readItem_93 : decode cX6_readItem 93 = .ok (.aload_n 0, 1) := by decide +kernel
theorem dX6_readItem_94 : decode cX6_readItem 94 = .ok (.aload_n 0, 1) := by decide +kernel
theorem dX6_readItem_95 : decode cX6_readItem 95 = .ok (.getfield 23, 3) := by decide +kernel
theorem dX6_readItem_98 : decode cX6_readItem 98 = .ok (.invokevirtual 57, 3) := by decide +kernel
theorem dX6_readItem_101 : decode cX6_readItem 101 = .ok (.ireturn, 1) := by decide +kernel
theorem dX6_readItem_102 : decode cX6_readItem 102 = .ok (.iconst 0, 1) := by decide +kernel
theorem dX6_readItem_103 : decode cX6_readItem 103 = .ok (.ireturn, 1) := by decide +kernel
theorem dX6_readRow_0 : decode cX6_readRow 0 = .ok (.iconst 0, 1) := by decide +kernel
theorem dX6_readRow_1 : decode cX6_readRow 1 = .ok (.istore_n 2, 1) := by decide +kernel
theorem dX6_readRow_2 : decode cX6_readRow 2 = .ok (.iload_n 2, 1) := by decide +kernel
theorem dX6_readRow_3 : decode cX6_readRow 3 = .ok (.aload_n 1, 1) := by decide +kernel
theorem dX6_readRow_4 : decode cX6_readRow 4 = .ok (.arraylength, 1) := by decide +kernel
theorem dX6_readRow_5 : decode cX6_readRow 5 = .ok (.if_icmp .ge 72, 3) := by decide +kernel
theorem dX6_readRow_8 : decode cX6_readRow 8 = .ok (.iload_n 2, 1) := by decide +kernel
theorem dX6_readRow_9 : decode cX6_readRow 9 = .ok (.getstatic 15, 3) := by decide +kernel
theorem dX6_readRow_12 : decode cX6_readRow 12 = .ok (.arraylength, 1) := by decide +kernel
theorem dX6_readRow_13 : decode cX6_readRow 13 = .ok (.if_icmp .ge 64, 3) := by decide +kernel
theorem dX6_readRow_16 : decode cX6_readRow 16 = .ok (.aload_n 0, 1) := by decide +kernel
theorem dX6_readRow_17 : decode cX6_readRow 17 = .ok (.invokevirtual 46, 3) := by decide +kernel
theorem dX6_readRow_20 : decode cX6_readRow 20 = .ok (.aload_n 0, 1) := by decide +kernel
theorem dX6_readRow_21 : decode cX6_readRow 21 = .ok (.aload_n 0, 1) := by decide +kernel
theorem dX6_readRow_22 : decode cX6_readRow 22 = .ok (.getfield 30, 3) := by decide +kernel
theorem dX6_readRow_25 : decode cX6_readRow 25 = .ok (.invokevirtual 61, 3) := by decide +kernel
theorem dX6_readRow_28 : decode cX6_readRow 28 = .ok (.istore_n 3, 1) := by decide +kernel
theorem dX6_readRow_29 : decode cX6_readRow 29 = .ok (.iload_n 3, 1) := by decide +kernel
theorem dX6_readRow_30 : decode cX6_readRow 30 = .ok (.ifCond .lt 25, 3) := by decide +kernel
theorem dX6_readRow_33 : decode cX6_readRow 33 = .ok (.iload_n 3, 1) := by decide +kernel
theorem dX6_readRow_34 : decode cX6_readRow 34 = .ok (.getstatic 15, 3) := by decide +kernel
theorem dX6_readRow_37 : decode cX6_readRow 37 = .ok (.iload_n 2, 1) := by decide +kernel
theorem dX6_readRow_38 : decode cX6_readRow 38 = .ok (.iaload, 1) := by decide +kernel
theorem dX6_readRow_39 : decode cX6_readRow 39 = .ok (.if_icmp .gt 16, 3) := by decide +kernel
theorem dX6_readRow_42 : decode cX6_readRow 42 = .ok (.aload_n 0, 1) := by decide +kernel
theorem dX6_readRow_43 : decode cX6_readRow 43 = .ok (.aload_n 0, 1) := by decide +kernel
theorem dX6_readRow_44 : decode cX6_readRow 44 = .ok (.getfield 30, 3) := by decide +kernel
theorem dX6_readRow_47 : decode cX6_readRow 47 = .ok (.iconst 1, 1) := by decide +kernel
theorem dX6_readRow_48 : decode cX6_readRow 48 = .ok (.iadd, 1) := by decide +kernel
theorem dX6_readRow_49 : decode cX6_readRow 49 = .ok (.invokevirtual 61, 3) := by decide +kernel
theorem dX6_readRow_52 : decode cX6_readRow 52 = .ok (.ifCond .lt 5, 3) := by decide +kernel
theorem dX6_readRow_55 : decode cX6_readRow 55 = .ok (.iconst 0, 1) := by decide +kernel
theorem dX6_readRow_56 : decode cX6_readRow 56 = .ok (.ireturn, 1) := by decide +kernel
theorem dX6_readRow_57 : decode cX6_readRow 57 = .ok (.aload_n 1, 1) := by decide +kernel
theorem dX6_readRow_58 : decode cX6_readRow 58 = .ok (.iload_n 2, 1) := by decide +kernel
theorem dX6_readRow_59 : decode cX6_readRow 59 = .ok (.iload_n 3, 1) := by decide +kernel
theorem dX6_readRow_60 : decode cX6_readRow 60 = .ok (.iastore, 1) := by decide +kernel
theorem dX6_readRow_61 : decode cX6_readRow 61 = .ok (.aload_n 0, 1) := by decide +kernel
theorem dX6_readRow_62 : decode cX6_readRow 62 = .ok (.dup, 1) := by decide +kernel
theorem dX6_readRow_63 : decode cX6_readRow 63 = .ok (.getfield 30, 3) := by decide +kernel
theorem dX6_readRow_66 : decode cX6_readRow 66 = .ok (.iconst 1, 1) := by decide +kernel
theorem dX6_readRow_67 : decode cX6_readRow 67 = .ok (.iadd, 1) := by decide +kernel
theorem dX6_readRow_68 : decode cX6_readRow 68 = .ok (.putfield 30, 3) := by decide +kernel
theorem dX6_readRow_71 : decode cX6_readRow 71 = .ok (.iinc 2 1, 3) := by decide +kernel
theorem dX6_readRow_74 : decode cX6_readRow 74 = .ok (.goto (-72), 3) := by decide +kernel
theorem dX6_readRow_77 : decode cX6_readRow 77 = .ok (.aload_n 0, 1) := by decide +kernel
theorem dX6_readRow_78 : decode cX6_readRow 78 = .ok (.invokevirtual 46, 3) := by decide +kernel
theorem dX6_readRow_81 : decode cX6_readRow 81 = .ok (.aload_n 0, 1) := by decide +kernel
theorem dX6_readRow_82 : decode cX6_readRow 82 = .ok (.aload_n 0, 1) := by decide +kernel
theorem dX6_readRow_83 : decode cX6_readRow 83 = .ok (.getfield 30, 3) := by decide +kernel
theorem dX6_readRow_86 : decode cX6_readRow 86 = .ok (.bipush 59, 2) := by decide +kernel
theorem dX6_readRow_88 : decode cX6_readRow 88 = .ok (.invokevirtual 53, 3) := by decide +kernel
theorem dX6_readRow_91 : decode cX6_readRow 91 = .ok (.ifCond .ne 5, 3) := by decide +kernel
theorem dX6_readRow_94 : decode cX6_readRow 94 = .ok (.iconst 0, 1) := by decide +kernel
theorem dX6_readRow_95 : decode cX6_readRow 95 = .ok (.ireturn, 1) := by decide +kernel
theorem dX6_readRow_96 : decode cX6_readRow 96 = .ok (.aload_n 0, 1) := by decide +kernel
theorem dX6_readRow_97 : decode cX6_readRow 97 = .ok (.dup, 1) := by decide +kernel
theorem dX6_readRow_98 : decode cX6_readRow 98 = .ok (.getfield 30, 3) := by decide +kernel
theorem dX6_readRow_101 : decode cX6_readRow 101 = .ok (.iconst 1, 1) := by decide +kernel
theorem dX6_readRow_102 : decode cX6_readRow 102 = .ok (.iadd, 1) := by decide +kernel
theorem dX6_readRow_103 : decode cX6_readRow 103 = .ok (.putfield 30, 3) := by decide +kernel
theorem dX6_readRow_106 : decode cX6_readRow 106 = .ok (.iconst 1, 1) := by decide +kernel
theorem dX6_readRow_107 : decode cX6_readRow 107 = .ok (.ireturn, 1) := by decide +kernel
theorem dX6_skipBlanks_0 : decode cX6_skipBlanks 0 = .ok (.aload_n 0, 1) := by decide +kernel
theorem dX6_skipBlanks_1 : decode cX6_skipBlanks 1 = .ok (.getfield 30, 3) := by decide +kernel
theorem dX6_skipBlanks_4 : decode cX6_skipBlanks 4 = .ok (.aload_n 0, 1) := by decide +kernel
theorem dX6_skipBlanks_5 : decode cX6_skipBlanks 5 = .ok (.getfield 26, 3) := by decide +kernel
theorem dX6_skipBlanks_8 : decode cX6_skipBlanks 8 = .ok (.if_icmp .ge 29, 3) := by decide +kernel
theorem dX6_skipBlanks_11 : decode cX6_skipBlanks 11 = .ok (.aload_n 0, 1) := by decide +kernel
theorem dX6_skipBlanks_12 : decode cX6_skipBlanks 12 = .ok (.aload_n 0, 1) := by decide +kernel
theorem dX6_skipBlanks_13 : decode cX6_skipBlanks 13 = .ok (.getfield 30, 3) := by decide +kernel
theorem dX6_skipBlanks_16 : decode cX6_skipBlanks 16 = .ok (.bipush 32, 2) := by decide +kernel
theorem dX6_skipBlanks_18 : decode cX6_skipBlanks 18 = .ok (.invokevirtual 53, 3) := by decide +kernel
theorem dX6_skipBlanks_21 : decode cX6_skipBlanks 21 = .ok (.ifCond .eq 16, 3) := by decide +kernel
theorem dX6_skipBlanks_24 : decode cX6_skipBlanks 24 = .ok (.aload_n 0, 1) := by decide +kernel
theorem dX6_skipBlanks_25 : decode cX6_skipBlanks 25 = .ok (.dup, 1) := by decide +kernel
theorem dX6_skipBlanks_26 : decode cX6_skipBlanks 26 = .ok (.getfield 30, 3) := by decide +kernel
theorem dX6_skipBlanks_29 : decode cX6_skipBlanks 29 = .ok (.iconst 1, 1) := by decide +kernel
theorem dX6_skipBlanks_30 : decode cX6_skipBlanks 30 = .ok (.iadd, 1) := by decide +kernel
theorem dX6_skipBlanks_31 : decode cX6_skipBlanks 31 = .ok (.putfield 30, 3) := by decide +kernel
theorem dX6_skipBlanks_34 : decode cX6_skipBlanks 34 = .ok (.goto (-34), 3) := by decide +kernel
theorem dX6_skipBlanks_37 : decode cX6_skipBlanks 37 = .ok (.return_, 1) := by decide +kernel
theorem dX6_isAt_0 : decode cX6_isAt 0 = .ok (.iload_n 1, 1) := by decide +kernel
theorem dX6_isAt_1 : decode cX6_isAt 1 = .ok (.ifCond .lt 31, 3) := by decide +kernel
theorem dX6_isAt_4 : decode cX6_isAt 4 = .ok (.iload_n 1, 1) := by decide +kernel
theorem dX6_isAt_5 : decode cX6_isAt 5 = .ok (.aload_n 0, 1) := by decide +kernel
theorem dX6_isAt_6 : decode cX6_isAt 6 = .ok (.getfield 26, 3) := by decide +kernel
theorem dX6_isAt_9 : decode cX6_isAt 9 = .ok (.if_icmp .ge 23, 3) := by decide +kernel
theorem dX6_isAt_12 : decode cX6_isAt 12 = .ok (.iload_n 1, 1) := by decide +kernel
theorem dX6_isAt_13 : decode cX6_isAt 13 = .ok (.bipush 120, 2) := by decide +kernel
theorem dX6_isAt_15 : decode cX6_isAt 15 = .ok (.if_icmp .ge 17, 3) := by decide +kernel
theorem dX6_isAt_18 : decode cX6_isAt 18 = .ok (.aload_n 0, 1) := by decide +kernel
theorem dX6_isAt_19 : decode cX6_isAt 19 = .ok (.getfield 9, 3) := by decide +kernel
theorem dX6_isAt_22 : decode cX6_isAt 22 = .ok (.iload_n 1, 1) := by decide +kernel
theorem dX6_isAt_23 : decode cX6_isAt 23 = .ok (.iaload, 1) := by decide +kernel
theorem dX6_isAt_24 : decode cX6_isAt 24 = .ok (.iload_n 2, 1) := by decide +kernel
theorem dX6_isAt_25 : decode cX6_isAt 25 = .ok (.if_icmp .ne 7, 3) := by decide +kernel
theorem dX6_isAt_28 : decode cX6_isAt 28 = .ok (.iconst 1, 1) := by decide +kernel
theorem dX6_isAt_29 : decode cX6_isAt 29 = .ok (.goto 4, 3) := by decide +kernel
theorem dX6_isAt_32 : decode cX6_isAt 32 = .ok (.iconst 0, 1) := by decide +kernel
theorem dX6_isAt_33 : decode cX6_isAt 33 = .ok (.ireturn, 1) := by decide +kernel
theorem dX6_digitAt_0 : decode cX6_digitAt 0 = .ok (.iload_n 1, 1) := by decide +kernel
theorem dX6_digitAt_1 : decode cX6_digitAt 1 = .ok (.ifCond .lt 39, 3) := by decide +kernel
theorem dX6_digitAt_4 : decode cX6_digitAt 4 = .ok (.iload_n 1, 1) := by decide +kernel
theorem dX6_digitAt_5 : decode cX6_digitAt 5 = .ok (.aload_n 0, 1) := by decide +kernel
theorem dX6_digitAt_6 : decode cX6_digitAt 6 = .ok (.getfield 26, 3) := by decide +kernel
theorem dX6_digitAt_9 : decode cX6_digitAt 9 = .ok (.if_icmp .ge 31, 3) := by decide +kernel
theorem dX6_digitAt_12 : decode cX6_digitAt 12 = .ok (.iload_n 1, 1) := by decide +kernel
theorem dX6_digitAt_13 : decode cX6_digitAt 13 = .ok (.bipush 120, 2) := by decide +kernel
theorem dX6_digitAt_15 : decode cX6_digitAt 15 = .ok (.if_icmp .ge 25, 3) := by decide +kernel
theorem dX6_digitAt_18 : decode cX6_digitAt 18 = .ok (.aload_n 0, 1) := by decide +kernel
theorem dX6_digitAt_19 : decode cX6_digitAt 19 = .ok (.getfield 9, 3) := by decide +kernel
theorem dX6_digitAt_22 : decode cX6_digitAt 22 = .ok (.iload_n 1, 1) := by decide +kernel
theorem dX6_digitAt_23 : decode cX6_digitAt 23 = .ok (.iaload, 1) := by decide +kernel
theorem dX6_digitAt_24 : decode cX6_digitAt 24 = .ok (.bipush 48, 2) := by decide +kernel
theorem dX6_digitAt_26 : decode cX6_digitAt 26 = .ok (.if_icmp .lt 14, 3) := by decide +kernel
theorem dX6_digitAt_29 : decode cX6_digitAt 29 = .ok (.aload_n 0, 1) := by decide +kernel
theorem dX6_digitAt_30 : decode cX6_digitAt 30 = .ok (.getfield 9, 3) := by decide +kernel
theorem dX6_digitAt_33 : decode cX6_digitAt 33 = .ok (.iload_n 1, 1) := by decide +kernel
theorem dX6_digitAt_34 : decode cX6_digitAt 34 = .ok (.iaload, 1) := by decide +kernel
theorem dX6_digitAt_35 : decode cX6_digitAt 35 = .ok (.bipush 57, 2) := by decide +kernel
theorem dX6_digitAt_37 : decode cX6_digitAt 37 = .ok (.if_icmp .le 5, 3) := by decide +kernel
theorem dX6_digitAt_40 : decode cX6_digitAt 40 = .ok (.iconst (-1), 1) := by decide +kernel
theorem dX6_digitAt_41 : decode cX6_digitAt 41 = .ok (.ireturn, 1) := by decide +kernel
theorem dX6_digitAt_42 : decode cX6_digitAt 42 = .ok (.aload_n 0, 1) := by decide +kernel
theorem dX6_digitAt_43 : decode cX6_digitAt 43 = .ok (.getfield 9, 3) := by decide +kernel
theorem dX6_digitAt_46 : decode cX6_digitAt 46 = .ok (.iload_n 1, 1) := by decide +kernel
theorem dX6_digitAt_47 : decode cX6_digitAt 47 = .ok (.iaload, 1) := by decide +kernel
theorem dX6_digitAt_48 : decode cX6_digitAt 48 = .ok (.bipush 48, 2) := by decide +kernel
theorem dX6_digitAt_50 : decode cX6_digitAt 50 = .ok (.isub, 1) := by decide +kernel
theorem dX6_digitAt_51 : decode cX6_digitAt 51 = .ok (.ireturn, 1) := by decide +kernel
end
section
theorem dX7_init_0 : decode cX7_init 0 = .ok (.aload_n 0, 1) := by decide +kernel
theorem dX7_init_1 : decode cX7_init 1 = .ok (.invokespecial 1, 3) := by decide +kernel
theorem dX7_init_4 : decode cX7_init 4 = .ok (.aload_n 0, 1) := by decide +kernel
theorem dX7_init_5 : decode cX7_init 5 = .ok (.new 7, 3) := by decide +kernel
theorem dX7_init_8 : decode cX7_init 8 = .ok (.dup, 1) := by decide +kernel
theorem dX7_init_9 : decode cX7_init 9 = .ok (.invokespecial 9, 3) := by decide +kernel
theorem dX7_init_12 : decode cX7_init 12 = .ok (.putfield 10, 3) := by decide +kernel
theorem dX7_init_15 : decode cX7_init 15 = .ok (.aload_n 0, 1) := by decide +kernel
theorem dX7_init_16 : decode cX7_init 16 = .ok (.new 16, 3) := by decide +kernel
theorem dX7_init_19 : decode cX7_init 19 = .ok (.dup, 1) := by decide +kernel
theorem dX7_init_20 : decode cX7_init 20 = .ok (.invokespecial 18, 3) := by decide +kernel
theorem dX7_init_23 : decode cX7_init 23 = .ok (.putfield 19, 3) := by decide +kernel
theorem dX7_init_26 : decode cX7_init 26 = .ok (.aload_n 0, 1) := by decide +kernel
theorem dX7_init_27 : decode cX7_init 27 = .ok (.new 23, 3) := by decide +kernel
theorem dX7_init_30 : decode cX7_init 30 = .ok (.dup, 1) := by decide +kernel
theorem dX7_init_31 : decode cX7_init 31 = .ok (.invokespecial 25, 3) := by decide +kernel
theorem dX7_init_34 : decode cX7_init 34 = .ok (.putfield 26, 3) := by decide +kernel
theorem dX7_init_37 : decode cX7_init 37 = .ok (.aload_n 0, 1) := by decide +kernel
theorem dX7_init_38 : decode cX7_init 38 = .ok (.new 30, 3) := by decide +kernel
theorem dX7_init_41 : decode cX7_init 41 = .ok (.dup, 1) := by decide +kernel
theorem dX7_init_42 : decode cX7_init 42 = .ok (.invokespecial 32, 3) := by decide +kernel
theorem dX7_init_45 : decode cX7_init 45 = .ok (.putfield 33, 3) := by decide +kernel
theorem dX7_init_48 : decode cX7_init 48 = .ok (.aload_n 0, 1) := by decide +kernel
theorem dX7_init_49 : decode cX7_init 49 = .ok (.iconst 2, 1) := by decide +kernel
theorem dX7_init_50 : decode cX7_init 50 = .ok (.anewarray 23, 3) := by decide +kernel
theorem dX7_init_53 : decode cX7_init 53 = .ok (.dup, 1) := by decide +kernel
theorem dX7_init_54 : decode cX7_init 54 = .ok (.iconst 0, 1) := by decide +kernel
theorem dX7_init_55 : decode cX7_init 55 = .ok (.new 23, 3) := by decide +kernel
theorem dX7_init_58 : decode cX7_init 58 = .ok (.dup, 1) := by decide +kernel
theorem dX7_init_59 : decode cX7_init 59 = .ok (.invokespecial 25, 3) := by decide +kernel
theorem dX7_init_62 : decode cX7_init 62 = .ok (.aastore, 1) := by decide +kernel
theorem dX7_init_63 : decode cX7_init 63 = .ok (.dup, 1) := by decide +kernel
theorem dX7_init_64 : decode cX7_init 64 = .ok (.iconst 1, 1) := by decide +kernel
theorem dX7_init_65 : decode cX7_init 65 = .ok (.new 23, 3) := by decide +kernel
theorem dX7_init_68 : decode cX7_init 68 = .ok (.dup, 1) := by decide +kernel
theorem dX7_init_69 : decode cX7_init 69 = .ok (.invokespecial 25, 3) := by decide +kernel
theorem dX7_init_72 : decode cX7_init 72 = .ok (.aastore, 1) := by decide +kernel
theorem dX7_init_73 : decode cX7_init 73 = .ok (.putfield 37, 3) := by decide +kernel
theorem dX7_init_76 : decode cX7_init 76 = .ok (.aload_n 0, 1) := by decide +kernel
theorem dX7_init_77 : decode cX7_init 77 = .ok (.iconst 2, 1) := by decide +kernel
theorem dX7_init_78 : decode cX7_init 78 = .ok (.newarray .boolean, 2) := by decide +kernel
theorem dX7_init_80 : decode cX7_init 80 = .ok (.putfield 41, 3) := by decide +kernel
theorem dX7_init_83 : decode cX7_init 83 = .ok (.aload_n 0, 1) := by decide +kernel
theorem dX7_init_84 : decode cX7_init 84 = .ok (.new 45, 3) := by decide +kernel
theorem dX7_init_87 : decode cX7_init 87 = .ok (.dup, 1) := by decide +kernel
theorem dX7_init_88 : decode cX7_init 88 = .ok (.invokespecial 47, 3) := by decide +kernel
theorem dX7_init_91 : decode cX7_init 91 = .ok (.putfield 48, 3) := by decide +kernel
theorem dX7_init_94 : decode cX7_init 94 = .ok (.aload_n 0, 1) := by decide +kernel
theorem dX7_init_95 : decode cX7_init 95 = .ok (.new 52, 3) := by decide +kernel
theorem dX7_init_98 : decode cX7_init 98 = .ok (.dup, 1) := by decide +kernel
theorem dX7_init_99 : decode cX7_init 99 = .ok (.invokespecial 54, 3) := by decide +kernel
theorem dX7_init_102 : decode cX7_init 102 = .ok (.putfield 55, 3) := by decide +kernel
theorem dX7_init_105 : decode cX7_init 105 = .ok (.return_, 1) := by decide +kernel
theorem dX7_type_0 : decode cX7_type 0 = .ok (.iload_n 1, 1) := by decide +kernel
theorem dX7_type_1 : decode cX7_type 1 = .ok (.ifCond .lt 10, 3) := by decide +kernel
theorem dX7_type_4 : decode cX7_type 4 = .ok (.iload_n 1, 1) := by decide +kernel
theorem dX7_type_5 : decode cX7_type 5 = .ok (.sipush 255, 3) := by decide +kernel
theorem dX7_type_8 : decode cX7_type 8 = .ok (.if_icmp .le 5, 3) := by decide +kernel
theorem dX7_type_11 : decode cX7_type 11 = .ok (.iconst (-1), 1) := by decide +kernel
theorem dX7_type_12 : decode cX7_type 12 = .ok (.ireturn, 1) := by decide +kernel
theorem dX7_type_13 : decode cX7_type 13 = .ok (.aload_n 0, 1) := by decide +kernel
theorem dX7_type_14 : decode cX7_type 14 = .ok (.getfield 10, 3) := by decide +kernel
theorem dX7_type_17 : decode cX7_type 17 = .ok (.getfield 59, 3) := by decide +kernel
theorem dX7_type_20 : decode cX7_type 20 = .ok (.bipush 120, 2) := by decide +kernel
theorem dX7_type_22 : decode cX7_type 22 = .ok (.if_icmp .lt 6, 3) := by decide +kernel
theorem dX7_type_25 : decode cX7_type 25 = .ok (.bipush (-3), 2) := by decide +kernel
theorem dX7_type_27 : decode cX7_type 27 = .ok (.ireturn, 1) := by decide +kernel
theorem dX7_type_28 : decode cX7_type 28 = .ok (.aload_n 0, 1) := by decide +kernel
theorem dX7_type_29 : decode cX7_type 29 = .ok (.getfield 10, 3) := by decide +kernel
theorem dX7_type_32 : decode cX7_type 32 = .ok (.iload_n 1, 1) := by decide +kernel
theorem dX7_type_33 : decode cX7_type 33 = .ok (.invokevirtual 63, 3) := by decide +kernel
theorem dX7_type_36 : decode cX7_type 36 = .ok (.ireturn, 1) := by decide +kernel
theorem dX7_clear_0 : decode cX7_clear 0 = .ok (.aload_n 0, 1) := by decide +kernel
theorem dX7_clear_1 : decode cX7_clear 1 = .ok (.getfield 10, 3) := by decide +kernel
theorem dX7_clear_4 : decode cX7_clear 4 = .ok (.invokevirtual 67, 3) := by decide +kernel
theorem dX7_clear_7 : decode cX7_clear 7 = .ok (.ireturn, 1) := by decide +kernel
theorem dX7_kitchen_0 : decode cX7_kitchen 0 = .ok (.aload_n 0, 1) := by decide +kernel
theorem dX7_kitchen_1 : decode cX7_kitchen 1 = .ok (.getfield 10, 3) := by decide +kernel
theorem dX7_kitchen_4 : decode cX7_kitchen 4 = .ok (.invokevirtual 71, 3) := by decide +kernel
theorem dX7_kitchen_7 : decode cX7_kitchen 7 = .ok (.istore_n 1, 1) := by decide +kernel
theorem dX7_kitchen_8 : decode cX7_kitchen 8 = .ok (.iload_n 1, 1) := by decide +kernel
theorem dX7_kitchen_9 : decode cX7_kitchen 9 = .ok (.ifCond .lt 7, 3) := by decide +kernel
theorem dX7_kitchen_12 : decode cX7_kitchen 12 = .ok (.aload_n 0, 1) := by decide +kernel
theorem dX7_kitchen_13 : decode cX7_kitchen 13 = .ok (.invokevirtual 74, 3) := by decide +kernel
theorem dX7_kitchen_16 : decode cX7_kitchen 16 = .ok (.iload_n 1, 1) := by decide +kernel
theorem dX7_kitchen_17 : decode cX7_kitchen 17 = .ok (.ireturn, 1) := by decide +kernel
theorem dX7_pot_0 : decode cX7_pot 0 = .ok (.iload_n 1, 1) := by decide +kernel
theorem dX7_pot_1 : decode cX7_pot 1 = .ok (.invokestatic 77, 3) := by decide +kernel
theorem dX7_pot_4 : decode cX7_pot 4 = .ok (.ifCond .eq 15, 3) := by decide +kernel
theorem dX7_pot_7 : decode cX7_pot 7 = .ok (.aload_n 0, 1) := by decide +kernel
theorem dX7_pot_8 : decode cX7_pot 8 = .ok (.getfield 26, 3) := by decide +kernel
theorem dX7_pot_11 : decode cX7_pot 11 = .ok (.getfield 81, 3) := by decide +kernel
theorem dX7_pot_14 : decode cX7_pot 14 = .ok (.iload_n 1, 1) := by decide +kernel
theorem dX7_pot_15 : decode cX7_pot 15 = .ok (.iaload, 1) := by decide +kernel
theorem dX7_pot_16 : decode cX7_pot 16 = .ok (.goto 4, 3) := by decide +kernel
theorem dX7_pot_19 : decode cX7_pot 19 = .ok (.iconst (-1), 1) := by decide +kernel
theorem dX7_pot_20 : decode cX7_pot 20 = .ok (.ireturn, 1) := by decide +kernel
theorem dX7_brother_0 : decode cX7_brother 0 = .ok (.aload_n 0, 1) := by decide +kernel
theorem dX7_brother_1 : decode cX7_brother 1 = .ok (.getfield 19, 3) := by decide +kernel
theorem dX7_brother_4 : decode cX7_brother 4 = .ok (.iload_n 1, 1) := by decide +kernel
theorem dX7_brother_5 : decode cX7_brother 5 = .ok (.invokevirtual 85, 3) := by decide +kernel
theorem dX7_brother_8 : decode cX7_brother 8 = .ok (.ifCond .eq 13, 3) := by decide +kernel
theorem dX7_brother_11 : decode cX7_brother 11 = .ok (.iload_n 2, 1) := by decide +kernel
theorem dX7_brother_12 : decode cX7_brother 12 = .ok (.ifCond .lt 9, 3) := by decide +kernel
theorem dX7_brother_15 : decode cX7_brother 15 = .ok (.iload_n 2, 1) := by decide +kernel
theorem dX7_brother_16 : decode cX7_brother 16 = .ok (.bipush 8, 2) := by decide +kernel
theorem dX7_brother_18 : decode cX7_brother 18 = .ok (.if_icmp .le 5, 3) := by decide +kernel
theorem dX7_brother_21 : decode cX7_brother 21 = .ok (.iconst (-1), 1) := by decide +kernel
theorem dX7_brother_22 : decode cX7_brother 22 = .ok (.ireturn, 1) := by decide +kernel
theorem dX7_brother_23 : decode cX7_brother 23 = .ok (.iload_n 2, 1) := by decide +kernel
theorem dX7_brother_24 : decode cX7_brother 24 = .ok (.iconst 4, 1) := by decide +kernel
theorem dX7_brother_25 : decode cX7_brother 25 = .ok (.if_icmp .ge 18, 3) := by decide +kernel
theorem dX7_brother_28 : decode cX7_brother 28 = .ok (.aload_n 0, 1) := by decide +kernel
theorem dX7_brother_29 : decode cX7_brother 29 = .ok (.getfield 19, 3) := by decide +kernel
theorem dX7_brother_32 : decode cX7_brother 32 = .ok (.getfield 88, 3) := by decide +kernel
theorem dX7_brother_35 : decode cX7_brother 35 = .ok (.iload_n 1, 1) := by decide +kernel
theorem dX7_brother_36 : decode cX7_brother 36 = .ok (.aaload, 1) := by decide +kernel
theorem dX7_brother_37 : decode cX7_brother 37 = .ok (.getfield 92, 3) := by decide +kernel
theorem dX7_brother_40 : decode cX7_brother 40 = .ok (.iload_n 2, 1) := by decide +kernel
theorem dX7_brother_41 : decode cX7_brother 41 = .ok (.iaload, 1) := by decide +kernel
theorem dX7_brother_42 : decode cX7_brother 42 = .ok (.ireturn, 1) := by decide +kernel
theorem dX7_brother_43 : decode cX7_brother 43 = .ok (.iload_n 2, 1) := by decide +kernel
theorem dX7_brother_44 : decode cX7_brother 44 = .ok (.tableswitch 81 4 7 #[32, 45, 55, 68], 32) := by decide +kernel
theorem dX7_brother_76 : decode cX7_brother 76 = .ok (.aload_n 0, 1) := by decide +kernel
theorem dX7_brother_77 : decode cX7_brother 77 = .ok (.getfield 19, 3) := by decide +kernel
theorem dX7_brother_80 : decode cX7_brother 80 = .ok (.getfield 88, 3) := by decide +kernel
theorem dX7_brother_83 : decode cX7_brother 83 = .ok (.iload_n 1, 1) := by decide +kernel
theorem dX7_brother_84 : decode cX7_brother 84 = .ok (.aaload, 1) := by decide +kernel
theorem dX7_brother_85 : decode cX7_brother 85 = .ok (.getfield 97, 3) := by decide +kernel
theorem dX7_brother_88 : decode cX7_brother 88 = .ok (.ireturn, 1) := by decide +kernel
theorem dX7_brother_89 : decode cX7_brother 89 = .ok (.aload_n 0, 1) := by decide +kernel
theorem dX7_brother_90 : decode cX7_brother 90 = .ok (.getfield 26, 3) := by decide +kernel
theorem dX7_brother_93 : decode cX7_brother 93 = .ok (.getfield 100, 3) := by decide +kernel
theorem dX7_brother_96 : decode cX7_brother 96 = .ok (.iload_n 1, 1) := by decide +kernel
theorem dX7_brother_97 : decode cX7_brother 97 = .ok (.iaload, 1) := by decide +kernel
theorem dX7_brother_98 : decode cX7_brother 98 = .ok (.ireturn, 1) := by decide +kernel
theorem dX7_brother_99 : decode cX7_brother 99 = .ok (.aload_n 0, 1) := by decide +kernel
theorem dX7_brother_100 : decode cX7_brother 100 = .ok (.getfield 19, 3) := by decide +kernel
theorem dX7_brother_103 : decode cX7_brother 103 = .ok (.iload_n 1, 1) := by decide +kernel
theorem dX7_brother_104 : decode cX7_brother 104 = .ok (.aload_n 0, 1) := by decide +kernel
theorem dX7_brother_105 : decode cX7_brother 105 = .ok (.getfield 26, 3) := by decide +kernel
theorem dX7_brother_108 : decode cX7_brother 108 = .ok (.invokevirtual 103, 3) := by decide +kernel
theorem dX7_brother_111 : decode cX7_brother 111 = .ok (.ireturn, 1) := by decide +kernel
theorem dX7_brother_112 : decode cX7_brother 112 = .ok (.aload_n 0, 1) := by decide +kernel
theorem dX7_brother_113 : decode cX7_brother 113 = .ok (.getfield 19, 3) := by decide +kernel
theorem dX7_brother_116 : decode cX7_brother 116 = .ok (.iload_n 1, 1) := by decide +kernel
theorem dX7_brother_117 : decode cX7_brother 117 = .ok (.aload_n 0, 1) := by decide +kernel
theorem dX7_brother_118 : decode cX7_brother 118 = .ok (.getfield 26, 3) := by decide +kernel
theorem dX7_brother_121 : decode cX7_brother 121 = .ok (.invokevirtual 107, 3) := by decide +kernel
theorem dX7_brother_124 : decode cX7_brother 124 = .ok (.ireturn, 1) := by decide +kernel
theorem dX7_brother_125 : decode cX7_brother 125 = .ok (.aload_n 0, 1) := by decide +kernel
theorem dX7_brother_126 : decode cX7_brother 126 = .ok (.getfield 26, 3) := by decide +kernel
theorem dX7_brother_129 : decode cX7_brother 129 = .ok (.getfield 110, 3) := by decide +kernel
theorem dX7_brother_132 : decode cX7_brother 132 = .ok (.iload_n 1, 1) := by decide +kernel
theorem dX7_brother_133 : decode cX7_brother 133 = .ok (.iaload, 1) := by decide +kernel
theorem dX7_brother_134 : decode cX7_brother 134 = .ok (.ireturn, 1) := by decide +kernel
theorem dX7_off_0 : decode cX7_off 0 = .ok (.aload_n 0, 1) := by decide +kernel
theorem dX7_off_1 : decode cX7_off 1 = .ok (.getfield 19, 3) := by decide +kernel
theorem dX7_off_4 : decode cX7_off 4 = .ok (.iload_n 1, 1) := by decide +kernel
theorem dX7_off_5 : decode cX7_off 5 = .ok (.invokevirtual 85, 3) := by decide +kernel
theorem dX7_off_8 : decode cX7_off 8 = .ok (.ifCond .eq 10, 3) := by decide +kernel
theorem dX7_off_11 : decode cX7_off 11 = .ok (.iload_n 2, 1) := by decide +kernel
theorem dX7_off_12 : decode cX7_off 12 = .ok (.invokestatic 77, 3) := by decide +kernel
theorem dX7_off_15 : decode cX7_off 15 = .ok (.ifCond .ne 6, 3) := by decide +kernel
theorem dX7_off_18 : decode cX7_off 18 = .ok (.ldc 113, 2) := by decide +kernel
theorem dX7_off_20 : decode cX7_off 20 = .ok (.ireturn, 1) := by decide +kernel
theorem dX7_off_21 : decode cX7_off 21 = .ok (.aload_n 0, 1) := by decide +kernel
theorem dX7_off_22 : decode cX7_off 22 = .ok (.getfield 19, 3) := by decide +kernel
theorem dX7_off_25 : decode cX7_off 25 = .ok (.getfield 88, 3) := by decide +kernel
theorem dX7_off_28 : decode cX7_off 28 = .ok (.iload_n 1, 1) := by decide +kernel
theorem dX7_off_29 : decode cX7_off 29 = .ok (.aaload, 1) := by decide +kernel
theorem dX7_off_30 : decode cX7_off 30 = .ok (.iload_n 2, 1) := by decide +kernel
theorem dX7_off_31 : decode cX7_off 31 = .ok (.aload_n 0, 1) := by decide +kernel
theorem dX7_off_32 : decode cX7_off 32 = .ok (.getfield 26, 3) := by decide +kernel
theorem dX7_off_35 : decode cX7_off 35 = .ok (.getfield 81, 3) := by decide +kernel
theorem dX7_off_38 : decode cX7_off 38 = .ok (.iload_n 2, 1) := by decide +kernel
theorem dX7_off_39 : decode cX7_off 39 = .ok (.iaload, 1) := by decide +kernel
theorem dX7_off_40 : decode cX7_off 40 = .ok (.aload_n 0, 1) := by decide +kernel
theorem dX7_off_41 : decode cX7_off 41 = .ok (.getfield 26, 3) := by decide +kernel
theorem dX7_off_44 : decode cX7_off 44 = .ok (.getfield 100, 3) := by decide +kernel
theorem dX7_off_47 : decode cX7_off 47 = .ok (.iload_n 1, 1) := by decide +kernel
theorem dX7_off_48 : decode cX7_off 48 = .ok (.iaload, 1) := by decide +kernel
theorem dX7_off_49 : decode cX7_off 49 = .ok (.invokevirtual 114, 3) := by decide +kernel
theorem dX7_off_52 : decode cX7_off 52 = .ok (.ireturn, 1) := by decide +kernel
theorem dX7_now_0 : decode cX7_now 0 = .ok (.iload_n 1, 1) := by decide +kernel
theorem dX7_now_1 : decode cX7_now 1 = .ok (.tableswitch 86 0 4 #[35, 47, 55, 66, 78], 35) := by decide +kernel
theorem dX7_now_36 : decode cX7_now 36 = .ok (.aload_n 0, 1) := by decide +kernel
theorem dX7_now_37 : decode cX7_now 37 = .ok (.getfield 19, 3) := by decide +kernel
theorem dX7_now_40 : decode cX7_now 40 = .ok (.aload_n 0, 1) := by decide +kernel
theorem dX7_now_41 : decode cX7_now 41 = .ok (.getfield 26, 3) := by decide +kernel
theorem dX7_now_44 : decode cX7_now 44 = .ok (.invokevirtual 118, 3) := by decide +kernel
theorem dX7_now_47 : decode cX7_now 47 = .ok (.ireturn, 1) := by decide +kernel
theorem dX7_now_48 : decode cX7_now 48 = .ok (.aload_n 0, 1) := by decide +kernel
theorem dX7_now_49 : decode cX7_now 49 = .ok (.getfield 26, 3) := by decide +kernel
theorem dX7_now_52 : decode cX7_now 52 = .ok (.invokevirtual 122, 3) := by decide +kernel
theorem dX7_now_55 : decode cX7_now 55 = .ok (.ireturn, 1) := by decide +kernel
theorem dX7_now_56 : decode cX7_now 56 = .ok (.aload_n 0, 1) := by decide +kernel
theorem dX7_now_57 : decode cX7_now 57 = .ok (.getfield 26, 3) := by decide +kernel
theorem dX7_now_60 : decode cX7_now 60 = .ok (.getfield 81, 3) := by decide +kernel
theorem dX7_now_63 : decode cX7_now 63 = .ok (.invokestatic 125, 3) := by decide +kernel
theorem dX7_now_66 : decode cX7_now 66 = .ok (.ireturn, 1) := by decide +kernel
theorem dX7_now_67 : decode cX7_now 67 = .ok (.aload_n 0, 1) := by decide +kernel
theorem dX7_now_68 : decode cX7_now 68 = .ok (.getfield 19, 3) := by decide +kernel
theorem dX7_now_71 : decode cX7_now 71 = .ok (.aload_n 0, 1) := by decide +kernel
theorem dX7_now_72 : decode cX7_now 72 = .ok (.getfield 26, 3) := by decide +kernel
theorem dX7_now_75 : decode cX7_now 75 = .ok (.invokevirtual 129, 3) := by decide +kernel
theorem dX7_now_78 : decode cX7_now 78 = .ok (.ireturn, 1) := by decide +kernel
theorem dX7_now_79 : decode cX7_now 79 = .ok (.aload_n 0, 1) := by decide +kernel
theorem dX7_now_80 : decode cX7_now 80 = .ok (.getfield 33, 3) := by decide +kernel
theorem dX7_now_83 : decode cX7_now 83 = .ok (.getfield 132, 3) := by decide +kernel
theorem dX7_now_86 : decode cX7_now 86 = .ok (.ireturn, 1) := by decide +kernel
theorem dX7_now_87 : decode cX7_now 87 = .ok (.iconst (-1), 1) := by decide +kernel
theorem dX7_now_88 : decode cX7_now 88 = .ok (.ireturn, 1) := by decide +kernel
theorem dX7_adds_0 : decode cX7_adds 0 = .ok (.iload_n 1, 1) := by decide +kernel
theorem dX7_adds_1 : decode cX7_adds 1 = .ok (.invokestatic 77, 3) := by decide +kernel
theorem dX7_adds_4 : decode cX7_adds 4 = .ok (.ifCond .ne 5, 3) := by decide +kernel
theorem dX7_adds_7 : decode cX7_adds 7 = .ok (.iconst (-1), 1) := by decide +kernel
theorem dX7_adds_8 : decode cX7_adds 8 = .ok (.ireturn, 1) := by decide +kernel
theorem dX7_adds_9 : decode cX7_adds 9 = .ok (.aload_n 0, 1) := by decide +kernel
theorem dX7_adds_10 : decode cX7_adds 10 = .ok (.getfield 26, 3) := by decide +kernel
theorem dX7_adds_13 : decode cX7_adds 13 = .ok (.getfield 81, 3) := by decide +kernel
theorem dX7_adds_16 : decode cX7_adds 16 = .ok (.iload_n 1, 1) := by decide +kernel
theorem dX7_adds_17 : decode cX7_adds 17 = .ok (.iaload, 1) := by decide +kernel
theorem dX7_adds_18 : decode cX7_adds 18 = .ok (.iconst 5, 1) := by decide +kernel
theorem dX7_adds_19 : decode cX7_adds 19 = .ok (.if_icmp .lt 6, 3) := by decide +kernel
theorem dX7_adds_22 : decode cX7_adds 22 = .ok (.bipush (-2), 2) := by decide +kernel
theorem dX7_adds_24 : decode cX7_adds 24 = .ok (.ireturn, 1) := by decide +kernel
theorem dX7_adds_25 : decode cX7_adds 25 = .ok (.aload_n 0, 1) := by decide +kernel
theorem dX7_adds_26 : decode cX7_adds 26 = .ok (.getfield 33, 3) := by decide +kernel
theorem dX7_adds_29 : decode cX7_adds 29 = .ok (.aload_n 0, 1) := by decide +kernel
theorem dX7_adds_30 : decode cX7_adds 30 = .ok (.getfield 26, 3) := by decide +kernel
theorem dX7_adds_33 : decode cX7_adds 33 = .ok (.invokevirtual 135, 3) := by decide +kernel
theorem dX7_adds_36 : decode cX7_adds 36 = .ok (.aload_n 0, 1) := by decide +kernel
theorem dX7_adds_37 : decode cX7_adds 37 = .ok (.getfield 26, 3) := by decide +kernel
theorem dX7_adds_40 : decode cX7_adds 40 = .ok (.getfield 81, 3) := by decide +kernel
theorem dX7_adds_43 : decode cX7_adds 43 = .ok (.iload_n 1, 1) := by decide +kernel
theorem dX7_adds_44 : decode cX7_adds 44 = .ok (.invokestatic 139, 3) := by decide +kernel
theorem dX7_adds_47 : decode cX7_adds 47 = .ok (.aload_n 0, 1) := by decide +kernel
theorem dX7_adds_48 : decode cX7_adds 48 = .ok (.getfield 26, 3) := by decide +kernel
theorem dX7_adds_51 : decode cX7_adds 51 = .ok (.getfield 81, 3) := by decide +kernel
theorem dX7_adds_54 : decode cX7_adds 54 = .ok (.iload_n 1, 1) := by decide +kernel
theorem dX7_adds_55 : decode cX7_adds 55 = .ok (.iaload, 1) := by decide +kernel
theorem dX7_adds_56 : decode cX7_adds 56 = .ok (.ireturn, 1) := by decide +kernel
theorem dX7_waters_0 : decode cX7_waters 0 = .ok (.aload_n 0, 1) := by decide +kernel
theorem dX7_waters_1 : decode cX7_waters 1 = .ok (.getfield 26, 3) := by decide +kernel
theorem dX7_waters_4 : decode cX7_waters 4 = .ok (.getfield 81, 3) := by decide +kernel
theorem dX7_waters_7 : decode cX7_waters 7 = .ok (.invokestatic 125, 3) := by decide +kernel
theorem dX7_waters_10 : decode cX7_waters 10 = .ok (.ifCond .ne 6, 3) := by decide +kernel
theorem dX7_waters_13 : decode cX7_waters 13 = .ok (.bipush (-2), 2) := by decide +kernel
theorem dX7_waters_15 : decode cX7_waters 15 = .ok (.ireturn, 1) := by decide +kernel
theorem dX7_waters_16 : decode cX7_waters 16 = .ok (.aload_n 0, 1) := by decide +kernel
theorem dX7_waters_17 : decode cX7_waters 17 = .ok (.getfield 33, 3) := by decide +kernel
theorem dX7_waters_20 : decode cX7_waters 20 = .ok (.aload_n 0, 1) := by decide +kernel
theorem dX7_waters_21 : decode cX7_waters 21 = .ok (.getfield 26, 3) := by decide +kernel
theorem dX7_waters_24 : decode cX7_waters 24 = .ok (.invokevirtual 135, 3) := by decide +kernel
theorem dX7_waters_27 : decode cX7_waters 27 = .ok (.aload_n 0, 1) := by decide +kernel
theorem dX7_waters_28 : decode cX7_waters 28 = .ok (.getfield 26, 3) := by decide +kernel
theorem dX7_waters_31 : decode cX7_waters 31 = .ok (.getfield 81, 3) := by decide +kernel
theorem dX7_waters_34 : decode cX7_waters 34 = .ok (.iconst 4, 1) := by decide +kernel
theorem dX7_waters_35 : decode cX7_waters 35 = .ok (.invokestatic 139, 3) := by decide +kernel
theorem dX7_waters_38 : decode cX7_waters 38 = .ok (.aload_n 0, 1) := by decide +kernel
theorem dX7_waters_39 : decode cX7_waters 39 = .ok (.getfield 26, 3) := by decide +kernel
theorem dX7_waters_42 : decode cX7_waters 42 = .ok (.getfield 81, 3) := by decide +kernel
theorem dX7_waters_45 : decode cX7_waters 45 = .ok (.invokestatic 125, 3) := by decide +kernel
theorem dX7_waters_48 : decode cX7_waters 48 = .ok (.ireturn, 1) := by decide +kernel
theorem dX7_sends_0 : decode cX7_sends 0 = .ok (.aload_n 0, 1) := by decide +kernel
theorem dX7_sends_1 : decode cX7_sends 1 = .ok (.getfield 19, 3) := by decide +kernel
theorem dX7_sends_4 : decode cX7_sends 4 = .ok (.iload_n 1, 1) := by decide +kernel
theorem dX7_sends_5 : decode cX7_sends 5 = .ok (.invokevirtual 85, 3) := by decide +kernel
theorem dX7_sends_8 : decode cX7_sends 8 = .ok (.ifCond .ne 5, 3) := by decide +kernel
theorem dX7_sends_11 : decode cX7_sends 11 = .ok (.iconst (-1), 1) := by decide +kernel
theorem dX7_sends_12 : decode cX7_sends 12 = .ok (.ireturn, 1) := by decide +kernel
theorem dX7_sends_13 : decode cX7_sends 13 = .ok (.aload_n 0, 1) := by decide +kernel
theorem dX7_sends_14 : decode cX7_sends 14 = .ok (.getfield 33, 3) := by decide +kernel
theorem dX7_sends_17 : decode cX7_sends 17 = .ok (.aload_n 0, 1) := by decide +kernel
theorem dX7_sends_18 : decode cX7_sends 18 = .ok (.getfield 26, 3) := by decide +kernel
theorem dX7_sends_21 : decode cX7_sends 21 = .ok (.invokevirtual 135, 3) := by decide +kernel
theorem dX7_sends_24 : decode cX7_sends 24 = .ok (.aload_n 0, 1) := by decide +kernel
theorem dX7_sends_25 : decode cX7_sends 25 = .ok (.getfield 26, 3) := by decide +kernel
theorem dX7_sends_28 : decode cX7_sends 28 = .ok (.getfield 110, 3) := by decide +kernel
theorem dX7_sends_31 : decode cX7_sends 31 = .ok (.iload_n 1, 1) := by decide +kernel
theorem dX7_sends_32 : decode cX7_sends 32 = .ok (.aload_n 0, 1) := by decide +kernel
theorem dX7_sends_33 : decode cX7_sends 33 = .ok (.getfield 19, 3) := by decide +kernel
theorem dX7_sends_36 : decode cX7_sends 36 = .ok (.iload_n 1, 1) := by decide +kernel
theorem dX7_sends_37 : decode cX7_sends 37 = .ok (.aload_n 0, 1) := by decide +kernel
theorem dX7_sends_38 : decode cX7_sends 38 = .ok (.getfield 26, 3) := by decide +kernel
theorem dX7_sends_41 : decode cX7_sends 41 = .ok (.invokevirtual 103, 3) := by decide +kernel
theorem dX7_sends_44 : decode cX7_sends 44 = .ok (.iastore, 1) := by decide +kernel
theorem dX7_sends_45 : decode cX7_sends 45 = .ok (.aload_n 0, 1) := by decide +kernel
theorem dX7_sends_46 : decode cX7_sends 46 = .ok (.getfield 26, 3) := by decide +kernel
theorem dX7_sends_49 : decode cX7_sends 49 = .ok (.getfield 110, 3) := by decide +kernel
theorem dX7_sends_52 : decode cX7_sends 52 = .ok (.iload_n 1, 1) := by decide +kernel
theorem dX7_sends_53 : decode cX7_sends 53 = .ok (.iaload, 1) := by decide +kernel
theorem dX7_sends_54 : decode cX7_sends 54 = .ok (.ireturn, 1) := by decide +kernel
theorem dX7_colds_0 : decode cX7_colds 0 = .ok (.aload_n 0, 1) := by decide +kernel
theorem dX7_colds_1 : decode cX7_colds 1 = .ok (.getfield 19, 3) := by decide +kernel
theorem dX7_colds_4 : decode cX7_colds 4 = .ok (.iload_n 1, 1) := by decide +kernel
theorem dX7_colds_5 : decode cX7_colds 5 = .ok (.invokevirtual 85, 3) := by decide +kernel
theorem dX7_colds_8 : decode cX7_colds 8 = .ok (.ifCond .eq 12, 3) := by decide +kernel
theorem dX7_colds_11 : decode cX7_colds 11 = .ok (.iload_n 2, 1) := by decide +kernel
theorem dX7_colds_12 : decode cX7_colds 12 = .ok (.ifCond .lt 8, 3) := by decide +kernel
theorem dX7_colds_15 : decode cX7_colds 15 = .ok (.iload_n 2, 1) := by decide +kernel
theorem dX7_colds_16 : decode cX7_colds 16 = .ok (.iconst 1, 1) := by decide +kernel
theorem dX7_colds_17 : decode cX7_colds 17 = .ok (.if_icmp .le 5, 3) := by decide +kernel
theorem dX7_colds_20 : decode cX7_colds 20 = .ok (.iconst (-1), 1) := by decide +kernel
theorem dX7_colds_21 : decode cX7_colds 21 = .ok (.ireturn, 1) := by decide +kernel
theorem dX7_colds_22 : decode cX7_colds 22 = .ok (.aload_n 0, 1) := by decide +kernel
theorem dX7_colds_23 : decode cX7_colds 23 = .ok (.getfield 26, 3) := by decide +kernel
theorem dX7_colds_26 : decode cX7_colds 26 = .ok (.getfield 100, 3) := by decide +kernel
theorem dX7_colds_29 : decode cX7_colds 29 = .ok (.iload_n 1, 1) := by decide +kernel
theorem dX7_colds_30 : decode cX7_colds 30 = .ok (.iaload, 1) := by decide +kernel
theorem dX7_colds_31 : decode cX7_colds 31 = .ok (.iload_n 2, 1) := by decide +kernel
theorem dX7_colds_32 : decode cX7_colds 32 = .ok (.if_icmp .ne 6, 3) := by decide +kernel
theorem dX7_colds_35 : decode cX7_colds 35 = .ok (.bipush (-2), 2) := by decide +kernel
theorem dX7_colds_37 : decode cX7_colds 37 = .ok (.ireturn, 1) := by decide +kernel
theorem dX7_colds_38 : decode cX7_colds 38 = .ok (.aload_n 0, 1) := by decide +kernel
theorem dX7_colds_39 : decode cX7_colds 39 = .ok (.getfield 33, 3) := by decide +kernel
theorem dX7_colds_42 : decode cX7_colds 42 = .ok (.aload_n 0, 1) := by decide +kernel
theorem dX7_colds_43 : decode cX7_colds 43 = .ok (.getfield 26, 3) := by decide +kernel
theorem dX7_colds_46 : decode cX7_colds 46 = .ok (.invokevirtual 135, 3) := by decide +kernel
theorem dX7_colds_49 : decode cX7_colds 49 = .ok (.aload_n 0, 1) := by decide +kernel
theorem dX7_colds_50 : decode cX7_colds 50 = .ok (.getfield 26, 3) := by decide +kernel
theorem dX7_colds_53 : decode cX7_colds 53 = .ok (.getfield 100, 3) := by decide +kernel
theorem dX7_colds_56 : decode cX7_colds 56 = .ok (.iload_n 1, 1) := by decide +kernel
theorem dX7_colds_57 : decode cX7_colds 57 = .ok (.iload_n 2, 1) := by decide +kernel
theorem dX7_colds_58 : decode cX7_colds 58 = .ok (.iastore, 1) := by decide +kernel
theorem dX7_colds_59 : decode cX7_colds 59 = .ok (.aload_n 0, 1) := by decide +kernel
theorem dX7_colds_60 : decode cX7_colds 60 = .ok (.getfield 26, 3) := by decide +kernel
theorem dX7_colds_63 : decode cX7_colds 63 = .ok (.invokevirtual 122, 3) := by decide +kernel
theorem dX7_colds_66 : decode cX7_colds 66 = .ok (.invokestatic 143, 3) := by decide +kernel
theorem dX7_colds_69 : decode cX7_colds 69 = .ok (.ireturn, 1) := by decide +kernel
theorem dX7_undo_0 : decode cX7_undo 0 = .ok (.aload_n 0, 1) := by decide +kernel
theorem dX7_undo_1 : decode cX7_undo 1 = .ok (.getfield 33, 3) := by decide +kernel
theorem dX7_undo_4 : decode cX7_undo 4 = .ok (.getfield 132, 3) := by decide +kernel
theorem dX7_undo_7 : decode cX7_undo 7 = .ok (.ifCond .gt 6, 3) := by decide +kernel
theorem dX7_undo_10 : decode cX7_undo 10 = .ok (.bipush (-2), 2) := by decide +kernel
theorem dX7_undo_12 : decode cX7_undo 12 = .ok (.ireturn, 1) := by decide +kernel
theorem dX7_undo_13 : decode cX7_undo 13 = .ok (.aload_n 0, 1) := by decide +kernel
theorem dX7_undo_14 : decode cX7_undo 14 = .ok (.getfield 33, 3) := by decide +kernel
theorem dX7_undo_17 : decode cX7_undo 17 = .ok (.aload_n 0, 1) := by decide +kernel
theorem dX7_undo_18 : decode cX7_undo 18 = .ok (.getfield 26, 3) := by decide +kernel
theorem dX7_undo_21 : decode cX7_undo 21 = .ok (.invokevirtual 148, 3) := by decide +kernel
theorem dX7_undo_24 : decode cX7_undo 24 = .ok (.ireturn, 1) := by decide +kernel
theorem dX7_plan_0 : decode cX7_plan 0 = .ok (.iload_n 1, 1) := by decide +kernel
theorem dX7_plan_1 : decode cX7_plan 1 = .ok (.ifCond .lt 24, 3) := by decide +kernel
theorem dX7_plan_4 : decode cX7_plan 4 = .ok (.iload_n 1, 1) := by decide +kernel
theorem dX7_plan_5 : decode cX7_plan 5 = .ok (.aload_n 0, 1) := by decide +kernel
theorem dX7_plan_6 : decode cX7_plan 6 = .ok (.getfield 19, 3) := by decide +kernel
theorem dX7_plan_9 : decode cX7_plan 9 = .ok (.invokevirtual 151, 3) := by decide +kernel
theorem dX7_plan_12 : decode cX7_plan 12 = .ok (.if_icmp .gt 13, 3) := by decide +kernel
theorem dX7_plan_15 : decode cX7_plan 15 = .ok (.iload_n 2, 1) := by decide +kernel
theorem dX7_plan_16 : decode cX7_plan 16 = .ok (.iconst (-1), 1) := by decide +kernel
theorem dX7_plan_17 : decode cX7_plan 17 = .ok (.if_icmp .lt 8, 3) := by decide +kernel
theorem dX7_plan_20 : decode cX7_plan 20 = .ok (.iload_n 2, 1) := by decide +kernel
theorem dX7_plan_21 : decode cX7_plan 21 = .ok (.iconst 5, 1) := by decide +kernel
theorem dX7_plan_22 : decode cX7_plan 22 = .ok (.if_icmp .lt 5, 3) := by decide +kernel
theorem dX7_plan_25 : decode cX7_plan 25 = .ok (.iconst (-1), 1) := by decide +kernel
theorem dX7_plan_26 : decode cX7_plan 26 = .ok (.ireturn, 1) := by decide +kernel
theorem dX7_plan_27 : decode cX7_plan 27 = .ok (.aload_n 0, 1) := by decide +kernel
theorem dX7_plan_28 : decode cX7_plan 28 = .ok (.getfield 55, 3) := by decide +kernel
theorem dX7_plan_31 : decode cX7_plan 31 = .ok (.aload_n 0, 1) := by decide +kernel
theorem dX7_plan_32 : decode cX7_plan 32 = .ok (.getfield 19, 3) := by decide +kernel
theorem dX7_plan_35 : decode cX7_plan 35 = .ok (.aload_n 0, 1) := by decide +kernel
theorem dX7_plan_36 : decode cX7_plan 36 = .ok (.getfield 26, 3) := by decide +kernel
theorem dX7_plan_39 : decode cX7_plan 39 = .ok (.iload_n 1, 1) := by decide +kernel
theorem dX7_plan_40 : decode cX7_plan 40 = .ok (.invokevirtual 154, 3) := by decide +kernel
theorem dX7_plan_43 : decode cX7_plan 43 = .ok (.istore_n 3, 1) := by decide +kernel
theorem dX7_plan_44 : decode cX7_plan 44 = .ok (.iload_n 2, 1) := by decide +kernel
theorem dX7_plan_45 : decode cX7_plan 45 = .ok (.ifCond .ge 5, 3) := by decide +kernel
theorem dX7_plan_48 : decode cX7_plan 48 = .ok (.iload_n 3, 1) := by decide +kernel
theorem dX7_plan_49 : decode cX7_plan 49 = .ok (.ireturn, 1) := by decide +kernel
theorem dX7_plan_50 : decode cX7_plan 50 = .ok (.iload_n 2, 1) := by decide +kernel
theorem dX7_plan_51 : decode cX7_plan 51 = .ok (.iload_n 3, 1) := by decide +kernel
theorem dX7_plan_52 : decode cX7_plan 52 = .ok (.if_icmp .ge 15, 3) := by decide +kernel
theorem dX7_plan_55 : decode cX7_plan 55 = .ok (.aload_n 0, 1) := by decide +kernel
theorem dX7_plan_56 : decode cX7_plan 56 = .ok (.getfield 55, 3) := by decide +kernel
theorem dX7_plan_59 : decode cX7_plan 59 = .ok (.getfield 158, 3) := by decide +kernel
theorem dX7_plan_62 : decode cX7_plan 62 = .ok (.iload_n 2, 1) := by decide +kernel
theorem dX7_plan_63 : decode cX7_plan 63 = .ok (.iaload, 1) := by decide +kernel
theorem dX7_plan_64 : decode cX7_plan 64 = .ok (.goto 5, 3) := by decide +kernel
theorem dX7_plan_67 : decode cX7_plan 67 = .ok (.bipush (-9), 2) := by decide +kernel
theorem dX7_plan_69 : decode cX7_plan 69 = .ok (.ireturn, 1) := by decide +kernel
theorem dX7_middle_0 : decode cX7_middle 0 = .ok (.iload_n 1, 1) := by decide +kernel
theorem dX7_middle_1 : decode cX7_middle 1 = .ok (.ifCond .lt 8, 3) := by decide +kernel
theorem dX7_middle_4 : decode cX7_middle 4 = .ok (.iload_n 1, 1) := by decide +kernel
theorem dX7_middle_5 : decode cX7_middle 5 = .ok (.iconst 4, 1) := by decide +kernel
theorem dX7_middle_6 : decode cX7_middle 6 = .ok (.if_icmp .le 5, 3) := by decide +kernel
theorem dX7_middle_9 : decode cX7_middle 9 = .ok (.iconst (-1), 1) := by decide +kernel
theorem dX7_middle_10 : decode cX7_middle 10 = .ok (.ireturn, 1) := by decide +kernel
theorem dX7_middle_11 : decode cX7_middle 11 = .ok (.aload_n 0, 1) := by decide +kernel
theorem dX7_middle_12 : decode cX7_middle 12 = .ok (.getfield 19, 3) := by decide +kernel
theorem dX7_middle_15 : decode cX7_middle 15 = .ok (.invokevirtual 151, 3) := by decide +kernel
theorem dX7_middle_18 : decode cX7_middle 18 = .ok (.istore_n 2, 1) := by decide +kernel
theorem dX7_middle_19 : decode cX7_middle 19 = .ok (.iload_n 1, 1) := by decide +kernel
theorem dX7_middle_20 : decode cX7_middle 20 = .ok (.iconst 4, 1) := by decide +kernel
theorem dX7_middle_21 : decode cX7_middle 21 = .ok (.if_icmp .ne 19, 3) := by decide +kernel
theorem dX7_middle_24 : decode cX7_middle 24 = .ok (.aload_n 0, 1) := by decide +kernel
theorem dX7_middle_25 : decode cX7_middle 25 = .ok (.getfield 19, 3) := by decide +kernel
theorem dX7_middle_28 : decode cX7_middle 28 = .ok (.iload_n 2, 1) := by decide +kernel
theorem dX7_middle_29 : decode cX7_middle 29 = .ok (.aload_n 0, 1) := by decide +kernel
theorem dX7_middle_30 : decode cX7_middle 30 = .ok (.getfield 26, 3) := by decide +kernel
theorem dX7_middle_33 : decode cX7_middle 33 = .ok (.getfield 100, 3) := by decide +kernel
theorem dX7_middle_36 : decode cX7_middle 36 = .ok (.invokevirtual 161, 3) := by decide +kernel
theorem dX7_middle_39 : decode cX7_middle 39 = .ok (.ireturn, 1) := by decide +kernel
theorem dX7_middle_40 : decode cX7_middle 40 = .ok (.aload_n 0, 1) := by decide +kernel
theorem dX7_middle_41 : decode cX7_middle 41 = .ok (.getfield 19, 3) := by decide +kernel
theorem dX7_middle_44 : decode cX7_middle 44 = .ok (.iload_n 2, 1) := by decide +kernel
theorem dX7_middle_45 : decode cX7_middle 45 = .ok (.iload_n 1, 1) := by decide +kernel
theorem dX7_middle_46 : decode cX7_middle 46 = .ok (.aload_n 0, 1) := by decide +kernel
theorem dX7_middle_47 : decode cX7_middle 47 = .ok (.getfield 26, 3) := by decide +kernel
theorem dX7_middle_50 : decode cX7_middle 50 = .ok (.getfield 100, 3) := by decide +kernel
theorem dX7_middle_53 : decode cX7_middle 53 = .ok (.invokevirtual 165, 3) := by decide +kernel
theorem dX7_middle_56 : decode cX7_middle 56 = .ok (.ireturn, 1) := by decide +kernel
theorem dX7_parted_0 : decode cX7_parted 0 = .ok (.iload_n 1, 1) := by decide +kernel
theorem dX7_parted_1 : decode cX7_parted 1 = .ok (.ifCond .lt 8, 3) := by decide +kernel
theorem dX7_parted_4 : decode cX7_parted 4 = .ok (.iload_n 1, 1) := by decide +kernel
theorem dX7_parted_5 : decode cX7_parted 5 = .ok (.iconst 1, 1) := by decide +kernel
theorem dX7_parted_6 : decode cX7_parted 6 = .ok (.if_icmp .le 5, 3) := by decide +kernel
theorem dX7_parted_9 : decode cX7_parted 9 = .ok (.iconst (-1), 1) := by decide +kernel
theorem dX7_parted_10 : decode cX7_parted 10 = .ok (.ireturn, 1) := by decide +kernel
theorem dX7_parted_11 : decode cX7_parted 11 = .ok (.aload_n 0, 1) := by decide +kernel
theorem dX7_parted_12 : decode cX7_parted 12 = .ok (.getfield 19, 3) := by decide +kernel
theorem dX7_parted_15 : decode cX7_parted 15 = .ok (.aload_n 0, 1) := by decide +kernel
theorem dX7_parted_16 : decode cX7_parted 16 = .ok (.getfield 26, 3) := by decide +kernel
theorem dX7_parted_19 : decode cX7_parted 19 = .ok (.getfield 100, 3) := by decide +kernel
theorem dX7_parted_22 : decode cX7_parted 22 = .ok (.invokevirtual 169, 3) := by decide +kernel
theorem dX7_parted_25 : decode cX7_parted 25 = .ok (.istore_n 2, 1) := by decide +kernel
theorem dX7_parted_26 : decode cX7_parted 26 = .ok (.iload_n 1, 1) := by decide +kernel
theorem dX7_parted_27 : decode cX7_parted 27 = .ok (.ifCond .ne 7, 3) := by decide +kernel
theorem dX7_parted_30 : decode cX7_parted 30 = .ok (.iload_n 2, 1) := by decide +kernel
theorem dX7_parted_31 : decode cX7_parted 31 = .ok (.goto 11, 3) := by decide +kernel
theorem dX7_parted_34 : decode cX7_parted 34 = .ok (.aload_n 0, 1) := by decide +kernel
theorem dX7_parted_35 : decode cX7_parted 35 = .ok (.getfield 19, 3) := by decide +kernel
theorem dX7_parted_38 : decode cX7_parted 38 = .ok (.iload_n 2, 1) := by decide +kernel
theorem dX7_parted_39 : decode cX7_parted 39 = .ok (.invokevirtual 172, 3) := by decide +kernel
theorem dX7_parted_42 : decode cX7_parted 42 = .ok (.ireturn, 1) := by decide +kernel
theorem dX7_odds_0 : decode cX7_odds 0 = .ok (.iload_n 1, 1) := by decide +kernel
theorem dX7_odds_1 : decode cX7_odds 1 = .ok (.ifCond .lt 28, 3) := by decide +kernel
theorem dX7_odds_4 : decode cX7_odds 4 = .ok (.iload_n 1, 1) := by decide +kernel
theorem dX7_odds_5 : decode cX7_odds 5 = .ok (.bipush 10, 2) := by decide +kernel
theorem dX7_odds_7 : decode cX7_odds 7 = .ok (.if_icmp .gt 22, 3) := by decide +kernel
theorem dX7_odds_10 : decode cX7_odds 10 = .ok (.iload_n 2, 1) := by decide +kernel
theorem dX7_odds_11 : decode cX7_odds 11 = .ok (.ifCond .lt 18, 3) := by decide +kernel
theorem dX7_odds_14 : decode cX7_odds 14 = .ok (.iload_n 2, 1) := by decide +kernel
theorem dX7_odds_15 : decode cX7_odds 15 = .ok (.bipush 6, 2) := by decide +kernel
theorem dX7_odds_17 : decode cX7_odds 17 = .ok (.if_icmp .gt 12, 3) := by decide +kernel
theorem dX7_odds_20 : decode cX7_odds 20 = .ok (.iload_n 3, 1) := by decide +kernel
theorem dX7_odds_21 : decode cX7_odds 21 = .ok (.ifCond .lt 8, 3) := by decide +kernel
theorem dX7_odds_24 : decode cX7_odds 24 = .ok (.iload_n 3, 1) := by decide +kernel
theorem dX7_odds_25 : decode cX7_odds 25 = .ok (.iconst 1, 1) := by decide +kernel
theorem dX7_odds_26 : decode cX7_odds 26 = .ok (.if_icmp .le 5, 3) := by decide +kernel
theorem dX7_odds_29 : decode cX7_odds 29 = .ok (.iconst (-1), 1) := by decide +kernel
theorem dX7_odds_30 : decode cX7_odds 30 = .ok (.ireturn, 1) := by decide +kernel
theorem dX7_odds_31 : decode cX7_odds 31 = .ok (.aload_n 0, 1) := by decide +kernel
theorem dX7_odds_32 : decode cX7_odds 32 = .ok (.getfield 19, 3) := by decide +kernel
theorem dX7_odds_35 : decode cX7_odds 35 = .ok (.aload_n 0, 1) := by decide +kernel
theorem dX7_odds_36 : decode cX7_odds 36 = .ok (.getfield 26, 3) := by decide +kernel
theorem dX7_odds_39 : decode cX7_odds 39 = .ok (.getfield 81, 3) := by decide +kernel
theorem dX7_odds_42 : decode cX7_odds 42 = .ok (.iload_n 1, 1) := by decide +kernel
theorem dX7_odds_43 : decode cX7_odds 43 = .ok (.invokevirtual 175, 3) := by decide +kernel
theorem dX7_odds_46 : decode cX7_odds 46 = .ok (.aload_n 0, 1) := by decide +kernel
theorem dX7_odds_47 : decode cX7_odds 47 = .ok (.getfield 19, 3) := by decide +kernel
theorem dX7_odds_50 : decode cX7_odds 50 = .ok (.iload_n 2, 1) := by decide +kernel
theorem dX7_odds_51 : decode cX7_odds 51 = .ok (.invokevirtual 178, 3) := by decide +kernel
theorem dX7_odds_54 : decode cX7_odds 54 = .ok (.aload_n 0, 1) := by decide +kernel
theorem dX7_odds_55 : decode cX7_odds 55 = .ok (.getfield 19, 3) := by decide +kernel
theorem dX7_odds_58 : decode cX7_odds 58 = .ok (.iconst 0, 1) := by decide +kernel
theorem dX7_odds_59 : decode cX7_odds 59 = .ok (.invokevirtual 178, 3) := by decide +kernel
theorem dX7_odds_62 : decode cX7_odds 62 = .ok (.iload_n 3, 1) := by decide +kernel
theorem dX7_odds_63 : decode cX7_odds 63 = .ok (.invokestatic 181, 3) := by decide +kernel
theorem dX7_odds_66 : decode cX7_odds 66 = .ok (.ireturn, 1) := by decide +kernel
theorem dX7_sees_0 : decode cX7_sees 0 = .ok (.iload_n 1, 1) := by decide +kernel
theorem dX7_sees_1 : decode cX7_sees 1 = .ok (.ifCond .lt 9, 3) := by decide +kernel
theorem dX7_sees_4 : decode cX7_sees 4 = .ok (.iload_n 1, 1) := by decide +kernel
theorem dX7_sees_5 : decode cX7_sees 5 = .ok (.bipush 9, 2) := by decide +kernel
theorem dX7_sees_7 : decode cX7_sees 7 = .ok (.if_icmp .lt 5, 3) := by decide +kernel
theorem dX7_sees_10 : decode cX7_sees 10 = .ok (.iconst (-1), 1) := by decide +kernel
theorem dX7_sees_11 : decode cX7_sees 11 = .ok (.ireturn, 1) := by decide +kernel
theorem dX7_sees_12 : decode cX7_sees 12 = .ok (.aload_n 0, 1) := by decide +kernel
theorem dX7_sees_13 : decode cX7_sees 13 = .ok (.getfield 48, 3) := by decide +kernel
theorem dX7_sees_16 : decode cX7_sees 16 = .ok (.getfield 184, 3) := by decide +kernel
theorem dX7_sees_19 : decode cX7_sees 19 = .ok (.iconst 4, 1) := by decide +kernel
theorem dX7_sees_20 : decode cX7_sees 20 = .ok (.if_icmp .lt 6, 3) := by decide +kernel
theorem dX7_sees_23 : decode cX7_sees 23 = .ok (.bipush (-3), 2) := by decide +kernel
theorem dX7_sees_25 : decode cX7_sees 25 = .ok (.ireturn, 1) := by decide +kernel
theorem dX7_sees_26 : decode cX7_sees 26 = .ok (.aload_n 0, 1) := by decide +kernel
theorem dX7_sees_27 : decode cX7_sees 27 = .ok (.getfield 48, 3) := by decide +kernel
theorem dX7_sees_30 : decode cX7_sees 30 = .ok (.aload_n 0, 1) := by decide +kernel
theorem dX7_sees_31 : decode cX7_sees 31 = .ok (.getfield 26, 3) := by decide +kernel
theorem dX7_sees_34 : decode cX7_sees 34 = .ok (.getfield 81, 3) := by decide +kernel
theorem dX7_sees_37 : decode cX7_sees 37 = .ok (.iload_n 1, 1) := by decide +kernel
theorem dX7_sees_38 : decode cX7_sees 38 = .ok (.invokevirtual 187, 3) := by decide +kernel
theorem dX7_sees_41 : decode cX7_sees 41 = .ok (.ireturn, 1) := by decide +kernel
theorem dX7_forget_0 : decode cX7_forget 0 = .ok (.aload_n 0, 1) := by decide +kernel
theorem dX7_forget_1 : decode cX7_forget 1 = .ok (.getfield 48, 3) := by decide +kernel
theorem dX7_forget_4 : decode cX7_forget 4 = .ok (.getfield 184, 3) := by decide +kernel
theorem dX7_forget_7 : decode cX7_forget 7 = .ok (.istore_n 1, 1) := by decide +kernel
theorem dX7_forget_8 : decode cX7_forget 8 = .ok (.aload_n 0, 1) := by decide +kernel
theorem dX7_forget_9 : decode cX7_forget 9 = .ok (.getfield 48, 3) := by decide +kernel
theorem dX7_forget_12 : decode cX7_forget 12 = .ok (.iconst 0, 1) := by decide +kernel
theorem dX7_forget_13 : decode cX7_forget 13 = .ok (.putfield 184, 3) := by decide +kernel
theorem dX7_forget_16 : decode cX7_forget 16 = .ok (.iload_n 1, 1) := by decide +kernel
theorem dX7_forget_17 : decode cX7_forget 17 = .ok (.ireturn, 1) := by decide +kernel
theorem dX7_likings_0 : decode cX7_likings 0 = .ok (.iload_n 1, 1) := by decide +kernel
theorem dX7_likings_1 : decode cX7_likings 1 = .ok (.invokestatic 77, 3) := by decide +kernel
theorem dX7_likings_4 : decode cX7_likings 4 = .ok (.ifCond .eq 12, 3) := by decide +kernel
theorem dX7_likings_7 : decode cX7_likings 7 = .ok (.iload_n 2, 1) := by decide +kernel
theorem dX7_likings_8 : decode cX7_likings 8 = .ok (.ifCond .lt 8, 3) := by decide +kernel
theorem dX7_likings_11 : decode cX7_likings 11 = .ok (.iload_n 2, 1) := by decide +kernel
theorem dX7_likings_12 : decode cX7_likings 12 = .ok (.iconst 2, 1) := by decide +kernel
theorem dX7_likings_13 : decode cX7_likings 13 = .ok (.if_icmp .le 5, 3) := by decide +kernel
theorem dX7_likings_16 : decode cX7_likings 16 = .ok (.iconst (-1), 1) := by decide +kernel
theorem dX7_likings_17 : decode cX7_likings 17 = .ok (.ireturn, 1) := by decide +kernel
theorem dX7_likings_18 : decode cX7_likings 18 = .ok (.aload_n 0, 1) := by decide +kernel
theorem dX7_likings_19 : decode cX7_likings 19 = .ok (.getfield 48, 3) := by decide +kernel
theorem dX7_likings_22 : decode cX7_likings 22 = .ok (.iload_n 1, 1) := by decide +kernel
theorem dX7_likings_23 : decode cX7_likings 23 = .ok (.invokevirtual 191, 3) := by decide +kernel
theorem dX7_likings_26 : decode cX7_likings 26 = .ok (.iload_n 2, 1) := by decide +kernel
theorem dX7_likings_27 : decode cX7_likings 27 = .ok (.ifCond .ne 11, 3) := by decide +kernel
theorem dX7_likings_30 : decode cX7_likings 30 = .ok (.aload_n 0, 1) := by decide +kernel
theorem dX7_likings_31 : decode cX7_likings 31 = .ok (.getfield 48, 3) := by decide +kernel
theorem dX7_likings_34 : decode cX7_likings 34 = .ok (.getfield 195, 3) := by decide +kernel
theorem dX7_likings_37 : decode cX7_likings 37 = .ok (.ireturn, 1) := by decide +kernel
theorem dX7_likings_38 : decode cX7_likings 38 = .ok (.aload_n 0, 1) := by decide +kernel
theorem dX7_likings_39 : decode cX7_likings 39 = .ok (.getfield 48, 3) := by decide +kernel
theorem dX7_likings_42 : decode cX7_likings 42 = .ok (.getfield 195, 3) := by decide +kernel
theorem dX7_likings_45 : decode cX7_likings 45 = .ok (.ifCond .ne 6, 3) := by decide +kernel
theorem dX7_likings_48 : decode cX7_likings 48 = .ok (.bipush (-9), 2) := by decide +kernel
theorem dX7_likings_50 : decode cX7_likings 50 = .ok (.ireturn, 1) := by decide +kernel
theorem dX7_likings_51 : decode cX7_likings 51 = .ok (.iload_n 2, 1) := by decide +kernel
theorem dX7_likings_52 : decode cX7_likings 52 = .ok (.iconst 1, 1) := by decide +kernel
theorem dX7_likings_53 : decode cX7_likings 53 = .ok (.if_icmp .ne 13, 3) := by decide +kernel
theorem dX7_likings_56 : decode cX7_likings 56 = .ok (.aload_n 0, 1) := by decide +kernel
theorem dX7_likings_57 : decode cX7_likings 57 = .ok (.getfield 48, 3) := by decide +kernel
theorem dX7_likings_60 : decode cX7_likings 60 = .ok (.getfield 198, 3) := by decide +kernel
theorem dX7_likings_63 : decode cX7_likings 63 = .ok (.goto 10, 3) := by decide +kernel
theorem dX7_likings_66 : decode cX7_likings 66 = .ok (.aload_n 0, 1) := by decide +kernel
theorem dX7_likings_67 : decode cX7_likings 67 = .ok (.getfield 48, 3) := by decide +kernel
theorem dX7_likings_70 : decode cX7_likings 70 = .ok (.getfield 201, 3) := by decide +kernel
theorem dX7_likings_73 : decode cX7_likings 73 = .ok (.ireturn, 1) := by decide +kernel
theorem dX7_ask_0 : decode cX7_ask 0 = .ok (.aload_n 0, 1) := by decide +kernel
theorem dX7_ask_1 : decode cX7_ask 1 = .ok (.getfield 48, 3) := by decide +kernel
theorem dX7_ask_4 : decode cX7_ask 4 = .ok (.aload_n 0, 1) := by decide +kernel
theorem dX7_ask_5 : decode cX7_ask 5 = .ok (.getfield 26, 3) := by decide +kernel
theorem dX7_ask_8 : decode cX7_ask 8 = .ok (.getfield 81, 3) := by decide +kernel
theorem dX7_ask_11 : decode cX7_ask 11 = .ok (.invokevirtual 204, 3) := by decide +kernel
theorem dX7_ask_14 : decode cX7_ask 14 = .ok (.ireturn, 1) := by decide +kernel
theorem dX7_rate_0 : decode cX7_rate 0 = .ok (.aload_n 0, 1) := by decide +kernel
theorem dX7_rate_1 : decode cX7_rate 1 = .ok (.getfield 19, 3) := by decide +kernel
theorem dX7_rate_4 : decode cX7_rate 4 = .ok (.iload_n 2, 1) := by decide +kernel
theorem dX7_rate_5 : decode cX7_rate 5 = .ok (.invokevirtual 85, 3) := by decide +kernel
theorem dX7_rate_8 : decode cX7_rate 8 = .ok (.ifCond .ne 6, 3) := by decide +kernel
theorem dX7_rate_11 : decode cX7_rate 11 = .ok (.ldc 113, 2) := by decide +kernel
theorem dX7_rate_13 : decode cX7_rate 13 = .ok (.ireturn, 1) := by decide +kernel
theorem dX7_rate_14 : decode cX7_rate 14 = .ok (.iload_n 1, 1) := by decide +kernel
theorem dX7_rate_15 : decode cX7_rate 15 = .ok (.tableswitch 73 0 5 #[37, 43, 49, 55, 61, 67], 37) := by decide +kernel
theorem dX7_rate_52 : decode cX7_rate 52 = .ok (.aload_n 0, 1) := by decide +kernel
theorem dX7_rate_53 : decode cX7_rate 53 = .ok (.iload_n 2, 1) := by decide +kernel
theorem dX7_rate_54 : decode cX7_rate 54 = .ok (.invokevirtual 207, 3) := by decide +kernel
theorem dX7_rate_57 : decode cX7_rate 57 = .ok (.ireturn, 1) := by decide +kernel
theorem dX7_rate_58 : decode cX7_rate 58 = .ok (.aload_n 0, 1) := by decide +kernel
theorem dX7_rate_59 : decode cX7_rate 59 = .ok (.iload_n 2, 1) := by decide +kernel
theorem dX7_rate_60 : decode cX7_rate 60 = .ok (.invokevirtual 210, 3) := by decide +kernel
theorem dX7_rate_63 : decode cX7_rate 63 = .ok (.ireturn, 1) := by decide +kernel
theorem dX7_rate_64 : decode cX7_rate 64 = .ok (.aload_n 0, 1) := by decide +kernel
theorem dX7_rate_65 : decode cX7_rate 65 = .ok (.iload_n 2, 1) := by decide +kernel
theorem dX7_rate_66 : decode cX7_rate 66 = .ok (.invokevirtual 213, 3) := by decide +kernel
theorem dX7_rate_69 : decode cX7_rate 69 = .ok (.ireturn, 1) := by decide +kernel
theorem dX7_rate_70 : decode cX7_rate 70 = .ok (.aload_n 0, 1) := by decide +kernel
theorem dX7_rate_71 : decode cX7_rate 71 = .ok (.iload_n 2, 1) := by decide +kernel
theorem dX7_rate_72 : decode cX7_rate 72 = .ok (.invokevirtual 216, 3) := by decide +kernel
theorem dX7_rate_75 : decode cX7_rate 75 = .ok (.ireturn, 1) := by decide +kernel
theorem dX7_rate_76 : decode cX7_rate 76 = .ok (.aload_n 0, 1) := by decide +kernel
theorem dX7_rate_77 : decode cX7_rate 77 = .ok (.iload_n 2, 1) := by decide +kernel
theorem dX7_rate_78 : decode cX7_rate 78 = .ok (.invokevirtual 219, 3) := by decide +kernel
theorem dX7_rate_81 : decode cX7_rate 81 = .ok (.ireturn, 1) := by decide +kernel
theorem dX7_rate_82 : decode cX7_rate 82 = .ok (.aload_n 0, 1) := by decide +kernel
theorem dX7_rate_83 : decode cX7_rate 83 = .ok (.iload_n 2, 1) := by decide +kernel
theorem dX7_rate_84 : decode cX7_rate 84 = .ok (.invokevirtual 222, 3) := by decide +kernel
theorem dX7_rate_87 : decode cX7_rate 87 = .ok (.ireturn, 1) := by decide +kernel
theorem dX7_rate_88 : decode cX7_rate 88 = .ok (.ldc 113, 2) := by decide +kernel
theorem dX7_rate_90 : decode cX7_rate 90 = .ok (.ireturn, 1) := by decide +kernel
theorem dX7_keep_0 : decode cX7_keep 0 = .ok (.iload_n 1, 1) := by decide +kernel
theorem dX7_keep_1 : decode cX7_keep 1 = .ok (.invokestatic 225, 3) := by decide +kernel
theorem dX7_keep_4 : decode cX7_keep 4 = .ok (.ifCond .ne 5, 3) := by decide +kernel
theorem dX7_keep_7 : decode cX7_keep 7 = .ok (.iconst (-1), 1) := by decide +kernel
theorem dX7_keep_8 : decode cX7_keep 8 = .ok (.ireturn, 1) := by decide +kernel
theorem dX7_keep_9 : decode cX7_keep 9 = .ok (.aload_n 0, 1) := by decide +kernel
theorem dX7_keep_10 : decode cX7_keep 10 = .ok (.getfield 37, 3) := by decide +kernel
theorem dX7_keep_13 : decode cX7_keep 13 = .ok (.iload_n 1, 1) := by decide +kernel
theorem dX7_keep_14 : decode cX7_keep 14 = .ok (.aaload, 1) := by decide +kernel
theorem dX7_keep_15 : decode cX7_keep 15 = .ok (.aload_n 0, 1) := by decide +kernel
theorem dX7_keep_16 : decode cX7_keep 16 = .ok (.getfield 26, 3) := by decide +kernel
theorem dX7_keep_19 : decode cX7_keep 19 = .ok (.invokevirtual 228, 3) := by decide +kernel
theorem dX7_keep_22 : decode cX7_keep 22 = .ok (.aload_n 0, 1) := by decide +kernel
theorem dX7_keep_23 : decode cX7_keep 23 = .ok (.getfield 41, 3) := by decide +kernel
theorem dX7_keep_26 : decode cX7_keep 26 = .ok (.iload_n 1, 1) := by decide +kernel
theorem dX7_keep_27 : decode cX7_keep 27 = .ok (.iconst 1, 1) := by decide +kernel
theorem dX7_keep_28 : decode cX7_keep 28 = .ok (.bastore, 1) := by decide +kernel
theorem dX7_keep_29 : decode cX7_keep 29 = .ok (.aload_n 0, 1) := by decide +kernel
theorem dX7_keep_30 : decode cX7_keep 30 = .ok (.getfield 19, 3) := by decide +kernel
theorem dX7_keep_33 : decode cX7_keep 33 = .ok (.aload_n 0, 1) := by decide +kernel
theorem dX7_keep_34 : decode cX7_keep 34 = .ok (.getfield 26, 3) := by decide +kernel
theorem dX7_keep_37 : decode cX7_keep 37 = .ok (.invokevirtual 231, 3) := by decide +kernel
theorem dX7_keep_40 : decode cX7_keep 40 = .ok (.ireturn, 1) := by decide +kernel
theorem dX7_back_0 : decode cX7_back 0 = .ok (.iload_n 1, 1) := by decide +kernel
theorem dX7_back_1 : decode cX7_back 1 = .ok (.invokestatic 225, 3) := by decide +kernel
theorem dX7_back_4 : decode cX7_back 4 = .ok (.ifCond .ne 5, 3) := by decide +kernel
theorem dX7_back_7 : decode cX7_back 7 = .ok (.iconst (-1), 1) := by decide +kernel
theorem dX7_back_8 : decode cX7_back 8 = .ok (.ireturn, 1) := by decide +kernel
theorem dX7_back_9 : decode cX7_back 9 = .ok (.aload_n 0, 1) := by decide +kernel
theorem dX7_back_10 : decode cX7_back 10 = .ok (.getfield 41, 3) := by decide +kernel
theorem dX7_back_13 : decode cX7_back 13 = .ok (.iload_n 1, 1) := by decide +kernel
theorem dX7_back_14 : decode cX7_back 14 = .ok (.baload, 1) := by decide +kernel
theorem dX7_back_15 : decode cX7_back 15 = .ok (.ifCond .ne 6, 3) := by decide +kernel
theorem dX7_back_18 : decode cX7_back 18 = .ok (.bipush (-2), 2) := by decide +kernel
theorem dX7_back_20 : decode cX7_back 20 = .ok (.ireturn, 1) := by decide +kernel
theorem dX7_back_21 : decode cX7_back 21 = .ok (.aload_n 0, 1) := by decide +kernel
theorem dX7_back_22 : decode cX7_back 22 = .ok (.getfield 26, 3) := by decide +kernel
theorem dX7_back_25 : decode cX7_back 25 = .ok (.aload_n 0, 1) := by decide +kernel
theorem dX7_back_26 : decode cX7_back 26 = .ok (.getfield 37, 3) := by decide +kernel
theorem dX7_back_29 : decode cX7_back 29 = .ok (.iload_n 1, 1) := by decide +kernel
theorem dX7_back_30 : decode cX7_back 30 = .ok (.aaload, 1) := by decide +kernel
theorem dX7_back_31 : decode cX7_back 31 = .ok (.invokevirtual 228, 3) := by decide +kernel
theorem dX7_back_34 : decode cX7_back 34 = .ok (.aload_n 0, 1) := by decide +kernel
theorem dX7_back_35 : decode cX7_back 35 = .ok (.getfield 33, 3) := by decide +kernel
theorem dX7_back_38 : decode cX7_back 38 = .ok (.iconst 0, 1) := by decide +kernel
theorem dX7_back_39 : decode cX7_back 39 = .ok (.putfield 132, 3) := by decide +kernel
theorem dX7_back_42 : decode cX7_back 42 = .ok (.aload_n 0, 1) := by decide +kernel
theorem dX7_back_43 : decode cX7_back 43 = .ok (.getfield 19, 3) := by decide +kernel
theorem dX7_back_46 : decode cX7_back 46 = .ok (.aload_n 0, 1) := by decide +kernel
theorem dX7_back_47 : decode cX7_back 47 = .ok (.getfield 26, 3) := by decide +kernel
theorem dX7_back_50 : decode cX7_back 50 = .ok (.invokevirtual 231, 3) := by decide +kernel
theorem dX7_back_53 : decode cX7_back 53 = .ok (.ireturn, 1) := by decide +kernel
theorem dX7_count_0 : decode cX7_count 0 = .ok (.iload_n 1, 1) := by decide +kernel
theorem dX7_count_1 : decode cX7_count 1 = .ok (.tableswitch 51 0 2 #[27, 35, 43], 27) := by decide +kernel
theorem dX7_count_28 : decode cX7_count 28 = .ok (.aload_n 0, 1) := by decide +kernel
theorem dX7_count_29 : decode cX7_count 29 = .ok (.getfield 19, 3) := by decide +kernel
theorem dX7_count_32 : decode cX7_count 32 = .ok (.getfield 234, 3) := by decide +kernel
theorem dX7_count_35 : decode cX7_count 35 = .ok (.ireturn, 1) := by decide +kernel
theorem dX7_count_36 : decode cX7_count 36 = .ok (.aload_n 0, 1) := by decide +kernel
theorem dX7_count_37 : decode cX7_count 37 = .ok (.getfield 48, 3) := by decide +kernel
theorem dX7_count_40 : decode cX7_count 40 = .ok (.getfield 184, 3) := by decide +kernel
theorem dX7_count_43 : decode cX7_count 43 = .ok (.ireturn, 1) := by decide +kernel
theorem dX7_count_44 : decode cX7_count 44 = .ok (.aload_n 0, 1) := by decide +kernel
theorem dX7_count_45 : decode cX7_count 45 = .ok (.getfield 10, 3) := by decide +kernel
theorem dX7_count_48 : decode cX7_count 48 = .ok (.getfield 59, 3) := by decide +kernel
theorem dX7_count_51 : decode cX7_count 51 = .ok (.ireturn, 1) := by decide +kernel
theorem dX7_count_52 : decode cX7_count 52 = .ok (.iconst (-1), 1) := by decide +kernel
theorem dX7_count_53 : decode cX7_count 53 = .ok (.ireturn, 1) := by decide +kernel
theorem dX7_trace_0 : decode cX7_trace 0 = .ok (.aload_n 0, 1) := by decide +kernel
theorem dX7_trace_1 : decode cX7_trace 1 = .ok (.getfield 237, 3) := by decide +kernel
theorem dX7_trace_4 : decode cX7_trace 4 = .ok (.lreturn, 1) := by decide +kernel
theorem dX7_beginAnew_0 : decode cX7_beginAnew 0 = .ok (.aload_n 0, 1) := by decide +kernel
theorem dX7_beginAnew_1 : decode cX7_beginAnew 1 = .ok (.getfield 19, 3) := by decide +kernel
theorem dX7_beginAnew_4 : decode cX7_beginAnew 4 = .ok (.aload_n 0, 1) := by decide +kernel
theorem dX7_beginAnew_5 : decode cX7_beginAnew 5 = .ok (.getfield 10, 3) := by decide +kernel
theorem dX7_beginAnew_8 : decode cX7_beginAnew 8 = .ok (.getfield 241, 3) := by decide +kernel
theorem dX7_beginAnew_11 : decode cX7_beginAnew 11 = .ok (.aload_n 0, 1) := by decide +kernel
theorem dX7_beginAnew_12 : decode cX7_beginAnew 12 = .ok (.getfield 10, 3) := by decide +kernel
theorem dX7_beginAnew_15 : decode cX7_beginAnew 15 = .ok (.getfield 244, 3) := by decide +kernel
theorem dX7_beginAnew_18 : decode cX7_beginAnew 18 = .ok (.invokevirtual 246, 3) := by decide +kernel
theorem dX7_beginAnew_21 : decode cX7_beginAnew 21 = .ok (.aload_n 0, 1) := by decide +kernel
theorem dX7_beginAnew_22 : decode cX7_beginAnew 22 = .ok (.getfield 26, 3) := by decide +kernel
theorem dX7_beginAnew_25 : decode cX7_beginAnew 25 = .ok (.aload_n 0, 1) := by decide +kernel
theorem dX7_beginAnew_26 : decode cX7_beginAnew 26 = .ok (.getfield 10, 3) := by decide +kernel
theorem dX7_beginAnew_29 : decode cX7_beginAnew 29 = .ok (.getfield 249, 3) := by decide +kernel
theorem dX7_beginAnew_32 : decode cX7_beginAnew 32 = .ok (.aload_n 0, 1) := by decide +kernel
theorem dX7_beginAnew_33 : decode cX7_beginAnew 33 = .ok (.getfield 10, 3) := by decide +kernel
theorem dX7_beginAnew_36 : decode cX7_beginAnew 36 = .ok (.getfield 241, 3) := by decide +kernel
theorem dX7_beginAnew_39 : decode cX7_beginAnew 39 = .ok (.aload_n 0, 1) := by decide +kernel
theorem dX7_beginAnew_40 : decode cX7_beginAnew 40 = .ok (.getfield 10, 3) := by decide +kernel
theorem dX7_beginAnew_43 : decode cX7_beginAnew 43 = .ok (.getfield 244, 3) := by decide +kernel
theorem dX7_beginAnew_46 : decode cX7_beginAnew 46 = .ok (.invokevirtual 250, 3) := by decide +kernel
theorem dX7_beginAnew_49 : decode cX7_beginAnew 49 = .ok (.aload_n 0, 1) := by decide +kernel
theorem dX7_beginAnew_50 : decode cX7_beginAnew 50 = .ok (.getfield 33, 3) := by decide +kernel
theorem dX7_beginAnew_53 : decode cX7_beginAnew 53 = .ok (.iconst 0, 1) := by decide +kernel
theorem dX7_beginAnew_54 : decode cX7_beginAnew 54 = .ok (.putfield 132, 3) := by decide +kernel
theorem dX7_beginAnew_57 : decode cX7_beginAnew 57 = .ok (.iconst 0, 1) := by decide +kernel
theorem dX7_beginAnew_58 : decode cX7_beginAnew 58 = .ok (.istore_n 1, 1) := by decide +kernel
theorem dX7_beginAnew_59 : decode cX7_beginAnew 59 = .ok (.iload_n 1, 1) := by decide +kernel
theorem dX7_beginAnew_60 : decode cX7_beginAnew 60 = .ok (.iconst 2, 1) := by decide +kernel
theorem dX7_beginAnew_61 : decode cX7_beginAnew 61 = .ok (.if_icmp .ge 16, 3) := by decide +kernel
theorem dX7_beginAnew_64 : decode cX7_beginAnew 64 = .ok (.aload_n 0, 1) := by decide +kernel
theorem dX7_beginAnew_65 : decode cX7_beginAnew 65 = .ok (.getfield 41, 3) := by decide +kernel
theorem dX7_beginAnew_68 : decode cX7_beginAnew 68 = .ok (.iload_n 1, 1) := by decide +kernel
theorem dX7_beginAnew_69 : decode cX7_beginAnew 69 = .ok (.iconst 0, 1) := by decide +kernel
theorem dX7_beginAnew_70 : decode cX7_beginAnew 70 = .ok (.bastore, 1) := by decide +kernel
theorem dX7_beginAnew_71 : decode cX7_beginAnew 71 = .ok (.iinc 1 1, 3) := by decide +kernel
theorem dX7_beginAnew_74 : decode cX7_beginAnew 74 = .ok (.goto (-15), 3) := by decide +kernel
theorem dX7_beginAnew_77 : decode cX7_beginAnew 77 = .ok (.aload_n 0, 1) := by decide +kernel
theorem dX7_beginAnew_78 : decode cX7_beginAnew 78 = .ok (.getfield 48, 3) := by decide +kernel
theorem dX7_beginAnew_81 : decode cX7_beginAnew 81 = .ok (.iconst 0, 1) := by decide +kernel
theorem dX7_beginAnew_82 : decode cX7_beginAnew 82 = .ok (.putfield 184, 3) := by decide +kernel
theorem dX7_beginAnew_85 : decode cX7_beginAnew 85 = .ok (.aload_n 0, 1) := by decide +kernel
theorem dX7_beginAnew_86 : decode cX7_beginAnew 86 = .ok (.getfield 10, 3) := by decide +kernel
theorem dX7_beginAnew_89 : decode cX7_beginAnew 89 = .ok (.invokevirtual 67, 3) := by decide +kernel
theorem dX7_beginAnew_92 : decode cX7_beginAnew 92 = .ok (.pop, 1) := by decide +kernel
theorem dX7_beginAnew_93 : decode cX7_beginAnew 93 = .ok (.return_, 1) := by decide +kernel
theorem dX7_asBrother_0 : decode cX7_asBrother 0 = .ok (.aload_n 0, 1) := by decide +kernel
theorem dX7_asBrother_1 : decode cX7_asBrother 1 = .ok (.dup, 1) := by decide +kernel
theorem dX7_asBrother_2 : decode cX7_asBrother 2 = .ok (.getfield 237, 3) := by decide +kernel
theorem dX7_asBrother_5 : decode cX7_asBrother 5 = .ok (.lconst 1, 1) := by decide +kernel
theorem dX7_asBrother_6 : decode cX7_asBrother 6 = .ok (.ladd, 1) := by decide +kernel
theorem dX7_asBrother_7 : decode cX7_asBrother 7 = .ok (.putfield 237, 3) := by decide +kernel
theorem dX7_asBrother_10 : decode cX7_asBrother 10 = .ok (.aload_n 0, 1) := by decide +kernel
theorem dX7_asBrother_11 : decode cX7_asBrother 11 = .ok (.getfield 19, 3) := by decide +kernel
theorem dX7_asBrother_14 : decode cX7_asBrother 14 = .ok (.iload_n 1, 1) := by decide +kernel
theorem dX7_asBrother_15 : decode cX7_asBrother 15 = .ok (.aload_n 0, 1) := by decide +kernel
theorem dX7_asBrother_16 : decode cX7_asBrother 16 = .ok (.getfield 26, 3) := by decide +kernel
theorem dX7_asBrother_19 : decode cX7_asBrother 19 = .ok (.invokevirtual 107, 3) := by decide +kernel
theorem dX7_asBrother_22 : decode cX7_asBrother 22 = .ok (.ireturn, 1) := by decide +kernel
theorem dX7_asNovice_0 : decode cX7_asNovice 0 = .ok (.aload_n 0, 1) := by decide +kernel
theorem dX7_asNovice_1 : decode cX7_asNovice 1 = .ok (.dup, 1) := by decide +kernel
theorem dX7_asNovice_2 : decode cX7_asNovice 2 = .ok (.getfield 237, 3) := by decide +kernel
theorem dX7_asNovice_5 : decode cX7_asNovice 5 = .ok (.ldc2_w 254, 3) := by decide +kernel
theorem dX7_asNovice_8 : decode cX7_asNovice 8 = .ok (.ladd, 1) := by decide +kernel
theorem dX7_asNovice_9 : decode cX7_asNovice 9 = .ok (.putfield 237, 3) := by decide +kernel
theorem dX7_asNovice_12 : decode cX7_asNovice 12 = .ok (.aload_n 0, 1) := by decide +kernel
theorem dX7_asNovice_13 : decode cX7_asNovice 13 = .ok (.iload_n 1, 1) := by decide +kernel
theorem dX7_asNovice_14 : decode cX7_asNovice 14 = .ok (.invokevirtual 207, 3) := by decide +kernel
theorem dX7_asNovice_17 : decode cX7_asNovice 17 = .ok (.aload_n 0, 1) := by decide +kernel
theorem dX7_asNovice_18 : decode cX7_asNovice 18 = .ok (.getfield 19, 3) := by decide +kernel
theorem dX7_asNovice_21 : decode cX7_asNovice 21 = .ok (.getfield 88, 3) := by decide +kernel
theorem dX7_asNovice_24 : decode cX7_asNovice 24 = .ok (.iload_n 1, 1) := by decide +kernel
theorem dX7_asNovice_25 : decode cX7_asNovice 25 = .ok (.aaload, 1) := by decide +kernel
theorem dX7_asNovice_26 : decode cX7_asNovice 26 = .ok (.getfield 97, 3) := by decide +kernel
theorem dX7_asNovice_29 : decode cX7_asNovice 29 = .ok (.iadd, 1) := by decide +kernel
theorem dX7_asNovice_30 : decode cX7_asNovice 30 = .ok (.ireturn, 1) := by decide +kernel
theorem dX7_asAbbot_0 : decode cX7_asAbbot 0 = .ok (.aload_n 0, 1) := by decide +kernel
theorem dX7_asAbbot_1 : decode cX7_asAbbot 1 = .ok (.dup, 1) := by decide +kernel
theorem dX7_asAbbot_2 : decode cX7_asAbbot 2 = .ok (.getfield 237, 3) := by decide +kernel
theorem dX7_asAbbot_5 : decode cX7_asAbbot 5 = .ok (.ldc2_w 256, 3) := by decide +kernel
theorem dX7_asAbbot_8 : decode cX7_asAbbot 8 = .ok (.ladd, 1) := by decide +kernel
theorem dX7_asAbbot_9 : decode cX7_asAbbot 9 = .ok (.putfield 237, 3) := by decide +kernel
theorem dX7_asAbbot_12 : decode cX7_asAbbot 12 = .ok (.aload_n 0, 1) := by decide +kernel
theorem dX7_asAbbot_13 : decode cX7_asAbbot 13 = .ok (.iload_n 1, 1) := by decide +kernel
theorem dX7_asAbbot_14 : decode cX7_asAbbot 14 = .ok (.invokevirtual 207, 3) := by decide +kernel
theorem dX7_asAbbot_17 : decode cX7_asAbbot 17 = .ok (.aload_n 0, 1) := by decide +kernel
theorem dX7_asAbbot_18 : decode cX7_asAbbot 18 = .ok (.getfield 19, 3) := by decide +kernel
theorem dX7_asAbbot_21 : decode cX7_asAbbot 21 = .ok (.iload_n 1, 1) := by decide +kernel
theorem dX7_asAbbot_22 : decode cX7_asAbbot 22 = .ok (.aload_n 0, 1) := by decide +kernel
theorem dX7_asAbbot_23 : decode cX7_asAbbot 23 = .ok (.getfield 26, 3) := by decide +kernel
theorem dX7_asAbbot_26 : decode cX7_asAbbot 26 = .ok (.invokevirtual 103, 3) := by decide +kernel
theorem dX7_asAbbot_29 : decode cX7_asAbbot 29 = .ok (.isub, 1) := by decide +kernel
theorem dX7_asAbbot_30 : decode cX7_asAbbot 30 = .ok (.ireturn, 1) := by decide +kernel
theorem dX7_asGiles_0 : decode cX7_asGiles 0 = .ok (.aload_n 0, 1) := by decide +kernel
theorem dX7_asGiles_1 : decode cX7_asGiles 1 = .ok (.dup, 1) := by decide +kernel
theorem dX7_asGiles_2 : decode cX7_asGiles 2 = .ok (.getfield 237, 3) := by decide +kernel
theorem dX7_asGiles_5 : decode cX7_asGiles 5 = .ok (.ldc2_w 258, 3) := by decide +kernel
theorem dX7_asGiles_8 : decode cX7_asGiles 8 = .ok (.ladd, 1) := by decide +kernel
theorem dX7_asGiles_9 : decode cX7_asGiles 9 = .ok (.putfield 237, 3) := by decide +kernel
theorem dX7_asGiles_12 : decode cX7_asGiles 12 = .ok (.iconst 2, 1) := by decide +kernel
theorem dX7_asGiles_13 : decode cX7_asGiles 13 = .ok (.aload_n 0, 1) := by decide +kernel
theorem dX7_asGiles_14 : decode cX7_asGiles 14 = .ok (.iload_n 1, 1) := by decide +kernel
theorem dX7_asGiles_15 : decode cX7_asGiles 15 = .ok (.invokevirtual 210, 3) := by decide +kernel
theorem dX7_asGiles_18 : decode cX7_asGiles 18 = .ok (.imul, 1) := by decide +kernel
theorem dX7_asGiles_19 : decode cX7_asGiles 19 = .ok (.ireturn, 1) := by decide +kernel
theorem dX7_asPrior_0 : decode cX7_asPrior 0 = .ok (.aload_n 0, 1) := by decide +kernel
theorem dX7_asPrior_1 : decode cX7_asPrior 1 = .ok (.dup, 1) := by decide +kernel
theorem dX7_asPrior_2 : decode cX7_asPrior 2 = .ok (.getfield 237, 3) := by decide +kernel
theorem dX7_asPrior_5 : decode cX7_asPrior 5 = .ok (.ldc2_w 260, 3) := by decide +kernel
theorem dX7_asPrior_8 : decode cX7_asPrior 8 = .ok (.ladd, 1) := by decide +kernel
theorem dX7_asPrior_9 : decode cX7_asPrior 9 = .ok (.putfield 237, 3) := by decide +kernel
theorem dX7_asPrior_12 : decode cX7_asPrior 12 = .ok (.aload_n 0, 1) := by decide +kernel
theorem dX7_asPrior_13 : decode cX7_asPrior 13 = .ok (.iload_n 1, 1) := by decide +kernel
theorem dX7_asPrior_14 : decode cX7_asPrior 14 = .ok (.invokevirtual 213, 3) := by decide +kernel
theorem dX7_asPrior_17 : decode cX7_asPrior 17 = .ok (.iload_n 1, 1) := by decide +kernel
theorem dX7_asPrior_18 : decode cX7_asPrior 18 = .ok (.iadd, 1) := by decide +kernel
theorem dX7_asPrior_19 : decode cX7_asPrior 19 = .ok (.ireturn, 1) := by decide +kernel
theorem dX7_asCellarer_0 : decode cX7_asCellarer 0 = .ok (.aload_n 0, 1) := by decide +kernel
theorem dX7_asCellarer_1 : decode cX7_asCellarer 1 = .ok (.dup, 1) := by decide +kernel
theorem dX7_asCellarer_2 : decode cX7_asCellarer 2 = .ok (.getfield 237, 3) := by decide +kernel
theorem dX7_asCellarer_5 : decode cX7_asCellarer 5 = .ok (.ldc2_w 262, 3) := by decide +kernel
theorem dX7_asCellarer_8 : decode cX7_asCellarer 8 = .ok (.ladd, 1) := by decide +kernel
theorem dX7_asCellarer_9 : decode cX7_asCellarer 9 = .ok (.putfield 237, 3) := by decide +kernel
theorem dX7_asCellarer_12 : decode cX7_asCellarer 12 = .ok (.aload_n 0, 1) := by decide +kernel
theorem dX7_asCellarer_13 : decode cX7_asCellarer 13 = .ok (.iload_n 1, 1) := by decide +kernel
theorem dX7_asCellarer_14 : decode cX7_asCellarer 14 = .ok (.invokevirtual 207, 3) := by decide +kernel
theorem dX7_asCellarer_17 : decode cX7_asCellarer 17 = .ok (.aload_n 0, 1) := by decide +kernel
theorem dX7_asCellarer_18 : decode cX7_asCellarer 18 = .ok (.getfield 26, 3) := by decide +kernel
theorem dX7_asCellarer_21 : decode cX7_asCellarer 21 = .ok (.getfield 81, 3) := by decide +kernel
theorem dX7_asCellarer_24 : decode cX7_asCellarer 24 = .ok (.invokestatic 125, 3) := by decide +kernel
theorem dX7_asCellarer_27 : decode cX7_asCellarer 27 = .ok (.iadd, 1) := by decide +kernel
theorem dX7_asCellarer_28 : decode cX7_asCellarer 28 = .ok (.ireturn, 1) := by decide +kernel
theorem dX7_isPart_0 : decode cX7_isPart 0 = .ok (.iload_n 0, 1) := by decide +kernel
theorem dX7_isPart_1 : decode cX7_isPart 1 = .ok (.ifCond .lt 12, 3) := by decide +kernel
theorem dX7_isPart_4 : decode cX7_isPart 4 = .ok (.iload_n 0, 1) := by decide +kernel
theorem dX7_isPart_5 : decode cX7_isPart 5 = .ok (.iconst 4, 1) := by decide +kernel
theorem dX7_isPart_6 : decode cX7_isPart 6 = .ok (.if_icmp .ge 7, 3) := by decide +kernel
theorem dX7_isPart_9 : decode cX7_isPart 9 = .ok (.iconst 1, 1) := by decide +kernel
theorem dX7_isPart_10 : decode cX7_isPart 10 = .ok (.goto 4, 3) := by decide +kernel
theorem dX7_isPart_13 : decode cX7_isPart 13 = .ok (.iconst 0, 1) := by decide +kernel
theorem dX7_isPart_14 : decode cX7_isPart 14 = .ok (.ireturn, 1) := by decide +kernel
theorem dX7_isImage_0 : decode cX7_isImage 0 = .ok (.iload_n 0, 1) := by decide +kernel
theorem dX7_isImage_1 : decode cX7_isImage 1 = .ok (.ifCond .lt 12, 3) := by decide +kernel
theorem dX7_isImage_4 : decode cX7_isImage 4 = .ok (.iload_n 0, 1) := by decide +kernel
theorem dX7_isImage_5 : decode cX7_isImage 5 = .ok (.iconst 2, 1) := by decide +kernel
theorem dX7_isImage_6 : decode cX7_isImage 6 = .ok (.if_icmp .ge 7, 3) := by decide +kernel
theorem dX7_isImage_9 : decode cX7_isImage 9 = .ok (.iconst 1, 1) := by decide +kernel
theorem dX7_isImage_10 : decode cX7_isImage 10 = .ok (.goto 4, 3) := by decide +kernel
theorem dX7_isImage_13 : decode cX7_isImage 13 = .ok (.iconst 0, 1) := by decide +kernel
theorem dX7_isImage_14 : decode cX7_isImage 14 = .ok (.ireturn, 1) := by decide +kernel
theorem dX7_total_0 : decode cX7_total 0 = .ok (.iconst 0, 1) := by decide +kernel
theorem dX7_total_1 : decode cX7_total 1 = .ok (.istore_n 1, 1) := by decide +kernel
theorem dX7_total_2 : decode cX7_total 2 = .ok (.aload_n 0, 1) := by decide +kernel
theorem dX7_total_3 : decode cX7_total 3 = .ok (.astore_n 2, 1) := by decide +kernel
theorem dX7_total_4 : decode cX7_total 4 = .ok (.aload_n 2, 1) := by decide +kernel
theorem dX7_total_5 : decode cX7_total 5 = .ok (.arraylength, 1) := by decide +kernel
theorem dX7_total_6 : decode cX7_total 6 = .ok (.istore_n 3, 1) := by decide +kernel
theorem dX7_total_7 : decode cX7_total 7 = .ok (.iconst 0, 1) := by decide +kernel
theorem dX7_total_8 : decode cX7_total 8 = .ok (.istore 4, 2) := by decide +kernel
theorem dX7_total_10 : decode cX7_total 10 = .ok (.iload 4, 2) := by decide +kernel
theorem dX7_total_12 : decode cX7_total 12 = .ok (.iload_n 3, 1) := by decide +kernel
theorem dX7_total_13 : decode cX7_total 13 = .ok (.if_icmp .ge 20, 3) := by decide +kernel
theorem dX7_total_16 : decode cX7_total 16 = .ok (.aload_n 2, 1) := by decide +kernel
theorem dX7_total_17 : decode cX7_total 17 = .ok (.iload 4, 2) := by decide +kernel
theorem dX7_total_19 : decode cX7_total 19 = .ok (.iaload, 1) := by decide +kernel
theorem dX7_total_20 : decode cX7_total 20 = .ok (.istore 5, 2) := by decide +kernel
theorem dX7_total_22 : decode cX7_total 22 = .ok (.iload_n 1, 1) := by decide +kernel
theorem dX7_total_23 : decode cX7_total 23 = .ok (.iload 5, 2) := by decide +kernel
theorem dX7_total_25 : decode cX7_total 25 = .ok (.iadd, 1) := by decide +kernel
theorem dX7_total_26 : decode cX7_total 26 = .ok (.istore_n 1, 1) := by decide +kernel
theorem dX7_total_27 : decode cX7_total 27 = .ok (.iinc 4 1, 3) := by decide +kernel
theorem dX7_total_30 : decode cX7_total 30 = .ok (.goto (-20), 3) := by decide +kernel
theorem dX7_total_33 : decode cX7_total 33 = .ok (.iload_n 1, 1) := by decide +kernel
theorem dX7_total_34 : decode cX7_total 34 = .ok (.ireturn, 1) := by decide +kernel
theorem dX7_change_0 : decode cX7_change 0 = .ok (.iload_n 1, 1) := by decide +kernel
theorem dX7_change_1 : decode cX7_change 1 = .ok (.iconst 4, 1) := by decide +kernel
theorem dX7_change_2 : decode cX7_change 2 = .ok (.if_icmp .ne 31, 3) := by decide +kernel
theorem dX7_change_5 : decode cX7_change 5 = .ok (.iconst 0, 1) := by decide +kernel
theorem dX7_change_6 : decode cX7_change 6 = .ok (.istore_n 2, 1) := by decide +kernel
theorem dX7_change_7 : decode cX7_change 7 = .ok (.iload_n 2, 1) := by decide +kernel
theorem dX7_change_8 : decode cX7_change 8 = .ok (.iconst 4, 1) := by decide +kernel
theorem dX7_change_9 : decode cX7_change 9 = .ok (.if_icmp .ge 21, 3) := by decide +kernel
theorem dX7_change_12 : decode cX7_change 12 = .ok (.aload_n 0, 1) := by decide +kernel
theorem dX7_change_13 : decode cX7_change 13 = .ok (.iload_n 2, 1) := by decide +kernel
theorem dX7_change_14 : decode cX7_change 14 = .ok (.iconst 0, 1) := by decide +kernel
theorem dX7_change_15 : decode cX7_change 15 = .ok (.aload_n 0, 1) := by decide +kernel
theorem dX7_change_16 : decode cX7_change 16 = .ok (.iload_n 2, 1) := by decide +kernel
theorem dX7_change_17 : decode cX7_change 17 = .ok (.iaload, 1) := by decide +kernel
theorem dX7_change_18 : decode cX7_change 18 = .ok (.iconst 1, 1) := by decide +kernel
theorem dX7_change_19 : decode cX7_change 19 = .ok (.isub, 1) := by decide +kernel
theorem dX7_change_20 : decode cX7_change 20 = .ok (.invokestatic 264, 3) := by decide +kernel
theorem dX7_change_23 : decode cX7_change 23 = .ok (.iastore, 1) := by decide +kernel
theorem dX7_change_24 : decode cX7_change 24 = .ok (.iinc 2 1, 3) := by decide +kernel
theorem dX7_change_27 : decode cX7_change 27 = .ok (.goto (-20), 3) := by decide +kernel
theorem dX7_change_30 : decode cX7_change 30 = .ok (.goto 22, 3) := by decide +kernel
theorem dX7_change_33 : decode cX7_change 33 = .ok (.iload_n 1, 1) := by decide +kernel
theorem dX7_change_34 : decode cX7_change 34 = .ok (.invokestatic 77, 3) := by decide +kernel
theorem dX7_change_37 : decode cX7_change 37 = .ok (.ifCond .eq 15, 3) := by decide +kernel
theorem dX7_change_40 : decode cX7_change 40 = .ok (.aload_n 0, 1) := by decide +kernel
theorem dX7_change_41 : decode cX7_change 41 = .ok (.iload_n 1, 1) := by decide +kernel
theorem dX7_change_42 : decode cX7_change 42 = .ok (.iconst 5, 1) := by decide +kernel
theorem dX7_change_43 : decode cX7_change 43 = .ok (.aload_n 0, 1) := by decide +kernel
theorem dX7_change_44 : decode cX7_change 44 = .ok (.iload_n 1, 1) := by decide +kernel
theorem dX7_change_45 : decode cX7_change 45 = .ok (.iaload, 1) := by decide +kernel
theorem dX7_change_46 : decode cX7_change 46 = .ok (.iconst 1, 1) := by decide +kernel
theorem dX7_change_47 : decode cX7_change 47 = .ok (.iadd, 1) := by decide +kernel
theorem dX7_change_48 : decode cX7_change 48 = .ok (.invokestatic 270, 3) := by decide +kernel
theorem dX7_change_51 : decode cX7_change 51 = .ok (.iastore, 1) := by decide +kernel
theorem dX7_change_52 : decode cX7_change 52 = .ok (.return_, 1) := by decide +kernel
theorem dX7_numberOf_0 : decode cX7_numberOf 0 = .ok (.iconst 0, 1) := by decide +kernel
theorem dX7_numberOf_1 : decode cX7_numberOf 1 = .ok (.istore_n 1, 1) := by decide +kernel
theorem dX7_numberOf_2 : decode cX7_numberOf 2 = .ok (.iconst 0, 1) := by decide +kernel
theorem dX7_numberOf_3 : decode cX7_numberOf 3 = .ok (.istore_n 2, 1) := by decide +kernel
theorem dX7_numberOf_4 : decode cX7_numberOf 4 = .ok (.iload_n 2, 1) := by decide +kernel
theorem dX7_numberOf_5 : decode cX7_numberOf 5 = .ok (.iconst 4, 1) := by decide +kernel
theorem dX7_numberOf_6 : decode cX7_numberOf 6 = .ok (.if_icmp .ge 18, 3) := by decide +kernel
theorem dX7_numberOf_9 : decode cX7_numberOf 9 = .ok (.iload_n 1, 1) := by decide +kernel
theorem dX7_numberOf_10 : decode cX7_numberOf 10 = .ok (.bipush 6, 2) := by decide +kernel
theorem dX7_numberOf_12 : decode cX7_numberOf 12 = .ok (.imul, 1) := by decide +kernel
theorem dX7_numberOf_13 : decode cX7_numberOf 13 = .ok (.aload_n 0, 1) := by decide +kernel
theorem dX7_numberOf_14 : decode cX7_numberOf 14 = .ok (.iload_n 2, 1) := by decide +kernel
theorem dX7_numberOf_15 : decode cX7_numberOf 15 = .ok (.iaload, 1) := by decide +kernel
theorem dX7_numberOf_16 : decode cX7_numberOf 16 = .ok (.iadd, 1) := by decide +kernel
theorem dX7_numberOf_17 : decode cX7_numberOf 17 = .ok (.istore_n 1, 1) := by decide +kernel
theorem dX7_numberOf_18 : decode cX7_numberOf 18 = .ok (.iinc 2 1, 3) := by decide +kernel
theorem dX7_numberOf_21 : decode cX7_numberOf 21 = .ok (.goto (-17), 3) := by decide +kernel
theorem dX7_numberOf_24 : decode cX7_numberOf 24 = .ok (.iload_n 1, 1) := by decide +kernel
theorem dX7_numberOf_25 : decode cX7_numberOf 25 = .ok (.ireturn, 1) := by decide +kernel
theorem dX7_rowOf_0 : decode cX7_rowOf 0 = .ok (.iload_n 0, 1) := by decide +kernel
theorem dX7_rowOf_1 : decode cX7_rowOf 1 = .ok (.istore_n 2, 1) := by decide +kernel
theorem dX7_rowOf_2 : decode cX7_rowOf 2 = .ok (.iconst 3, 1) := by decide +kernel
theorem dX7_rowOf_3 : decode cX7_rowOf 3 = .ok (.istore_n 3, 1) := by decide +kernel
theorem dX7_rowOf_4 : decode cX7_rowOf 4 = .ok (.iload_n 3, 1) := by decide +kernel
theorem dX7_rowOf_5 : decode cX7_rowOf 5 = .ok (.ifCond .lt 21, 3) := by decide +kernel
theorem dX7_rowOf_8 : decode cX7_rowOf 8 = .ok (.aload_n 1, 1) := by decide +kernel
theorem dX7_rowOf_9 : decode cX7_rowOf 9 = .ok (.iload_n 3, 1) := by decide +kernel
theorem dX7_rowOf_10 : decode cX7_rowOf 10 = .ok (.iload_n 2, 1) := by decide +kernel
theorem dX7_rowOf_11 : decode cX7_rowOf 11 = .ok (.bipush 6, 2) := by decide +kernel
theorem dX7_rowOf_13 : decode cX7_rowOf 13 = .ok (.irem, 1) := by decide +kernel
theorem dX7_rowOf_14 : decode cX7_rowOf 14 = .ok (.iastore, 1) := by decide +kernel
theorem dX7_rowOf_15 : decode cX7_rowOf 15 = .ok (.iload_n 2, 1) := by decide +kernel
theorem dX7_rowOf_16 : decode cX7_rowOf 16 = .ok (.bipush 6, 2) := by decide +kernel
theorem dX7_rowOf_18 : decode cX7_rowOf 18 = .ok (.idiv, 1) := by decide +kernel
theorem dX7_rowOf_19 : decode cX7_rowOf 19 = .ok (.istore_n 2, 1) := by decide +kernel
theorem dX7_rowOf_20 : decode cX7_rowOf 20 = .ok (.iinc 3 (-1), 3) := by decide +kernel
theorem dX7_rowOf_23 : decode cX7_rowOf 23 = .ok (.goto (-19), 3) := by decide +kernel
theorem dX7_rowOf_26 : decode cX7_rowOf 26 = .ok (.return_, 1) := by decide +kernel
theorem dX7_inLeastTerms_0 : decode cX7_inLeastTerms 0 = .ok (.iload_n 0, 1) := by decide +kernel
theorem dX7_inLeastTerms_1 : decode cX7_inLeastTerms 1 = .ok (.istore_n 3, 1) := by decide +kernel
theorem dX7_inLeastTerms_2 : decode cX7_inLeastTerms 2 = .ok (.iload_n 1, 1) := by decide +kernel
theorem dX7_inLeastTerms_3 : decode cX7_inLeastTerms 3 = .ok (.istore 4, 2) := by decide +kernel
theorem dX7_inLeastTerms_5 : decode cX7_inLeastTerms 5 = .ok (.iconst 0, 1) := by decide +kernel
theorem dX7_inLeastTerms_6 : decode cX7_inLeastTerms 6 = .ok (.istore 5, 2) := by decide +kernel
theorem dX7_inLeastTerms_8 : decode cX7_inLeastTerms 8 = .ok (.iload 5, 2) := by decide +kernel
theorem dX7_inLeastTerms_10 : decode cX7_inLeastTerms 10 = .ok (.bipush 6, 2) := by decide +kernel
theorem dX7_inLeastTerms_12 : decode cX7_inLeastTerms 12 = .ok (.if_icmp .ge 32, 3) := by decide +kernel
theorem dX7_inLeastTerms_15 : decode cX7_inLeastTerms 15 = .ok (.iload_n 3, 1) := by decide +kernel
theorem dX7_inLeastTerms_16 : decode cX7_inLeastTerms 16 = .ok (.iconst 2, 1) := by decide +kernel
theorem dX7_inLeastTerms_17 : decode cX7_inLeastTerms 17 = .ok (.irem, 1) := by decide +kernel
theorem dX7_inLeastTerms_18 : decode cX7_inLeastTerms 18 = .ok (.ifCond .ne 26, 3) := by decide +kernel
theorem dX7_inLeastTerms_21 : decode cX7_inLeastTerms 21 = .ok (.iload 4, 2) := by decide +kernel
theorem dX7_inLeastTerms_23 : decode cX7_inLeastTerms 23 = .ok (.iconst 2, 1) := by decide +kernel
theorem dX7_inLeastTerms_24 : decode cX7_inLeastTerms 24 = .ok (.irem, 1) := by decide +kernel
theorem dX7_inLeastTerms_25 : decode cX7_inLeastTerms 25 = .ok (.ifCond .ne 19, 3) := by decide +kernel
theorem dX7_inLeastTerms_28 : decode cX7_inLeastTerms 28 = .ok (.iload_n 3, 1) := by decide +kernel
theorem dX7_inLeastTerms_29 : decode cX7_inLeastTerms 29 = .ok (.iconst 2, 1) := by decide +kernel
theorem dX7_inLeastTerms_30 : decode cX7_inLeastTerms 30 = .ok (.idiv, 1) := by decide +kernel
theorem dX7_inLeastTerms_31 : decode cX7_inLeastTerms 31 = .ok (.istore_n 3, 1) := by decide +kernel
theorem dX7_inLeastTerms_32 : decode cX7_inLeastTerms 32 = .ok (.iload 4, 2) := by decide +kernel
theorem dX7_inLeastTerms_34 : decode cX7_inLeastTerms 34 = .ok (.iconst 2, 1) := by decide +kernel
theorem dX7_inLeastTerms_35 : decode cX7_inLeastTerms 35 = .ok (.idiv, 1) := by decide +kernel
theorem dX7_inLeastTerms_36 : decode cX7_inLeastTerms 36 = .ok (.istore 4, 2) := by decide +kernel
theorem dX7_inLeastTerms_38 : decode cX7_inLeastTerms 38 = .ok (.iinc 5 1, 3) := by decide +kernel
theorem dX7_inLeastTerms_41 : decode cX7_inLeastTerms 41 = .ok (.goto (-33), 3) := by decide +kernel
theorem dX7_inLeastTerms_44 : decode cX7_inLeastTerms 44 = .ok (.iconst 0, 1) := by decide +kernel
theorem dX7_inLeastTerms_45 : decode cX7_inLeastTerms 45 = .ok (.istore 5, 2) := by decide +kernel
theorem dX7_inLeastTerms_47 : decode cX7_inLeastTerms 47 = .ok (.iload 5, 2) := by decide +kernel
theorem dX7_inLeastTerms_49 : decode cX7_inLeastTerms 49 = .ok (.bipush 6, 2) := by decide +kernel
theorem dX7_inLeastTerms_51 : decode cX7_inLeastTerms 51 = .ok (.if_icmp .ge 32, 3) := by decide +kernel
theorem dX7_inLeastTerms_54 : decode cX7_inLeastTerms 54 = .ok (.iload_n 3, 1) := by decide +kernel
theorem dX7_inLeastTerms_55 : decode cX7_inLeastTerms 55 = .ok (.iconst 5, 1) := by decide +kernel
theorem dX7_inLeastTerms_56 : decode cX7_inLeastTerms 56 = .ok (.irem, 1) := by decide +kernel
theorem dX7_inLeastTerms_57 : decode cX7_inLeastTerms 57 = .ok (.ifCond .ne 26, 3) := by decide +kernel
theorem dX7_inLeastTerms_60 : decode cX7_inLeastTerms 60 = .ok (.iload 4, 2) := by decide +kernel
theorem dX7_inLeastTerms_62 : decode cX7_inLeastTerms 62 = .ok (.iconst 5, 1) := by decide +kernel
theorem dX7_inLeastTerms_63 : decode cX7_inLeastTerms 63 = .ok (.irem, 1) := by decide +kernel
theorem dX7_inLeastTerms_64 : decode cX7_inLeastTerms 64 = .ok (.ifCond .ne 19, 3) := by decide +kernel
theorem dX7_inLeastTerms_67 : decode cX7_inLeastTerms 67 = .ok (.iload_n 3, 1) := by decide +kernel
theorem dX7_inLeastTerms_68 : decode cX7_inLeastTerms 68 = .ok (.iconst 5, 1) := by decide +kernel
theorem dX7_inLeastTerms_69 : decode cX7_inLeastTerms 69 = .ok (.idiv, 1) := by decide +kernel
theorem dX7_inLeastTerms_70 : decode cX7_inLeastTerms 70 = .ok (.istore_n 3, 1) := by decide +kernel
theorem dX7_inLeastTerms_71 : decode cX7_inLeastTerms 71 = .ok (.iload 4, 2) := by decide +kernel
theorem dX7_inLeastTerms_73 : decode cX7_inLeastTerms 73 = .ok (.iconst 5, 1) := by decide +kernel
theorem dX7_inLeastTerms_74 : decode cX7_inLeastTerms 74 = .ok (.idiv, 1) := by decide +kernel
theorem dX7_inLeastTerms_75 : decode cX7_inLeastTerms 75 = .ok (.istore 4, 2) := by decide +kernel
theorem dX7_inLeastTerms_77 : decode cX7_inLeastTerms 77 = .ok (.iinc 5 1, 3) := by decide +kernel
theorem dX7_inLeastTerms_80 : decode cX7_inLeastTerms 80 = .ok (.goto (-33), 3) := by decide +kernel
theorem dX7_inLeastTerms_83 : decode cX7_inLeastTerms 83 = .ok (.iload_n 2, 1) := by decide +kernel
theorem dX7_inLeastTerms_84 : decode cX7_inLeastTerms 84 = .ok (.ifCond .ne 7, 3) := by decide +kernel
theorem dX7_inLeastTerms_87 : decode cX7_inLeastTerms 87 = .ok (.iload_n 3, 1) := by decide +kernel
theorem dX7_inLeastTerms_88 : decode cX7_inLeastTerms 88 = .ok (.goto 5, 3) := by decide +kernel
theorem dX7_inLeastTerms_91 : decode cX7_inLeastTerms 91 = .ok (.iload 4, 2) := by decide +kernel
theorem dX7_inLeastTerms_93 : decode cX7_inLeastTerms 93 = .ok (.ireturn, 1) := by decide +kernel
end
section
theorem dX8_init_0 : decode cX8_init 0 = .ok (.aload_n 0, 1) := by decide +kernel
theorem dX8_init_1 : decode cX8_init 1 = .ok (.invokespecial 1, 3) := by decide +kernel
theorem dX8_init_4 : decode cX8_init 4 = .ok (.aload_n 0, 1) := by decide +kernel
theorem dX8_init_5 : decode cX8_init 5 = .ok (.bipush 24, 2) := by decide +kernel
theorem dX8_init_7 : decode cX8_init 7 = .ok (.newarray .int, 2) := by decide +kernel
theorem dX8_init_9 : decode cX8_init 9 = .ok (.putfield 7, 3) := by decide +kernel
theorem dX8_init_12 : decode cX8_init 12 = .ok (.aload_n 0, 1) := by decide +kernel
theorem dX8_init_13 : decode cX8_init 13 = .ok (.bipush 6, 2) := by decide +kernel
theorem dX8_init_15 : decode cX8_init 15 = .ok (.newarray .int, 2) := by decide +kernel
theorem dX8_init_17 : decode cX8_init 17 = .ok (.putfield 13, 3) := by decide +kernel
theorem dX8_init_20 : decode cX8_init 20 = .ok (.aload_n 0, 1) := by decide +kernel
theorem dX8_init_21 : decode cX8_init 21 = .ok (.bipush 11, 2) := by decide +kernel
theorem dX8_init_23 : decode cX8_init 23 = .ok (.newarray .int, 2) := by decide +kernel
theorem dX8_init_25 : decode cX8_init 25 = .ok (.putfield 16, 3) := by decide +kernel
theorem dX8_init_28 : decode cX8_init 28 = .ok (.aload_n 0, 1) := by decide +kernel
theorem dX8_init_29 : decode cX8_init 29 = .ok (.bipush 110, 2) := by decide +kernel
theorem dX8_init_31 : decode cX8_init 31 = .ok (.newarray .int, 2) := by decide +kernel
theorem dX8_init_33 : decode cX8_init 33 = .ok (.putfield 19, 3) := by decide +kernel
theorem dX8_init_36 : decode cX8_init 36 = .ok (.aload_n 0, 1) := by decide +kernel
theorem dX8_init_37 : decode cX8_init 37 = .ok (.bipush 22, 2) := by decide +kernel
theorem dX8_init_39 : decode cX8_init 39 = .ok (.newarray .int, 2) := by decide +kernel
theorem dX8_init_41 : decode cX8_init 41 = .ok (.putfield 22, 3) := by decide +kernel
theorem dX8_init_44 : decode cX8_init 44 = .ok (.aload_n 0, 1) := by decide +kernel
theorem dX8_init_45 : decode cX8_init 45 = .ok (.iconst 2, 1) := by decide +kernel
theorem dX8_init_46 : decode cX8_init 46 = .ok (.newarray .boolean, 2) := by decide +kernel
theorem dX8_init_48 : decode cX8_init 48 = .ok (.putfield 25, 3) := by decide +kernel
theorem dX8_init_51 : decode cX8_init 51 = .ok (.aload_n 0, 1) := by decide +kernel
theorem dX8_init_52 : decode cX8_init 52 = .ok (.bipush 16, 2) := by decide +kernel
theorem dX8_init_54 : decode cX8_init 54 = .ok (.newarray .int, 2) := by decide +kernel
theorem dX8_init_56 : decode cX8_init 56 = .ok (.putfield 29, 3) := by decide +kernel
theorem dX8_init_59 : decode cX8_init 59 = .ok (.aload_n 0, 1) := by decide +kernel
theorem dX8_init_60 : decode cX8_init 60 = .ok (.iconst 4, 1) := by decide +kernel
theorem dX8_init_61 : decode cX8_init 61 = .ok (.newarray .int, 2) := by decide +kernel
theorem dX8_init_63 : decode cX8_init 63 = .ok (.putfield 32, 3) := by decide +kernel
theorem dX8_init_66 : decode cX8_init 66 = .ok (.aload_n 0, 1) := by decide +kernel
theorem dX8_init_67 : decode cX8_init 67 = .ok (.bipush 120, 2) := by decide +kernel
theorem dX8_init_69 : decode cX8_init 69 = .ok (.newarray .int, 2) := by decide +kernel
theorem dX8_init_71 : decode cX8_init 71 = .ok (.putfield 35, 3) := by decide +kernel
theorem dX8_init_74 : decode cX8_init 74 = .ok (.aload_n 0, 1) := by decide +kernel
theorem dX8_init_75 : decode cX8_init 75 = .ok (.bipush 36, 2) := by decide +kernel
theorem dX8_init_77 : decode cX8_init 77 = .ok (.newarray .int, 2) := by decide +kernel
theorem dX8_init_79 : decode cX8_init 79 = .ok (.putfield 38, 3) := by decide +kernel
theorem dX8_init_82 : decode cX8_init 82 = .ok (.aload_n 0, 1) := by decide +kernel
theorem dX8_init_83 : decode cX8_init 83 = .ok (.iconst 4, 1) := by decide +kernel
theorem dX8_init_84 : decode cX8_init 84 = .ok (.newarray .int, 2) := by decide +kernel
theorem dX8_init_86 : decode cX8_init 86 = .ok (.putfield 41, 3) := by decide +kernel
theorem dX8_init_89 : decode cX8_init 89 = .ok (.aload_n 0, 1) := by decide +kernel
theorem dX8_init_90 : decode cX8_init 90 = .ok (.bipush 11, 2) := by decide +kernel
theorem dX8_init_92 : decode cX8_init 92 = .ok (.newarray .int, 2) := by decide +kernel
theorem dX8_init_94 : decode cX8_init 94 = .ok (.putfield 44, 3) := by decide +kernel
theorem dX8_init_97 : decode cX8_init 97 = .ok (.aload_n 0, 1) := by decide +kernel
theorem dX8_init_98 : decode cX8_init 98 = .ok (.bipush 9, 2) := by decide +kernel
theorem dX8_init_100 : decode cX8_init 100 = .ok (.newarray .int, 2) := by decide +kernel
theorem dX8_init_102 : decode cX8_init 102 = .ok (.putfield 47, 3) := by decide +kernel
theorem dX8_init_105 : decode cX8_init 105 = .ok (.iconst 0, 1) := by decide +kernel
theorem dX8_init_106 : decode cX8_init 106 = .ok (.istore_n 1, 1) := by decide +kernel
theorem dX8_init_107 : decode cX8_init 107 = .ok (.iload_n 1, 1) := by decide +kernel
theorem dX8_init_108 : decode cX8_init 108 = .ok (.bipush 6, 2) := by decide +kernel
theorem dX8_init_110 : decode cX8_init 110 = .ok (.if_icmp .ge 19, 3) := by decide +kernel
theorem dX8_init_113 : decode cX8_init 113 = .ok (.aload_n 0, 1) := by decide +kernel
theorem dX8_init_114 : decode cX8_init 114 = .ok (.getfield 16, 3) := by decide +kernel
theorem dX8_init_117 : decode cX8_init 117 = .ok (.iconst 5, 1) := by decide +kernel
theorem dX8_init_118 : decode cX8_init 118 = .ok (.iload_n 1, 1) := by decide +kernel
theorem dX8_init_119 : decode cX8_init 119 = .ok (.iadd, 1) := by decide +kernel
theorem dX8_init_120 : decode cX8_init 120 = .ok (.bipush (-9), 2) := by decide +kernel
theorem dX8_init_122 : decode cX8_init 122 = .ok (.iastore, 1) := by decide +kernel
theorem dX8_init_123 : decode cX8_init 123 = .ok (.iinc 1 1, 3) := by decide +kernel
theorem dX8_init_126 : decode cX8_init 126 = .ok (.goto (-19), 3) := by decide +kernel
theorem dX8_init_129 : decode cX8_init 129 = .ok (.return_, 1) := by decide +kernel
theorem dX8_in_0 : decode cX8_in 0 = .ok (.iload_n 0, 1) := by decide +kernel
theorem dX8_in_1 : decode cX8_in 1 = .ok (.iload_n 1, 1) := by decide +kernel
theorem dX8_in_2 : decode cX8_in 2 = .ok (.if_icmp .lt 12, 3) := by decide +kernel
theorem dX8_in_5 : decode cX8_in 5 = .ok (.iload_n 0, 1) := by decide +kernel
theorem dX8_in_6 : decode cX8_in 6 = .ok (.iload_n 2, 1) := by decide +kernel
theorem dX8_in_7 : decode cX8_in 7 = .ok (.if_icmp .gt 7, 3) := by decide +kernel
theorem dX8_in_10 : decode cX8_in 10 = .ok (.iconst 1, 1) := by decide +kernel
theorem dX8_in_11 : decode cX8_in 11 = .ok (.goto 4, 3) := by decide +kernel
theorem dX8_in_14 : decode cX8_in 14 = .ok (.iconst 0, 1) := by decide +kernel
theorem dX8_in_15 : decode cX8_in 15 = .ok (.ireturn, 1) := by decide +kernel
theorem dX8_has_0 : decode cX8_has 0 = .ok (.iload_n 0, 1) := by decide +kernel
theorem dX8_has_1 : decode cX8_has 1 = .ok (.iload_n 1, 1) := by decide +kernel
theorem dX8_has_2 : decode cX8_has 2 = .ok (.ishr, 1) := by decide +kernel
theorem dX8_has_3 : decode cX8_has 3 = .ok (.iconst 1, 1) := by decide +kernel
theorem dX8_has_4 : decode cX8_has 4 = .ok (.iand, 1) := by decide +kernel
theorem dX8_has_5 : decode cX8_has 5 = .ok (.iconst 1, 1) := by decide +kernel
theorem dX8_has_6 : decode cX8_has 6 = .ok (.if_icmp .ne 7, 3) := by decide +kernel
theorem dX8_has_9 : decode cX8_has 9 = .ok (.iconst 1, 1) := by decide +kernel
theorem dX8_has_10 : decode cX8_has 10 = .ok (.goto 4, 3) := by decide +kernel
theorem dX8_has_13 : decode cX8_has 13 = .ok (.iconst 0, 1) := by decide +kernel
theorem dX8_has_14 : decode cX8_has 14 = .ok (.ireturn, 1) := by decide +kernel
theorem dX8_bits_0 : decode cX8_bits 0 = .ok (.iconst 0, 1) := by decide +kernel
theorem dX8_bits_1 : decode cX8_bits 1 = .ok (.istore_n 1, 1) := by decide +kernel
theorem dX8_bits_2 : decode cX8_bits 2 = .ok (.iconst 0, 1) := by decide +kernel
theorem dX8_bits_3 : decode cX8_bits 3 = .ok (.istore_n 2, 1) := by decide +kernel
theorem dX8_bits_4 : decode cX8_bits 4 = .ok (.iload_n 2, 1) := by decide +kernel
theorem dX8_bits_5 : decode cX8_bits 5 = .ok (.bipush 6, 2) := by decide +kernel
theorem dX8_bits_7 : decode cX8_bits 7 = .ok (.if_icmp .ge 17, 3) := by decide +kernel
theorem dX8_bits_10 : decode cX8_bits 10 = .ok (.iload_n 1, 1) := by decide +kernel
theorem dX8_bits_11 : decode cX8_bits 11 = .ok (.iload_n 0, 1) := by decide +kernel
theorem dX8_bits_12 : decode cX8_bits 12 = .ok (.iload_n 2, 1) := by decide +kernel
theorem dX8_bits_13 : decode cX8_bits 13 = .ok (.ishr, 1) := by decide +kernel
theorem dX8_bits_14 : decode cX8_bits 14 = .ok (.iconst 1, 1) := by decide +kernel
theorem dX8_bits_15 : decode cX8_bits 15 = .ok (.iand, 1) := by decide +kernel
theorem dX8_bits_16 : decode cX8_bits 16 = .ok (.iadd, 1) := by decide +kernel
theorem dX8_bits_17 : decode cX8_bits 17 = .ok (.istore_n 1, 1) := by decide +kernel
theorem dX8_bits_18 : decode cX8_bits 18 = .ok (.iinc 2 1, 3) := by decide +kernel
theorem dX8_bits_21 : decode cX8_bits 21 = .ok (.goto (-17), 3) := by decide +kernel
theorem dX8_bits_24 : decode cX8_bits 24 = .ok (.iload_n 1, 1) := by decide +kernel
theorem dX8_bits_25 : decode cX8_bits 25 = .ok (.ireturn, 1) := by decide +kernel
theorem dX8_isBrother_0 : decode cX8_isBrother 0 = .ok (.iload_n 1, 1) := by decide +kernel
theorem dX8_isBrother_1 : decode cX8_isBrother 1 = .ok (.iconst 0, 1) := by decide +kernel
theorem dX8_isBrother_2 : decode cX8_isBrother 2 = .ok (.aload_n 0, 1) := by decide +kernel
theorem dX8_isBrother_3 : decode cX8_isBrother 3 = .ok (.getfield 50, 3) := by decide +kernel
theorem dX8_isBrother_6 : decode cX8_isBrother 6 = .ok (.iconst 1, 1) := by decide +kernel
theorem dX8_isBrother_7 : decode cX8_isBrother 7 = .ok (.isub, 1) := by decide +kernel
theorem dX8_isBrother_8 : decode cX8_isBrother 8 = .ok (.invokestatic 54, 3) := by decide +kernel
theorem dX8_isBrother_11 : decode cX8_isBrother 11 = .ok (.ireturn, 1) := by decide +kernel
theorem dX8_isPart_0 : decode cX8_isPart 0 = .ok (.iload_n 0, 1) := by decide +kernel
theorem dX8_isPart_1 : decode cX8_isPart 1 = .ok (.iconst 0, 1) := by decide +kernel
theorem dX8_isPart_2 : decode cX8_isPart 2 = .ok (.iconst 3, 1) := by decide +kernel
theorem dX8_isPart_3 : decode cX8_isPart 3 = .ok (.invokestatic 54, 3) := by decide +kernel
theorem dX8_isPart_6 : decode cX8_isPart 6 = .ok (.ireturn, 1) := by decide +kernel
theorem dX8_copy_0 : decode cX8_copy 0 = .ok (.iconst 0, 1) := by decide +kernel
theorem dX8_copy_1 : decode cX8_copy 1 = .ok (.istore 4, 2) := by decide +kernel
theorem dX8_copy_3 : decode cX8_copy 3 = .ok (.iload 4, 2) := by decide +kernel
theorem dX8_copy_5 : decode cX8_copy 5 = .ok (.bipush 11, 2) := by decide +kernel
theorem dX8_copy_7 : decode cX8_copy 7 = .ok (.if_icmp .ge 21, 3) := by decide +kernel
theorem dX8_copy_10 : decode cX8_copy 10 = .ok (.aload_n 0, 1) := by decide +kernel
theorem dX8_copy_11 : decode cX8_copy 11 = .ok (.iload_n 1, 1) := by decide +kernel
theorem dX8_copy_12 : decode cX8_copy 12 = .ok (.iload 4, 2) := by decide +kernel
theorem dX8_copy_14 : decode cX8_copy 14 = .ok (.iadd, 1) := by decide +kernel
theorem dX8_copy_15 : decode cX8_copy 15 = .ok (.aload_n 2, 1) := by decide +kernel
theorem dX8_copy_16 : decode cX8_copy 16 = .ok (.iload_n 3, 1) := by decide +kernel
theorem dX8_copy_17 : decode cX8_copy 17 = .ok (.iload 4, 2) := by decide +kernel
theorem dX8_copy_19 : decode cX8_copy 19 = .ok (.iadd, 1) := by decide +kernel
theorem dX8_copy_20 : decode cX8_copy 20 = .ok (.iaload, 1) := by decide +kernel
theorem dX8_copy_21 : decode cX8_copy 21 = .ok (.iastore, 1) := by decide +kernel
theorem dX8_copy_22 : decode cX8_copy 22 = .ok (.iinc 4 1, 3) := by decide +kernel
theorem dX8_copy_25 : decode cX8_copy 25 = .ok (.goto (-22), 3) := by decide +kernel
theorem dX8_copy_28 : decode cX8_copy 28 = .ok (.return_, 1) := by decide +kernel
theorem dX8_type_0 : decode cX8_type 0 = .ok (.iload_n 1, 1) := by decide +kernel
theorem dX8_type_1 : decode cX8_type 1 = .ok (.iconst 0, 1) := by decide +kernel
theorem dX8_type_2 : decode cX8_type 2 = .ok (.sipush 255, 3) := by decide +kernel
theorem dX8_type_5 : decode cX8_type 5 = .ok (.invokestatic 54, 3) := by decide +kernel
theorem dX8_type_8 : decode cX8_type 8 = .ok (.ifCond .ne 5, 3) := by decide +kernel
theorem dX8_type_11 : decode cX8_type 11 = .ok (.iconst (-1), 1) := by decide +kernel
theorem dX8_type_12 : decode cX8_type 12 = .ok (.ireturn, 1) := by decide +kernel
theorem dX8_type_13 : decode cX8_type 13 = .ok (.aload_n 0, 1) := by decide +kernel
theorem dX8_type_14 : decode cX8_type 14 = .ok (.getfield 58, 3) := by decide +kernel
theorem dX8_type_17 : decode cX8_type 17 = .ok (.bipush 120, 2) := by decide +kernel
theorem dX8_type_19 : decode cX8_type 19 = .ok (.if_icmp .ne 6, 3) := by decide +kernel
theorem dX8_type_22 : decode cX8_type 22 = .ok (.bipush (-3), 2) := by decide +kernel
theorem dX8_type_24 : decode cX8_type 24 = .ok (.ireturn, 1) := by decide +kernel
theorem dX8_type_25 : decode cX8_type 25 = .ok (.aload_n 0, 1) := by decide +kernel
theorem dX8_type_26 : decode cX8_type 26 = .ok (.getfield 35, 3) := by decide +kernel
theorem dX8_type_29 : decode cX8_type 29 = .ok (.aload_n 0, 1) := by decide +kernel
theorem dX8_type_30 : decode cX8_type 30 = .ok (.getfield 58, 3) := by decide +kernel
theorem dX8_type_33 : decode cX8_type 33 = .ok (.iload_n 1, 1) := by decide +kernel
theorem dX8_type_34 : decode cX8_type 34 = .ok (.iastore, 1) := by decide +kernel
theorem dX8_type_35 : decode cX8_type 35 = .ok (.aload_n 0, 1) := by decide +kernel
theorem dX8_type_36 : decode cX8_type 36 = .ok (.dup, 1) := by decide +kernel
theorem dX8_type_37 : decode cX8_type 37 = .ok (.getfield 58, 3) := by decide +kernel
theorem dX8_type_40 : decode cX8_type 40 = .ok (.iconst 1, 1) := by decide +kernel
theorem dX8_type_41 : decode cX8_type 41 = .ok (.iadd, 1) := by decide +kernel
theorem dX8_type_42 : decode cX8_type 42 = .ok (.putfield 58, 3) := by decide +kernel
theorem dX8_type_45 : decode cX8_type 45 = .ok (.aload_n 0, 1) := by decide +kernel
theorem dX8_type_46 : decode cX8_type 46 = .ok (.getfield 58, 3) := by decide +kernel
theorem dX8_type_49 : decode cX8_type 49 = .ok (.ireturn, 1) := by decide +kernel
theorem dX8_clear_0 : decode cX8_clear 0 = .ok (.aload_n 0, 1) := by decide +kernel
theorem dX8_clear_1 : decode cX8_clear 1 = .ok (.getfield 58, 3) := by decide +kernel
theorem dX8_clear_4 : decode cX8_clear 4 = .ok (.istore_n 1, 1) := by decide +kernel
theorem dX8_clear_5 : decode cX8_clear 5 = .ok (.aload_n 0, 1) := by decide +kernel
theorem dX8_clear_6 : decode cX8_clear 6 = .ok (.iconst 0, 1) := by decide +kernel
theorem dX8_clear_7 : decode cX8_clear 7 = .ok (.putfield 58, 3) := by decide +kernel
theorem dX8_clear_10 : decode cX8_clear 10 = .ok (.iload_n 1, 1) := by decide +kernel
theorem dX8_clear_11 : decode cX8_clear 11 = .ok (.ireturn, 1) := by decide +kernel
theorem dX8_letterAt_0 : decode cX8_letterAt 0 = .ok (.iload_n 1, 1) := by decide +kernel
theorem dX8_letterAt_1 : decode cX8_letterAt 1 = .ok (.aload_n 0, 1) := by decide +kernel
theorem dX8_letterAt_2 : decode cX8_letterAt 2 = .ok (.getfield 58, 3) := by decide +kernel
theorem dX8_letterAt_5 : decode cX8_letterAt 5 = .ok (.if_icmp .ge 12, 3) := by decide +kernel
theorem dX8_letterAt_8 : decode cX8_letterAt 8 = .ok (.aload_n 0, 1) := by decide +kernel
theorem dX8_letterAt_9 : decode cX8_letterAt 9 = .ok (.getfield 35, 3) := by decide +kernel
theorem dX8_letterAt_12 : decode cX8_letterAt 12 = .ok (.iload_n 1, 1) := by decide +kernel
theorem dX8_letterAt_13 : decode cX8_letterAt 13 = .ok (.iaload, 1) := by decide +kernel
theorem dX8_letterAt_14 : decode cX8_letterAt 14 = .ok (.goto 4, 3) := by decide +kernel
theorem dX8_letterAt_17 : decode cX8_letterAt 17 = .ok (.iconst (-1), 1) := by decide +kernel
theorem dX8_letterAt_18 : decode cX8_letterAt 18 = .ok (.ireturn, 1) := by decide +kernel
theorem dX8_isFigure_0 : decode cX8_isFigure 0 = .ok (.iload_n 0, 1) := by decide +kernel
theorem dX8_isFigure_1 : decode cX8_isFigure 1 = .ok (.bipush 48, 2) := by decide +kernel
theorem dX8_isFigure_3 : decode cX8_isFigure 3 = .ok (.bipush 57, 2) := by decide +kernel
theorem dX8_isFigure_5 : decode cX8_isFigure 5 = .ok (.invokestatic 54, 3) := by decide +kernel
theorem dX8_isFigure_8 : decode cX8_isFigure 8 = .ok (.ireturn, 1) := by decide +kernel
theorem dX8_next_0 : decode cX8_next 0 = .ok (.aload_n 0, 1) := by decide +kernel
theorem dX8_next_1 : decode cX8_next 1 = .ok (.aload_n 0, 1) := by decide +kernel
theorem dX8_next_2 : decode cX8_next 2 = .ok (.getfield 61, 3) := by decide +kernel
theorem dX8_next_5 : decode cX8_next 5 = .ok (.invokevirtual 64, 3) := by decide +kernel
theorem dX8_next_8 : decode cX8_next 8 = .ok (.bipush 32, 2) := by decide +kernel
theorem dX8_next_10 : decode cX8_next 10 = .ok (.if_icmp .ne 16, 3) := by decide +kernel
theorem dX8_next_13 : decode cX8_next 13 = .ok (.aload_n 0, 1) := by decide +kernel
theorem dX8_next_14 : decode cX8_next 14 = .ok (.dup, 1) := by decide +kernel
theorem dX8_next_15 : decode cX8_next 15 = .ok (.getfield 61, 3) := by decide +kernel
theorem dX8_next_18 : decode cX8_next 18 = .ok (.iconst 1, 1) := by decide +kernel
theorem dX8_next_19 : decode cX8_next 19 = .ok (.iadd, 1) := by decide +kernel
theorem dX8_next_20 : decode cX8_next 20 = .ok (.putfield 61, 3) := by decide +kernel
theorem dX8_next_23 : decode cX8_next 23 = .ok (.goto (-23), 3) := by decide +kernel
theorem dX8_next_26 : decode cX8_next 26 = .ok (.aload_n 0, 1) := by decide +kernel
theorem dX8_next_27 : decode cX8_next 27 = .ok (.aload_n 0, 1) := by decide +kernel
theorem dX8_next_28 : decode cX8_next 28 = .ok (.getfield 61, 3) := by decide +kernel
theorem dX8_next_31 : decode cX8_next 31 = .ok (.putfield 68, 3) := by decide +kernel
theorem dX8_next_34 : decode cX8_next 34 = .ok (.aload_n 0, 1) := by decide +kernel
theorem dX8_next_35 : decode cX8_next 35 = .ok (.aload_n 0, 1) := by decide +kernel
theorem dX8_next_36 : decode cX8_next 36 = .ok (.getfield 61, 3) := by decide +kernel
theorem dX8_next_39 : decode cX8_next 39 = .ok (.invokevirtual 64, 3) := by decide +kernel
theorem dX8_next_42 : decode cX8_next 42 = .ok (.istore_n 1, 1) := by decide +kernel
theorem dX8_next_43 : decode cX8_next 43 = .ok (.aload_n 0, 1) := by decide +kernel
theorem dX8_next_44 : decode cX8_next 44 = .ok (.iconst 0, 1) := by decide +kernel
theorem dX8_next_45 : decode cX8_next 45 = .ok (.putfield 71, 3) := by decide +kernel
theorem dX8_next_48 : decode cX8_next 48 = .ok (.iload_n 1, 1) := by decide +kernel
theorem dX8_next_49 : decode cX8_next 49 = .ok (.ifCond .ge 11, 3) := by decide +kernel
theorem dX8_next_52 : decode cX8_next 52 = .ok (.aload_n 0, 1) := by decide +kernel
theorem dX8_next_53 : decode cX8_next 53 = .ok (.iconst 0, 1) := by decide +kernel
theorem dX8_next_54 : decode cX8_next 54 = .ok (.putfield 74, 3) := by decide +kernel
theorem dX8_next_57 : decode cX8_next 57 = .ok (.goto 162, 3) := by decide +kernel
theorem dX8_next_60 : decode cX8_next 60 = .ok (.iload_n 1, 1) := by decide +kernel
theorem dX8_next_61 : decode cX8_next 61 = .ok (.invokestatic 77, 3) := by decide +kernel
theorem dX8_next_64 : decode cX8_next 64 = .ok (.ifCond .eq 109, 3) := by decide +kernel
theorem dX8_next_67 : decode cX8_next 67 = .ok (.aload_n 0, 1) := by decide +kernel
theorem dX8_next_68 : decode cX8_next 68 = .ok (.aload_n 0, 1) := by decide +kernel
theorem dX8_next_69 : decode cX8_next 69 = .ok (.getfield 61, 3) := by decide +kernel
theorem dX8_next_72 : decode cX8_next 72 = .ok (.invokevirtual 64, 3) := by decide +kernel
theorem dX8_next_75 : decode cX8_next 75 = .ok (.invokestatic 77, 3) := by decide +kernel
theorem dX8_next_78 : decode cX8_next 78 = .ok (.ifCond .eq 55, 3) := by decide +kernel
theorem dX8_next_81 : decode cX8_next 81 = .ok (.aload_n 0, 1) := by decide +kernel
theorem dX8_next_82 : decode cX8_next 82 = .ok (.aload_n 0, 1) := by decide +kernel
theorem dX8_next_83 : decode cX8_next 83 = .ok (.getfield 71, 3) := by decide +kernel
theorem dX8_next_86 : decode cX8_next 86 = .ok (.bipush 99, 2) := by decide +kernel
theorem dX8_next_88 : decode cX8_next 88 = .ok (.if_icmp .le 10, 3) := by decide +kernel
theorem dX8_next_91 : decode cX8_next 91 = .ok (.aload_n 0, 1) := by decide +kernel
theorem dX8_next_92 : decode cX8_next 92 = .ok (.getfield 71, 3) := by decide +kernel
theorem dX8_next_95 : decode cX8_next 95 = .ok (.goto 22, 3) := by decide +kernel
theorem dX8_next_98 : decode cX8_next 98 = .ok (.bipush 10, 2) := by decide +kernel
theorem dX8_next_100 : decode cX8_next 100 = .ok (.aload_n 0, 1) := by decide +kernel
theorem dX8_next_101 : decode cX8_next 101 = .ok (.getfield 71, 3) := by decide +kernel
theorem dX8_next_104 : decode cX8_next 104 = .ok (.imul, 1) := by decide +kernel
theorem dX8_next_105 : decode cX8_next 105 = .ok (.aload_n 0, 1) := by decide +kernel
theorem dX8_next_106 : decode cX8_next 106 = .ok (.aload_n 0, 1) := by decide +kernel
theorem dX8_next_107 : decode cX8_next 107 = .ok (.getfield 61, 3) := by decide +kernel
theorem dX8_next_110 : decode cX8_next 110 = .ok (.invokevirtual 64, 3) := by decide +kernel
theorem dX8_next_113 : decode cX8_next 113 = .ok (.iadd, 1) := by decide +kernel
theorem dX8_next_114 : decode cX8_next 114 = .ok (.bipush 48, 2) := by decide +kernel
theorem dX8_next_116 : decode cX8_next 116 = .ok (.isub, 1) := by decide +kernel
theorem dX8_next_117 : decode cX8_next 117 = .ok (.putfield 71, 3) := by decide +kernel
theorem dX8_next_120 : decode cX8_next 120 = .ok (.aload_n 0, 1) := by decide +kernel
theorem dX8_next_121 : decode cX8_next 121 = .ok (.dup, 1) := by decide +kernel
theorem dX8_next_122 : decode cX8_next 122 = .ok (.getfield 61, 3) := by decide +kernel
theorem dX8_next_125 : decode cX8_next 125 = .ok (.iconst 1, 1) := by decide +kernel
theorem dX8_next_126 : decode cX8_next 126 = .ok (.iadd, 1) := by decide +kernel
theorem dX8_next_127 : decode cX8_next 127 = .ok (.putfield 61, 3) := by decide +kernel
theorem dX8_next_130 : decode cX8_next 130 = .ok (.goto (-63), 3) := by decide +kernel
theorem dX8_next_133 : decode cX8_next 133 = .ok (.aload_n 0, 1) := by decide +kernel
theorem dX8_next_134 : decode cX8_next 134 = .ok (.aload_n 0, 1) := by decide +kernel
theorem dX8_next_135 : decode cX8_next 135 = .ok (.getfield 71, 3) := by decide +kernel
theorem dX8_next_138 : decode cX8_next 138 = .ok (.bipush 99, 2) := by decide +kernel
theorem dX8_next_140 : decode cX8_next 140 = .ok (.if_icmp .gt 22, 3) := by decide +kernel
theorem dX8_next_143 : decode cX8_next 143 = .ok (.iload_n 1, 1) := by decide +kernel
theorem dX8_next_144 : decode cX8_next 144 = .ok (.bipush 48, 2) := by decide +kernel
theorem dX8_next_146 : decode cX8_next 146 = .ok (.if_icmp .ne 20, 3) := by decide +kernel
theorem dX8_next_149 : decode cX8_next 149 = .ok (.aload_n 0, 1) := by decide +kernel
theorem dX8_next_150 : decode cX8_next 150 = .ok (.getfield 61, 3) := by decide +kernel
theorem dX8_next_153 : decode cX8_next 153 = .ok (.aload_n 0, 1) := by decide +kernel
theorem dX8_next_154 : decode cX8_next 154 = .ok (.getfield 68, 3) := by decide +kernel
theorem dX8_next_157 : decode cX8_next 157 = .ok (.isub, 1) := by decide +kernel
theorem dX8_next_158 : decode cX8_next 158 = .ok (.iconst 1, 1) := by decide +kernel
theorem dX8_next_159 : decode cX8_next 159 = .ok (.if_icmp .le 7, 3) := by decide +kernel
theorem dX8_next_162 : decode cX8_next 162 = .ok (.iconst 4, 1) := by decide +kernel
theorem dX8_next_163 : decode cX8_next 163 = .ok (.goto 4, 3) := by decide +kernel
theorem dX8_next_166 : decode cX8_next 166 = .ok (.iconst 2, 1) := by decide +kernel
theorem dX8_next_167 : decode cX8_next 167 = .ok (.putfield 74, 3) := by decide +kernel
theorem dX8_next_170 : decode cX8_next 170 = .ok (.goto 49, 3) := by decide +kernel
theorem dX8_next_173 : decode cX8_next 173 = .ok (.aload_n 0, 1) := by decide +kernel
theorem dX8_next_174 : decode cX8_next 174 = .ok (.iload_n 1, 1) := by decide +kernel
theorem dX8_next_175 : decode cX8_next 175 = .ok (.bipush 98, 2) := by decide +kernel
theorem dX8_next_177 : decode cX8_next 177 = .ok (.if_icmp .eq 9, 3) := by decide +kernel
theorem dX8_next_180 : decode cX8_next 180 = .ok (.iload_n 1, 1) := by decide +kernel
theorem dX8_next_181 : decode cX8_next 181 = .ok (.bipush 112, 2) := by decide +kernel
theorem dX8_next_183 : decode cX8_next 183 = .ok (.if_icmp .ne 7, 3) := by decide +kernel
theorem dX8_next_186 : decode cX8_next 186 = .ok (.iconst 1, 1) := by decide +kernel
theorem dX8_next_187 : decode cX8_next 187 = .ok (.goto 14, 3) := by decide +kernel
theorem dX8_next_190 : decode cX8_next 190 = .ok (.iload_n 1, 1) := by decide +kernel
theorem dX8_next_191 : decode cX8_next 191 = .ok (.bipush 59, 2) := by decide +kernel
theorem dX8_next_193 : decode cX8_next 193 = .ok (.if_icmp .ne 7, 3) := by decide +kernel
theorem dX8_next_196 : decode cX8_next 196 = .ok (.iconst 3, 1) := by decide +kernel
theorem dX8_next_197 : decode cX8_next 197 = .ok (.goto 4, 3) := by decide +kernel
theorem dX8_next_200 : decode cX8_next 200 = .ok (.iconst 4, 1) := by decide +kernel
theorem dX8_next_201 : decode cX8_next 201 = .ok (.putfield 74, 3) := by decide +kernel
theorem dX8_next_204 : decode cX8_next 204 = .ok (.aload_n 0, 1) := by decide +kernel
theorem dX8_next_205 : decode cX8_next 205 = .ok (.iload_n 1, 1) := by decide +kernel
theorem dX8_next_206 : decode cX8_next 206 = .ok (.putfield 71, 3) := by decide +kernel
theorem dX8_next_209 : decode cX8_next 209 = .ok (.aload_n 0, 1) := by decide +kernel
theorem dX8_next_210 : decode cX8_next 210 = .ok (.dup, 1) := by decide +kernel
theorem dX8_next_211 : decode cX8_next 211 = .ok (.getfield 61, 3) := by decide +kernel
theorem dX8_next_214 : decode cX8_next 214 = .ok (.iconst 1, 1) := by decide +kernel
theorem dX8_next_215 : decode cX8_next 215 = .ok (.iadd, 1) := by decide +kernel
theorem dX8_next_216 : decode cX8_next 216 = .ok (.putfield 61, 3) := by decide +kernel
theorem dX8_next_219 : decode cX8_next 219 = .ok (.return_, 1) := by decide +kernel
theorem dX8_takesNumber_0 : decode cX8_takesNumber 0 = .ok (.aload_n 0, 1) := by decide +kernel
theorem dX8_takesNumber_1 : decode cX8_takesNumber 1 = .ok (.getfield 81, 3) := by decide +kernel
theorem dX8_takesNumber_4 : decode cX8_takesNumber 4 = .ok (.ifCond .ne 27, 3) := by decide +kernel
theorem dX8_takesNumber_7 : decode cX8_takesNumber 7 = .ok (.aload_n 0, 1) := by decide +kernel
theorem dX8_takesNumber_8 : decode cX8_takesNumber 8 = .ok (.getfield 74, 3) := by decide +kernel
theorem dX8_takesNumber_11 : decode cX8_takesNumber 11 = .ok (.iconst 2, 1) := by decide +kernel
theorem dX8_takesNumber_12 : decode cX8_takesNumber 12 = .ok (.if_icmp .ne 19, 3) := by decide +kernel
theorem dX8_takesNumber_15 : decode cX8_takesNumber 15 = .ok (.aload_n 0, 1) := by decide +kernel
theorem dX8_takesNumber_16 : decode cX8_takesNumber 16 = .ok (.getfield 71, 3) := by decide +kernel
theorem dX8_takesNumber_19 : decode cX8_takesNumber 19 = .ok (.iload_n 1, 1) := by decide +kernel
theorem dX8_takesNumber_20 : decode cX8_takesNumber 20 = .ok (.iload_n 2, 1) := by decide +kernel
theorem dX8_takesNumber_21 : decode cX8_takesNumber 21 = .ok (.invokestatic 54, 3) := by decide +kernel
theorem dX8_takesNumber_24 : decode cX8_takesNumber 24 = .ok (.ifCond .eq 7, 3) := by decide +kernel
theorem dX8_takesNumber_27 : decode cX8_takesNumber 27 = .ok (.iconst 1, 1) := by decide +kernel
theorem dX8_takesNumber_28 : decode cX8_takesNumber 28 = .ok (.goto 4, 3) := by decide +kernel
theorem dX8_takesNumber_31 : decode cX8_takesNumber 31 = .ok (.iconst 0, 1) := by decide +kernel
theorem dX8_takesNumber_32 : decode cX8_takesNumber 32 = .ok (.istore_n 3, 1) := by decide +kernel
theorem dX8_takesNumber_33 : decode cX8_takesNumber 33 = .ok (.aload_n 0, 1) := by decide +kernel
theorem dX8_takesNumber_34 : decode cX8_takesNumber 34 = .ok (.iload_n 3, 1) := by decide +kernel
theorem dX8_takesNumber_35 : decode cX8_takesNumber 35 = .ok (.ifCond .ne 7, 3) := by decide +kernel
theorem dX8_takesNumber_38 : decode cX8_takesNumber 38 = .ok (.iconst 1, 1) := by decide +kernel
theorem dX8_takesNumber_39 : decode cX8_takesNumber 39 = .ok (.goto 4, 3) := by decide +kernel
theorem dX8_takesNumber_42 : decode cX8_takesNumber 42 = .ok (.iconst 0, 1) := by decide +kernel
theorem dX8_takesNumber_43 : decode cX8_takesNumber 43 = .ok (.putfield 81, 3) := by decide +kernel
theorem dX8_takesNumber_46 : decode cX8_takesNumber 46 = .ok (.aload_n 0, 1) := by decide +kernel
theorem dX8_takesNumber_47 : decode cX8_takesNumber 47 = .ok (.getfield 71, 3) := by decide +kernel
theorem dX8_takesNumber_50 : decode cX8_takesNumber 50 = .ok (.istore 4, 2) := by decide +kernel
theorem dX8_takesNumber_52 : decode cX8_takesNumber 52 = .ok (.iload_n 3, 1) := by decide +kernel
theorem dX8_takesNumber_53 : decode cX8_takesNumber 53 = .ok (.ifCond .eq 7, 3) := by decide +kernel
theorem dX8_takesNumber_56 : decode cX8_takesNumber 56 = .ok (.aload_n 0, 1) := by decide +kernel
theorem dX8_takesNumber_57 : decode cX8_takesNumber 57 = .ok (.invokevirtual 85, 3) := by decide +kernel
theorem dX8_takesNumber_60 : decode cX8_takesNumber 60 = .ok (.iload_n 3, 1) := by decide +kernel
theorem dX8_takesNumber_61 : decode cX8_takesNumber 61 = .ok (.ifCond .eq 8, 3) := by decide +kernel
theorem dX8_takesNumber_64 : decode cX8_takesNumber 64 = .ok (.iload 4, 2) := by decide +kernel
theorem dX8_takesNumber_66 : decode cX8_takesNumber 66 = .ok (.goto 4, 3) := by decide +kernel
theorem dX8_takesNumber_69 : decode cX8_takesNumber 69 = .ok (.iconst 0, 1) := by decide +kernel
theorem dX8_takesNumber_70 : decode cX8_takesNumber 70 = .ok (.ireturn, 1) := by decide +kernel
theorem dX8_readBrother_0 : decode cX8_readBrother 0 = .ok (.bipush 6, 2) := by decide +kernel
theorem dX8_readBrother_2 : decode cX8_readBrother 2 = .ok (.aload_n 0, 1) := by decide +kernel
theorem dX8_readBrother_3 : decode cX8_readBrother 3 = .ok (.getfield 88, 3) := by decide +kernel
theorem dX8_readBrother_6 : decode cX8_readBrother 6 = .ok (.imul, 1) := by decide +kernel
theorem dX8_readBrother_7 : decode cX8_readBrother 7 = .ok (.istore_n 1, 1) := by decide +kernel
theorem dX8_readBrother_8 : decode cX8_readBrother 8 = .ok (.iconst 0, 1) := by decide +kernel
theorem dX8_readBrother_9 : decode cX8_readBrother 9 = .ok (.istore_n 2, 1) := by decide +kernel
theorem dX8_readBrother_10 : decode cX8_readBrother 10 = .ok (.iload_n 2, 1) := by decide +kernel
theorem dX8_readBrother_11 : decode cX8_readBrother 11 = .ok (.iconst 4, 1) := by decide +kernel
theorem dX8_readBrother_12 : decode cX8_readBrother 12 = .ok (.if_icmp .ge 23, 3) := by decide +kernel
theorem dX8_readBrother_15 : decode cX8_readBrother 15 = .ok (.aload_n 0, 1) := by decide +kernel
theorem dX8_readBrother_16 : decode cX8_readBrother 16 = .ok (.getfield 38, 3) := by decide +kernel
theorem dX8_readBrother_19 : decode cX8_readBrother 19 = .ok (.iload_n 1, 1) := by decide +kernel
theorem dX8_readBrother_20 : decode cX8_readBrother 20 = .ok (.iload_n 2, 1) := by decide +kernel
theorem dX8_readBrother_21 : decode cX8_readBrother 21 = .ok (.iadd, 1) := by decide +kernel
theorem dX8_readBrother_22 : decode cX8_readBrother 22 = .ok (.aload_n 0, 1) := by decide +kernel
theorem dX8_readBrother_23 : decode cX8_readBrother 23 = .ok (.iconst 0, 1) := by decide +kernel
theorem dX8_readBrother_24 : decode cX8_readBrother 24 = .ok (.iconst 5, 1) := by decide +kernel
theorem dX8_readBrother_25 : decode cX8_readBrother 25 = .ok (.invokevirtual 91, 3) := by decide +kernel
theorem dX8_readBrother_28 : decode cX8_readBrother 28 = .ok (.iastore, 1) := by decide +kernel
theorem dX8_readBrother_29 : decode cX8_readBrother 29 = .ok (.iinc 2 1, 3) := by decide +kernel
theorem dX8_readBrother_32 : decode cX8_readBrother 32 = .ok (.goto (-22), 3) := by decide +kernel
theorem dX8_readBrother_35 : decode cX8_readBrother 35 = .ok (.aload_n 0, 1) := by decide +kernel
theorem dX8_readBrother_36 : decode cX8_readBrother 36 = .ok (.getfield 38, 3) := by decide +kernel
theorem dX8_readBrother_39 : decode cX8_readBrother 39 = .ok (.iload_n 1, 1) := by decide +kernel
theorem dX8_readBrother_40 : decode cX8_readBrother 40 = .ok (.iconst 4, 1) := by decide +kernel
theorem dX8_readBrother_41 : decode cX8_readBrother 41 = .ok (.iadd, 1) := by decide +kernel
theorem dX8_readBrother_42 : decode cX8_readBrother 42 = .ok (.aload_n 0, 1) := by decide +kernel
theorem dX8_readBrother_43 : decode cX8_readBrother 43 = .ok (.iconst 0, 1) := by decide +kernel
theorem dX8_readBrother_44 : decode cX8_readBrother 44 = .ok (.iconst 2, 1) := by decide +kernel
theorem dX8_readBrother_45 : decode cX8_readBrother 45 = .ok (.invokevirtual 91, 3) := by decide +kernel
theorem dX8_readBrother_48 : decode cX8_readBrother 48 = .ok (.iastore, 1) := by decide +kernel
theorem dX8_readBrother_49 : decode cX8_readBrother 49 = .ok (.aload_n 0, 1) := by decide +kernel
theorem dX8_readBrother_50 : decode cX8_readBrother 50 = .ok (.getfield 38, 3) := by decide +kernel
theorem dX8_readBrother_53 : decode cX8_readBrother 53 = .ok (.iload_n 1, 1) := by decide +kernel
theorem dX8_readBrother_54 : decode cX8_readBrother 54 = .ok (.iconst 5, 1) := by decide +kernel
theorem dX8_readBrother_55 : decode cX8_readBrother 55 = .ok (.iadd, 1) := by decide +kernel
theorem dX8_readBrother_56 : decode cX8_readBrother 56 = .ok (.aload_n 0, 1) := by decide +kernel
theorem dX8_readBrother_57 : decode cX8_readBrother 57 = .ok (.iconst 0, 1) := by decide +kernel
theorem dX8_readBrother_58 : decode cX8_readBrother 58 = .ok (.iconst 1, 1) := by decide +kernel
theorem dX8_readBrother_59 : decode cX8_readBrother 59 = .ok (.invokevirtual 91, 3) := by decide +kernel
theorem dX8_readBrother_62 : decode cX8_readBrother 62 = .ok (.iastore, 1) := by decide +kernel
theorem dX8_readBrother_63 : decode cX8_readBrother 63 = .ok (.aload_n 0, 1) := by decide +kernel
theorem dX8_readBrother_64 : decode cX8_readBrother 64 = .ok (.dup, 1) := by decide +kernel
theorem dX8_readBrother_65 : decode cX8_readBrother 65 = .ok (.getfield 88, 3) := by decide +kernel
theorem dX8_readBrother_68 : decode cX8_readBrother 68 = .ok (.iconst 1, 1) := by decide +kernel
theorem dX8_readBrother_69 : decode cX8_readBrother 69 = .ok (.iadd, 1) := by decide +kernel
theorem dX8_readBrother_70 : decode cX8_readBrother 70 = .ok (.putfield 88, 3) := by decide +kernel
theorem dX8_readBrother_73 : decode cX8_readBrother 73 = .ok (.return_, 1) := by decide +kernel
theorem dX8_readPot_0 : decode cX8_readPot 0 = .ok (.aload_n 0, 1) := by decide +kernel
theorem dX8_readPot_1 : decode cX8_readPot 1 = .ok (.iconst 1, 1) := by decide +kernel
theorem dX8_readPot_2 : decode cX8_readPot 2 = .ok (.putfield 95, 3) := by decide +kernel
theorem dX8_readPot_5 : decode cX8_readPot 5 = .ok (.iconst 0, 1) := by decide +kernel
theorem dX8_readPot_6 : decode cX8_readPot 6 = .ok (.istore_n 1, 1) := by decide +kernel
theorem dX8_readPot_7 : decode cX8_readPot 7 = .ok (.iload_n 1, 1) := by decide +kernel
theorem dX8_readPot_8 : decode cX8_readPot 8 = .ok (.iconst 4, 1) := by decide +kernel
theorem dX8_readPot_9 : decode cX8_readPot 9 = .ok (.if_icmp .ge 21, 3) := by decide +kernel
theorem dX8_readPot_12 : decode cX8_readPot 12 = .ok (.aload_n 0, 1) := by decide +kernel
theorem dX8_readPot_13 : decode cX8_readPot 13 = .ok (.getfield 41, 3) := by decide +kernel
theorem dX8_readPot_16 : decode cX8_readPot 16 = .ok (.iload_n 1, 1) := by decide +kernel
theorem dX8_readPot_17 : decode cX8_readPot 17 = .ok (.aload_n 0, 1) := by decide +kernel
theorem dX8_readPot_18 : decode cX8_readPot 18 = .ok (.iconst 0, 1) := by decide +kernel
theorem dX8_readPot_19 : decode cX8_readPot 19 = .ok (.iconst 5, 1) := by decide +kernel
theorem dX8_readPot_20 : decode cX8_readPot 20 = .ok (.invokevirtual 91, 3) := by decide +kernel
theorem dX8_readPot_23 : decode cX8_readPot 23 = .ok (.iastore, 1) := by decide +kernel
theorem dX8_readPot_24 : decode cX8_readPot 24 = .ok (.iinc 1 1, 3) := by decide +kernel
theorem dX8_readPot_27 : decode cX8_readPot 27 = .ok (.goto (-20), 3) := by decide +kernel
theorem dX8_readPot_30 : decode cX8_readPot 30 = .ok (.return_, 1) := by decide +kernel
theorem dX8_readItem_0 : decode cX8_readItem 0 = .ok (.aload_n 0, 1) := by decide +kernel
theorem dX8_readItem_1 : decode cX8_readItem 1 = .ok (.getfield 71, 3) := by decide +kernel
theorem dX8_readItem_4 : decode cX8_readItem 4 = .ok (.istore_n 1, 1) := by decide +kernel
theorem dX8_readItem_5 : decode cX8_readItem 5 = .ok (.iload_n 1, 1) := by decide +kernel
theorem dX8_readItem_6 : decode cX8_readItem 6 = .ok (.bipush 98, 2) := by decide +kernel
theorem dX8_readItem_8 : decode cX8_readItem 8 = .ok (.if_icmp .ne 20, 3) := by decide +kernel
theorem dX8_readItem_11 : decode cX8_readItem 11 = .ok (.aload_n 0, 1) := by decide +kernel
theorem dX8_readItem_12 : decode cX8_readItem 12 = .ok (.getfield 88, 3) := by decide +kernel
theorem dX8_readItem_15 : decode cX8_readItem 15 = .ok (.bipush 6, 2) := by decide +kernel
theorem dX8_readItem_17 : decode cX8_readItem 17 = .ok (.if_icmp .ge 7, 3) := by decide +kernel
theorem dX8_readItem_20 : decode cX8_readItem 20 = .ok (.iconst 1, 1) := by decide +kernel
theorem dX8_readItem_21 : decode cX8_readItem 21 = .ok (.goto 19, 3) := by decide +kernel
theorem dX8_readItem_24 : decode cX8_readItem 24 = .ok (.iconst 0, 1) := by decide +kernel
theorem dX8_readItem_25 : decode cX8_readItem 25 = .ok (.goto 15, 3) := by decide +kernel
theorem dX8_readItem_28 : decode cX8_readItem 28 = .ok (.aload_n 0, 1) := by decide +kernel
theorem dX8_readItem_29 : decode cX8_readItem 29 = .ok (.getfield 95, 3) := by decide +kernel
theorem dX8_readItem_32 : decode cX8_readItem 32 = .ok (.ifCond .ne 7, 3) := by decide +kernel
theorem dX8_readItem_35 : decode cX8_readItem 35 = .ok (.iconst 1, 1) := by decide +kernel
theorem dX8_readItem_36 : decode cX8_readItem 36 = .ok (.goto 4, 3) := by decide +kernel
theorem dX8_readItem_39 : decode cX8_readItem 39 = .ok (.iconst 0, 1) := by decide +kernel
theorem dX8_readItem_40 : decode cX8_readItem 40 = .ok (.istore_n 2, 1) := by decide +kernel
theorem dX8_readItem_41 : decode cX8_readItem 41 = .ok (.aload_n 0, 1) := by decide +kernel
theorem dX8_readItem_42 : decode cX8_readItem 42 = .ok (.getfield 74, 3) := by decide +kernel
theorem dX8_readItem_45 : decode cX8_readItem 45 = .ok (.iconst 1, 1) := by decide +kernel
theorem dX8_readItem_46 : decode cX8_readItem 46 = .ok (.if_icmp .ne 7, 3) := by decide +kernel
theorem dX8_readItem_49 : decode cX8_readItem 49 = .ok (.iload_n 2, 1) := by decide +kernel
theorem dX8_readItem_50 : decode cX8_readItem 50 = .ok (.ifCond .ne 9, 3) := by decide +kernel
theorem dX8_readItem_53 : decode cX8_readItem 53 = .ok (.aload_n 0, 1) := by decide +kernel
theorem dX8_readItem_54 : decode cX8_readItem 54 = .ok (.iconst 1, 1) := by decide +kernel
theorem dX8_readItem_55 : decode cX8_readItem 55 = .ok (.putfield 81, 3) := by decide +kernel
theorem dX8_readItem_58 : decode cX8_readItem 58 = .ok (.return_, 1) := by decide +kernel
theorem dX8_readItem_59 : decode cX8_readItem 59 = .ok (.aload_n 0, 1) := by decide +kernel
theorem dX8_readItem_60 : decode cX8_readItem 60 = .ok (.invokevirtual 85, 3) := by decide +kernel
theorem dX8_readItem_63 : decode cX8_readItem 63 = .ok (.iload_n 1, 1) := by decide +kernel
theorem dX8_readItem_64 : decode cX8_readItem 64 = .ok (.bipush 98, 2) := by decide +kernel
theorem dX8_readItem_66 : decode cX8_readItem 66 = .ok (.if_icmp .ne 10, 3) := by decide +kernel
theorem dX8_readItem_69 : decode cX8_readItem 69 = .ok (.aload_n 0, 1) := by decide +kernel
theorem dX8_readItem_70 : decode cX8_readItem 70 = .ok (.invokevirtual 98, 3) := by decide +kernel
theorem dX8_readItem_73 : decode cX8_readItem 73 = .ok (.goto 7, 3) := by decide +kernel
theorem dX8_readItem_76 : decode cX8_readItem 76 = .ok (.aload_n 0, 1) := by decide +kernel
theorem dX8_readItem_77 : decode cX8_readItem 77 = .ok (.invokevirtual 101, 3) := by decide +kernel
theorem dX8_readItem_80 : decode cX8_readItem 80 = .ok (.aload_n 0, 1) := by decide +kernel
theorem dX8_readItem_81 : decode cX8_readItem 81 = .ok (.aload_n 0, 1) := by decide +kernel
theorem dX8_readItem_82 : decode cX8_readItem 82 = .ok (.getfield 81, 3) := by decide +kernel
theorem dX8_readItem_85 : decode cX8_readItem 85 = .ok (.ifCond .ne 11, 3) := by decide +kernel
theorem dX8_readItem_88 : decode cX8_readItem 88 = .ok (.aload_n 0, 1) := by decide +kernel
theorem dX8_readItem_89 : decode cX8_readItem 89 = .ok (.getfield 74, 3) := by decide +kernel
theorem dX8_readItem_92 : decode cX8_readItem 92 = .ok (.iconst 3, 1) := by decide +kernel
theorem dX8_readItem_93 : decode cX8_readItem 93 = .ok (.if_icmp .eq 7, 3) := by decide +kernel
theorem dX8_readItem_96 : decode cX8_readItem 96 = .ok (.iconst 1, 1) := by decide +kernel
theorem dX8_readItem_97 : decode cX8_readItem 97 = .ok (.goto 4, 3) := by decide +kernel
theorem dX8_readItem_100 : decode cX8_readItem 100 = .ok (.iconst 0, 1) := by decide +kernel
theorem dX8_readItem_101 : decode cX8_readItem 101 = .ok (.putfield 81, 3) := by decide +kernel
theorem dX8_readItem_104 : decode cX8_readItem 104 = .ok (.aload_n 0, 1) := by decide +kernel
theorem dX8_readItem_105 : decode cX8_readItem 105 = .ok (.getfield 81, 3) := by decide +kernel
theorem dX8_readItem_108 : decode cX8_readItem 108 = .ok (.ifCond .ne 7, 3) := by decide +kernel
theorem dX8_readItem_111 : decode cX8_readItem 111 = .ok (.aload_n 0, 1) := by decide +kernel
theorem dX8_readItem_112 : decode cX8_readItem 112 = .ok (.invokevirtual 85, 3) := by decide +kernel
theorem dX8_readItem_115 : decode cX8_readItem 115 = .ok (.return_, 1) := by decide +kernel
theorem dX8_kitchen_0 : decode cX8_kitchen 0 = .ok (.aload_n 0, 1) := by decide +kernel
theorem dX8_kitchen_1 : decode cX8_kitchen 1 = .ok (.iconst 0, 1) := by decide +kernel
theorem dX8_kitchen_2 : decode cX8_kitchen 2 = .ok (.putfield 61, 3) := by decide +kernel
theorem dX8_kitchen_5 : decode cX8_kitchen 5 = .ok (.aload_n 0, 1) := by decide +kernel
theorem dX8_kitchen_6 : decode cX8_kitchen 6 = .ok (.iconst 0, 1) := by decide +kernel
theorem dX8_kitchen_7 : decode cX8_kitchen 7 = .ok (.putfield 81, 3) := by decide +kernel
theorem dX8_kitchen_10 : decode cX8_kitchen 10 = .ok (.aload_n 0, 1) := by decide +kernel
theorem dX8_kitchen_11 : decode cX8_kitchen 11 = .ok (.iconst 0, 1) := by decide +kernel
theorem dX8_kitchen_12 : decode cX8_kitchen 12 = .ok (.putfield 104, 3) := by decide +kernel
theorem dX8_kitchen_15 : decode cX8_kitchen 15 = .ok (.aload_n 0, 1) := by decide +kernel
theorem dX8_kitchen_16 : decode cX8_kitchen 16 = .ok (.iconst 0, 1) := by decide +kernel
theorem dX8_kitchen_17 : decode cX8_kitchen 17 = .ok (.putfield 88, 3) := by decide +kernel
theorem dX8_kitchen_20 : decode cX8_kitchen 20 = .ok (.aload_n 0, 1) := by decide +kernel
theorem dX8_kitchen_21 : decode cX8_kitchen 21 = .ok (.iconst 0, 1) := by decide +kernel
theorem dX8_kitchen_22 : decode cX8_kitchen 22 = .ok (.putfield 95, 3) := by decide +kernel
theorem dX8_kitchen_25 : decode cX8_kitchen 25 = .ok (.iconst 0, 1) := by decide +kernel
theorem dX8_kitchen_26 : decode cX8_kitchen 26 = .ok (.istore_n 1, 1) := by decide +kernel
theorem dX8_kitchen_27 : decode cX8_kitchen 27 = .ok (.iload_n 1, 1) := by decide +kernel
theorem dX8_kitchen_28 : decode cX8_kitchen 28 = .ok (.iconst 4, 1) := by decide +kernel
theorem dX8_kitchen_29 : decode cX8_kitchen 29 = .ok (.if_icmp .ge 16, 3) := by decide +kernel
theorem dX8_kitchen_32 : decode cX8_kitchen 32 = .ok (.aload_n 0, 1) := by decide +kernel
theorem dX8_kitchen_33 : decode cX8_kitchen 33 = .ok (.getfield 41, 3) := by decide +kernel
theorem dX8_kitchen_36 : decode cX8_kitchen 36 = .ok (.iload_n 1, 1) := by decide +kernel
theorem dX8_kitchen_37 : decode cX8_kitchen 37 = .ok (.iconst 0, 1) := by decide +kernel
theorem dX8_kitchen_38 : decode cX8_kitchen 38 = .ok (.iastore, 1) := by decide +kernel
theorem dX8_kitchen_39 : decode cX8_kitchen 39 = .ok (.iinc 1 1, 3) := by decide +kernel
theorem dX8_kitchen_42 : decode cX8_kitchen 42 = .ok (.goto (-15), 3) := by decide +kernel
theorem dX8_kitchen_45 : decode cX8_kitchen 45 = .ok (.aload_n 0, 1) := by decide +kernel
theorem dX8_kitchen_46 : decode cX8_kitchen 46 = .ok (.invokevirtual 85, 3) := by decide +kernel
theorem dX8_kitchen_49 : decode cX8_kitchen 49 = .ok (.aload_n 0, 1) := by decide +kernel
theorem dX8_kitchen_50 : decode cX8_kitchen 50 = .ok (.getfield 74, 3) := by decide +kernel
theorem dX8_kitchen_53 : decode cX8_kitchen 53 = .ok (.ifCond .eq 27, 3) := by decide +kernel
theorem dX8_kitchen_56 : decode cX8_kitchen 56 = .ok (.aload_n 0, 1) := by decide +kernel
theorem dX8_kitchen_57 : decode cX8_kitchen 57 = .ok (.getfield 81, 3) := by decide +kernel
theorem dX8_kitchen_60 : decode cX8_kitchen 60 = .ok (.ifCond .ne 20, 3) := by decide +kernel
theorem dX8_kitchen_63 : decode cX8_kitchen 63 = .ok (.aload_n 0, 1) := by decide +kernel
theorem dX8_kitchen_64 : decode cX8_kitchen 64 = .ok (.invokevirtual 107, 3) := by decide +kernel
theorem dX8_kitchen_67 : decode cX8_kitchen 67 = .ok (.aload_n 0, 1) := by decide +kernel
theorem dX8_kitchen_68 : decode cX8_kitchen 68 = .ok (.dup, 1) := by decide +kernel
theorem dX8_kitchen_69 : decode cX8_kitchen 69 = .ok (.getfield 104, 3) := by decide +kernel
theorem dX8_kitchen_72 : decode cX8_kitchen 72 = .ok (.iconst 1, 1) := by decide +kernel
theorem dX8_kitchen_73 : decode cX8_kitchen 73 = .ok (.iadd, 1) := by decide +kernel
theorem dX8_kitchen_74 : decode cX8_kitchen 74 = .ok (.putfield 104, 3) := by decide +kernel
theorem dX8_kitchen_77 : decode cX8_kitchen 77 = .ok (.goto (-28), 3) := by decide +kernel
theorem dX8_kitchen_80 : decode cX8_kitchen 80 = .ok (.aload_n 0, 1) := by decide +kernel
theorem dX8_kitchen_81 : decode cX8_kitchen 81 = .ok (.getfield 81, 3) := by decide +kernel
theorem dX8_kitchen_84 : decode cX8_kitchen 84 = .ok (.ifCond .eq 11, 3) := by decide +kernel
theorem dX8_kitchen_87 : decode cX8_kitchen 87 = .ok (.bipush (-10), 2) := by decide +kernel
theorem dX8_kitchen_89 : decode cX8_kitchen 89 = .ok (.aload_n 0, 1) := by decide +kernel
theorem dX8_kitchen_90 : decode cX8_kitchen 90 = .ok (.getfield 68, 3) := by decide +kernel
theorem dX8_kitchen_93 : decode cX8_kitchen 93 = .ok (.isub, 1) := by decide +kernel
theorem dX8_kitchen_94 : decode cX8_kitchen 94 = .ok (.ireturn, 1) := by decide +kernel
theorem dX8_kitchen_95 : decode cX8_kitchen 95 = .ok (.aload_n 0, 1) := by decide +kernel
theorem dX8_kitchen_96 : decode cX8_kitchen 96 = .ok (.invokevirtual 110, 3) := by decide +kernel
theorem dX8_kitchen_99 : decode cX8_kitchen 99 = .ok (.aload_n 0, 1) := by decide +kernel
theorem dX8_kitchen_100 : decode cX8_kitchen 100 = .ok (.getfield 104, 3) := by decide +kernel
theorem dX8_kitchen_103 : decode cX8_kitchen 103 = .ok (.ireturn, 1) := by decide +kernel
theorem dX8_settles_0 : decode cX8_settles 0 = .ok (.aload_n 0, 1) := by decide +kernel
theorem dX8_settles_1 : decode cX8_settles 1 = .ok (.aload_n 0, 1) := by decide +kernel
theorem dX8_settles_2 : decode cX8_settles 2 = .ok (.getfield 88, 3) := by decide +kernel
theorem dX8_settles_5 : decode cX8_settles 5 = .ok (.putfield 50, 3) := by decide +kernel
theorem dX8_settles_8 : decode cX8_settles 8 = .ok (.aload_n 0, 1) := by decide +kernel
theorem dX8_settles_9 : decode cX8_settles 9 = .ok (.getfield 16, 3) := by decide +kernel
theorem dX8_settles_12 : decode cX8_settles 12 = .ok (.iconst 4, 1) := by decide +kernel
theorem dX8_settles_13 : decode cX8_settles 13 = .ok (.iconst 0, 1) := by decide +kernel
theorem dX8_settles_14 : decode cX8_settles 14 = .ok (.iastore, 1) := by decide +kernel
theorem dX8_settles_15 : decode cX8_settles 15 = .ok (.iconst 0, 1) := by decide +kernel
theorem dX8_settles_16 : decode cX8_settles 16 = .ok (.istore_n 1, 1) := by decide +kernel
theorem dX8_settles_17 : decode cX8_settles 17 = .ok (.iload_n 1, 1) := by decide +kernel
theorem dX8_settles_18 : decode cX8_settles 18 = .ok (.bipush 6, 2) := by decide +kernel
theorem dX8_settles_20 : decode cX8_settles 20 = .ok (.if_icmp .ge 104, 3) := by decide +kernel
theorem dX8_settles_23 : decode cX8_settles 23 = .ok (.iconst 0, 1) := by decide +kernel
theorem dX8_settles_24 : decode cX8_settles 24 = .ok (.istore_n 2, 1) := by decide +kernel
theorem dX8_settles_25 : decode cX8_settles 25 = .ok (.iload_n 2, 1) := by decide +kernel
theorem dX8_settles_26 : decode cX8_settles 26 = .ok (.iconst 4, 1) := by decide +kernel
theorem dX8_settles_27 : decode cX8_settles 27 = .ok (.if_icmp .ge 30, 3) := by decide +kernel
theorem dX8_settles_30 : decode cX8_settles 30 = .ok (.aload_n 0, 1) := by decide +kernel
theorem dX8_settles_31 : decode cX8_settles 31 = .ok (.getfield 7, 3) := by decide +kernel
theorem dX8_settles_34 : decode cX8_settles 34 = .ok (.iconst 4, 1) := by decide +kernel
theorem dX8_settles_35 : decode cX8_settles 35 = .ok (.iload_n 1, 1) := by decide +kernel
theorem dX8_settles_36 : decode cX8_settles 36 = .ok (.imul, 1) := by decide +kernel
theorem dX8_settles_37 : decode cX8_settles 37 = .ok (.iload_n 2, 1) := by decide +kernel
theorem dX8_settles_38 : decode cX8_settles 38 = .ok (.iadd, 1) := by decide +kernel
theorem dX8_settles_39 : decode cX8_settles 39 = .ok (.aload_n 0, 1) := by decide +kernel
theorem dX8_settles_40 : decode cX8_settles 40 = .ok (.getfield 38, 3) := by decide +kernel
theorem dX8_settles_43 : decode cX8_settles 43 = .ok (.bipush 6, 2) := by decide +kernel
theorem dX8_settles_45 : decode cX8_settles 45 = .ok (.iload_n 1, 1) := by decide +kernel
theorem dX8_settles_46 : decode cX8_settles 46 = .ok (.imul, 1) := by decide +kernel
theorem dX8_settles_47 : decode cX8_settles 47 = .ok (.iload_n 2, 1) := by decide +kernel
theorem dX8_settles_48 : decode cX8_settles 48 = .ok (.iadd, 1) := by decide +kernel
theorem dX8_settles_49 : decode cX8_settles 49 = .ok (.iaload, 1) := by decide +kernel
theorem dX8_settles_50 : decode cX8_settles 50 = .ok (.iastore, 1) := by decide +kernel
theorem dX8_settles_51 : decode cX8_settles 51 = .ok (.iinc 2 1, 3) := by decide +kernel
theorem dX8_settles_54 : decode cX8_settles 54 = .ok (.goto (-29), 3) := by decide +kernel
theorem dX8_settles_57 : decode cX8_settles 57 = .ok (.aload_n 0, 1) := by decide +kernel
theorem dX8_settles_58 : decode cX8_settles 58 = .ok (.getfield 13, 3) := by decide +kernel
theorem dX8_settles_61 : decode cX8_settles 61 = .ok (.iload_n 1, 1) := by decide +kernel
theorem dX8_settles_62 : decode cX8_settles 62 = .ok (.aload_n 0, 1) := by decide +kernel
theorem dX8_settles_63 : decode cX8_settles 63 = .ok (.getfield 38, 3) := by decide +kernel
theorem dX8_settles_66 : decode cX8_settles 66 = .ok (.bipush 6, 2) := by decide +kernel
theorem dX8_settles_68 : decode cX8_settles 68 = .ok (.iload_n 1, 1) := by decide +kernel
theorem dX8_settles_69 : decode cX8_settles 69 = .ok (.imul, 1) := by decide +kernel
theorem dX8_settles_70 : decode cX8_settles 70 = .ok (.iconst 4, 1) := by decide +kernel
theorem dX8_settles_71 : decode cX8_settles 71 = .ok (.iadd, 1) := by decide +kernel
theorem dX8_settles_72 : decode cX8_settles 72 = .ok (.iaload, 1) := by decide +kernel
theorem dX8_settles_73 : decode cX8_settles 73 = .ok (.iastore, 1) := by decide +kernel
theorem dX8_settles_74 : decode cX8_settles 74 = .ok (.aload_n 0, 1) := by decide +kernel
theorem dX8_settles_75 : decode cX8_settles 75 = .ok (.getfield 16, 3) := by decide +kernel
theorem dX8_settles_78 : decode cX8_settles 78 = .ok (.iconst 4, 1) := by decide +kernel
theorem dX8_settles_79 : decode cX8_settles 79 = .ok (.dup2, 1) := by decide +kernel
theorem dX8_settles_80 : decode cX8_settles 80 = .ok (.iaload, 1) := by decide +kernel
theorem dX8_settles_81 : decode cX8_settles 81 = .ok (.iload_n 1, 1) := by decide +kernel
theorem dX8_settles_82 : decode cX8_settles 82 = .ok (.aload_n 0, 1) := by decide +kernel
theorem dX8_settles_83 : decode cX8_settles 83 = .ok (.getfield 50, 3) := by decide +kernel
theorem dX8_settles_86 : decode cX8_settles 86 = .ok (.if_icmp .ge 19, 3) := by decide +kernel
theorem dX8_settles_89 : decode cX8_settles 89 = .ok (.aload_n 0, 1) := by decide +kernel
theorem dX8_settles_90 : decode cX8_settles 90 = .ok (.getfield 38, 3) := by decide +kernel
theorem dX8_settles_93 : decode cX8_settles 93 = .ok (.bipush 6, 2) := by decide +kernel
theorem dX8_settles_95 : decode cX8_settles 95 = .ok (.iload_n 1, 1) := by decide +kernel
theorem dX8_settles_96 : decode cX8_settles 96 = .ok (.imul, 1) := by decide +kernel
theorem dX8_settles_97 : decode cX8_settles 97 = .ok (.iconst 5, 1) := by decide +kernel
theorem dX8_settles_98 : decode cX8_settles 98 = .ok (.iadd, 1) := by decide +kernel
theorem dX8_settles_99 : decode cX8_settles 99 = .ok (.iaload, 1) := by decide +kernel
theorem dX8_settles_100 : decode cX8_settles 100 = .ok (.iload_n 1, 1) := by decide +kernel
theorem dX8_settles_101 : decode cX8_settles 101 = .ok (.ishl, 1) := by decide +kernel
theorem dX8_settles_102 : decode cX8_settles 102 = .ok (.goto 4, 3) := by decide +kernel
theorem dX8_settles_105 : decode cX8_settles 105 = .ok (.iconst 0, 1) := by decide +kernel
theorem dX8_settles_106 : decode cX8_settles 106 = .ok (.ior, 1) := by decide +kernel
theorem dX8_settles_107 : decode cX8_settles 107 = .ok (.iastore, 1) := by decide +kernel
theorem dX8_settles_108 : decode cX8_settles 108 = .ok (.aload_n 0, 1) := by decide +kernel
theorem dX8_settles_109 : decode cX8_settles 109 = .ok (.getfield 16, 3) := by decide +kernel
theorem dX8_settles_112 : decode cX8_settles 112 = .ok (.iconst 5, 1) := by decide +kernel
theorem dX8_settles_113 : decode cX8_settles 113 = .ok (.iload_n 1, 1) := by decide +kernel
theorem dX8_settles_114 : decode cX8_settles 114 = .ok (.iadd, 1) := by decide +kernel
theorem dX8_settles_115 : decode cX8_settles 115 = .ok (.bipush (-9), 2) := by decide +kernel
theorem dX8_settles_117 : decode cX8_settles 117 = .ok (.iastore, 1) := by decide +kernel
theorem dX8_settles_118 : decode cX8_settles 118 = .ok (.iinc 1 1, 3) := by decide +kernel
theorem dX8_settles_121 : decode cX8_settles 121 = .ok (.goto (-104), 3) := by decide +kernel
theorem dX8_settles_124 : decode cX8_settles 124 = .ok (.iconst 0, 1) := by decide +kernel
theorem dX8_settles_125 : decode cX8_settles 125 = .ok (.istore_n 1, 1) := by decide +kernel
theorem dX8_settles_126 : decode cX8_settles 126 = .ok (.iload_n 1, 1) := by decide +kernel
theorem dX8_settles_127 : decode cX8_settles 127 = .ok (.iconst 4, 1) := by decide +kernel
theorem dX8_settles_128 : decode cX8_settles 128 = .ok (.if_icmp .ge 23, 3) := by decide +kernel
theorem dX8_settles_131 : decode cX8_settles 131 = .ok (.aload_n 0, 1) := by decide +kernel
theorem dX8_settles_132 : decode cX8_settles 132 = .ok (.getfield 16, 3) := by decide +kernel
theorem dX8_settles_135 : decode cX8_settles 135 = .ok (.iconst 0, 1) := by decide +kernel
theorem dX8_settles_136 : decode cX8_settles 136 = .ok (.iload_n 1, 1) := by decide +kernel
theorem dX8_settles_137 : decode cX8_settles 137 = .ok (.iadd, 1) := by decide +kernel
theorem dX8_settles_138 : decode cX8_settles 138 = .ok (.aload_n 0, 1) := by decide +kernel
theorem dX8_settles_139 : decode cX8_settles 139 = .ok (.getfield 41, 3) := by decide +kernel
theorem dX8_settles_142 : decode cX8_settles 142 = .ok (.iload_n 1, 1) := by decide +kernel
theorem dX8_settles_143 : decode cX8_settles 143 = .ok (.iaload, 1) := by decide +kernel
theorem dX8_settles_144 : decode cX8_settles 144 = .ok (.iastore, 1) := by decide +kernel
theorem dX8_settles_145 : decode cX8_settles 145 = .ok (.iinc 1 1, 3) := by decide +kernel
theorem dX8_settles_148 : decode cX8_settles 148 = .ok (.goto (-22), 3) := by decide +kernel
theorem dX8_settles_151 : decode cX8_settles 151 = .ok (.aload_n 0, 1) := by decide +kernel
theorem dX8_settles_152 : decode cX8_settles 152 = .ok (.iconst 0, 1) := by decide +kernel
theorem dX8_settles_153 : decode cX8_settles 153 = .ok (.putfield 113, 3) := by decide +kernel
theorem dX8_settles_156 : decode cX8_settles 156 = .ok (.aload_n 0, 1) := by decide +kernel
theorem dX8_settles_157 : decode cX8_settles 157 = .ok (.iconst 0, 1) := by decide +kernel
theorem dX8_settles_158 : decode cX8_settles 158 = .ok (.putfield 116, 3) := by decide +kernel
theorem dX8_settles_161 : decode cX8_settles 161 = .ok (.aload_n 0, 1) := by decide +kernel
theorem dX8_settles_162 : decode cX8_settles 162 = .ok (.getfield 25, 3) := by decide +kernel
theorem dX8_settles_165 : decode cX8_settles 165 = .ok (.iconst 0, 1) := by decide +kernel
theorem dX8_settles_166 : decode cX8_settles 166 = .ok (.iconst 0, 1) := by decide +kernel
theorem dX8_settles_167 : decode cX8_settles 167 = .ok (.bastore, 1) := by decide +kernel
theorem dX8_settles_168 : decode cX8_settles 168 = .ok (.aload_n 0, 1) := by decide +kernel
theorem dX8_settles_169 : decode cX8_settles 169 = .ok (.getfield 25, 3) := by decide +kernel
theorem dX8_settles_172 : decode cX8_settles 172 = .ok (.iconst 1, 1) := by decide +kernel
theorem dX8_settles_173 : decode cX8_settles 173 = .ok (.iconst 0, 1) := by decide +kernel
theorem dX8_settles_174 : decode cX8_settles 174 = .ok (.bastore, 1) := by decide +kernel
theorem dX8_settles_175 : decode cX8_settles 175 = .ok (.aload_n 0, 1) := by decide +kernel
theorem dX8_settles_176 : decode cX8_settles 176 = .ok (.iconst 0, 1) := by decide +kernel
theorem dX8_settles_177 : decode cX8_settles 177 = .ok (.putfield 58, 3) := by decide +kernel
theorem dX8_settles_180 : decode cX8_settles 180 = .ok (.return_, 1) := by decide +kernel
theorem dX8_asItIs_0 : decode cX8_asItIs 0 = .ok (.aload_n 0, 1) := by decide +kernel
theorem dX8_asItIs_1 : decode cX8_asItIs 1 = .ok (.getfield 44, 3) := by decide +kernel
theorem dX8_asItIs_4 : decode cX8_asItIs 4 = .ok (.iconst 0, 1) := by decide +kernel
theorem dX8_asItIs_5 : decode cX8_asItIs 5 = .ok (.aload_n 0, 1) := by decide +kernel
theorem dX8_asItIs_6 : decode cX8_asItIs 6 = .ok (.getfield 16, 3) := by decide +kernel
theorem dX8_asItIs_9 : decode cX8_asItIs 9 = .ok (.iconst 0, 1) := by decide +kernel
theorem dX8_asItIs_10 : decode cX8_asItIs 10 = .ok (.invokestatic 119, 3) := by decide +kernel
theorem dX8_asItIs_13 : decode cX8_asItIs 13 = .ok (.return_, 1) := by decide +kernel
theorem dX8_tasted_0 : decode cX8_tasted 0 = .ok (.iload_n 1, 1) := by decide +kernel
theorem dX8_tasted_1 : decode cX8_tasted 1 = .ok (.iconst 3, 1) := by decide +kernel
theorem dX8_tasted_2 : decode cX8_tasted 2 = .ok (.if_icmp .ne 13, 3) := by decide +kernel
theorem dX8_tasted_5 : decode cX8_tasted 5 = .ok (.iload_n 2, 1) := by decide +kernel
theorem dX8_tasted_6 : decode cX8_tasted 6 = .ok (.ifCond .eq 9, 3) := by decide +kernel
theorem dX8_tasted_9 : decode cX8_tasted 9 = .ok (.iload_n 0, 1) := by decide +kernel
theorem dX8_tasted_10 : decode cX8_tasted 10 = .ok (.iconst 2, 1) := by decide +kernel
theorem dX8_tasted_11 : decode cX8_tasted 11 = .ok (.idiv, 1) := by decide +kernel
theorem dX8_tasted_12 : decode cX8_tasted 12 = .ok (.goto 4, 3) := by decide +kernel
theorem dX8_tasted_15 : decode cX8_tasted 15 = .ok (.iload_n 0, 1) := by decide +kernel
theorem dX8_tasted_16 : decode cX8_tasted 16 = .ok (.ireturn, 1) := by decide +kernel
theorem dX8_far_0 : decode cX8_far 0 = .ok (.iload_n 0, 1) := by decide +kernel
theorem dX8_far_1 : decode cX8_far 1 = .ok (.ifCond .ge 8, 3) := by decide +kernel
theorem dX8_far_4 : decode cX8_far 4 = .ok (.iload_n 0, 1) := by decide +kernel
theorem dX8_far_5 : decode cX8_far 5 = .ok (.ineg, 1) := by decide +kernel
theorem dX8_far_6 : decode cX8_far 6 = .ok (.goto 4, 3) := by decide +kernel
theorem dX8_far_9 : decode cX8_far 9 = .ok (.iload_n 0, 1) := by decide +kernel
theorem dX8_far_10 : decode cX8_far 10 = .ok (.ireturn, 1) := by decide +kernel
theorem dX8_offOf_0 : decode cX8_offOf 0 = .ok (.aload_n 0, 1) := by decide +kernel
theorem dX8_offOf_1 : decode cX8_offOf 1 = .ok (.getfield 44, 3) := by decide +kernel
theorem dX8_offOf_4 : decode cX8_offOf 4 = .ok (.iconst 0, 1) := by decide +kernel
theorem dX8_offOf_5 : decode cX8_offOf 5 = .ok (.iload_n 2, 1) := by decide +kernel
theorem dX8_offOf_6 : decode cX8_offOf 6 = .ok (.iadd, 1) := by decide +kernel
theorem dX8_offOf_7 : decode cX8_offOf 7 = .ok (.iaload, 1) := by decide +kernel
theorem dX8_offOf_8 : decode cX8_offOf 8 = .ok (.iload_n 2, 1) := by decide +kernel
theorem dX8_offOf_9 : decode cX8_offOf 9 = .ok (.iload_n 3, 1) := by decide +kernel
theorem dX8_offOf_10 : decode cX8_offOf 10 = .ok (.invokestatic 123, 3) := by decide +kernel
theorem dX8_offOf_13 : decode cX8_offOf 13 = .ok (.aload_n 0, 1) := by decide +kernel
theorem dX8_offOf_14 : decode cX8_offOf 14 = .ok (.getfield 7, 3) := by decide +kernel
theorem dX8_offOf_17 : decode cX8_offOf 17 = .ok (.iconst 4, 1) := by decide +kernel
theorem dX8_offOf_18 : decode cX8_offOf 18 = .ok (.iload_n 1, 1) := by decide +kernel
theorem dX8_offOf_19 : decode cX8_offOf 19 = .ok (.imul, 1) := by decide +kernel
theorem dX8_offOf_20 : decode cX8_offOf 20 = .ok (.iload_n 2, 1) := by decide +kernel
theorem dX8_offOf_21 : decode cX8_offOf 21 = .ok (.iadd, 1) := by decide +kernel
theorem dX8_offOf_22 : decode cX8_offOf 22 = .ok (.iaload, 1) := by decide +kernel
theorem dX8_offOf_23 : decode cX8_offOf 23 = .ok (.isub, 1) := by decide +kernel
theorem dX8_offOf_24 : decode cX8_offOf 24 = .ok (.ireturn, 1) := by decide +kernel
theorem dX8_mienBy_0 : decode cX8_mienBy 0 = .ok (.iconst 0, 1) := by decide +kernel
theorem dX8_mienBy_1 : decode cX8_mienBy 1 = .ok (.istore_n 3, 1) := by decide +kernel
theorem dX8_mienBy_2 : decode cX8_mienBy 2 = .ok (.iconst 1, 1) := by decide +kernel
theorem dX8_mienBy_3 : decode cX8_mienBy 3 = .ok (.istore 4, 2) := by decide +kernel
theorem dX8_mienBy_5 : decode cX8_mienBy 5 = .ok (.iload 4, 2) := by decide +kernel
theorem dX8_mienBy_7 : decode cX8_mienBy 7 = .ok (.iconst 4, 1) := by decide +kernel
theorem dX8_mienBy_8 : decode cX8_mienBy 8 = .ok (.if_icmp .ge 40, 3) := by decide +kernel
theorem dX8_mienBy_11 : decode cX8_mienBy 11 = .ok (.aload_n 0, 1) := by decide +kernel
theorem dX8_mienBy_12 : decode cX8_mienBy 12 = .ok (.iload_n 1, 1) := by decide +kernel
theorem dX8_mienBy_13 : decode cX8_mienBy 13 = .ok (.iload 4, 2) := by decide +kernel
theorem dX8_mienBy_15 : decode cX8_mienBy 15 = .ok (.iload_n 2, 1) := by decide +kernel
theorem dX8_mienBy_16 : decode cX8_mienBy 16 = .ok (.invokevirtual 127, 3) := by decide +kernel
theorem dX8_mienBy_19 : decode cX8_mienBy 19 = .ok (.invokestatic 130, 3) := by decide +kernel
theorem dX8_mienBy_22 : decode cX8_mienBy 22 = .ok (.aload_n 0, 1) := by decide +kernel
theorem dX8_mienBy_23 : decode cX8_mienBy 23 = .ok (.iload_n 1, 1) := by decide +kernel
theorem dX8_mienBy_24 : decode cX8_mienBy 24 = .ok (.iload_n 3, 1) := by decide +kernel
theorem dX8_mienBy_25 : decode cX8_mienBy 25 = .ok (.iload_n 2, 1) := by decide +kernel
theorem dX8_mienBy_26 : decode cX8_mienBy 26 = .ok (.invokevirtual 127, 3) := by decide +kernel
theorem dX8_mienBy_29 : decode cX8_mienBy 29 = .ok (.invokestatic 130, 3) := by decide +kernel
theorem dX8_mienBy_32 : decode cX8_mienBy 32 = .ok (.if_icmp .le 8, 3) := by decide +kernel
theorem dX8_mienBy_35 : decode cX8_mienBy 35 = .ok (.iload 4, 2) := by decide +kernel
theorem dX8_mienBy_37 : decode cX8_mienBy 37 = .ok (.goto 4, 3) := by decide +kernel
theorem dX8_mienBy_40 : decode cX8_mienBy 40 = .ok (.iload_n 3, 1) := by decide +kernel
theorem dX8_mienBy_41 : decode cX8_mienBy 41 = .ok (.istore_n 3, 1) := by decide +kernel
theorem dX8_mienBy_42 : decode cX8_mienBy 42 = .ok (.iinc 4 1, 3) := by decide +kernel
theorem dX8_mienBy_45 : decode cX8_mienBy 45 = .ok (.goto (-40), 3) := by decide +kernel
theorem dX8_mienBy_48 : decode cX8_mienBy 48 = .ok (.aload_n 0, 1) := by decide +kernel
theorem dX8_mienBy_49 : decode cX8_mienBy 49 = .ok (.iload_n 1, 1) := by decide +kernel
theorem dX8_mienBy_50 : decode cX8_mienBy 50 = .ok (.iload_n 3, 1) := by decide +kernel
theorem dX8_mienBy_51 : decode cX8_mienBy 51 = .ok (.iload_n 2, 1) := by decide +kernel
theorem dX8_mienBy_52 : decode cX8_mienBy 52 = .ok (.invokevirtual 127, 3) := by decide +kernel
theorem dX8_mienBy_55 : decode cX8_mienBy 55 = .ok (.istore 4, 2) := by decide +kernel
theorem dX8_mienBy_57 : decode cX8_mienBy 57 = .ok (.iload 4, 2) := by decide +kernel
theorem dX8_mienBy_59 : decode cX8_mienBy 59 = .ok (.invokestatic 130, 3) := by decide +kernel
theorem dX8_mienBy_62 : decode cX8_mienBy 62 = .ok (.aload_n 0, 1) := by decide +kernel
theorem dX8_mienBy_63 : decode cX8_mienBy 63 = .ok (.getfield 13, 3) := by decide +kernel
theorem dX8_mienBy_66 : decode cX8_mienBy 66 = .ok (.iload_n 1, 1) := by decide +kernel
theorem dX8_mienBy_67 : decode cX8_mienBy 67 = .ok (.iaload, 1) := by decide +kernel
theorem dX8_mienBy_68 : decode cX8_mienBy 68 = .ok (.if_icmp .gt 7, 3) := by decide +kernel
theorem dX8_mienBy_71 : decode cX8_mienBy 71 = .ok (.iconst 0, 1) := by decide +kernel
theorem dX8_mienBy_72 : decode cX8_mienBy 72 = .ok (.goto 21, 3) := by decide +kernel
theorem dX8_mienBy_75 : decode cX8_mienBy 75 = .ok (.iload 4, 2) := by decide +kernel
theorem dX8_mienBy_77 : decode cX8_mienBy 77 = .ok (.ifCond .le 11, 3) := by decide +kernel
theorem dX8_mienBy_80 : decode cX8_mienBy 80 = .ok (.iconst 1, 1) := by decide +kernel
theorem dX8_mienBy_81 : decode cX8_mienBy 81 = .ok (.iconst 2, 1) := by decide +kernel
theorem dX8_mienBy_82 : decode cX8_mienBy 82 = .ok (.iload_n 3, 1) := by decide +kernel
theorem dX8_mienBy_83 : decode cX8_mienBy 83 = .ok (.imul, 1) := by decide +kernel
theorem dX8_mienBy_84 : decode cX8_mienBy 84 = .ok (.iadd, 1) := by decide +kernel
theorem dX8_mienBy_85 : decode cX8_mienBy 85 = .ok (.goto 8, 3) := by decide +kernel
theorem dX8_mienBy_88 : decode cX8_mienBy 88 = .ok (.iconst 2, 1) := by decide +kernel
theorem dX8_mienBy_89 : decode cX8_mienBy 89 = .ok (.iconst 2, 1) := by decide +kernel
theorem dX8_mienBy_90 : decode cX8_mienBy 90 = .ok (.iload_n 3, 1) := by decide +kernel
theorem dX8_mienBy_91 : decode cX8_mienBy 91 = .ok (.imul, 1) := by decide +kernel
theorem dX8_mienBy_92 : decode cX8_mienBy 92 = .ok (.iadd, 1) := by decide +kernel
theorem dX8_mienBy_93 : decode cX8_mienBy 93 = .ok (.ireturn, 1) := by decide +kernel
theorem dX8_mien_0 : decode cX8_mien 0 = .ok (.aload_n 0, 1) := by decide +kernel
theorem dX8_mien_1 : decode cX8_mien 1 = .ok (.iload_n 1, 1) := by decide +kernel
theorem dX8_mien_2 : decode cX8_mien 2 = .ok (.aload_n 0, 1) := by decide +kernel
theorem dX8_mien_3 : decode cX8_mien 3 = .ok (.getfield 44, 3) := by decide +kernel
theorem dX8_mien_6 : decode cX8_mien 6 = .ok (.iconst 4, 1) := by decide +kernel
theorem dX8_mien_7 : decode cX8_mien 7 = .ok (.iaload, 1) := by decide +kernel
theorem dX8_mien_8 : decode cX8_mien 8 = .ok (.iload_n 1, 1) := by decide +kernel
theorem dX8_mien_9 : decode cX8_mien 9 = .ok (.invokestatic 133, 3) := by decide +kernel
theorem dX8_mien_12 : decode cX8_mien 12 = .ok (.invokevirtual 137, 3) := by decide +kernel
theorem dX8_mien_15 : decode cX8_mien 15 = .ok (.ireturn, 1) := by decide +kernel
theorem dX8_mind_0 : decode cX8_mind 0 = .ok (.iconst 0, 1) := by decide +kernel
theorem dX8_mind_1 : decode cX8_mind 1 = .ok (.istore_n 2, 1) := by decide +kernel
theorem dX8_mind_2 : decode cX8_mind 2 = .ok (.iconst 0, 1) := by decide +kernel
theorem dX8_mind_3 : decode cX8_mind 3 = .ok (.istore_n 3, 1) := by decide +kernel
theorem dX8_mind_4 : decode cX8_mind 4 = .ok (.iload_n 3, 1) := by decide +kernel
theorem dX8_mind_5 : decode cX8_mind 5 = .ok (.iconst 4, 1) := by decide +kernel
theorem dX8_mind_6 : decode cX8_mind 6 = .ok (.if_icmp .ge 31, 3) := by decide +kernel
theorem dX8_mind_9 : decode cX8_mind 9 = .ok (.iload_n 2, 1) := by decide +kernel
theorem dX8_mind_10 : decode cX8_mind 10 = .ok (.aload_n 0, 1) := by decide +kernel
theorem dX8_mind_11 : decode cX8_mind 11 = .ok (.iload_n 1, 1) := by decide +kernel
theorem dX8_mind_12 : decode cX8_mind 12 = .ok (.iload_n 3, 1) := by decide +kernel
theorem dX8_mind_13 : decode cX8_mind 13 = .ok (.aload_n 0, 1) := by decide +kernel
theorem dX8_mind_14 : decode cX8_mind 14 = .ok (.getfield 44, 3) := by decide +kernel
theorem dX8_mind_17 : decode cX8_mind 17 = .ok (.iconst 4, 1) := by decide +kernel
theorem dX8_mind_18 : decode cX8_mind 18 = .ok (.iaload, 1) := by decide +kernel
theorem dX8_mind_19 : decode cX8_mind 19 = .ok (.iload_n 1, 1) := by decide +kernel
theorem dX8_mind_20 : decode cX8_mind 20 = .ok (.invokestatic 133, 3) := by decide +kernel
theorem dX8_mind_23 : decode cX8_mind 23 = .ok (.invokevirtual 127, 3) := by decide +kernel
theorem dX8_mind_26 : decode cX8_mind 26 = .ok (.invokestatic 130, 3) := by decide +kernel
theorem dX8_mind_29 : decode cX8_mind 29 = .ok (.iadd, 1) := by decide +kernel
theorem dX8_mind_30 : decode cX8_mind 30 = .ok (.istore_n 2, 1) := by decide +kernel
theorem dX8_mind_31 : decode cX8_mind 31 = .ok (.iinc 3 1, 3) := by decide +kernel
theorem dX8_mind_34 : decode cX8_mind 34 = .ok (.goto (-30), 3) := by decide +kernel
theorem dX8_mind_37 : decode cX8_mind 37 = .ok (.iload_n 2, 1) := by decide +kernel
theorem dX8_mind_38 : decode cX8_mind 38 = .ok (.ireturn, 1) := by decide +kernel
theorem dX8_calm_0 : decode cX8_calm 0 = .ok (.iconst 0, 1) := by decide +kernel
theorem dX8_calm_1 : decode cX8_calm 1 = .ok (.istore_n 1, 1) := by decide +kernel
theorem dX8_calm_2 : decode cX8_calm 2 = .ok (.iconst 0, 1) := by decide +kernel
theorem dX8_calm_3 : decode cX8_calm 3 = .ok (.istore_n 2, 1) := by decide +kernel
theorem dX8_calm_4 : decode cX8_calm 4 = .ok (.iload_n 2, 1) := by decide +kernel
theorem dX8_calm_5 : decode cX8_calm 5 = .ok (.aload_n 0, 1) := by decide +kernel
theorem dX8_calm_6 : decode cX8_calm 6 = .ok (.getfield 50, 3) := by decide +kernel
theorem dX8_calm_9 : decode cX8_calm 9 = .ok (.if_icmp .ge 27, 3) := by decide +kernel
theorem dX8_calm_12 : decode cX8_calm 12 = .ok (.iload_n 1, 1) := by decide +kernel
theorem dX8_calm_13 : decode cX8_calm 13 = .ok (.aload_n 0, 1) := by decide +kernel
theorem dX8_calm_14 : decode cX8_calm 14 = .ok (.iload_n 2, 1) := by decide +kernel
theorem dX8_calm_15 : decode cX8_calm 15 = .ok (.invokevirtual 141, 3) := by decide +kernel
theorem dX8_calm_18 : decode cX8_calm 18 = .ok (.ifCond .ne 9, 3) := by decide +kernel
theorem dX8_calm_21 : decode cX8_calm 21 = .ok (.iconst 1, 1) := by decide +kernel
theorem dX8_calm_22 : decode cX8_calm 22 = .ok (.iload_n 2, 1) := by decide +kernel
theorem dX8_calm_23 : decode cX8_calm 23 = .ok (.ishl, 1) := by decide +kernel
theorem dX8_calm_24 : decode cX8_calm 24 = .ok (.goto 4, 3) := by decide +kernel
theorem dX8_calm_27 : decode cX8_calm 27 = .ok (.iconst 0, 1) := by decide +kernel
theorem dX8_calm_28 : decode cX8_calm 28 = .ok (.ior, 1) := by decide +kernel
theorem dX8_calm_29 : decode cX8_calm 29 = .ok (.istore_n 1, 1) := by decide +kernel
theorem dX8_calm_30 : decode cX8_calm 30 = .ok (.iinc 2 1, 3) := by decide +kernel
theorem dX8_calm_33 : decode cX8_calm 33 = .ok (.goto (-29), 3) := by decide +kernel
theorem dX8_calm_36 : decode cX8_calm 36 = .ok (.iload_n 1, 1) := by decide +kernel
theorem dX8_calm_37 : decode cX8_calm 37 = .ok (.ireturn, 1) := by decide +kernel
theorem dX8_inPot_0 : decode cX8_inPot 0 = .ok (.iconst 0, 1) := by decide +kernel
theorem dX8_inPot_1 : decode cX8_inPot 1 = .ok (.istore_n 1, 1) := by decide +kernel
theorem dX8_inPot_2 : decode cX8_inPot 2 = .ok (.iconst 0, 1) := by decide +kernel
theorem dX8_inPot_3 : decode cX8_inPot 3 = .ok (.istore_n 2, 1) := by decide +kernel
theorem dX8_inPot_4 : decode cX8_inPot 4 = .ok (.iload_n 2, 1) := by decide +kernel
theorem dX8_inPot_5 : decode cX8_inPot 5 = .ok (.iconst 4, 1) := by decide +kernel
theorem dX8_inPot_6 : decode cX8_inPot 6 = .ok (.if_icmp .ge 20, 3) := by decide +kernel
theorem dX8_inPot_9 : decode cX8_inPot 9 = .ok (.iload_n 1, 1) := by decide +kernel
theorem dX8_inPot_10 : decode cX8_inPot 10 = .ok (.aload_n 0, 1) := by decide +kernel
theorem dX8_inPot_11 : decode cX8_inPot 11 = .ok (.getfield 44, 3) := by decide +kernel
theorem dX8_inPot_14 : decode cX8_inPot 14 = .ok (.iconst 0, 1) := by decide +kernel
theorem dX8_inPot_15 : decode cX8_inPot 15 = .ok (.iload_n 2, 1) := by decide +kernel
theorem dX8_inPot_16 : decode cX8_inPot 16 = .ok (.iadd, 1) := by decide +kernel
theorem dX8_inPot_17 : decode cX8_inPot 17 = .ok (.iaload, 1) := by decide +kernel
theorem dX8_inPot_18 : decode cX8_inPot 18 = .ok (.iadd, 1) := by decide +kernel
theorem dX8_inPot_19 : decode cX8_inPot 19 = .ok (.istore_n 1, 1) := by decide +kernel
theorem dX8_inPot_20 : decode cX8_inPot 20 = .ok (.iinc 2 1, 3) := by decide +kernel
theorem dX8_inPot_23 : decode cX8_inPot 23 = .ok (.goto (-19), 3) := by decide +kernel
theorem dX8_inPot_26 : decode cX8_inPot 26 = .ok (.iload_n 1, 1) := by decide +kernel
theorem dX8_inPot_27 : decode cX8_inPot 27 = .ok (.ireturn, 1) := by decide +kernel
theorem dX8_mindAll_0 : decode cX8_mindAll 0 = .ok (.iconst 0, 1) := by decide +kernel
theorem dX8_mindAll_1 : decode cX8_mindAll 1 = .ok (.istore_n 1, 1) := by decide +kernel
theorem dX8_mindAll_2 : decode cX8_mindAll 2 = .ok (.iconst 0, 1) := by decide +kernel
theorem dX8_mindAll_3 : decode cX8_mindAll 3 = .ok (.istore_n 2, 1) := by decide +kernel
theorem dX8_mindAll_4 : decode cX8_mindAll 4 = .ok (.iload_n 2, 1) := by decide +kernel
theorem dX8_mindAll_5 : decode cX8_mindAll 5 = .ok (.aload_n 0, 1) := by decide +kernel
theorem dX8_mindAll_6 : decode cX8_mindAll 6 = .ok (.getfield 50, 3) := by decide +kernel
theorem dX8_mindAll_9 : decode cX8_mindAll 9 = .ok (.if_icmp .ge 17, 3) := by decide +kernel
theorem dX8_mindAll_12 : decode cX8_mindAll 12 = .ok (.iload_n 1, 1) := by decide +kernel
theorem dX8_mindAll_13 : decode cX8_mindAll 13 = .ok (.aload_n 0, 1) := by decide +kernel
theorem dX8_mindAll_14 : decode cX8_mindAll 14 = .ok (.iload_n 2, 1) := by decide +kernel
theorem dX8_mindAll_15 : decode cX8_mindAll 15 = .ok (.invokevirtual 144, 3) := by decide +kernel
theorem dX8_mindAll_18 : decode cX8_mindAll 18 = .ok (.iadd, 1) := by decide +kernel
theorem dX8_mindAll_19 : decode cX8_mindAll 19 = .ok (.istore_n 1, 1) := by decide +kernel
theorem dX8_mindAll_20 : decode cX8_mindAll 20 = .ok (.iinc 2 1, 3) := by decide +kernel
theorem dX8_mindAll_23 : decode cX8_mindAll 23 = .ok (.goto (-19), 3) := by decide +kernel
theorem dX8_mindAll_26 : decode cX8_mindAll 26 = .ok (.iload_n 1, 1) := by decide +kernel
theorem dX8_mindAll_27 : decode cX8_mindAll 27 = .ok (.ireturn, 1) := by decide +kernel
theorem dX8_canBe_0 : decode cX8_canBe 0 = .ok (.iload_n 1, 1) := by decide +kernel
theorem dX8_canBe_1 : decode cX8_canBe 1 = .ok (.iconst 4, 1) := by decide +kernel
theorem dX8_canBe_2 : decode cX8_canBe 2 = .ok (.if_icmp .ne 18, 3) := by decide +kernel
theorem dX8_canBe_5 : decode cX8_canBe 5 = .ok (.aload_n 0, 1) := by decide +kernel
theorem dX8_canBe_6 : decode cX8_canBe 6 = .ok (.invokevirtual 147, 3) := by decide +kernel
theorem dX8_canBe_9 : decode cX8_canBe 9 = .ok (.ifCond .le 7, 3) := by decide +kernel
theorem dX8_canBe_12 : decode cX8_canBe 12 = .ok (.iconst 1, 1) := by decide +kernel
theorem dX8_canBe_13 : decode cX8_canBe 13 = .ok (.goto 24, 3) := by decide +kernel
theorem dX8_canBe_16 : decode cX8_canBe 16 = .ok (.iconst 0, 1) := by decide +kernel
theorem dX8_canBe_17 : decode cX8_canBe 17 = .ok (.goto 20, 3) := by decide +kernel
theorem dX8_canBe_20 : decode cX8_canBe 20 = .ok (.aload_n 0, 1) := by decide +kernel
theorem dX8_canBe_21 : decode cX8_canBe 21 = .ok (.getfield 44, 3) := by decide +kernel
theorem dX8_canBe_24 : decode cX8_canBe 24 = .ok (.iconst 0, 1) := by decide +kernel
theorem dX8_canBe_25 : decode cX8_canBe 25 = .ok (.iload_n 1, 1) := by decide +kernel
theorem dX8_canBe_26 : decode cX8_canBe 26 = .ok (.iadd, 1) := by decide +kernel
theorem dX8_canBe_27 : decode cX8_canBe 27 = .ok (.iaload, 1) := by decide +kernel
theorem dX8_canBe_28 : decode cX8_canBe 28 = .ok (.iconst 5, 1) := by decide +kernel
theorem dX8_canBe_29 : decode cX8_canBe 29 = .ok (.if_icmp .ge 7, 3) := by decide +kernel
theorem dX8_canBe_32 : decode cX8_canBe 32 = .ok (.iconst 1, 1) := by decide +kernel
theorem dX8_canBe_33 : decode cX8_canBe 33 = .ok (.goto 4, 3) := by decide +kernel
theorem dX8_canBe_36 : decode cX8_canBe 36 = .ok (.iconst 0, 1) := by decide +kernel
theorem dX8_canBe_37 : decode cX8_canBe 37 = .ok (.ireturn, 1) := by decide +kernel
theorem dX8_does_0 : decode cX8_does 0 = .ok (.iconst 0, 1) := by decide +kernel
theorem dX8_does_1 : decode cX8_does 1 = .ok (.istore_n 2, 1) := by decide +kernel
theorem dX8_does_2 : decode cX8_does 2 = .ok (.iload_n 2, 1) := by decide +kernel
theorem dX8_does_3 : decode cX8_does 3 = .ok (.iconst 4, 1) := by decide +kernel
theorem dX8_does_4 : decode cX8_does 4 = .ok (.if_icmp .ge 53, 3) := by decide +kernel
theorem dX8_does_7 : decode cX8_does 7 = .ok (.aload_n 0, 1) := by decide +kernel
theorem dX8_does_8 : decode cX8_does 8 = .ok (.getfield 44, 3) := by decide +kernel
theorem dX8_does_11 : decode cX8_does 11 = .ok (.iconst 0, 1) := by decide +kernel
theorem dX8_does_12 : decode cX8_does 12 = .ok (.iload_n 2, 1) := by decide +kernel
theorem dX8_does_13 : decode cX8_does 13 = .ok (.iadd, 1) := by decide +kernel
theorem dX8_does_14 : decode cX8_does 14 = .ok (.iaload, 1) := by decide +kernel
theorem dX8_does_15 : decode cX8_does 15 = .ok (.istore_n 3, 1) := by decide +kernel
theorem dX8_does_16 : decode cX8_does 16 = .ok (.aload_n 0, 1) := by decide +kernel
theorem dX8_does_17 : decode cX8_does 17 = .ok (.getfield 44, 3) := by decide +kernel
theorem dX8_does_20 : decode cX8_does 20 = .ok (.iconst 0, 1) := by decide +kernel
theorem dX8_does_21 : decode cX8_does 21 = .ok (.iload_n 2, 1) := by decide +kernel
theorem dX8_does_22 : decode cX8_does 22 = .ok (.iadd, 1) := by decide +kernel
theorem dX8_does_23 : decode cX8_does 23 = .ok (.iload_n 1, 1) := by decide +kernel
theorem dX8_does_24 : decode cX8_does 24 = .ok (.iload_n 2, 1) := by decide +kernel
theorem dX8_does_25 : decode cX8_does 25 = .ok (.if_icmp .ne 9, 3) := by decide +kernel
theorem dX8_does_28 : decode cX8_does 28 = .ok (.iload_n 3, 1) := by decide +kernel
theorem dX8_does_29 : decode cX8_does 29 = .ok (.iconst 1, 1) := by decide +kernel
theorem dX8_does_30 : decode cX8_does 30 = .ok (.iadd, 1) := by decide +kernel
theorem dX8_does_31 : decode cX8_does 31 = .ok (.goto 19, 3) := by decide +kernel
theorem dX8_does_34 : decode cX8_does 34 = .ok (.iload_n 1, 1) := by decide +kernel
theorem dX8_does_35 : decode cX8_does 35 = .ok (.iconst 4, 1) := by decide +kernel
theorem dX8_does_36 : decode cX8_does 36 = .ok (.if_icmp .ne 13, 3) := by decide +kernel
theorem dX8_does_39 : decode cX8_does 39 = .ok (.iload_n 3, 1) := by decide +kernel
theorem dX8_does_40 : decode cX8_does 40 = .ok (.ifCond .le 9, 3) := by decide +kernel
theorem dX8_does_43 : decode cX8_does 43 = .ok (.iload_n 3, 1) := by decide +kernel
theorem dX8_does_44 : decode cX8_does 44 = .ok (.iconst 1, 1) := by decide +kernel
theorem dX8_does_45 : decode cX8_does 45 = .ok (.isub, 1) := by decide +kernel
theorem dX8_does_46 : decode cX8_does 46 = .ok (.goto 4, 3) := by decide +kernel
theorem dX8_does_49 : decode cX8_does 49 = .ok (.iload_n 3, 1) := by decide +kernel
theorem dX8_does_50 : decode cX8_does 50 = .ok (.iastore, 1) := by decide +kernel
theorem dX8_does_51 : decode cX8_does 51 = .ok (.iinc 2 1, 3) := by decide +kernel
theorem dX8_does_54 : decode cX8_does 54 = .ok (.goto (-52), 3) := by decide +kernel
theorem dX8_does_57 : decode cX8_does 57 = .ok (.return_, 1) := by decide +kernel
theorem dX8_pot_0 : decode cX8_pot 0 = .ok (.iload_n 1, 1) := by decide +kernel
theorem dX8_pot_1 : decode cX8_pot 1 = .ok (.invokestatic 151, 3) := by decide +kernel
theorem dX8_pot_4 : decode cX8_pot 4 = .ok (.ifCond .eq 14, 3) := by decide +kernel
theorem dX8_pot_7 : decode cX8_pot 7 = .ok (.aload_n 0, 1) := by decide +kernel
theorem dX8_pot_8 : decode cX8_pot 8 = .ok (.getfield 16, 3) := by decide +kernel
theorem dX8_pot_11 : decode cX8_pot 11 = .ok (.iconst 0, 1) := by decide +kernel
theorem dX8_pot_12 : decode cX8_pot 12 = .ok (.iload_n 1, 1) := by decide +kernel
theorem dX8_pot_13 : decode cX8_pot 13 = .ok (.iadd, 1) := by decide +kernel
theorem dX8_pot_14 : decode cX8_pot 14 = .ok (.iaload, 1) := by decide +kernel
theorem dX8_pot_15 : decode cX8_pot 15 = .ok (.goto 4, 3) := by decide +kernel
theorem dX8_pot_18 : decode cX8_pot 18 = .ok (.iconst (-1), 1) := by decide +kernel
theorem dX8_pot_19 : decode cX8_pot 19 = .ok (.ireturn, 1) := by decide +kernel
theorem dX8_brother_0 : decode cX8_brother 0 = .ok (.aload_n 0, 1) := by decide +kernel
theorem dX8_brother_1 : decode cX8_brother 1 = .ok (.iload_n 1, 1) := by decide +kernel
theorem dX8_brother_2 : decode cX8_brother 2 = .ok (.invokevirtual 154, 3) := by decide +kernel
theorem dX8_brother_5 : decode cX8_brother 5 = .ok (.ifCond .eq 13, 3) := by decide +kernel
theorem dX8_brother_8 : decode cX8_brother 8 = .ok (.iload_n 2, 1) := by decide +kernel
theorem dX8_brother_9 : decode cX8_brother 9 = .ok (.iconst 0, 1) := by decide +kernel
theorem dX8_brother_10 : decode cX8_brother 10 = .ok (.bipush 8, 2) := by decide +kernel
theorem dX8_brother_12 : decode cX8_brother 12 = .ok (.invokestatic 54, 3) := by decide +kernel
theorem dX8_brother_15 : decode cX8_brother 15 = .ok (.ifCond .ne 5, 3) := by decide +kernel
theorem dX8_brother_18 : decode cX8_brother 18 = .ok (.iconst (-1), 1) := by decide +kernel
theorem dX8_brother_19 : decode cX8_brother 19 = .ok (.ireturn, 1) := by decide +kernel
theorem dX8_brother_20 : decode cX8_brother 20 = .ok (.aload_n 0, 1) := by decide +kernel
theorem dX8_brother_21 : decode cX8_brother 21 = .ok (.invokevirtual 157, 3) := by decide +kernel
theorem dX8_brother_24 : decode cX8_brother 24 = .ok (.iload_n 2, 1) := by decide +kernel
theorem dX8_brother_25 : decode cX8_brother 25 = .ok (.tableswitch 74 4 8 #[35, 42, 53, 59, 65], 35) := by decide +kernel
theorem dX8_brother_60 : decode cX8_brother 60 = .ok (.aload_n 0, 1) := by decide +kernel
theorem dX8_brother_61 : decode cX8_brother 61 = .ok (.getfield 13, 3) := by decide +kernel
theorem dX8_brother_64 : decode cX8_brother 64 = .ok (.iload_n 1, 1) := by decide +kernel
theorem dX8_brother_65 : decode cX8_brother 65 = .ok (.iaload, 1) := by decide +kernel
theorem dX8_brother_66 : decode cX8_brother 66 = .ok (.ireturn, 1) := by decide +kernel
theorem dX8_brother_67 : decode cX8_brother 67 = .ok (.aload_n 0, 1) := by decide +kernel
theorem dX8_brother_68 : decode cX8_brother 68 = .ok (.getfield 16, 3) := by decide +kernel
theorem dX8_brother_71 : decode cX8_brother 71 = .ok (.iconst 4, 1) := by decide +kernel
theorem dX8_brother_72 : decode cX8_brother 72 = .ok (.iaload, 1) := by decide +kernel
theorem dX8_brother_73 : decode cX8_brother 73 = .ok (.iload_n 1, 1) := by decide +kernel
theorem dX8_brother_74 : decode cX8_brother 74 = .ok (.ishr, 1) := by decide +kernel
theorem dX8_brother_75 : decode cX8_brother 75 = .ok (.iconst 1, 1) := by decide +kernel
theorem dX8_brother_76 : decode cX8_brother 76 = .ok (.iand, 1) := by decide +kernel
theorem dX8_brother_77 : decode cX8_brother 77 = .ok (.ireturn, 1) := by decide +kernel
theorem dX8_brother_78 : decode cX8_brother 78 = .ok (.aload_n 0, 1) := by decide +kernel
theorem dX8_brother_79 : decode cX8_brother 79 = .ok (.iload_n 1, 1) := by decide +kernel
theorem dX8_brother_80 : decode cX8_brother 80 = .ok (.invokevirtual 141, 3) := by decide +kernel
theorem dX8_brother_83 : decode cX8_brother 83 = .ok (.ireturn, 1) := by decide +kernel
theorem dX8_brother_84 : decode cX8_brother 84 = .ok (.aload_n 0, 1) := by decide +kernel
theorem dX8_brother_85 : decode cX8_brother 85 = .ok (.iload_n 1, 1) := by decide +kernel
theorem dX8_brother_86 : decode cX8_brother 86 = .ok (.invokevirtual 144, 3) := by decide +kernel
theorem dX8_brother_89 : decode cX8_brother 89 = .ok (.ireturn, 1) := by decide +kernel
theorem dX8_brother_90 : decode cX8_brother 90 = .ok (.aload_n 0, 1) := by decide +kernel
theorem dX8_brother_91 : decode cX8_brother 91 = .ok (.getfield 16, 3) := by decide +kernel
theorem dX8_brother_94 : decode cX8_brother 94 = .ok (.iconst 5, 1) := by decide +kernel
theorem dX8_brother_95 : decode cX8_brother 95 = .ok (.iload_n 1, 1) := by decide +kernel
theorem dX8_brother_96 : decode cX8_brother 96 = .ok (.iadd, 1) := by decide +kernel
theorem dX8_brother_97 : decode cX8_brother 97 = .ok (.iaload, 1) := by decide +kernel
theorem dX8_brother_98 : decode cX8_brother 98 = .ok (.ireturn, 1) := by decide +kernel
theorem dX8_brother_99 : decode cX8_brother 99 = .ok (.aload_n 0, 1) := by decide +kernel
theorem dX8_brother_100 : decode cX8_brother 100 = .ok (.getfield 7, 3) := by decide +kernel
theorem dX8_brother_103 : decode cX8_brother 103 = .ok (.iconst 4, 1) := by decide +kernel
theorem dX8_brother_104 : decode cX8_brother 104 = .ok (.iload_n 1, 1) := by decide +kernel
theorem dX8_brother_105 : decode cX8_brother 105 = .ok (.imul, 1) := by decide +kernel
theorem dX8_brother_106 : decode cX8_brother 106 = .ok (.iload_n 2, 1) := by decide +kernel
theorem dX8_brother_107 : decode cX8_brother 107 = .ok (.iadd, 1) := by decide +kernel
theorem dX8_brother_108 : decode cX8_brother 108 = .ok (.iaload, 1) := by decide +kernel
theorem dX8_brother_109 : decode cX8_brother 109 = .ok (.ireturn, 1) := by decide +kernel
theorem dX8_off_0 : decode cX8_off 0 = .ok (.aload_n 0, 1) := by decide +kernel
theorem dX8_off_1 : decode cX8_off 1 = .ok (.iload_n 1, 1) := by decide +kernel
theorem dX8_off_2 : decode cX8_off 2 = .ok (.invokevirtual 154, 3) := by decide +kernel
theorem dX8_off_5 : decode cX8_off 5 = .ok (.ifCond .eq 10, 3) := by decide +kernel
theorem dX8_off_8 : decode cX8_off 8 = .ok (.iload_n 2, 1) := by decide +kernel
theorem dX8_off_9 : decode cX8_off 9 = .ok (.invokestatic 151, 3) := by decide +kernel
theorem dX8_off_12 : decode cX8_off 12 = .ok (.ifCond .ne 6, 3) := by decide +kernel
theorem dX8_off_15 : decode cX8_off 15 = .ok (.ldc 160, 2) := by decide +kernel
theorem dX8_off_17 : decode cX8_off 17 = .ok (.ireturn, 1) := by decide +kernel
theorem dX8_off_18 : decode cX8_off 18 = .ok (.aload_n 0, 1) := by decide +kernel
theorem dX8_off_19 : decode cX8_off 19 = .ok (.invokevirtual 157, 3) := by decide +kernel
theorem dX8_off_22 : decode cX8_off 22 = .ok (.aload_n 0, 1) := by decide +kernel
theorem dX8_off_23 : decode cX8_off 23 = .ok (.iload_n 1, 1) := by decide +kernel
theorem dX8_off_24 : decode cX8_off 24 = .ok (.iload_n 2, 1) := by decide +kernel
theorem dX8_off_25 : decode cX8_off 25 = .ok (.aload_n 0, 1) := by decide +kernel
theorem dX8_off_26 : decode cX8_off 26 = .ok (.getfield 16, 3) := by decide +kernel
theorem dX8_off_29 : decode cX8_off 29 = .ok (.iconst 4, 1) := by decide +kernel
theorem dX8_off_30 : decode cX8_off 30 = .ok (.iaload, 1) := by decide +kernel
theorem dX8_off_31 : decode cX8_off 31 = .ok (.iload_n 1, 1) := by decide +kernel
theorem dX8_off_32 : decode cX8_off 32 = .ok (.invokestatic 133, 3) := by decide +kernel
theorem dX8_off_35 : decode cX8_off 35 = .ok (.invokevirtual 127, 3) := by decide +kernel
theorem dX8_off_38 : decode cX8_off 38 = .ok (.ireturn, 1) := by decide +kernel
theorem dX8_now_0 : decode cX8_now 0 = .ok (.aload_n 0, 1) := by decide +kernel
theorem dX8_now_1 : decode cX8_now 1 = .ok (.invokevirtual 157, 3) := by decide +kernel
theorem dX8_now_4 : decode cX8_now 4 = .ok (.iload_n 1, 1) := by decide +kernel
theorem dX8_now_5 : decode cX8_now 5 = .ok (.tableswitch 62 0 4 #[35, 40, 47, 52, 57], 35) := by decide +kernel
theorem dX8_now_40 : decode cX8_now 40 = .ok (.aload_n 0, 1) := by decide +kernel
theorem dX8_now_41 : decode cX8_now 41 = .ok (.invokevirtual 161, 3) := by decide +kernel
theorem dX8_now_44 : decode cX8_now 44 = .ok (.ireturn, 1) := by decide +kernel
theorem dX8_now_45 : decode cX8_now 45 = .ok (.aload_n 0, 1) := by decide +kernel
theorem dX8_now_46 : decode cX8_now 46 = .ok (.getfield 16, 3) := by decide +kernel
theorem dX8_now_49 : decode cX8_now 49 = .ok (.iconst 4, 1) := by decide +kernel
theorem dX8_now_50 : decode cX8_now 50 = .ok (.iaload, 1) := by decide +kernel
theorem dX8_now_51 : decode cX8_now 51 = .ok (.ireturn, 1) := by decide +kernel
theorem dX8_now_52 : decode cX8_now 52 = .ok (.aload_n 0, 1) := by decide +kernel
theorem dX8_now_53 : decode cX8_now 53 = .ok (.invokevirtual 147, 3) := by decide +kernel
theorem dX8_now_56 : decode cX8_now 56 = .ok (.ireturn, 1) := by decide +kernel
theorem dX8_now_57 : decode cX8_now 57 = .ok (.aload_n 0, 1) := by decide +kernel
theorem dX8_now_58 : decode cX8_now 58 = .ok (.invokevirtual 164, 3) := by decide +kernel
theorem dX8_now_61 : decode cX8_now 61 = .ok (.ireturn, 1) := by decide +kernel
theorem dX8_now_62 : decode cX8_now 62 = .ok (.aload_n 0, 1) := by decide +kernel
theorem dX8_now_63 : decode cX8_now 63 = .ok (.getfield 113, 3) := by decide +kernel
theorem dX8_now_66 : decode cX8_now 66 = .ok (.ireturn, 1) := by decide +kernel
theorem dX8_now_67 : decode cX8_now 67 = .ok (.iconst (-1), 1) := by decide +kernel
theorem dX8_now_68 : decode cX8_now 68 = .ok (.ireturn, 1) := by decide +kernel
theorem dX8_remembers_0 : decode cX8_remembers 0 = .ok (.aload_n 0, 1) := by decide +kernel
theorem dX8_remembers_1 : decode cX8_remembers 1 = .ok (.getfield 113, 3) := by decide +kernel
theorem dX8_remembers_4 : decode cX8_remembers 4 = .ok (.bipush 10, 2) := by decide +kernel
theorem dX8_remembers_6 : decode cX8_remembers 6 = .ok (.if_icmp .ne 42, 3) := by decide +kernel
theorem dX8_remembers_9 : decode cX8_remembers 9 = .ok (.iconst 0, 1) := by decide +kernel
theorem dX8_remembers_10 : decode cX8_remembers 10 = .ok (.istore_n 1, 1) := by decide +kernel
theorem dX8_remembers_11 : decode cX8_remembers 11 = .ok (.iload_n 1, 1) := by decide +kernel
theorem dX8_remembers_12 : decode cX8_remembers 12 = .ok (.bipush 99, 2) := by decide +kernel
theorem dX8_remembers_14 : decode cX8_remembers 14 = .ok (.if_icmp .ge 24, 3) := by decide +kernel
theorem dX8_remembers_17 : decode cX8_remembers 17 = .ok (.aload_n 0, 1) := by decide +kernel
theorem dX8_remembers_18 : decode cX8_remembers 18 = .ok (.getfield 19, 3) := by decide +kernel
theorem dX8_remembers_21 : decode cX8_remembers 21 = .ok (.iload_n 1, 1) := by decide +kernel
theorem dX8_remembers_22 : decode cX8_remembers 22 = .ok (.aload_n 0, 1) := by decide +kernel
theorem dX8_remembers_23 : decode cX8_remembers 23 = .ok (.getfield 19, 3) := by decide +kernel
theorem dX8_remembers_26 : decode cX8_remembers 26 = .ok (.iload_n 1, 1) := by decide +kernel
theorem dX8_remembers_27 : decode cX8_remembers 27 = .ok (.bipush 11, 2) := by decide +kernel
theorem dX8_remembers_29 : decode cX8_remembers 29 = .ok (.iadd, 1) := by decide +kernel
theorem dX8_remembers_30 : decode cX8_remembers 30 = .ok (.iaload, 1) := by decide +kernel
theorem dX8_remembers_31 : decode cX8_remembers 31 = .ok (.iastore, 1) := by decide +kernel
theorem dX8_remembers_32 : decode cX8_remembers 32 = .ok (.iinc 1 1, 3) := by decide +kernel
theorem dX8_remembers_35 : decode cX8_remembers 35 = .ok (.goto (-24), 3) := by decide +kernel
theorem dX8_remembers_38 : decode cX8_remembers 38 = .ok (.aload_n 0, 1) := by decide +kernel
theorem dX8_remembers_39 : decode cX8_remembers 39 = .ok (.dup, 1) := by decide +kernel
theorem dX8_remembers_40 : decode cX8_remembers 40 = .ok (.getfield 113, 3) := by decide +kernel
theorem dX8_remembers_43 : decode cX8_remembers 43 = .ok (.iconst 1, 1) := by decide +kernel
theorem dX8_remembers_44 : decode cX8_remembers 44 = .ok (.isub, 1) := by decide +kernel
theorem dX8_remembers_45 : decode cX8_remembers 45 = .ok (.putfield 113, 3) := by decide +kernel
theorem dX8_remembers_48 : decode cX8_remembers 48 = .ok (.aload_n 0, 1) := by decide +kernel
theorem dX8_remembers_49 : decode cX8_remembers 49 = .ok (.getfield 19, 3) := by decide +kernel
theorem dX8_remembers_52 : decode cX8_remembers 52 = .ok (.bipush 11, 2) := by decide +kernel
theorem dX8_remembers_54 : decode cX8_remembers 54 = .ok (.aload_n 0, 1) := by decide +kernel
theorem dX8_remembers_55 : decode cX8_remembers 55 = .ok (.getfield 113, 3) := by decide +kernel
theorem dX8_remembers_58 : decode cX8_remembers 58 = .ok (.imul, 1) := by decide +kernel
theorem dX8_remembers_59 : decode cX8_remembers 59 = .ok (.aload_n 0, 1) := by decide +kernel
theorem dX8_remembers_60 : decode cX8_remembers 60 = .ok (.getfield 16, 3) := by decide +kernel
theorem dX8_remembers_63 : decode cX8_remembers 63 = .ok (.iconst 0, 1) := by decide +kernel
theorem dX8_remembers_64 : decode cX8_remembers 64 = .ok (.invokestatic 119, 3) := by decide +kernel
theorem dX8_remembers_67 : decode cX8_remembers 67 = .ok (.aload_n 0, 1) := by decide +kernel
theorem dX8_remembers_68 : decode cX8_remembers 68 = .ok (.dup, 1) := by decide +kernel
theorem dX8_remembers_69 : decode cX8_remembers 69 = .ok (.getfield 113, 3) := by decide +kernel
theorem dX8_remembers_72 : decode cX8_remembers 72 = .ok (.iconst 1, 1) := by decide +kernel
theorem dX8_remembers_73 : decode cX8_remembers 73 = .ok (.iadd, 1) := by decide +kernel
theorem dX8_remembers_74 : decode cX8_remembers 74 = .ok (.putfield 113, 3) := by decide +kernel
theorem dX8_remembers_77 : decode cX8_remembers 77 = .ok (.return_, 1) := by decide +kernel
theorem dX8_adds_0 : decode cX8_adds 0 = .ok (.iload_n 1, 1) := by decide +kernel
theorem dX8_adds_1 : decode cX8_adds 1 = .ok (.invokestatic 151, 3) := by decide +kernel
theorem dX8_adds_4 : decode cX8_adds 4 = .ok (.ifCond .ne 5, 3) := by decide +kernel
theorem dX8_adds_7 : decode cX8_adds 7 = .ok (.iconst (-1), 1) := by decide +kernel
theorem dX8_adds_8 : decode cX8_adds 8 = .ok (.ireturn, 1) := by decide +kernel
theorem dX8_adds_9 : decode cX8_adds 9 = .ok (.aload_n 0, 1) := by decide +kernel
theorem dX8_adds_10 : decode cX8_adds 10 = .ok (.getfield 16, 3) := by decide +kernel
theorem dX8_adds_13 : decode cX8_adds 13 = .ok (.iconst 0, 1) := by decide +kernel
theorem dX8_adds_14 : decode cX8_adds 14 = .ok (.iload_n 1, 1) := by decide +kernel
theorem dX8_adds_15 : decode cX8_adds 15 = .ok (.iadd, 1) := by decide +kernel
theorem dX8_adds_16 : decode cX8_adds 16 = .ok (.iaload, 1) := by decide +kernel
theorem dX8_adds_17 : decode cX8_adds 17 = .ok (.iconst 5, 1) := by decide +kernel
theorem dX8_adds_18 : decode cX8_adds 18 = .ok (.if_icmp .ne 6, 3) := by decide +kernel
theorem dX8_adds_21 : decode cX8_adds 21 = .ok (.bipush (-2), 2) := by decide +kernel
theorem dX8_adds_23 : decode cX8_adds 23 = .ok (.ireturn, 1) := by decide +kernel
theorem dX8_adds_24 : decode cX8_adds 24 = .ok (.aload_n 0, 1) := by decide +kernel
theorem dX8_adds_25 : decode cX8_adds 25 = .ok (.invokevirtual 167, 3) := by decide +kernel
theorem dX8_adds_28 : decode cX8_adds 28 = .ok (.aload_n 0, 1) := by decide +kernel
theorem dX8_adds_29 : decode cX8_adds 29 = .ok (.getfield 16, 3) := by decide +kernel
theorem dX8_adds_32 : decode cX8_adds 32 = .ok (.iconst 0, 1) := by decide +kernel
theorem dX8_adds_33 : decode cX8_adds 33 = .ok (.iload_n 1, 1) := by decide +kernel
theorem dX8_adds_34 : decode cX8_adds 34 = .ok (.iadd, 1) := by decide +kernel
theorem dX8_adds_35 : decode cX8_adds 35 = .ok (.dup2, 1) := by decide +kernel
theorem dX8_adds_36 : decode cX8_adds 36 = .ok (.iaload, 1) := by decide +kernel
theorem dX8_adds_37 : decode cX8_adds 37 = .ok (.iconst 1, 1) := by decide +kernel
theorem dX8_adds_38 : decode cX8_adds 38 = .ok (.iadd, 1) := by decide +kernel
theorem dX8_adds_39 : decode cX8_adds 39 = .ok (.iastore, 1) := by decide +kernel
theorem dX8_adds_40 : decode cX8_adds 40 = .ok (.aload_n 0, 1) := by decide +kernel
theorem dX8_adds_41 : decode cX8_adds 41 = .ok (.getfield 16, 3) := by decide +kernel
theorem dX8_adds_44 : decode cX8_adds 44 = .ok (.iconst 0, 1) := by decide +kernel
theorem dX8_adds_45 : decode cX8_adds 45 = .ok (.iload_n 1, 1) := by decide +kernel
theorem dX8_adds_46 : decode cX8_adds 46 = .ok (.iadd, 1) := by decide +kernel
theorem dX8_adds_47 : decode cX8_adds 47 = .ok (.iaload, 1) := by decide +kernel
theorem dX8_adds_48 : decode cX8_adds 48 = .ok (.ireturn, 1) := by decide +kernel
theorem dX8_waters_0 : decode cX8_waters 0 = .ok (.aload_n 0, 1) := by decide +kernel
theorem dX8_waters_1 : decode cX8_waters 1 = .ok (.invokevirtual 157, 3) := by decide +kernel
theorem dX8_waters_4 : decode cX8_waters 4 = .ok (.aload_n 0, 1) := by decide +kernel
theorem dX8_waters_5 : decode cX8_waters 5 = .ok (.invokevirtual 147, 3) := by decide +kernel
theorem dX8_waters_8 : decode cX8_waters 8 = .ok (.ifCond .ne 6, 3) := by decide +kernel
theorem dX8_waters_11 : decode cX8_waters 11 = .ok (.bipush (-2), 2) := by decide +kernel
theorem dX8_waters_13 : decode cX8_waters 13 = .ok (.ireturn, 1) := by decide +kernel
theorem dX8_waters_14 : decode cX8_waters 14 = .ok (.aload_n 0, 1) := by decide +kernel
theorem dX8_waters_15 : decode cX8_waters 15 = .ok (.invokevirtual 167, 3) := by decide +kernel
theorem dX8_waters_18 : decode cX8_waters 18 = .ok (.aload_n 0, 1) := by decide +kernel
theorem dX8_waters_19 : decode cX8_waters 19 = .ok (.iconst 4, 1) := by decide +kernel
theorem dX8_waters_20 : decode cX8_waters 20 = .ok (.invokevirtual 170, 3) := by decide +kernel
theorem dX8_waters_23 : decode cX8_waters 23 = .ok (.aload_n 0, 1) := by decide +kernel
theorem dX8_waters_24 : decode cX8_waters 24 = .ok (.getfield 16, 3) := by decide +kernel
theorem dX8_waters_27 : decode cX8_waters 27 = .ok (.iconst 0, 1) := by decide +kernel
theorem dX8_waters_28 : decode cX8_waters 28 = .ok (.aload_n 0, 1) := by decide +kernel
theorem dX8_waters_29 : decode cX8_waters 29 = .ok (.getfield 44, 3) := by decide +kernel
theorem dX8_waters_32 : decode cX8_waters 32 = .ok (.iconst 0, 1) := by decide +kernel
theorem dX8_waters_33 : decode cX8_waters 33 = .ok (.invokestatic 119, 3) := by decide +kernel
theorem dX8_waters_36 : decode cX8_waters 36 = .ok (.aload_n 0, 1) := by decide +kernel
theorem dX8_waters_37 : decode cX8_waters 37 = .ok (.invokevirtual 147, 3) := by decide +kernel
theorem dX8_waters_40 : decode cX8_waters 40 = .ok (.ireturn, 1) := by decide +kernel
theorem dX8_sends_0 : decode cX8_sends 0 = .ok (.aload_n 0, 1) := by decide +kernel
theorem dX8_sends_1 : decode cX8_sends 1 = .ok (.iload_n 1, 1) := by decide +kernel
theorem dX8_sends_2 : decode cX8_sends 2 = .ok (.invokevirtual 154, 3) := by decide +kernel
theorem dX8_sends_5 : decode cX8_sends 5 = .ok (.ifCond .ne 5, 3) := by decide +kernel
theorem dX8_sends_8 : decode cX8_sends 8 = .ok (.iconst (-1), 1) := by decide +kernel
theorem dX8_sends_9 : decode cX8_sends 9 = .ok (.ireturn, 1) := by decide +kernel
theorem dX8_sends_10 : decode cX8_sends 10 = .ok (.aload_n 0, 1) := by decide +kernel
theorem dX8_sends_11 : decode cX8_sends 11 = .ok (.invokevirtual 167, 3) := by decide +kernel
theorem dX8_sends_14 : decode cX8_sends 14 = .ok (.aload_n 0, 1) := by decide +kernel
theorem dX8_sends_15 : decode cX8_sends 15 = .ok (.invokevirtual 157, 3) := by decide +kernel
theorem dX8_sends_18 : decode cX8_sends 18 = .ok (.aload_n 0, 1) := by decide +kernel
theorem dX8_sends_19 : decode cX8_sends 19 = .ok (.getfield 16, 3) := by decide +kernel
theorem dX8_sends_22 : decode cX8_sends 22 = .ok (.iconst 5, 1) := by decide +kernel
theorem dX8_sends_23 : decode cX8_sends 23 = .ok (.iload_n 1, 1) := by decide +kernel
theorem dX8_sends_24 : decode cX8_sends 24 = .ok (.iadd, 1) := by decide +kernel
theorem dX8_sends_25 : decode cX8_sends 25 = .ok (.aload_n 0, 1) := by decide +kernel
theorem dX8_sends_26 : decode cX8_sends 26 = .ok (.iload_n 1, 1) := by decide +kernel
theorem dX8_sends_27 : decode cX8_sends 27 = .ok (.invokevirtual 141, 3) := by decide +kernel
theorem dX8_sends_30 : decode cX8_sends 30 = .ok (.iastore, 1) := by decide +kernel
theorem dX8_sends_31 : decode cX8_sends 31 = .ok (.aload_n 0, 1) := by decide +kernel
theorem dX8_sends_32 : decode cX8_sends 32 = .ok (.getfield 16, 3) := by decide +kernel
theorem dX8_sends_35 : decode cX8_sends 35 = .ok (.iconst 5, 1) := by decide +kernel
theorem dX8_sends_36 : decode cX8_sends 36 = .ok (.iload_n 1, 1) := by decide +kernel
theorem dX8_sends_37 : decode cX8_sends 37 = .ok (.iadd, 1) := by decide +kernel
theorem dX8_sends_38 : decode cX8_sends 38 = .ok (.iaload, 1) := by decide +kernel
theorem dX8_sends_39 : decode cX8_sends 39 = .ok (.ireturn, 1) := by decide +kernel
theorem dX8_colds_0 : decode cX8_colds 0 = .ok (.aload_n 0, 1) := by decide +kernel
theorem dX8_colds_1 : decode cX8_colds 1 = .ok (.iload_n 1, 1) := by decide +kernel
theorem dX8_colds_2 : decode cX8_colds 2 = .ok (.invokevirtual 154, 3) := by decide +kernel
theorem dX8_colds_5 : decode cX8_colds 5 = .ok (.ifCond .eq 12, 3) := by decide +kernel
theorem dX8_colds_8 : decode cX8_colds 8 = .ok (.iload_n 2, 1) := by decide +kernel
theorem dX8_colds_9 : decode cX8_colds 9 = .ok (.iconst 0, 1) := by decide +kernel
theorem dX8_colds_10 : decode cX8_colds 10 = .ok (.iconst 1, 1) := by decide +kernel
theorem dX8_colds_11 : decode cX8_colds 11 = .ok (.invokestatic 54, 3) := by decide +kernel
theorem dX8_colds_14 : decode cX8_colds 14 = .ok (.ifCond .ne 5, 3) := by decide +kernel
theorem dX8_colds_17 : decode cX8_colds 17 = .ok (.iconst (-1), 1) := by decide +kernel
theorem dX8_colds_18 : decode cX8_colds 18 = .ok (.ireturn, 1) := by decide +kernel
theorem dX8_colds_19 : decode cX8_colds 19 = .ok (.aload_n 0, 1) := by decide +kernel
theorem dX8_colds_20 : decode cX8_colds 20 = .ok (.getfield 16, 3) := by decide +kernel
theorem dX8_colds_23 : decode cX8_colds 23 = .ok (.iconst 4, 1) := by decide +kernel
theorem dX8_colds_24 : decode cX8_colds 24 = .ok (.iaload, 1) := by decide +kernel
theorem dX8_colds_25 : decode cX8_colds 25 = .ok (.iload_n 1, 1) := by decide +kernel
theorem dX8_colds_26 : decode cX8_colds 26 = .ok (.ishr, 1) := by decide +kernel
theorem dX8_colds_27 : decode cX8_colds 27 = .ok (.iconst 1, 1) := by decide +kernel
theorem dX8_colds_28 : decode cX8_colds 28 = .ok (.iand, 1) := by decide +kernel
theorem dX8_colds_29 : decode cX8_colds 29 = .ok (.iload_n 2, 1) := by decide +kernel
theorem dX8_colds_30 : decode cX8_colds 30 = .ok (.if_icmp .ne 6, 3) := by decide +kernel
theorem dX8_colds_33 : decode cX8_colds 33 = .ok (.bipush (-2), 2) := by decide +kernel
theorem dX8_colds_35 : decode cX8_colds 35 = .ok (.ireturn, 1) := by decide +kernel
theorem dX8_colds_36 : decode cX8_colds 36 = .ok (.aload_n 0, 1) := by decide +kernel
theorem dX8_colds_37 : decode cX8_colds 37 = .ok (.invokevirtual 167, 3) := by decide +kernel
theorem dX8_colds_40 : decode cX8_colds 40 = .ok (.aload_n 0, 1) := by decide +kernel
theorem dX8_colds_41 : decode cX8_colds 41 = .ok (.getfield 16, 3) := by decide +kernel
theorem dX8_colds_44 : decode cX8_colds 44 = .ok (.iconst 4, 1) := by decide +kernel
theorem dX8_colds_45 : decode cX8_colds 45 = .ok (.dup2, 1) := by decide +kernel
theorem dX8_colds_46 : decode cX8_colds 46 = .ok (.iaload, 1) := by decide +kernel
theorem dX8_colds_47 : decode cX8_colds 47 = .ok (.iconst 1, 1) := by decide +kernel
theorem dX8_colds_48 : decode cX8_colds 48 = .ok (.iload_n 1, 1) := by decide +kernel
theorem dX8_colds_49 : decode cX8_colds 49 = .ok (.ishl, 1) := by decide +kernel
theorem dX8_colds_50 : decode cX8_colds 50 = .ok (.ixor, 1) := by decide +kernel
theorem dX8_colds_51 : decode cX8_colds 51 = .ok (.iastore, 1) := by decide +kernel
theorem dX8_colds_52 : decode cX8_colds 52 = .ok (.aload_n 0, 1) := by decide +kernel
theorem dX8_colds_53 : decode cX8_colds 53 = .ok (.getfield 16, 3) := by decide +kernel
theorem dX8_colds_56 : decode cX8_colds 56 = .ok (.iconst 4, 1) := by decide +kernel
theorem dX8_colds_57 : decode cX8_colds 57 = .ok (.iaload, 1) := by decide +kernel
theorem dX8_colds_58 : decode cX8_colds 58 = .ok (.invokestatic 174, 3) := by decide +kernel
theorem dX8_colds_61 : decode cX8_colds 61 = .ok (.ireturn, 1) := by decide +kernel
theorem dX8_undo_0 : decode cX8_undo 0 = .ok (.aload_n 0, 1) := by decide +kernel
theorem dX8_undo_1 : decode cX8_undo 1 = .ok (.getfield 113, 3) := by decide +kernel
theorem dX8_undo_4 : decode cX8_undo 4 = .ok (.ifCond .ne 6, 3) := by decide +kernel
theorem dX8_undo_7 : decode cX8_undo 7 = .ok (.bipush (-2), 2) := by decide +kernel
theorem dX8_undo_9 : decode cX8_undo 9 = .ok (.ireturn, 1) := by decide +kernel
theorem dX8_undo_10 : decode cX8_undo 10 = .ok (.aload_n 0, 1) := by decide +kernel
theorem dX8_undo_11 : decode cX8_undo 11 = .ok (.dup, 1) := by decide +kernel
theorem dX8_undo_12 : decode cX8_undo 12 = .ok (.getfield 113, 3) := by decide +kernel
theorem dX8_undo_15 : decode cX8_undo 15 = .ok (.iconst 1, 1) := by decide +kernel
theorem dX8_undo_16 : decode cX8_undo 16 = .ok (.isub, 1) := by decide +kernel
theorem dX8_undo_17 : decode cX8_undo 17 = .ok (.putfield 113, 3) := by decide +kernel
theorem dX8_undo_20 : decode cX8_undo 20 = .ok (.aload_n 0, 1) := by decide +kernel
theorem dX8_undo_21 : decode cX8_undo 21 = .ok (.getfield 16, 3) := by decide +kernel
theorem dX8_undo_24 : decode cX8_undo 24 = .ok (.iconst 0, 1) := by decide +kernel
theorem dX8_undo_25 : decode cX8_undo 25 = .ok (.aload_n 0, 1) := by decide +kernel
theorem dX8_undo_26 : decode cX8_undo 26 = .ok (.getfield 19, 3) := by decide +kernel
theorem dX8_undo_29 : decode cX8_undo 29 = .ok (.bipush 11, 2) := by decide +kernel
theorem dX8_undo_31 : decode cX8_undo 31 = .ok (.aload_n 0, 1) := by decide +kernel
theorem dX8_undo_32 : decode cX8_undo 32 = .ok (.getfield 113, 3) := by decide +kernel
theorem dX8_undo_35 : decode cX8_undo 35 = .ok (.imul, 1) := by decide +kernel
theorem dX8_undo_36 : decode cX8_undo 36 = .ok (.invokestatic 119, 3) := by decide +kernel
theorem dX8_undo_39 : decode cX8_undo 39 = .ok (.aload_n 0, 1) := by decide +kernel
theorem dX8_undo_40 : decode cX8_undo 40 = .ok (.getfield 113, 3) := by decide +kernel
theorem dX8_undo_43 : decode cX8_undo 43 = .ok (.ireturn, 1) := by decide +kernel
theorem dX8_fives_0 : decode cX8_fives 0 = .ok (.iconst 1, 1) := by decide +kernel
theorem dX8_fives_1 : decode cX8_fives 1 = .ok (.istore_n 1, 1) := by decide +kernel
theorem dX8_fives_2 : decode cX8_fives 2 = .ok (.iconst 0, 1) := by decide +kernel
theorem dX8_fives_3 : decode cX8_fives 3 = .ok (.istore_n 2, 1) := by decide +kernel
theorem dX8_fives_4 : decode cX8_fives 4 = .ok (.iload_n 2, 1) := by decide +kernel
theorem dX8_fives_5 : decode cX8_fives 5 = .ok (.iload_n 0, 1) := by decide +kernel
theorem dX8_fives_6 : decode cX8_fives 6 = .ok (.if_icmp .ge 13, 3) := by decide +kernel
theorem dX8_fives_9 : decode cX8_fives 9 = .ok (.iload_n 1, 1) := by decide +kernel
theorem dX8_fives_10 : decode cX8_fives 10 = .ok (.iconst 5, 1) := by decide +kernel
theorem dX8_fives_11 : decode cX8_fives 11 = .ok (.imul, 1) := by decide +kernel
theorem dX8_fives_12 : decode cX8_fives 12 = .ok (.istore_n 1, 1) := by decide +kernel
theorem dX8_fives_13 : decode cX8_fives 13 = .ok (.iinc 2 1, 3) := by decide +kernel
theorem dX8_fives_16 : decode cX8_fives 16 = .ok (.goto (-12), 3) := by decide +kernel
theorem dX8_fives_19 : decode cX8_fives 19 = .ok (.iload_n 1, 1) := by decide +kernel
theorem dX8_fives_20 : decode cX8_fives 20 = .ok (.ireturn, 1) := by decide +kernel
theorem dX8_calmsBy_0 : decode cX8_calmsBy 0 = .ok (.iconst 1, 1) := by decide +kernel
theorem dX8_calmsBy_1 : decode cX8_calmsBy 1 = .ok (.istore 4, 2) := by decide +kernel
theorem dX8_calmsBy_3 : decode cX8_calmsBy 3 = .ok (.aload_n 0, 1) := by decide +kernel
theorem dX8_calmsBy_4 : decode cX8_calmsBy 4 = .ok (.invokevirtual 157, 3) := by decide +kernel
theorem dX8_calmsBy_7 : decode cX8_calmsBy 7 = .ok (.iconst 0, 1) := by decide +kernel
theorem dX8_calmsBy_8 : decode cX8_calmsBy 8 = .ok (.istore 5, 2) := by decide +kernel
theorem dX8_calmsBy_10 : decode cX8_calmsBy 10 = .ok (.iload 5, 2) := by decide +kernel
theorem dX8_calmsBy_12 : decode cX8_calmsBy 12 = .ok (.iload_n 3, 1) := by decide +kernel
theorem dX8_calmsBy_13 : decode cX8_calmsBy 13 = .ok (.if_icmp .ge 48, 3) := by decide +kernel
theorem dX8_calmsBy_16 : decode cX8_calmsBy 16 = .ok (.iload 4, 2) := by decide +kernel
theorem dX8_calmsBy_18 : decode cX8_calmsBy 18 = .ok (.ifCond .eq 43, 3) := by decide +kernel
theorem dX8_calmsBy_21 : decode cX8_calmsBy 21 = .ok (.iload_n 2, 1) := by decide +kernel
theorem dX8_calmsBy_22 : decode cX8_calmsBy 22 = .ok (.iload_n 3, 1) := by decide +kernel
theorem dX8_calmsBy_23 : decode cX8_calmsBy 23 = .ok (.iconst 1, 1) := by decide +kernel
theorem dX8_calmsBy_24 : decode cX8_calmsBy 24 = .ok (.isub, 1) := by decide +kernel
theorem dX8_calmsBy_25 : decode cX8_calmsBy 25 = .ok (.iload 5, 2) := by decide +kernel
theorem dX8_calmsBy_27 : decode cX8_calmsBy 27 = .ok (.isub, 1) := by decide +kernel
theorem dX8_calmsBy_28 : decode cX8_calmsBy 28 = .ok (.invokestatic 177, 3) := by decide +kernel
theorem dX8_calmsBy_31 : decode cX8_calmsBy 31 = .ok (.idiv, 1) := by decide +kernel
theorem dX8_calmsBy_32 : decode cX8_calmsBy 32 = .ok (.iconst 5, 1) := by decide +kernel
theorem dX8_calmsBy_33 : decode cX8_calmsBy 33 = .ok (.irem, 1) := by decide +kernel
theorem dX8_calmsBy_34 : decode cX8_calmsBy 34 = .ok (.istore 6, 2) := by decide +kernel
theorem dX8_calmsBy_36 : decode cX8_calmsBy 36 = .ok (.aload_n 0, 1) := by decide +kernel
theorem dX8_calmsBy_37 : decode cX8_calmsBy 37 = .ok (.iload 6, 2) := by decide +kernel
theorem dX8_calmsBy_39 : decode cX8_calmsBy 39 = .ok (.invokevirtual 180, 3) := by decide +kernel
theorem dX8_calmsBy_42 : decode cX8_calmsBy 42 = .ok (.istore 4, 2) := by decide +kernel
theorem dX8_calmsBy_44 : decode cX8_calmsBy 44 = .ok (.iload 4, 2) := by decide +kernel
theorem dX8_calmsBy_46 : decode cX8_calmsBy 46 = .ok (.ifCond .eq 9, 3) := by decide +kernel
theorem dX8_calmsBy_49 : decode cX8_calmsBy 49 = .ok (.aload_n 0, 1) := by decide +kernel
theorem dX8_calmsBy_50 : decode cX8_calmsBy 50 = .ok (.iload 6, 2) := by decide +kernel
theorem dX8_calmsBy_52 : decode cX8_calmsBy 52 = .ok (.invokevirtual 170, 3) := by decide +kernel
theorem dX8_calmsBy_55 : decode cX8_calmsBy 55 = .ok (.iinc 5 1, 3) := by decide +kernel
theorem dX8_calmsBy_58 : decode cX8_calmsBy 58 = .ok (.goto (-48), 3) := by decide +kernel
theorem dX8_calmsBy_61 : decode cX8_calmsBy 61 = .ok (.iload 4, 2) := by decide +kernel
theorem dX8_calmsBy_63 : decode cX8_calmsBy 63 = .ok (.ifCond .eq 18, 3) := by decide +kernel
theorem dX8_calmsBy_66 : decode cX8_calmsBy 66 = .ok (.iload_n 1, 1) := by decide +kernel
theorem dX8_calmsBy_67 : decode cX8_calmsBy 67 = .ok (.aload_n 0, 1) := by decide +kernel
theorem dX8_calmsBy_68 : decode cX8_calmsBy 68 = .ok (.invokevirtual 161, 3) := by decide +kernel
theorem dX8_calmsBy_71 : decode cX8_calmsBy 71 = .ok (.iconst (-1), 1) := by decide +kernel
theorem dX8_calmsBy_72 : decode cX8_calmsBy 72 = .ok (.ixor, 1) := by decide +kernel
theorem dX8_calmsBy_73 : decode cX8_calmsBy 73 = .ok (.iand, 1) := by decide +kernel
theorem dX8_calmsBy_74 : decode cX8_calmsBy 74 = .ok (.ifCond .ne 7, 3) := by decide +kernel
theorem dX8_calmsBy_77 : decode cX8_calmsBy 77 = .ok (.iconst 1, 1) := by decide +kernel
theorem dX8_calmsBy_78 : decode cX8_calmsBy 78 = .ok (.goto 4, 3) := by decide +kernel
theorem dX8_calmsBy_81 : decode cX8_calmsBy 81 = .ok (.iconst 0, 1) := by decide +kernel
theorem dX8_calmsBy_82 : decode cX8_calmsBy 82 = .ok (.ireturn, 1) := by decide +kernel
theorem dX8_plan_0 : decode cX8_plan 0 = .ok (.iload_n 1, 1) := by decide +kernel
theorem dX8_plan_1 : decode cX8_plan 1 = .ok (.iconst 0, 1) := by decide +kernel
theorem dX8_plan_2 : decode cX8_plan 2 = .ok (.iconst 1, 1) := by decide +kernel
theorem dX8_plan_3 : decode cX8_plan 3 = .ok (.aload_n 0, 1) := by decide +kernel
theorem dX8_plan_4 : decode cX8_plan 4 = .ok (.getfield 50, 3) := by decide +kernel
theorem dX8_plan_7 : decode cX8_plan 7 = .ok (.ishl, 1) := by decide +kernel
theorem dX8_plan_8 : decode cX8_plan 8 = .ok (.iconst 1, 1) := by decide +kernel
theorem dX8_plan_9 : decode cX8_plan 9 = .ok (.isub, 1) := by decide +kernel
theorem dX8_plan_10 : decode cX8_plan 10 = .ok (.invokestatic 54, 3) := by decide +kernel
theorem dX8_plan_13 : decode cX8_plan 13 = .ok (.ifCond .eq 12, 3) := by decide +kernel
theorem dX8_plan_16 : decode cX8_plan 16 = .ok (.iload_n 2, 1) := by decide +kernel
theorem dX8_plan_17 : decode cX8_plan 17 = .ok (.iconst (-1), 1) := by decide +kernel
theorem dX8_plan_18 : decode cX8_plan 18 = .ok (.iconst 4, 1) := by decide +kernel
theorem dX8_plan_19 : decode cX8_plan 19 = .ok (.invokestatic 54, 3) := by decide +kernel
theorem dX8_plan_22 : decode cX8_plan 22 = .ok (.ifCond .ne 5, 3) := by decide +kernel
theorem dX8_plan_25 : decode cX8_plan 25 = .ok (.iconst (-1), 1) := by decide +kernel
theorem dX8_plan_26 : decode cX8_plan 26 = .ok (.ireturn, 1) := by decide +kernel
theorem dX8_plan_27 : decode cX8_plan 27 = .ok (.iconst 0, 1) := by decide +kernel
theorem dX8_plan_28 : decode cX8_plan 28 = .ok (.istore_n 3, 1) := by decide +kernel
theorem dX8_plan_29 : decode cX8_plan 29 = .ok (.iload_n 3, 1) := by decide +kernel
theorem dX8_plan_30 : decode cX8_plan 30 = .ok (.iconst 5, 1) := by decide +kernel
theorem dX8_plan_31 : decode cX8_plan 31 = .ok (.if_icmp .gt 70, 3) := by decide +kernel
theorem dX8_plan_34 : decode cX8_plan 34 = .ok (.iconst 0, 1) := by decide +kernel
theorem dX8_plan_35 : decode cX8_plan 35 = .ok (.istore 4, 2) := by decide +kernel
theorem dX8_plan_37 : decode cX8_plan 37 = .ok (.iload 4, 2) := by decide +kernel
theorem dX8_plan_39 : decode cX8_plan 39 = .ok (.iload_n 3, 1) := by decide +kernel
theorem dX8_plan_40 : decode cX8_plan 40 = .ok (.invokestatic 177, 3) := by decide +kernel
theorem dX8_plan_43 : decode cX8_plan 43 = .ok (.if_icmp .ge 52, 3) := by decide +kernel
theorem dX8_plan_46 : decode cX8_plan 46 = .ok (.aload_n 0, 1) := by decide +kernel
theorem dX8_plan_47 : decode cX8_plan 47 = .ok (.iload_n 1, 1) := by decide +kernel
theorem dX8_plan_48 : decode cX8_plan 48 = .ok (.iload 4, 2) := by decide +kernel
theorem dX8_plan_50 : decode cX8_plan 50 = .ok (.iload_n 3, 1) := by decide +kernel
theorem dX8_plan_51 : decode cX8_plan 51 = .ok (.invokevirtual 183, 3) := by decide +kernel
theorem dX8_plan_54 : decode cX8_plan 54 = .ok (.ifCond .eq 35, 3) := by decide +kernel
theorem dX8_plan_57 : decode cX8_plan 57 = .ok (.iload_n 2, 1) := by decide +kernel
theorem dX8_plan_58 : decode cX8_plan 58 = .ok (.ifCond .ge 7, 3) := by decide +kernel
theorem dX8_plan_61 : decode cX8_plan 61 = .ok (.iload_n 3, 1) := by decide +kernel
theorem dX8_plan_62 : decode cX8_plan 62 = .ok (.goto 26, 3) := by decide +kernel
theorem dX8_plan_65 : decode cX8_plan 65 = .ok (.iload_n 2, 1) := by decide +kernel
theorem dX8_plan_66 : decode cX8_plan 66 = .ok (.iload_n 3, 1) := by decide +kernel
theorem dX8_plan_67 : decode cX8_plan 67 = .ok (.if_icmp .ge 19, 3) := by decide +kernel
theorem dX8_plan_70 : decode cX8_plan 70 = .ok (.iload 4, 2) := by decide +kernel
theorem dX8_plan_72 : decode cX8_plan 72 = .ok (.iload_n 3, 1) := by decide +kernel
theorem dX8_plan_73 : decode cX8_plan 73 = .ok (.iconst 1, 1) := by decide +kernel
theorem dX8_plan_74 : decode cX8_plan 74 = .ok (.isub, 1) := by decide +kernel
theorem dX8_plan_75 : decode cX8_plan 75 = .ok (.iload_n 2, 1) := by decide +kernel
theorem dX8_plan_76 : decode cX8_plan 76 = .ok (.isub, 1) := by decide +kernel
theorem dX8_plan_77 : decode cX8_plan 77 = .ok (.invokestatic 177, 3) := by decide +kernel
theorem dX8_plan_80 : decode cX8_plan 80 = .ok (.idiv, 1) := by decide +kernel
theorem dX8_plan_81 : decode cX8_plan 81 = .ok (.iconst 5, 1) := by decide +kernel
theorem dX8_plan_82 : decode cX8_plan 82 = .ok (.irem, 1) := by decide +kernel
theorem dX8_plan_83 : decode cX8_plan 83 = .ok (.goto 5, 3) := by decide +kernel
theorem dX8_plan_86 : decode cX8_plan 86 = .ok (.bipush (-9), 2) := by decide +kernel
theorem dX8_plan_88 : decode cX8_plan 88 = .ok (.ireturn, 1) := by decide +kernel
theorem dX8_plan_89 : decode cX8_plan 89 = .ok (.iinc 4 1, 3) := by decide +kernel
theorem dX8_plan_92 : decode cX8_plan 92 = .ok (.goto (-55), 3) := by decide +kernel
theorem dX8_plan_95 : decode cX8_plan 95 = .ok (.iinc 3 1, 3) := by decide +kernel
theorem dX8_plan_98 : decode cX8_plan 98 = .ok (.goto (-69), 3) := by decide +kernel
theorem dX8_plan_101 : decode cX8_plan 101 = .ok (.bipush (-9), 2) := by decide +kernel
theorem dX8_plan_103 : decode cX8_plan 103 = .ok (.ireturn, 1) := by decide +kernel
theorem dX8_mindOf_0 : decode cX8_mindOf 0 = .ok (.iconst 0, 1) := by decide +kernel
theorem dX8_mindOf_1 : decode cX8_mindOf 1 = .ok (.istore 4, 2) := by decide +kernel
theorem dX8_mindOf_3 : decode cX8_mindOf 3 = .ok (.iconst 0, 1) := by decide +kernel
theorem dX8_mindOf_4 : decode cX8_mindOf 4 = .ok (.istore 5, 2) := by decide +kernel
theorem dX8_mindOf_6 : decode cX8_mindOf 6 = .ok (.iload 5, 2) := by decide +kernel
theorem dX8_mindOf_8 : decode cX8_mindOf 8 = .ok (.aload_n 0, 1) := by decide +kernel
theorem dX8_mindOf_9 : decode cX8_mindOf 9 = .ok (.getfield 50, 3) := by decide +kernel
theorem dX8_mindOf_12 : decode cX8_mindOf 12 = .ok (.if_icmp .ge 58, 3) := by decide +kernel
theorem dX8_mindOf_15 : decode cX8_mindOf 15 = .ok (.iload 4, 2) := by decide +kernel
theorem dX8_mindOf_17 : decode cX8_mindOf 17 = .ok (.iload_n 1, 1) := by decide +kernel
theorem dX8_mindOf_18 : decode cX8_mindOf 18 = .ok (.iload 5, 2) := by decide +kernel
theorem dX8_mindOf_20 : decode cX8_mindOf 20 = .ok (.invokestatic 133, 3) := by decide +kernel
theorem dX8_mindOf_23 : decode cX8_mindOf 23 = .ok (.ifCond .eq 37, 3) := by decide +kernel
theorem dX8_mindOf_26 : decode cX8_mindOf 26 = .ok (.iload_n 3, 1) := by decide +kernel
theorem dX8_mindOf_27 : decode cX8_mindOf 27 = .ok (.iload_n 2, 1) := by decide +kernel
theorem dX8_mindOf_28 : decode cX8_mindOf 28 = .ok (.aload_n 0, 1) := by decide +kernel
theorem dX8_mindOf_29 : decode cX8_mindOf 29 = .ok (.getfield 16, 3) := by decide +kernel
theorem dX8_mindOf_32 : decode cX8_mindOf 32 = .ok (.iconst 4, 1) := by decide +kernel
theorem dX8_mindOf_33 : decode cX8_mindOf 33 = .ok (.iaload, 1) := by decide +kernel
theorem dX8_mindOf_34 : decode cX8_mindOf 34 = .ok (.iload 5, 2) := by decide +kernel
theorem dX8_mindOf_36 : decode cX8_mindOf 36 = .ok (.invokestatic 133, 3) := by decide +kernel
theorem dX8_mindOf_39 : decode cX8_mindOf 39 = .ok (.invokestatic 123, 3) := by decide +kernel
theorem dX8_mindOf_42 : decode cX8_mindOf 42 = .ok (.aload_n 0, 1) := by decide +kernel
theorem dX8_mindOf_43 : decode cX8_mindOf 43 = .ok (.getfield 7, 3) := by decide +kernel
theorem dX8_mindOf_46 : decode cX8_mindOf 46 = .ok (.iconst 4, 1) := by decide +kernel
theorem dX8_mindOf_47 : decode cX8_mindOf 47 = .ok (.iload 5, 2) := by decide +kernel
theorem dX8_mindOf_49 : decode cX8_mindOf 49 = .ok (.imul, 1) := by decide +kernel
theorem dX8_mindOf_50 : decode cX8_mindOf 50 = .ok (.iload_n 2, 1) := by decide +kernel
theorem dX8_mindOf_51 : decode cX8_mindOf 51 = .ok (.iadd, 1) := by decide +kernel
theorem dX8_mindOf_52 : decode cX8_mindOf 52 = .ok (.iaload, 1) := by decide +kernel
theorem dX8_mindOf_53 : decode cX8_mindOf 53 = .ok (.isub, 1) := by decide +kernel
theorem dX8_mindOf_54 : decode cX8_mindOf 54 = .ok (.invokestatic 130, 3) := by decide +kernel
theorem dX8_mindOf_57 : decode cX8_mindOf 57 = .ok (.goto 4, 3) := by decide +kernel
theorem dX8_mindOf_60 : decode cX8_mindOf 60 = .ok (.iconst 0, 1) := by decide +kernel
theorem dX8_mindOf_61 : decode cX8_mindOf 61 = .ok (.iadd, 1) := by decide +kernel
theorem dX8_mindOf_62 : decode cX8_mindOf 62 = .ok (.istore 4, 2) := by decide +kernel
theorem dX8_mindOf_64 : decode cX8_mindOf 64 = .ok (.iinc 5 1, 3) := by decide +kernel
theorem dX8_mindOf_67 : decode cX8_mindOf 67 = .ok (.goto (-61), 3) := by decide +kernel
theorem dX8_mindOf_70 : decode cX8_mindOf 70 = .ok (.iload 4, 2) := by decide +kernel
theorem dX8_mindOf_72 : decode cX8_mindOf 72 = .ok (.ireturn, 1) := by decide +kernel
theorem dX8_middleOf_0 : decode cX8_middleOf 0 = .ok (.iconst 0, 1) := by decide +kernel
theorem dX8_middleOf_1 : decode cX8_middleOf 1 = .ok (.istore_n 3, 1) := by decide +kernel
theorem dX8_middleOf_2 : decode cX8_middleOf 2 = .ok (.iconst 1, 1) := by decide +kernel
theorem dX8_middleOf_3 : decode cX8_middleOf 3 = .ok (.istore 4, 2) := by decide +kernel
theorem dX8_middleOf_5 : decode cX8_middleOf 5 = .ok (.iload 4, 2) := by decide +kernel
theorem dX8_middleOf_7 : decode cX8_middleOf 7 = .ok (.iconst 5, 1) := by decide +kernel
theorem dX8_middleOf_8 : decode cX8_middleOf 8 = .ok (.if_icmp .gt 34, 3) := by decide +kernel
theorem dX8_middleOf_11 : decode cX8_middleOf 11 = .ok (.aload_n 0, 1) := by decide +kernel
theorem dX8_middleOf_12 : decode cX8_middleOf 12 = .ok (.iload_n 1, 1) := by decide +kernel
theorem dX8_middleOf_13 : decode cX8_middleOf 13 = .ok (.iload_n 2, 1) := by decide +kernel
theorem dX8_middleOf_14 : decode cX8_middleOf 14 = .ok (.iload 4, 2) := by decide +kernel
theorem dX8_middleOf_16 : decode cX8_middleOf 16 = .ok (.invokevirtual 186, 3) := by decide +kernel
theorem dX8_middleOf_19 : decode cX8_middleOf 19 = .ok (.aload_n 0, 1) := by decide +kernel
theorem dX8_middleOf_20 : decode cX8_middleOf 20 = .ok (.iload_n 1, 1) := by decide +kernel
theorem dX8_middleOf_21 : decode cX8_middleOf 21 = .ok (.iload_n 2, 1) := by decide +kernel
theorem dX8_middleOf_22 : decode cX8_middleOf 22 = .ok (.iload_n 3, 1) := by decide +kernel
theorem dX8_middleOf_23 : decode cX8_middleOf 23 = .ok (.invokevirtual 186, 3) := by decide +kernel
theorem dX8_middleOf_26 : decode cX8_middleOf 26 = .ok (.if_icmp .ge 8, 3) := by decide +kernel
theorem dX8_middleOf_29 : decode cX8_middleOf 29 = .ok (.iload 4, 2) := by decide +kernel
theorem dX8_middleOf_31 : decode cX8_middleOf 31 = .ok (.goto 4, 3) := by decide +kernel
theorem dX8_middleOf_34 : decode cX8_middleOf 34 = .ok (.iload_n 3, 1) := by decide +kernel
theorem dX8_middleOf_35 : decode cX8_middleOf 35 = .ok (.istore_n 3, 1) := by decide +kernel
theorem dX8_middleOf_36 : decode cX8_middleOf 36 = .ok (.iinc 4 1, 3) := by decide +kernel
theorem dX8_middleOf_39 : decode cX8_middleOf 39 = .ok (.goto (-34), 3) := by decide +kernel
theorem dX8_middleOf_42 : decode cX8_middleOf 42 = .ok (.iload_n 3, 1) := by decide +kernel
theorem dX8_middleOf_43 : decode cX8_middleOf 43 = .ok (.ireturn, 1) := by decide +kernel
theorem dX8_leastOf_0 : decode cX8_leastOf 0 = .ok (.iconst 0, 1) := by decide +kernel
theorem dX8_leastOf_1 : decode cX8_leastOf 1 = .ok (.istore_n 2, 1) := by decide +kernel
theorem dX8_leastOf_2 : decode cX8_leastOf 2 = .ok (.iconst 0, 1) := by decide +kernel
theorem dX8_leastOf_3 : decode cX8_leastOf 3 = .ok (.istore_n 3, 1) := by decide +kernel
theorem dX8_leastOf_4 : decode cX8_leastOf 4 = .ok (.iload_n 3, 1) := by decide +kernel
theorem dX8_leastOf_5 : decode cX8_leastOf 5 = .ok (.iconst 4, 1) := by decide +kernel
theorem dX8_leastOf_6 : decode cX8_leastOf 6 = .ok (.if_icmp .ge 24, 3) := by decide +kernel
theorem dX8_leastOf_9 : decode cX8_leastOf 9 = .ok (.iload_n 2, 1) := by decide +kernel
theorem dX8_leastOf_10 : decode cX8_leastOf 10 = .ok (.aload_n 0, 1) := by decide +kernel
theorem dX8_leastOf_11 : decode cX8_leastOf 11 = .ok (.iload_n 1, 1) := by decide +kernel
theorem dX8_leastOf_12 : decode cX8_leastOf 12 = .ok (.iload_n 3, 1) := by decide +kernel
theorem dX8_leastOf_13 : decode cX8_leastOf 13 = .ok (.aload_n 0, 1) := by decide +kernel
theorem dX8_leastOf_14 : decode cX8_leastOf 14 = .ok (.iload_n 1, 1) := by decide +kernel
theorem dX8_leastOf_15 : decode cX8_leastOf 15 = .ok (.iload_n 3, 1) := by decide +kernel
theorem dX8_leastOf_16 : decode cX8_leastOf 16 = .ok (.invokevirtual 190, 3) := by decide +kernel
theorem dX8_leastOf_19 : decode cX8_leastOf 19 = .ok (.invokevirtual 186, 3) := by decide +kernel
theorem dX8_leastOf_22 : decode cX8_leastOf 22 = .ok (.iadd, 1) := by decide +kernel
theorem dX8_leastOf_23 : decode cX8_leastOf 23 = .ok (.istore_n 2, 1) := by decide +kernel
theorem dX8_leastOf_24 : decode cX8_leastOf 24 = .ok (.iinc 3 1, 3) := by decide +kernel
theorem dX8_leastOf_27 : decode cX8_leastOf 27 = .ok (.goto (-23), 3) := by decide +kernel
theorem dX8_leastOf_30 : decode cX8_leastOf 30 = .ok (.iload_n 2, 1) := by decide +kernel
theorem dX8_leastOf_31 : decode cX8_leastOf 31 = .ok (.ireturn, 1) := by decide +kernel
theorem dX8_middle_0 : decode cX8_middle 0 = .ok (.iload_n 1, 1) := by decide +kernel
theorem dX8_middle_1 : decode cX8_middle 1 = .ok (.iconst 0, 1) := by decide +kernel
theorem dX8_middle_2 : decode cX8_middle 2 = .ok (.iconst 4, 1) := by decide +kernel
theorem dX8_middle_3 : decode cX8_middle 3 = .ok (.invokestatic 54, 3) := by decide +kernel
theorem dX8_middle_6 : decode cX8_middle 6 = .ok (.ifCond .ne 5, 3) := by decide +kernel
theorem dX8_middle_9 : decode cX8_middle 9 = .ok (.iconst (-1), 1) := by decide +kernel
theorem dX8_middle_10 : decode cX8_middle 10 = .ok (.ireturn, 1) := by decide +kernel
theorem dX8_middle_11 : decode cX8_middle 11 = .ok (.iconst 1, 1) := by decide +kernel
theorem dX8_middle_12 : decode cX8_middle 12 = .ok (.aload_n 0, 1) := by decide +kernel
theorem dX8_middle_13 : decode cX8_middle 13 = .ok (.getfield 50, 3) := by decide +kernel
theorem dX8_middle_16 : decode cX8_middle 16 = .ok (.ishl, 1) := by decide +kernel
theorem dX8_middle_17 : decode cX8_middle 17 = .ok (.iconst 1, 1) := by decide +kernel
theorem dX8_middle_18 : decode cX8_middle 18 = .ok (.isub, 1) := by decide +kernel
theorem dX8_middle_19 : decode cX8_middle 19 = .ok (.istore_n 2, 1) := by decide +kernel
theorem dX8_middle_20 : decode cX8_middle 20 = .ok (.iload_n 1, 1) := by decide +kernel
theorem dX8_middle_21 : decode cX8_middle 21 = .ok (.iconst 4, 1) := by decide +kernel
theorem dX8_middle_22 : decode cX8_middle 22 = .ok (.if_icmp .ne 11, 3) := by decide +kernel
theorem dX8_middle_25 : decode cX8_middle 25 = .ok (.aload_n 0, 1) := by decide +kernel
theorem dX8_middle_26 : decode cX8_middle 26 = .ok (.iload_n 2, 1) := by decide +kernel
theorem dX8_middle_27 : decode cX8_middle 27 = .ok (.invokevirtual 193, 3) := by decide +kernel
theorem dX8_middle_30 : decode cX8_middle 30 = .ok (.goto 9, 3) := by decide +kernel
theorem dX8_middle_33 : decode cX8_middle 33 = .ok (.aload_n 0, 1) := by decide +kernel
theorem dX8_middle_34 : decode cX8_middle 34 = .ok (.iload_n 2, 1) := by decide +kernel
theorem dX8_middle_35 : decode cX8_middle 35 = .ok (.iload_n 1, 1) := by decide +kernel
theorem dX8_middle_36 : decode cX8_middle 36 = .ok (.invokevirtual 190, 3) := by decide +kernel
theorem dX8_middle_39 : decode cX8_middle 39 = .ok (.ireturn, 1) := by decide +kernel
theorem dX8_parted_0 : decode cX8_parted 0 = .ok (.iload_n 1, 1) := by decide +kernel
theorem dX8_parted_1 : decode cX8_parted 1 = .ok (.iconst 0, 1) := by decide +kernel
theorem dX8_parted_2 : decode cX8_parted 2 = .ok (.iconst 1, 1) := by decide +kernel
theorem dX8_parted_3 : decode cX8_parted 3 = .ok (.invokestatic 54, 3) := by decide +kernel
theorem dX8_parted_6 : decode cX8_parted 6 = .ok (.ifCond .ne 5, 3) := by decide +kernel
theorem dX8_parted_9 : decode cX8_parted 9 = .ok (.iconst (-1), 1) := by decide +kernel
theorem dX8_parted_10 : decode cX8_parted 10 = .ok (.ireturn, 1) := by decide +kernel
theorem dX8_parted_11 : decode cX8_parted 11 = .ok (.iconst 1, 1) := by decide +kernel
theorem dX8_parted_12 : decode cX8_parted 12 = .ok (.aload_n 0, 1) := by decide +kernel
theorem dX8_parted_13 : decode cX8_parted 13 = .ok (.getfield 50, 3) := by decide +kernel
theorem dX8_parted_16 : decode cX8_parted 16 = .ok (.ishl, 1) := by decide +kernel
theorem dX8_parted_17 : decode cX8_parted 17 = .ok (.iconst 1, 1) := by decide +kernel
theorem dX8_parted_18 : decode cX8_parted 18 = .ok (.isub, 1) := by decide +kernel
theorem dX8_parted_19 : decode cX8_parted 19 = .ok (.istore_n 2, 1) := by decide +kernel
theorem dX8_parted_20 : decode cX8_parted 20 = .ok (.iconst 0, 1) := by decide +kernel
theorem dX8_parted_21 : decode cX8_parted 21 = .ok (.istore_n 3, 1) := by decide +kernel
theorem dX8_parted_22 : decode cX8_parted 22 = .ok (.aload_n 0, 1) := by decide +kernel
theorem dX8_parted_23 : decode cX8_parted 23 = .ok (.iload_n 2, 1) := by decide +kernel
theorem dX8_parted_24 : decode cX8_parted 24 = .ok (.invokevirtual 193, 3) := by decide +kernel
theorem dX8_parted_27 : decode cX8_parted 27 = .ok (.istore 4, 2) := by decide +kernel
theorem dX8_parted_29 : decode cX8_parted 29 = .ok (.iconst 1, 1) := by decide +kernel
theorem dX8_parted_30 : decode cX8_parted 30 = .ok (.istore 5, 2) := by decide +kernel
theorem dX8_parted_32 : decode cX8_parted 32 = .ok (.iload 5, 2) := by decide +kernel
theorem dX8_parted_34 : decode cX8_parted 34 = .ok (.iload_n 2, 1) := by decide +kernel
theorem dX8_parted_35 : decode cX8_parted 35 = .ok (.if_icmp .gt 58, 3) := by decide +kernel
theorem dX8_parted_38 : decode cX8_parted 38 = .ok (.aload_n 0, 1) := by decide +kernel
theorem dX8_parted_39 : decode cX8_parted 39 = .ok (.iload 5, 2) := by decide +kernel
theorem dX8_parted_41 : decode cX8_parted 41 = .ok (.invokevirtual 193, 3) := by decide +kernel
theorem dX8_parted_44 : decode cX8_parted 44 = .ok (.aload_n 0, 1) := by decide +kernel
theorem dX8_parted_45 : decode cX8_parted 45 = .ok (.iload_n 2, 1) := by decide +kernel
theorem dX8_parted_46 : decode cX8_parted 46 = .ok (.iload 5, 2) := by decide +kernel
theorem dX8_parted_48 : decode cX8_parted 48 = .ok (.iconst (-1), 1) := by decide +kernel
theorem dX8_parted_49 : decode cX8_parted 49 = .ok (.ixor, 1) := by decide +kernel
theorem dX8_parted_50 : decode cX8_parted 50 = .ok (.iand, 1) := by decide +kernel
theorem dX8_parted_51 : decode cX8_parted 51 = .ok (.invokevirtual 193, 3) := by decide +kernel
theorem dX8_parted_54 : decode cX8_parted 54 = .ok (.iadd, 1) := by decide +kernel
theorem dX8_parted_55 : decode cX8_parted 55 = .ok (.istore 6, 2) := by decide +kernel
theorem dX8_parted_57 : decode cX8_parted 57 = .ok (.iload 6, 2) := by decide +kernel
theorem dX8_parted_59 : decode cX8_parted 59 = .ok (.iload 4, 2) := by decide +kernel
theorem dX8_parted_61 : decode cX8_parted 61 = .ok (.if_icmp .ge 8, 3) := by decide +kernel
theorem dX8_parted_64 : decode cX8_parted 64 = .ok (.iload 5, 2) := by decide +kernel
theorem dX8_parted_66 : decode cX8_parted 66 = .ok (.goto 4, 3) := by decide +kernel
theorem dX8_parted_69 : decode cX8_parted 69 = .ok (.iload_n 3, 1) := by decide +kernel
theorem dX8_parted_70 : decode cX8_parted 70 = .ok (.istore_n 3, 1) := by decide +kernel
theorem dX8_parted_71 : decode cX8_parted 71 = .ok (.iload 6, 2) := by decide +kernel
theorem dX8_parted_73 : decode cX8_parted 73 = .ok (.iload 4, 2) := by decide +kernel
theorem dX8_parted_75 : decode cX8_parted 75 = .ok (.if_icmp .ge 8, 3) := by decide +kernel
theorem dX8_parted_78 : decode cX8_parted 78 = .ok (.iload 6, 2) := by decide +kernel
theorem dX8_parted_80 : decode cX8_parted 80 = .ok (.goto 5, 3) := by decide +kernel
theorem dX8_parted_83 : decode cX8_parted 83 = .ok (.iload 4, 2) := by decide +kernel
theorem dX8_parted_85 : decode cX8_parted 85 = .ok (.istore 4, 2) := by decide +kernel
theorem dX8_parted_87 : decode cX8_parted 87 = .ok (.iinc 5 1, 3) := by decide +kernel
theorem dX8_parted_90 : decode cX8_parted 90 = .ok (.goto (-58), 3) := by decide +kernel
theorem dX8_parted_93 : decode cX8_parted 93 = .ok (.iload_n 1, 1) := by decide +kernel
theorem dX8_parted_94 : decode cX8_parted 94 = .ok (.ifCond .ne 7, 3) := by decide +kernel
theorem dX8_parted_97 : decode cX8_parted 97 = .ok (.iload_n 3, 1) := by decide +kernel
theorem dX8_parted_98 : decode cX8_parted 98 = .ok (.goto 5, 3) := by decide +kernel
theorem dX8_parted_101 : decode cX8_parted 101 = .ok (.iload 4, 2) := by decide +kernel
theorem dX8_parted_103 : decode cX8_parted 103 = .ok (.ireturn, 1) := by decide +kernel
theorem dX8_lowest_0 : decode cX8_lowest 0 = .ok (.iload_n 0, 1) := by decide +kernel
theorem dX8_lowest_1 : decode cX8_lowest 1 = .ok (.istore_n 3, 1) := by decide +kernel
theorem dX8_lowest_2 : decode cX8_lowest 2 = .ok (.iload_n 1, 1) := by decide +kernel
theorem dX8_lowest_3 : decode cX8_lowest 3 = .ok (.istore 4, 2) := by decide +kernel
theorem dX8_lowest_5 : decode cX8_lowest 5 = .ok (.iload 4, 2) := by decide +kernel
theorem dX8_lowest_7 : decode cX8_lowest 7 = .ok (.ifCond .le 19, 3) := by decide +kernel
theorem dX8_lowest_10 : decode cX8_lowest 10 = .ok (.iload_n 3, 1) := by decide +kernel
theorem dX8_lowest_11 : decode cX8_lowest 11 = .ok (.iload 4, 2) := by decide +kernel
theorem dX8_lowest_13 : decode cX8_lowest 13 = .ok (.irem, 1) := by decide +kernel
theorem dX8_lowest_14 : decode cX8_lowest 14 = .ok (.istore 5, 2) := by decide +kernel
theorem dX8_lowest_16 : decode cX8_lowest 16 = .ok (.iload 4, 2) := by decide +kernel
theorem dX8_lowest_18 : decode cX8_lowest 18 = .ok (.istore_n 3, 1) := by decide +kernel
theorem dX8_lowest_19 : decode cX8_lowest 19 = .ok (.iload 5, 2) := by decide +kernel
theorem dX8_lowest_21 : decode cX8_lowest 21 = .ok (.istore 4, 2) := by decide +kernel
theorem dX8_lowest_23 : decode cX8_lowest 23 = .ok (.goto (-18), 3) := by decide +kernel
theorem dX8_lowest_26 : decode cX8_lowest 26 = .ok (.iload_n 2, 1) := by decide +kernel
theorem dX8_lowest_27 : decode cX8_lowest 27 = .ok (.ifCond .ne 7, 3) := by decide +kernel
theorem dX8_lowest_30 : decode cX8_lowest 30 = .ok (.iload_n 0, 1) := by decide +kernel
theorem dX8_lowest_31 : decode cX8_lowest 31 = .ok (.goto 4, 3) := by decide +kernel
theorem dX8_lowest_34 : decode cX8_lowest 34 = .ok (.iload_n 1, 1) := by decide +kernel
theorem dX8_lowest_35 : decode cX8_lowest 35 = .ok (.iload_n 3, 1) := by decide +kernel
theorem dX8_lowest_36 : decode cX8_lowest 36 = .ok (.idiv, 1) := by decide +kernel
theorem dX8_lowest_37 : decode cX8_lowest 37 = .ok (.ireturn, 1) := by decide +kernel
theorem dX8_odds_0 : decode cX8_odds 0 = .ok (.iload_n 1, 1) := by decide +kernel
theorem dX8_odds_1 : decode cX8_odds 1 = .ok (.iconst 0, 1) := by decide +kernel
theorem dX8_odds_2 : decode cX8_odds 2 = .ok (.bipush 10, 2) := by decide +kernel
theorem dX8_odds_4 : decode cX8_odds 4 = .ok (.invokestatic 54, 3) := by decide +kernel
theorem dX8_odds_7 : decode cX8_odds 7 = .ok (.ifCond .eq 22, 3) := by decide +kernel
theorem dX8_odds_10 : decode cX8_odds 10 = .ok (.iload_n 2, 1) := by decide +kernel
theorem dX8_odds_11 : decode cX8_odds 11 = .ok (.iconst 0, 1) := by decide +kernel
theorem dX8_odds_12 : decode cX8_odds 12 = .ok (.bipush 6, 2) := by decide +kernel
theorem dX8_odds_14 : decode cX8_odds 14 = .ok (.invokestatic 54, 3) := by decide +kernel
theorem dX8_odds_17 : decode cX8_odds 17 = .ok (.ifCond .eq 12, 3) := by decide +kernel
theorem dX8_odds_20 : decode cX8_odds 20 = .ok (.iload_n 3, 1) := by decide +kernel
theorem dX8_odds_21 : decode cX8_odds 21 = .ok (.iconst 0, 1) := by decide +kernel
theorem dX8_odds_22 : decode cX8_odds 22 = .ok (.iconst 1, 1) := by decide +kernel
theorem dX8_odds_23 : decode cX8_odds 23 = .ok (.invokestatic 54, 3) := by decide +kernel
theorem dX8_odds_26 : decode cX8_odds 26 = .ok (.ifCond .ne 5, 3) := by decide +kernel
theorem dX8_odds_29 : decode cX8_odds 29 = .ok (.iconst (-1), 1) := by decide +kernel
theorem dX8_odds_30 : decode cX8_odds 30 = .ok (.ireturn, 1) := by decide +kernel
theorem dX8_odds_31 : decode cX8_odds 31 = .ok (.iconst 0, 1) := by decide +kernel
theorem dX8_odds_32 : decode cX8_odds 32 = .ok (.istore 4, 2) := by decide +kernel
theorem dX8_odds_34 : decode cX8_odds 34 = .ok (.iconst 1, 1) := by decide +kernel
theorem dX8_odds_35 : decode cX8_odds 35 = .ok (.istore 5, 2) := by decide +kernel
theorem dX8_odds_37 : decode cX8_odds 37 = .ok (.aload_n 0, 1) := by decide +kernel
theorem dX8_odds_38 : decode cX8_odds 38 = .ok (.invokevirtual 157, 3) := by decide +kernel
theorem dX8_odds_41 : decode cX8_odds 41 = .ok (.iconst 0, 1) := by decide +kernel
theorem dX8_odds_42 : decode cX8_odds 42 = .ok (.istore 6, 2) := by decide +kernel
theorem dX8_odds_44 : decode cX8_odds 44 = .ok (.iload 6, 2) := by decide +kernel
theorem dX8_odds_46 : decode cX8_odds 46 = .ok (.aload_n 0, 1) := by decide +kernel
theorem dX8_odds_47 : decode cX8_odds 47 = .ok (.getfield 50, 3) := by decide +kernel
theorem dX8_odds_50 : decode cX8_odds 50 = .ok (.if_icmp .ge 16, 3) := by decide +kernel
theorem dX8_odds_53 : decode cX8_odds 53 = .ok (.iload 5, 2) := by decide +kernel
theorem dX8_odds_55 : decode cX8_odds 55 = .ok (.bipush 10, 2) := by decide +kernel
theorem dX8_odds_57 : decode cX8_odds 57 = .ok (.imul, 1) := by decide +kernel
theorem dX8_odds_58 : decode cX8_odds 58 = .ok (.istore 5, 2) := by decide +kernel
theorem dX8_odds_60 : decode cX8_odds 60 = .ok (.iinc 6 1, 3) := by decide +kernel
theorem dX8_odds_63 : decode cX8_odds 63 = .ok (.goto (-19), 3) := by decide +kernel
theorem dX8_odds_66 : decode cX8_odds 66 = .ok (.iconst 0, 1) := by decide +kernel
theorem dX8_odds_67 : decode cX8_odds 67 = .ok (.istore 6, 2) := by decide +kernel
theorem dX8_odds_69 : decode cX8_odds 69 = .ok (.iload 6, 2) := by decide +kernel
theorem dX8_odds_71 : decode cX8_odds 71 = .ok (.iconst 1, 1) := by decide +kernel
theorem dX8_odds_72 : decode cX8_odds 72 = .ok (.aload_n 0, 1) := by decide +kernel
theorem dX8_odds_73 : decode cX8_odds 73 = .ok (.getfield 50, 3) := by decide +kernel
theorem dX8_odds_76 : decode cX8_odds 76 = .ok (.ishl, 1) := by decide +kernel
theorem dX8_odds_77 : decode cX8_odds 77 = .ok (.if_icmp .ge 99, 3) := by decide +kernel
theorem dX8_odds_80 : decode cX8_odds 80 = .ok (.iconst 1, 1) := by decide +kernel
theorem dX8_odds_81 : decode cX8_odds 81 = .ok (.istore 7, 2) := by decide +kernel
theorem dX8_odds_83 : decode cX8_odds 83 = .ok (.iconst 0, 1) := by decide +kernel
theorem dX8_odds_84 : decode cX8_odds 84 = .ok (.istore 8, 2) := by decide +kernel
theorem dX8_odds_86 : decode cX8_odds 86 = .ok (.iconst 0, 1) := by decide +kernel
theorem dX8_odds_87 : decode cX8_odds 87 = .ok (.istore 9, 2) := by decide +kernel
theorem dX8_odds_89 : decode cX8_odds 89 = .ok (.iload 9, 2) := by decide +kernel
theorem dX8_odds_91 : decode cX8_odds 91 = .ok (.aload_n 0, 1) := by decide +kernel
theorem dX8_odds_92 : decode cX8_odds 92 = .ok (.getfield 50, 3) := by decide +kernel
theorem dX8_odds_95 : decode cX8_odds 95 = .ok (.if_icmp .ge 58, 3) := by decide +kernel
theorem dX8_odds_98 : decode cX8_odds 98 = .ok (.iload 7, 2) := by decide +kernel
theorem dX8_odds_100 : decode cX8_odds 100 = .ok (.iload 6, 2) := by decide +kernel
theorem dX8_odds_102 : decode cX8_odds 102 = .ok (.iload 9, 2) := by decide +kernel
theorem dX8_odds_104 : decode cX8_odds 104 = .ok (.invokestatic 133, 3) := by decide +kernel
theorem dX8_odds_107 : decode cX8_odds 107 = .ok (.ifCond .eq 7, 3) := by decide +kernel
theorem dX8_odds_110 : decode cX8_odds 110 = .ok (.iload_n 1, 1) := by decide +kernel
theorem dX8_odds_111 : decode cX8_odds 111 = .ok (.goto 7, 3) := by decide +kernel
theorem dX8_odds_114 : decode cX8_odds 114 = .ok (.bipush 10, 2) := by decide +kernel
theorem dX8_odds_116 : decode cX8_odds 116 = .ok (.iload_n 1, 1) := by decide +kernel
theorem dX8_odds_117 : decode cX8_odds 117 = .ok (.isub, 1) := by decide +kernel
theorem dX8_odds_118 : decode cX8_odds 118 = .ok (.imul, 1) := by decide +kernel
theorem dX8_odds_119 : decode cX8_odds 119 = .ok (.istore 7, 2) := by decide +kernel
theorem dX8_odds_121 : decode cX8_odds 121 = .ok (.iload 8, 2) := by decide +kernel
theorem dX8_odds_123 : decode cX8_odds 123 = .ok (.aload_n 0, 1) := by decide +kernel
theorem dX8_odds_124 : decode cX8_odds 124 = .ok (.iload 9, 2) := by decide +kernel
theorem dX8_odds_126 : decode cX8_odds 126 = .ok (.iload 6, 2) := by decide +kernel
theorem dX8_odds_128 : decode cX8_odds 128 = .ok (.iload 9, 2) := by decide +kernel
theorem dX8_odds_130 : decode cX8_odds 130 = .ok (.invokestatic 133, 3) := by decide +kernel
theorem dX8_odds_133 : decode cX8_odds 133 = .ok (.invokevirtual 137, 3) := by decide +kernel
theorem dX8_odds_136 : decode cX8_odds 136 = .ok (.ifCond .ne 7, 3) := by decide +kernel
theorem dX8_odds_139 : decode cX8_odds 139 = .ok (.iconst 1, 1) := by decide +kernel
theorem dX8_odds_140 : decode cX8_odds 140 = .ok (.goto 4, 3) := by decide +kernel
theorem dX8_odds_143 : decode cX8_odds 143 = .ok (.iconst 0, 1) := by decide +kernel
theorem dX8_odds_144 : decode cX8_odds 144 = .ok (.iadd, 1) := by decide +kernel
theorem dX8_odds_145 : decode cX8_odds 145 = .ok (.istore 8, 2) := by decide +kernel
theorem dX8_odds_147 : decode cX8_odds 147 = .ok (.iinc 9 1, 3) := by decide +kernel
theorem dX8_odds_150 : decode cX8_odds 150 = .ok (.goto (-61), 3) := by decide +kernel
theorem dX8_odds_153 : decode cX8_odds 153 = .ok (.iload 4, 2) := by decide +kernel
theorem dX8_odds_155 : decode cX8_odds 155 = .ok (.iload 8, 2) := by decide +kernel
theorem dX8_odds_157 : decode cX8_odds 157 = .ok (.iload_n 2, 1) := by decide +kernel
theorem dX8_odds_158 : decode cX8_odds 158 = .ok (.if_icmp .lt 8, 3) := by decide +kernel
theorem dX8_odds_161 : decode cX8_odds 161 = .ok (.iload 7, 2) := by decide +kernel
theorem dX8_odds_163 : decode cX8_odds 163 = .ok (.goto 4, 3) := by decide +kernel
theorem dX8_odds_166 : decode cX8_odds 166 = .ok (.iconst 0, 1) := by decide +kernel
theorem dX8_odds_167 : decode cX8_odds 167 = .ok (.iadd, 1) := by decide +kernel
theorem dX8_odds_168 : decode cX8_odds 168 = .ok (.istore 4, 2) := by decide +kernel
theorem dX8_odds_170 : decode cX8_odds 170 = .ok (.iinc 6 1, 3) := by decide +kernel
theorem dX8_odds_173 : decode cX8_odds 173 = .ok (.goto (-104), 3) := by decide +kernel
theorem dX8_odds_176 : decode cX8_odds 176 = .ok (.iload 4, 2) := by decide +kernel
theorem dX8_odds_178 : decode cX8_odds 178 = .ok (.iload 5, 2) := by decide +kernel
theorem dX8_odds_180 : decode cX8_odds 180 = .ok (.iload_n 3, 1) := by decide +kernel
theorem dX8_odds_181 : decode cX8_odds 181 = .ok (.invokestatic 196, 3) := by decide +kernel
theorem dX8_odds_184 : decode cX8_odds 184 = .ok (.ireturn, 1) := by decide +kernel
theorem dX8_sees_0 : decode cX8_sees 0 = .ok (.iload_n 1, 1) := by decide +kernel
theorem dX8_sees_1 : decode cX8_sees 1 = .ok (.iconst 0, 1) := by decide +kernel
theorem dX8_sees_2 : decode cX8_sees 2 = .ok (.bipush 8, 2) := by decide +kernel
theorem dX8_sees_4 : decode cX8_sees 4 = .ok (.invokestatic 54, 3) := by decide +kernel
theorem dX8_sees_7 : decode cX8_sees 7 = .ok (.ifCond .ne 5, 3) := by decide +kernel
theorem dX8_sees_10 : decode cX8_sees 10 = .ok (.iconst (-1), 1) := by decide +kernel
theorem dX8_sees_11 : decode cX8_sees 11 = .ok (.ireturn, 1) := by decide +kernel
theorem dX8_sees_12 : decode cX8_sees 12 = .ok (.aload_n 0, 1) := by decide +kernel
theorem dX8_sees_13 : decode cX8_sees 13 = .ok (.getfield 116, 3) := by decide +kernel
theorem dX8_sees_16 : decode cX8_sees 16 = .ok (.iconst 4, 1) := by decide +kernel
theorem dX8_sees_17 : decode cX8_sees 17 = .ok (.if_icmp .ne 6, 3) := by decide +kernel
theorem dX8_sees_20 : decode cX8_sees 20 = .ok (.bipush (-3), 2) := by decide +kernel
theorem dX8_sees_22 : decode cX8_sees 22 = .ok (.ireturn, 1) := by decide +kernel
theorem dX8_sees_23 : decode cX8_sees 23 = .ok (.iconst 0, 1) := by decide +kernel
theorem dX8_sees_24 : decode cX8_sees 24 = .ok (.istore_n 2, 1) := by decide +kernel
theorem dX8_sees_25 : decode cX8_sees 25 = .ok (.iload_n 2, 1) := by decide +kernel
theorem dX8_sees_26 : decode cX8_sees 26 = .ok (.iconst 4, 1) := by decide +kernel
theorem dX8_sees_27 : decode cX8_sees 27 = .ok (.if_icmp .ge 30, 3) := by decide +kernel
theorem dX8_sees_30 : decode cX8_sees 30 = .ok (.aload_n 0, 1) := by decide +kernel
theorem dX8_sees_31 : decode cX8_sees 31 = .ok (.getfield 29, 3) := by decide +kernel
theorem dX8_sees_34 : decode cX8_sees 34 = .ok (.iconst 4, 1) := by decide +kernel
theorem dX8_sees_35 : decode cX8_sees 35 = .ok (.aload_n 0, 1) := by decide +kernel
theorem dX8_sees_36 : decode cX8_sees 36 = .ok (.getfield 116, 3) := by decide +kernel
theorem dX8_sees_39 : decode cX8_sees 39 = .ok (.imul, 1) := by decide +kernel
theorem dX8_sees_40 : decode cX8_sees 40 = .ok (.iload_n 2, 1) := by decide +kernel
theorem dX8_sees_41 : decode cX8_sees 41 = .ok (.iadd, 1) := by decide +kernel
theorem dX8_sees_42 : decode cX8_sees 42 = .ok (.aload_n 0, 1) := by decide +kernel
theorem dX8_sees_43 : decode cX8_sees 43 = .ok (.getfield 16, 3) := by decide +kernel
theorem dX8_sees_46 : decode cX8_sees 46 = .ok (.iconst 0, 1) := by decide +kernel
theorem dX8_sees_47 : decode cX8_sees 47 = .ok (.iload_n 2, 1) := by decide +kernel
theorem dX8_sees_48 : decode cX8_sees 48 = .ok (.iadd, 1) := by decide +kernel
theorem dX8_sees_49 : decode cX8_sees 49 = .ok (.iaload, 1) := by decide +kernel
theorem dX8_sees_50 : decode cX8_sees 50 = .ok (.iastore, 1) := by decide +kernel
theorem dX8_sees_51 : decode cX8_sees 51 = .ok (.iinc 2 1, 3) := by decide +kernel
theorem dX8_sees_54 : decode cX8_sees 54 = .ok (.goto (-29), 3) := by decide +kernel
theorem dX8_sees_57 : decode cX8_sees 57 = .ok (.aload_n 0, 1) := by decide +kernel
theorem dX8_sees_58 : decode cX8_sees 58 = .ok (.getfield 32, 3) := by decide +kernel
theorem dX8_sees_61 : decode cX8_sees 61 = .ok (.aload_n 0, 1) := by decide +kernel
theorem dX8_sees_62 : decode cX8_sees 62 = .ok (.getfield 116, 3) := by decide +kernel
theorem dX8_sees_65 : decode cX8_sees 65 = .ok (.iload_n 1, 1) := by decide +kernel
theorem dX8_sees_66 : decode cX8_sees 66 = .ok (.iastore, 1) := by decide +kernel
theorem dX8_sees_67 : decode cX8_sees 67 = .ok (.aload_n 0, 1) := by decide +kernel
theorem dX8_sees_68 : decode cX8_sees 68 = .ok (.dup, 1) := by decide +kernel
theorem dX8_sees_69 : decode cX8_sees 69 = .ok (.getfield 116, 3) := by decide +kernel
theorem dX8_sees_72 : decode cX8_sees 72 = .ok (.iconst 1, 1) := by decide +kernel
theorem dX8_sees_73 : decode cX8_sees 73 = .ok (.iadd, 1) := by decide +kernel
theorem dX8_sees_74 : decode cX8_sees 74 = .ok (.putfield 116, 3) := by decide +kernel
theorem dX8_sees_77 : decode cX8_sees 77 = .ok (.aload_n 0, 1) := by decide +kernel
theorem dX8_sees_78 : decode cX8_sees 78 = .ok (.getfield 116, 3) := by decide +kernel
theorem dX8_sees_81 : decode cX8_sees 81 = .ok (.ireturn, 1) := by decide +kernel
theorem dX8_forget_0 : decode cX8_forget 0 = .ok (.aload_n 0, 1) := by decide +kernel
theorem dX8_forget_1 : decode cX8_forget 1 = .ok (.getfield 116, 3) := by decide +kernel
theorem dX8_forget_4 : decode cX8_forget 4 = .ok (.istore_n 1, 1) := by decide +kernel
theorem dX8_forget_5 : decode cX8_forget 5 = .ok (.aload_n 0, 1) := by decide +kernel
theorem dX8_forget_6 : decode cX8_forget 6 = .ok (.iconst 0, 1) := by decide +kernel
theorem dX8_forget_7 : decode cX8_forget 7 = .ok (.putfield 116, 3) := by decide +kernel
theorem dX8_forget_10 : decode cX8_forget 10 = .ok (.iload_n 1, 1) := by decide +kernel
theorem dX8_forget_11 : decode cX8_forget 11 = .ok (.ireturn, 1) := by decide +kernel
theorem dX8_likeOf_0 : decode cX8_likeOf 0 = .ok (.iload_n 1, 1) := by decide +kernel
theorem dX8_likeOf_1 : decode cX8_likeOf 1 = .ok (.ifCond .ne 11, 3) := by decide +kernel
theorem dX8_likeOf_4 : decode cX8_likeOf 4 = .ok (.iload_n 0, 1) := by decide +kernel
theorem dX8_likeOf_5 : decode cX8_likeOf 5 = .ok (.sipush 216, 3) := by decide +kernel
theorem dX8_likeOf_8 : decode cX8_likeOf 8 = .ok (.idiv, 1) := by decide +kernel
theorem dX8_likeOf_9 : decode cX8_likeOf 9 = .ok (.goto 37, 3) := by decide +kernel
theorem dX8_likeOf_12 : decode cX8_likeOf 12 = .ok (.iload_n 1, 1) := by decide +kernel
theorem dX8_likeOf_13 : decode cX8_likeOf 13 = .ok (.iconst 1, 1) := by decide +kernel
theorem dX8_likeOf_14 : decode cX8_likeOf 14 = .ok (.if_icmp .ne 13, 3) := by decide +kernel
theorem dX8_likeOf_17 : decode cX8_likeOf 17 = .ok (.iload_n 0, 1) := by decide +kernel
theorem dX8_likeOf_18 : decode cX8_likeOf 18 = .ok (.bipush 36, 2) := by decide +kernel
theorem dX8_likeOf_20 : decode cX8_likeOf 20 = .ok (.idiv, 1) := by decide +kernel
theorem dX8_likeOf_21 : decode cX8_likeOf 21 = .ok (.bipush 6, 2) := by decide +kernel
theorem dX8_likeOf_23 : decode cX8_likeOf 23 = .ok (.irem, 1) := by decide +kernel
theorem dX8_likeOf_24 : decode cX8_likeOf 24 = .ok (.goto 22, 3) := by decide +kernel
theorem dX8_likeOf_27 : decode cX8_likeOf 27 = .ok (.iload_n 1, 1) := by decide +kernel
theorem dX8_likeOf_28 : decode cX8_likeOf 28 = .ok (.iconst 2, 1) := by decide +kernel
theorem dX8_likeOf_29 : decode cX8_likeOf 29 = .ok (.if_icmp .ne 13, 3) := by decide +kernel
theorem dX8_likeOf_32 : decode cX8_likeOf 32 = .ok (.iload_n 0, 1) := by decide +kernel
theorem dX8_likeOf_33 : decode cX8_likeOf 33 = .ok (.bipush 6, 2) := by decide +kernel
theorem dX8_likeOf_35 : decode cX8_likeOf 35 = .ok (.idiv, 1) := by decide +kernel
theorem dX8_likeOf_36 : decode cX8_likeOf 36 = .ok (.bipush 6, 2) := by decide +kernel
theorem dX8_likeOf_38 : decode cX8_likeOf 38 = .ok (.irem, 1) := by decide +kernel
theorem dX8_likeOf_39 : decode cX8_likeOf 39 = .ok (.goto 7, 3) := by decide +kernel
theorem dX8_likeOf_42 : decode cX8_likeOf 42 = .ok (.iload_n 0, 1) := by decide +kernel
theorem dX8_likeOf_43 : decode cX8_likeOf 43 = .ok (.bipush 6, 2) := by decide +kernel
theorem dX8_likeOf_45 : decode cX8_likeOf 45 = .ok (.irem, 1) := by decide +kernel
theorem dX8_likeOf_46 : decode cX8_likeOf 46 = .ok (.ireturn, 1) := by decide +kernel
theorem dX8_mienOf_0 : decode cX8_mienOf 0 = .ok (.iconst 0, 1) := by decide +kernel
theorem dX8_mienOf_1 : decode cX8_mienOf 1 = .ok (.istore_n 3, 1) := by decide +kernel
theorem dX8_mienOf_2 : decode cX8_mienOf 2 = .ok (.iconst 1, 1) := by decide +kernel
theorem dX8_mienOf_3 : decode cX8_mienOf 3 = .ok (.istore 4, 2) := by decide +kernel
theorem dX8_mienOf_5 : decode cX8_mienOf 5 = .ok (.iload 4, 2) := by decide +kernel
theorem dX8_mienOf_7 : decode cX8_mienOf 7 = .ok (.iconst 4, 1) := by decide +kernel
theorem dX8_mienOf_8 : decode cX8_mienOf 8 = .ok (.if_icmp .ge 49, 3) := by decide +kernel
theorem dX8_mienOf_11 : decode cX8_mienOf 11 = .ok (.aload_n 1, 1) := by decide +kernel
theorem dX8_mienOf_12 : decode cX8_mienOf 12 = .ok (.iload_n 2, 1) := by decide +kernel
theorem dX8_mienOf_13 : decode cX8_mienOf 13 = .ok (.iload 4, 2) := by decide +kernel
theorem dX8_mienOf_15 : decode cX8_mienOf 15 = .ok (.iadd, 1) := by decide +kernel
theorem dX8_mienOf_16 : decode cX8_mienOf 16 = .ok (.iaload, 1) := by decide +kernel
theorem dX8_mienOf_17 : decode cX8_mienOf 17 = .ok (.iload_n 0, 1) := by decide +kernel
theorem dX8_mienOf_18 : decode cX8_mienOf 18 = .ok (.iload 4, 2) := by decide +kernel
theorem dX8_mienOf_20 : decode cX8_mienOf 20 = .ok (.invokestatic 199, 3) := by decide +kernel
theorem dX8_mienOf_23 : decode cX8_mienOf 23 = .ok (.isub, 1) := by decide +kernel
theorem dX8_mienOf_24 : decode cX8_mienOf 24 = .ok (.invokestatic 130, 3) := by decide +kernel
theorem dX8_mienOf_27 : decode cX8_mienOf 27 = .ok (.aload_n 1, 1) := by decide +kernel
theorem dX8_mienOf_28 : decode cX8_mienOf 28 = .ok (.iload_n 2, 1) := by decide +kernel
theorem dX8_mienOf_29 : decode cX8_mienOf 29 = .ok (.iload_n 3, 1) := by decide +kernel
theorem dX8_mienOf_30 : decode cX8_mienOf 30 = .ok (.iadd, 1) := by decide +kernel
theorem dX8_mienOf_31 : decode cX8_mienOf 31 = .ok (.iaload, 1) := by decide +kernel
theorem dX8_mienOf_32 : decode cX8_mienOf 32 = .ok (.iload_n 0, 1) := by decide +kernel
theorem dX8_mienOf_33 : decode cX8_mienOf 33 = .ok (.iload_n 3, 1) := by decide +kernel
theorem dX8_mienOf_34 : decode cX8_mienOf 34 = .ok (.invokestatic 199, 3) := by decide +kernel
theorem dX8_mienOf_37 : decode cX8_mienOf 37 = .ok (.isub, 1) := by decide +kernel
theorem dX8_mienOf_38 : decode cX8_mienOf 38 = .ok (.invokestatic 130, 3) := by decide +kernel
theorem dX8_mienOf_41 : decode cX8_mienOf 41 = .ok (.if_icmp .le 8, 3) := by decide +kernel
theorem dX8_mienOf_44 : decode cX8_mienOf 44 = .ok (.iload 4, 2) := by decide +kernel
theorem dX8_mienOf_46 : decode cX8_mienOf 46 = .ok (.goto 4, 3) := by decide +kernel
theorem dX8_mienOf_49 : decode cX8_mienOf 49 = .ok (.iload_n 3, 1) := by decide +kernel
theorem dX8_mienOf_50 : decode cX8_mienOf 50 = .ok (.istore_n 3, 1) := by decide +kernel
theorem dX8_mienOf_51 : decode cX8_mienOf 51 = .ok (.iinc 4 1, 3) := by decide +kernel
theorem dX8_mienOf_54 : decode cX8_mienOf 54 = .ok (.goto (-49), 3) := by decide +kernel
theorem dX8_mienOf_57 : decode cX8_mienOf 57 = .ok (.aload_n 1, 1) := by decide +kernel
theorem dX8_mienOf_58 : decode cX8_mienOf 58 = .ok (.iload_n 2, 1) := by decide +kernel
theorem dX8_mienOf_59 : decode cX8_mienOf 59 = .ok (.iload_n 3, 1) := by decide +kernel
theorem dX8_mienOf_60 : decode cX8_mienOf 60 = .ok (.iadd, 1) := by decide +kernel
theorem dX8_mienOf_61 : decode cX8_mienOf 61 = .ok (.iaload, 1) := by decide +kernel
theorem dX8_mienOf_62 : decode cX8_mienOf 62 = .ok (.iload_n 0, 1) := by decide +kernel
theorem dX8_mienOf_63 : decode cX8_mienOf 63 = .ok (.iload_n 3, 1) := by decide +kernel
theorem dX8_mienOf_64 : decode cX8_mienOf 64 = .ok (.invokestatic 199, 3) := by decide +kernel
theorem dX8_mienOf_67 : decode cX8_mienOf 67 = .ok (.isub, 1) := by decide +kernel
theorem dX8_mienOf_68 : decode cX8_mienOf 68 = .ok (.istore 4, 2) := by decide +kernel
theorem dX8_mienOf_70 : decode cX8_mienOf 70 = .ok (.iload 4, 2) := by decide +kernel
theorem dX8_mienOf_72 : decode cX8_mienOf 72 = .ok (.ifCond .ne 7, 3) := by decide +kernel
theorem dX8_mienOf_75 : decode cX8_mienOf 75 = .ok (.iconst 0, 1) := by decide +kernel
theorem dX8_mienOf_76 : decode cX8_mienOf 76 = .ok (.goto 21, 3) := by decide +kernel
theorem dX8_mienOf_79 : decode cX8_mienOf 79 = .ok (.iload 4, 2) := by decide +kernel
theorem dX8_mienOf_81 : decode cX8_mienOf 81 = .ok (.ifCond .le 11, 3) := by decide +kernel
theorem dX8_mienOf_84 : decode cX8_mienOf 84 = .ok (.iconst 1, 1) := by decide +kernel
theorem dX8_mienOf_85 : decode cX8_mienOf 85 = .ok (.iconst 2, 1) := by decide +kernel
theorem dX8_mienOf_86 : decode cX8_mienOf 86 = .ok (.iload_n 3, 1) := by decide +kernel
theorem dX8_mienOf_87 : decode cX8_mienOf 87 = .ok (.imul, 1) := by decide +kernel
theorem dX8_mienOf_88 : decode cX8_mienOf 88 = .ok (.iadd, 1) := by decide +kernel
theorem dX8_mienOf_89 : decode cX8_mienOf 89 = .ok (.goto 8, 3) := by decide +kernel
theorem dX8_mienOf_92 : decode cX8_mienOf 92 = .ok (.iconst 2, 1) := by decide +kernel
theorem dX8_mienOf_93 : decode cX8_mienOf 93 = .ok (.iconst 2, 1) := by decide +kernel
theorem dX8_mienOf_94 : decode cX8_mienOf 94 = .ok (.iload_n 3, 1) := by decide +kernel
theorem dX8_mienOf_95 : decode cX8_mienOf 95 = .ok (.imul, 1) := by decide +kernel
theorem dX8_mienOf_96 : decode cX8_mienOf 96 = .ok (.iadd, 1) := by decide +kernel
theorem dX8_mienOf_97 : decode cX8_mienOf 97 = .ok (.ireturn, 1) := by decide +kernel
theorem dX8_isSo_0 : decode cX8_isSo 0 = .ok (.iconst 1, 1) := by decide +kernel
theorem dX8_isSo_1 : decode cX8_isSo 1 = .ok (.istore_n 2, 1) := by decide +kernel
theorem dX8_isSo_2 : decode cX8_isSo 2 = .ok (.iconst 0, 1) := by decide +kernel
theorem dX8_isSo_3 : decode cX8_isSo 3 = .ok (.istore_n 3, 1) := by decide +kernel
theorem dX8_isSo_4 : decode cX8_isSo 4 = .ok (.iload_n 3, 1) := by decide +kernel
theorem dX8_isSo_5 : decode cX8_isSo 5 = .ok (.aload_n 0, 1) := by decide +kernel
theorem dX8_isSo_6 : decode cX8_isSo 6 = .ok (.getfield 116, 3) := by decide +kernel
theorem dX8_isSo_9 : decode cX8_isSo 9 = .ok (.if_icmp .ge 39, 3) := by decide +kernel
theorem dX8_isSo_12 : decode cX8_isSo 12 = .ok (.iload_n 2, 1) := by decide +kernel
theorem dX8_isSo_13 : decode cX8_isSo 13 = .ok (.ifCond .eq 27, 3) := by decide +kernel
theorem dX8_isSo_16 : decode cX8_isSo 16 = .ok (.iload_n 1, 1) := by decide +kernel
theorem dX8_isSo_17 : decode cX8_isSo 17 = .ok (.aload_n 0, 1) := by decide +kernel
theorem dX8_isSo_18 : decode cX8_isSo 18 = .ok (.getfield 29, 3) := by decide +kernel
theorem dX8_isSo_21 : decode cX8_isSo 21 = .ok (.iconst 4, 1) := by decide +kernel
theorem dX8_isSo_22 : decode cX8_isSo 22 = .ok (.iload_n 3, 1) := by decide +kernel
theorem dX8_isSo_23 : decode cX8_isSo 23 = .ok (.imul, 1) := by decide +kernel
theorem dX8_isSo_24 : decode cX8_isSo 24 = .ok (.invokestatic 202, 3) := by decide +kernel
theorem dX8_isSo_27 : decode cX8_isSo 27 = .ok (.aload_n 0, 1) := by decide +kernel
theorem dX8_isSo_28 : decode cX8_isSo 28 = .ok (.getfield 32, 3) := by decide +kernel
theorem dX8_isSo_31 : decode cX8_isSo 31 = .ok (.iload_n 3, 1) := by decide +kernel
theorem dX8_isSo_32 : decode cX8_isSo 32 = .ok (.iaload, 1) := by decide +kernel
theorem dX8_isSo_33 : decode cX8_isSo 33 = .ok (.if_icmp .ne 7, 3) := by decide +kernel
theorem dX8_isSo_36 : decode cX8_isSo 36 = .ok (.iconst 1, 1) := by decide +kernel
theorem dX8_isSo_37 : decode cX8_isSo 37 = .ok (.goto 4, 3) := by decide +kernel
theorem dX8_isSo_40 : decode cX8_isSo 40 = .ok (.iconst 0, 1) := by decide +kernel
theorem dX8_isSo_41 : decode cX8_isSo 41 = .ok (.istore_n 2, 1) := by decide +kernel
theorem dX8_isSo_42 : decode cX8_isSo 42 = .ok (.iinc 3 1, 3) := by decide +kernel
theorem dX8_isSo_45 : decode cX8_isSo 45 = .ok (.goto (-41), 3) := by decide +kernel
theorem dX8_isSo_48 : decode cX8_isSo 48 = .ok (.iload_n 2, 1) := by decide +kernel
theorem dX8_isSo_49 : decode cX8_isSo 49 = .ok (.ireturn, 1) := by decide +kernel
theorem dX8_likings_0 : decode cX8_likings 0 = .ok (.iload_n 1, 1) := by decide +kernel
theorem dX8_likings_1 : decode cX8_likings 1 = .ok (.invokestatic 151, 3) := by decide +kernel
theorem dX8_likings_4 : decode cX8_likings 4 = .ok (.ifCond .eq 12, 3) := by decide +kernel
theorem dX8_likings_7 : decode cX8_likings 7 = .ok (.iload_n 2, 1) := by decide +kernel
theorem dX8_likings_8 : decode cX8_likings 8 = .ok (.iconst 0, 1) := by decide +kernel
theorem dX8_likings_9 : decode cX8_likings 9 = .ok (.iconst 2, 1) := by decide +kernel
theorem dX8_likings_10 : decode cX8_likings 10 = .ok (.invokestatic 54, 3) := by decide +kernel
theorem dX8_likings_13 : decode cX8_likings 13 = .ok (.ifCond .ne 5, 3) := by decide +kernel
theorem dX8_likings_16 : decode cX8_likings 16 = .ok (.iconst (-1), 1) := by decide +kernel
theorem dX8_likings_17 : decode cX8_likings 17 = .ok (.ireturn, 1) := by decide +kernel
theorem dX8_likings_18 : decode cX8_likings 18 = .ok (.iconst 0, 1) := by decide +kernel
theorem dX8_likings_19 : decode cX8_likings 19 = .ok (.istore_n 3, 1) := by decide +kernel
theorem dX8_likings_20 : decode cX8_likings 20 = .ok (.bipush (-9), 2) := by decide +kernel
theorem dX8_likings_22 : decode cX8_likings 22 = .ok (.istore 4, 2) := by decide +kernel
theorem dX8_likings_24 : decode cX8_likings 24 = .ok (.bipush (-9), 2) := by decide +kernel
theorem dX8_likings_26 : decode cX8_likings 26 = .ok (.istore 5, 2) := by decide +kernel
theorem dX8_likings_28 : decode cX8_likings 28 = .ok (.iconst 0, 1) := by decide +kernel
theorem dX8_likings_29 : decode cX8_likings 29 = .ok (.istore 6, 2) := by decide +kernel
theorem dX8_likings_31 : decode cX8_likings 31 = .ok (.iload 6, 2) := by decide +kernel
theorem dX8_likings_33 : decode cX8_likings 33 = .ok (.sipush 1296, 3) := by decide +kernel
theorem dX8_likings_36 : decode cX8_likings 36 = .ok (.if_icmp .ge 65, 3) := by decide +kernel
theorem dX8_likings_39 : decode cX8_likings 39 = .ok (.aload_n 0, 1) := by decide +kernel
theorem dX8_likings_40 : decode cX8_likings 40 = .ok (.iload 6, 2) := by decide +kernel
theorem dX8_likings_42 : decode cX8_likings 42 = .ok (.invokevirtual 206, 3) := by decide +kernel
theorem dX8_likings_45 : decode cX8_likings 45 = .ok (.ifCond .eq 50, 3) := by decide +kernel
theorem dX8_likings_48 : decode cX8_likings 48 = .ok (.iload 6, 2) := by decide +kernel
theorem dX8_likings_50 : decode cX8_likings 50 = .ok (.iload_n 1, 1) := by decide +kernel
theorem dX8_likings_51 : decode cX8_likings 51 = .ok (.invokestatic 199, 3) := by decide +kernel
theorem dX8_likings_54 : decode cX8_likings 54 = .ok (.istore 7, 2) := by decide +kernel
theorem dX8_likings_56 : decode cX8_likings 56 = .ok (.iload_n 3, 1) := by decide +kernel
theorem dX8_likings_57 : decode cX8_likings 57 = .ok (.ifCond .eq 10, 3) := by decide +kernel
theorem dX8_likings_60 : decode cX8_likings 60 = .ok (.iload 7, 2) := by decide +kernel
theorem dX8_likings_62 : decode cX8_likings 62 = .ok (.iload 4, 2) := by decide +kernel
theorem dX8_likings_64 : decode cX8_likings 64 = .ok (.if_icmp .ge 8, 3) := by decide +kernel
theorem dX8_likings_67 : decode cX8_likings 67 = .ok (.iload 7, 2) := by decide +kernel
theorem dX8_likings_69 : decode cX8_likings 69 = .ok (.goto 5, 3) := by decide +kernel
theorem dX8_likings_72 : decode cX8_likings 72 = .ok (.iload 4, 2) := by decide +kernel
theorem dX8_likings_74 : decode cX8_likings 74 = .ok (.istore 4, 2) := by decide +kernel
theorem dX8_likings_76 : decode cX8_likings 76 = .ok (.iload 7, 2) := by decide +kernel
theorem dX8_likings_78 : decode cX8_likings 78 = .ok (.iload 5, 2) := by decide +kernel
theorem dX8_likings_80 : decode cX8_likings 80 = .ok (.if_icmp .le 8, 3) := by decide +kernel
theorem dX8_likings_83 : decode cX8_likings 83 = .ok (.iload 7, 2) := by decide +kernel
theorem dX8_likings_85 : decode cX8_likings 85 = .ok (.goto 5, 3) := by decide +kernel
theorem dX8_likings_88 : decode cX8_likings 88 = .ok (.iload 5, 2) := by decide +kernel
theorem dX8_likings_90 : decode cX8_likings 90 = .ok (.istore 5, 2) := by decide +kernel
theorem dX8_likings_92 : decode cX8_likings 92 = .ok (.iinc 3 1, 3) := by decide +kernel
theorem dX8_likings_95 : decode cX8_likings 95 = .ok (.iinc 6 1, 3) := by decide +kernel
theorem dX8_likings_98 : decode cX8_likings 98 = .ok (.goto (-67), 3) := by decide +kernel
theorem dX8_likings_101 : decode cX8_likings 101 = .ok (.iload_n 2, 1) := by decide +kernel
theorem dX8_likings_102 : decode cX8_likings 102 = .ok (.ifCond .ne 7, 3) := by decide +kernel
theorem dX8_likings_105 : decode cX8_likings 105 = .ok (.iload_n 3, 1) := by decide +kernel
theorem dX8_likings_106 : decode cX8_likings 106 = .ok (.goto 15, 3) := by decide +kernel
theorem dX8_likings_109 : decode cX8_likings 109 = .ok (.iload_n 2, 1) := by decide +kernel
theorem dX8_likings_110 : decode cX8_likings 110 = .ok (.iconst 1, 1) := by decide +kernel
theorem dX8_likings_111 : decode cX8_likings 111 = .ok (.if_icmp .ne 8, 3) := by decide +kernel
theorem dX8_likings_114 : decode cX8_likings 114 = .ok (.iload 4, 2) := by decide +kernel
theorem dX8_likings_116 : decode cX8_likings 116 = .ok (.goto 5, 3) := by decide +kernel
theorem dX8_likings_119 : decode cX8_likings 119 = .ok (.iload 5, 2) := by decide +kernel
theorem dX8_likings_121 : decode cX8_likings 121 = .ok (.ireturn, 1) := by decide +kernel
theorem dX8_greatestPart_0 : decode cX8_greatestPart 0 = .ok (.iconst 0, 1) := by decide +kernel
theorem dX8_greatestPart_1 : decode cX8_greatestPart 1 = .ok (.istore_n 1, 1) := by decide +kernel
theorem dX8_greatestPart_2 : decode cX8_greatestPart 2 = .ok (.iconst 0, 1) := by decide +kernel
theorem dX8_greatestPart_3 : decode cX8_greatestPart 3 = .ok (.istore_n 2, 1) := by decide +kernel
theorem dX8_greatestPart_4 : decode cX8_greatestPart 4 = .ok (.iload_n 2, 1) := by decide +kernel
theorem dX8_greatestPart_5 : decode cX8_greatestPart 5 = .ok (.bipush 9, 2) := by decide +kernel
theorem dX8_greatestPart_7 : decode cX8_greatestPart 7 = .ok (.if_icmp .ge 16, 3) := by decide +kernel
theorem dX8_greatestPart_10 : decode cX8_greatestPart 10 = .ok (.aload_n 0, 1) := by decide +kernel
theorem dX8_greatestPart_11 : decode cX8_greatestPart 11 = .ok (.getfield 47, 3) := by decide +kernel
theorem dX8_greatestPart_14 : decode cX8_greatestPart 14 = .ok (.iload_n 2, 1) := by decide +kernel
theorem dX8_greatestPart_15 : decode cX8_greatestPart 15 = .ok (.iconst 0, 1) := by decide +kernel
theorem dX8_greatestPart_16 : decode cX8_greatestPart 16 = .ok (.iastore, 1) := by decide +kernel
theorem dX8_greatestPart_17 : decode cX8_greatestPart 17 = .ok (.iinc 2 1, 3) := by decide +kernel
theorem dX8_greatestPart_20 : decode cX8_greatestPart 20 = .ok (.goto (-16), 3) := by decide +kernel
theorem dX8_greatestPart_23 : decode cX8_greatestPart 23 = .ok (.iconst 0, 1) := by decide +kernel
theorem dX8_greatestPart_24 : decode cX8_greatestPart 24 = .ok (.istore_n 2, 1) := by decide +kernel
theorem dX8_greatestPart_25 : decode cX8_greatestPart 25 = .ok (.iload_n 2, 1) := by decide +kernel
theorem dX8_greatestPart_26 : decode cX8_greatestPart 26 = .ok (.sipush 1296, 3) := by decide +kernel
theorem dX8_greatestPart_29 : decode cX8_greatestPart 29 = .ok (.if_icmp .ge 62, 3) := by decide +kernel
theorem dX8_greatestPart_32 : decode cX8_greatestPart 32 = .ok (.iload_n 2, 1) := by decide +kernel
theorem dX8_greatestPart_33 : decode cX8_greatestPart 33 = .ok (.aload_n 0, 1) := by decide +kernel
theorem dX8_greatestPart_34 : decode cX8_greatestPart 34 = .ok (.getfield 44, 3) := by decide +kernel
theorem dX8_greatestPart_37 : decode cX8_greatestPart 37 = .ok (.iconst 0, 1) := by decide +kernel
theorem dX8_greatestPart_38 : decode cX8_greatestPart 38 = .ok (.invokestatic 202, 3) := by decide +kernel
theorem dX8_greatestPart_41 : decode cX8_greatestPart 41 = .ok (.istore_n 3, 1) := by decide +kernel
theorem dX8_greatestPart_42 : decode cX8_greatestPart 42 = .ok (.aload_n 0, 1) := by decide +kernel
theorem dX8_greatestPart_43 : decode cX8_greatestPart 43 = .ok (.getfield 47, 3) := by decide +kernel
theorem dX8_greatestPart_46 : decode cX8_greatestPart 46 = .ok (.iload_n 3, 1) := by decide +kernel
theorem dX8_greatestPart_47 : decode cX8_greatestPart 47 = .ok (.dup2, 1) := by decide +kernel
theorem dX8_greatestPart_48 : decode cX8_greatestPart 48 = .ok (.iaload, 1) := by decide +kernel
theorem dX8_greatestPart_49 : decode cX8_greatestPart 49 = .ok (.aload_n 0, 1) := by decide +kernel
theorem dX8_greatestPart_50 : decode cX8_greatestPart 50 = .ok (.iload_n 2, 1) := by decide +kernel
theorem dX8_greatestPart_51 : decode cX8_greatestPart 51 = .ok (.invokevirtual 206, 3) := by decide +kernel
theorem dX8_greatestPart_54 : decode cX8_greatestPart 54 = .ok (.ifCond .eq 7, 3) := by decide +kernel
theorem dX8_greatestPart_57 : decode cX8_greatestPart 57 = .ok (.iconst 1, 1) := by decide +kernel
theorem dX8_greatestPart_58 : decode cX8_greatestPart 58 = .ok (.goto 4, 3) := by decide +kernel
theorem dX8_greatestPart_61 : decode cX8_greatestPart 61 = .ok (.iconst 0, 1) := by decide +kernel
theorem dX8_greatestPart_62 : decode cX8_greatestPart 62 = .ok (.iadd, 1) := by decide +kernel
theorem dX8_greatestPart_63 : decode cX8_greatestPart 63 = .ok (.iastore, 1) := by decide +kernel
theorem dX8_greatestPart_64 : decode cX8_greatestPart 64 = .ok (.aload_n 0, 1) := by decide +kernel
theorem dX8_greatestPart_65 : decode cX8_greatestPart 65 = .ok (.getfield 47, 3) := by decide +kernel
theorem dX8_greatestPart_68 : decode cX8_greatestPart 68 = .ok (.iload_n 3, 1) := by decide +kernel
theorem dX8_greatestPart_69 : decode cX8_greatestPart 69 = .ok (.iaload, 1) := by decide +kernel
theorem dX8_greatestPart_70 : decode cX8_greatestPart 70 = .ok (.iload_n 1, 1) := by decide +kernel
theorem dX8_greatestPart_71 : decode cX8_greatestPart 71 = .ok (.if_icmp .le 12, 3) := by decide +kernel
theorem dX8_greatestPart_74 : decode cX8_greatestPart 74 = .ok (.aload_n 0, 1) := by decide +kernel
theorem dX8_greatestPart_75 : decode cX8_greatestPart 75 = .ok (.getfield 47, 3) := by decide +kernel
theorem dX8_greatestPart_78 : decode cX8_greatestPart 78 = .ok (.iload_n 3, 1) := by decide +kernel
theorem dX8_greatestPart_79 : decode cX8_greatestPart 79 = .ok (.iaload, 1) := by decide +kernel
theorem dX8_greatestPart_80 : decode cX8_greatestPart 80 = .ok (.goto 4, 3) := by decide +kernel
theorem dX8_greatestPart_83 : decode cX8_greatestPart 83 = .ok (.iload_n 1, 1) := by decide +kernel
theorem dX8_greatestPart_84 : decode cX8_greatestPart 84 = .ok (.istore_n 1, 1) := by decide +kernel
theorem dX8_greatestPart_85 : decode cX8_greatestPart 85 = .ok (.iinc 2 1, 3) := by decide +kernel
theorem dX8_greatestPart_88 : decode cX8_greatestPart 88 = .ok (.goto (-63), 3) := by decide +kernel
theorem dX8_greatestPart_91 : decode cX8_greatestPart 91 = .ok (.iload_n 1, 1) := by decide +kernel
theorem dX8_greatestPart_92 : decode cX8_greatestPart 92 = .ok (.ireturn, 1) := by decide +kernel
theorem dX8_ask_0 : decode cX8_ask 0 = .ok (.aload_n 0, 1) := by decide +kernel
theorem dX8_ask_1 : decode cX8_ask 1 = .ok (.iconst 0, 1) := by decide +kernel
theorem dX8_ask_2 : decode cX8_ask 2 = .ok (.iconst 0, 1) := by decide +kernel
theorem dX8_ask_3 : decode cX8_ask 3 = .ok (.invokevirtual 209, 3) := by decide +kernel
theorem dX8_ask_6 : decode cX8_ask 6 = .ok (.iconst 2, 1) := by decide +kernel
theorem dX8_ask_7 : decode cX8_ask 7 = .ok (.if_icmp .ge 6, 3) := by decide +kernel
theorem dX8_ask_10 : decode cX8_ask 10 = .ok (.bipush (-9), 2) := by decide +kernel
theorem dX8_ask_12 : decode cX8_ask 12 = .ok (.ireturn, 1) := by decide +kernel
theorem dX8_ask_13 : decode cX8_ask 13 = .ok (.iconst 0, 1) := by decide +kernel
theorem dX8_ask_14 : decode cX8_ask 14 = .ok (.istore_n 1, 1) := by decide +kernel
theorem dX8_ask_15 : decode cX8_ask 15 = .ok (.sipush 1297, 3) := by decide +kernel
theorem dX8_ask_18 : decode cX8_ask 18 = .ok (.istore_n 2, 1) := by decide +kernel
theorem dX8_ask_19 : decode cX8_ask 19 = .ok (.iconst 0, 1) := by decide +kernel
theorem dX8_ask_20 : decode cX8_ask 20 = .ok (.istore_n 3, 1) := by decide +kernel
theorem dX8_ask_21 : decode cX8_ask 21 = .ok (.iload_n 3, 1) := by decide +kernel
theorem dX8_ask_22 : decode cX8_ask 22 = .ok (.iconst 5, 1) := by decide +kernel
theorem dX8_ask_23 : decode cX8_ask 23 = .ok (.if_icmp .gt 62, 3) := by decide +kernel
theorem dX8_ask_26 : decode cX8_ask 26 = .ok (.aload_n 0, 1) := by decide +kernel
theorem dX8_ask_27 : decode cX8_ask 27 = .ok (.invokevirtual 157, 3) := by decide +kernel
theorem dX8_ask_30 : decode cX8_ask 30 = .ok (.iload_n 3, 1) := by decide +kernel
theorem dX8_ask_31 : decode cX8_ask 31 = .ok (.iconst 5, 1) := by decide +kernel
theorem dX8_ask_32 : decode cX8_ask 32 = .ok (.if_icmp .ge 16, 3) := by decide +kernel
theorem dX8_ask_35 : decode cX8_ask 35 = .ok (.aload_n 0, 1) := by decide +kernel
theorem dX8_ask_36 : decode cX8_ask 36 = .ok (.iload_n 3, 1) := by decide +kernel
theorem dX8_ask_37 : decode cX8_ask 37 = .ok (.invokevirtual 180, 3) := by decide +kernel
theorem dX8_ask_40 : decode cX8_ask 40 = .ok (.ifCond .eq 8, 3) := by decide +kernel
theorem dX8_ask_43 : decode cX8_ask 43 = .ok (.aload_n 0, 1) := by decide +kernel
theorem dX8_ask_44 : decode cX8_ask 44 = .ok (.iload_n 3, 1) := by decide +kernel
theorem dX8_ask_45 : decode cX8_ask 45 = .ok (.invokevirtual 170, 3) := by decide +kernel
theorem dX8_ask_48 : decode cX8_ask 48 = .ok (.aload_n 0, 1) := by decide +kernel
theorem dX8_ask_49 : decode cX8_ask 49 = .ok (.invokevirtual 212, 3) := by decide +kernel
theorem dX8_ask_52 : decode cX8_ask 52 = .ok (.istore 4, 2) := by decide +kernel
theorem dX8_ask_54 : decode cX8_ask 54 = .ok (.iload 4, 2) := by decide +kernel
theorem dX8_ask_56 : decode cX8_ask 56 = .ok (.iload_n 2, 1) := by decide +kernel
theorem dX8_ask_57 : decode cX8_ask 57 = .ok (.if_icmp .ge 7, 3) := by decide +kernel
theorem dX8_ask_60 : decode cX8_ask 60 = .ok (.iload_n 3, 1) := by decide +kernel
theorem dX8_ask_61 : decode cX8_ask 61 = .ok (.goto 4, 3) := by decide +kernel
theorem dX8_ask_64 : decode cX8_ask 64 = .ok (.iload_n 1, 1) := by decide +kernel
theorem dX8_ask_65 : decode cX8_ask 65 = .ok (.istore_n 1, 1) := by decide +kernel
theorem dX8_ask_66 : decode cX8_ask 66 = .ok (.iload 4, 2) := by decide +kernel
theorem dX8_ask_68 : decode cX8_ask 68 = .ok (.iload_n 2, 1) := by decide +kernel
theorem dX8_ask_69 : decode cX8_ask 69 = .ok (.if_icmp .ge 8, 3) := by decide +kernel
theorem dX8_ask_72 : decode cX8_ask 72 = .ok (.iload 4, 2) := by decide +kernel
theorem dX8_ask_74 : decode cX8_ask 74 = .ok (.goto 4, 3) := by decide +kernel
theorem dX8_ask_77 : decode cX8_ask 77 = .ok (.iload_n 2, 1) := by decide +kernel
theorem dX8_ask_78 : decode cX8_ask 78 = .ok (.istore_n 2, 1) := by decide +kernel
theorem dX8_ask_79 : decode cX8_ask 79 = .ok (.iinc 3 1, 3) := by decide +kernel
theorem dX8_ask_82 : decode cX8_ask 82 = .ok (.goto (-61), 3) := by decide +kernel
theorem dX8_ask_85 : decode cX8_ask 85 = .ok (.iload_n 1, 1) := by decide +kernel
theorem dX8_ask_86 : decode cX8_ask 86 = .ok (.ireturn, 1) := by decide +kernel
theorem dX8_rate_0 : decode cX8_rate 0 = .ok (.iload_n 1, 1) := by decide +kernel
theorem dX8_rate_1 : decode cX8_rate 1 = .ok (.iconst 0, 1) := by decide +kernel
theorem dX8_rate_2 : decode cX8_rate 2 = .ok (.iconst 5, 1) := by decide +kernel
theorem dX8_rate_3 : decode cX8_rate 3 = .ok (.invokestatic 54, 3) := by decide +kernel
theorem dX8_rate_6 : decode cX8_rate 6 = .ok (.ifCond .eq 11, 3) := by decide +kernel
theorem dX8_rate_9 : decode cX8_rate 9 = .ok (.aload_n 0, 1) := by decide +kernel
theorem dX8_rate_10 : decode cX8_rate 10 = .ok (.iload_n 2, 1) := by decide +kernel
theorem dX8_rate_11 : decode cX8_rate 11 = .ok (.invokevirtual 154, 3) := by decide +kernel
theorem dX8_rate_14 : decode cX8_rate 14 = .ok (.ifCond .ne 6, 3) := by decide +kernel
theorem dX8_rate_17 : decode cX8_rate 17 = .ok (.ldc 160, 2) := by decide +kernel
theorem dX8_rate_19 : decode cX8_rate 19 = .ok (.ireturn, 1) := by decide +kernel
theorem dX8_rate_20 : decode cX8_rate 20 = .ok (.aload_n 0, 1) := by decide +kernel
theorem dX8_rate_21 : decode cX8_rate 21 = .ok (.invokevirtual 157, 3) := by decide +kernel
theorem dX8_rate_24 : decode cX8_rate 24 = .ok (.aload_n 0, 1) := by decide +kernel
theorem dX8_rate_25 : decode cX8_rate 25 = .ok (.iload_n 2, 1) := by decide +kernel
theorem dX8_rate_26 : decode cX8_rate 26 = .ok (.invokevirtual 144, 3) := by decide +kernel
theorem dX8_rate_29 : decode cX8_rate 29 = .ok (.istore_n 3, 1) := by decide +kernel
theorem dX8_rate_30 : decode cX8_rate 30 = .ok (.iload_n 3, 1) := by decide +kernel
theorem dX8_rate_31 : decode cX8_rate 31 = .ok (.aload_n 0, 1) := by decide +kernel
theorem dX8_rate_32 : decode cX8_rate 32 = .ok (.getfield 13, 3) := by decide +kernel
theorem dX8_rate_35 : decode cX8_rate 35 = .ok (.iload_n 2, 1) := by decide +kernel
theorem dX8_rate_36 : decode cX8_rate 36 = .ok (.iaload, 1) := by decide +kernel
theorem dX8_rate_37 : decode cX8_rate 37 = .ok (.iadd, 1) := by decide +kernel
theorem dX8_rate_38 : decode cX8_rate 38 = .ok (.istore 4, 2) := by decide +kernel
theorem dX8_rate_40 : decode cX8_rate 40 = .ok (.iload_n 3, 1) := by decide +kernel
theorem dX8_rate_41 : decode cX8_rate 41 = .ok (.aload_n 0, 1) := by decide +kernel
theorem dX8_rate_42 : decode cX8_rate 42 = .ok (.iload_n 2, 1) := by decide +kernel
theorem dX8_rate_43 : decode cX8_rate 43 = .ok (.invokevirtual 141, 3) := by decide +kernel
theorem dX8_rate_46 : decode cX8_rate 46 = .ok (.isub, 1) := by decide +kernel
theorem dX8_rate_47 : decode cX8_rate 47 = .ok (.istore 5, 2) := by decide +kernel
theorem dX8_rate_49 : decode cX8_rate 49 = .ok (.iload_n 1, 1) := by decide +kernel
theorem dX8_rate_50 : decode cX8_rate 50 = .ok (.tableswitch 117 1 5 #[34, 49, 64, 81, 98], 34) := by decide +kernel
theorem dX8_rate_84 : decode cX8_rate 84 = .ok (.aload_n 0, 1) := by decide +kernel
theorem dX8_rate_85 : decode cX8_rate 85 = .ok (.dup, 1) := by decide +kernel
theorem dX8_rate_86 : decode cX8_rate 86 = .ok (.getfield 215, 3) := by decide +kernel
theorem dX8_rate_89 : decode cX8_rate 89 = .ok (.ldc2_w 219, 3) := by decide +kernel
theorem dX8_rate_92 : decode cX8_rate 92 = .ok (.ladd, 1) := by decide +kernel
theorem dX8_rate_93 : decode cX8_rate 93 = .ok (.putfield 215, 3) := by decide +kernel
theorem dX8_rate_96 : decode cX8_rate 96 = .ok (.iload 4, 2) := by decide +kernel
theorem dX8_rate_98 : decode cX8_rate 98 = .ok (.ireturn, 1) := by decide +kernel
theorem dX8_rate_99 : decode cX8_rate 99 = .ok (.aload_n 0, 1) := by decide +kernel
theorem dX8_rate_100 : decode cX8_rate 100 = .ok (.dup, 1) := by decide +kernel
theorem dX8_rate_101 : decode cX8_rate 101 = .ok (.getfield 215, 3) := by decide +kernel
theorem dX8_rate_104 : decode cX8_rate 104 = .ok (.ldc2_w 221, 3) := by decide +kernel
theorem dX8_rate_107 : decode cX8_rate 107 = .ok (.ladd, 1) := by decide +kernel
theorem dX8_rate_108 : decode cX8_rate 108 = .ok (.putfield 215, 3) := by decide +kernel
theorem dX8_rate_111 : decode cX8_rate 111 = .ok (.iload 5, 2) := by decide +kernel
theorem dX8_rate_113 : decode cX8_rate 113 = .ok (.ireturn, 1) := by decide +kernel
theorem dX8_rate_114 : decode cX8_rate 114 = .ok (.aload_n 0, 1) := by decide +kernel
theorem dX8_rate_115 : decode cX8_rate 115 = .ok (.dup, 1) := by decide +kernel
theorem dX8_rate_116 : decode cX8_rate 116 = .ok (.getfield 215, 3) := by decide +kernel
theorem dX8_rate_119 : decode cX8_rate 119 = .ok (.ldc2_w 223, 3) := by decide +kernel
theorem dX8_rate_122 : decode cX8_rate 122 = .ok (.ladd, 1) := by decide +kernel
theorem dX8_rate_123 : decode cX8_rate 123 = .ok (.putfield 215, 3) := by decide +kernel
theorem dX8_rate_126 : decode cX8_rate 126 = .ok (.iconst 2, 1) := by decide +kernel
theorem dX8_rate_127 : decode cX8_rate 127 = .ok (.iload 4, 2) := by decide +kernel
theorem dX8_rate_129 : decode cX8_rate 129 = .ok (.imul, 1) := by decide +kernel
theorem dX8_rate_130 : decode cX8_rate 130 = .ok (.ireturn, 1) := by decide +kernel
theorem dX8_rate_131 : decode cX8_rate 131 = .ok (.aload_n 0, 1) := by decide +kernel
theorem dX8_rate_132 : decode cX8_rate 132 = .ok (.dup, 1) := by decide +kernel
theorem dX8_rate_133 : decode cX8_rate 133 = .ok (.getfield 215, 3) := by decide +kernel
theorem dX8_rate_136 : decode cX8_rate 136 = .ok (.ldc2_w 225, 3) := by decide +kernel
theorem dX8_rate_139 : decode cX8_rate 139 = .ok (.ladd, 1) := by decide +kernel
theorem dX8_rate_140 : decode cX8_rate 140 = .ok (.putfield 215, 3) := by decide +kernel
theorem dX8_rate_143 : decode cX8_rate 143 = .ok (.iload 5, 2) := by decide +kernel
theorem dX8_rate_145 : decode cX8_rate 145 = .ok (.iload_n 2, 1) := by decide +kernel
theorem dX8_rate_146 : decode cX8_rate 146 = .ok (.iadd, 1) := by decide +kernel
theorem dX8_rate_147 : decode cX8_rate 147 = .ok (.ireturn, 1) := by decide +kernel
theorem dX8_rate_148 : decode cX8_rate 148 = .ok (.aload_n 0, 1) := by decide +kernel
theorem dX8_rate_149 : decode cX8_rate 149 = .ok (.dup, 1) := by decide +kernel
theorem dX8_rate_150 : decode cX8_rate 150 = .ok (.getfield 215, 3) := by decide +kernel
theorem dX8_rate_153 : decode cX8_rate 153 = .ok (.ldc2_w 227, 3) := by decide +kernel
theorem dX8_rate_156 : decode cX8_rate 156 = .ok (.ladd, 1) := by decide +kernel
theorem dX8_rate_157 : decode cX8_rate 157 = .ok (.putfield 215, 3) := by decide +kernel
theorem dX8_rate_160 : decode cX8_rate 160 = .ok (.iload_n 3, 1) := by decide +kernel
theorem dX8_rate_161 : decode cX8_rate 161 = .ok (.aload_n 0, 1) := by decide +kernel
theorem dX8_rate_162 : decode cX8_rate 162 = .ok (.invokevirtual 147, 3) := by decide +kernel
theorem dX8_rate_165 : decode cX8_rate 165 = .ok (.iadd, 1) := by decide +kernel
theorem dX8_rate_166 : decode cX8_rate 166 = .ok (.ireturn, 1) := by decide +kernel
theorem dX8_rate_167 : decode cX8_rate 167 = .ok (.aload_n 0, 1) := by decide +kernel
theorem dX8_rate_168 : decode cX8_rate 168 = .ok (.dup, 1) := by decide +kernel
theorem dX8_rate_169 : decode cX8_rate 169 = .ok (.getfield 215, 3) := by decide +kernel
theorem dX8_rate_172 : decode cX8_rate 172 = .ok (.lconst 1, 1) := by decide +kernel
theorem dX8_rate_173 : decode cX8_rate 173 = .ok (.ladd, 1) := by decide +kernel
theorem dX8_rate_174 : decode cX8_rate 174 = .ok (.putfield 215, 3) := by decide +kernel
theorem dX8_rate_177 : decode cX8_rate 177 = .ok (.iload_n 3, 1) := by decide +kernel
theorem dX8_rate_178 : decode cX8_rate 178 = .ok (.ireturn, 1) := by decide +kernel
theorem dX8_keep_0 : decode cX8_keep 0 = .ok (.iload_n 1, 1) := by decide +kernel
theorem dX8_keep_1 : decode cX8_keep 1 = .ok (.iconst 0, 1) := by decide +kernel
theorem dX8_keep_2 : decode cX8_keep 2 = .ok (.iconst 1, 1) := by decide +kernel
theorem dX8_keep_3 : decode cX8_keep 3 = .ok (.invokestatic 54, 3) := by decide +kernel
theorem dX8_keep_6 : decode cX8_keep 6 = .ok (.ifCond .ne 5, 3) := by decide +kernel
theorem dX8_keep_9 : decode cX8_keep 9 = .ok (.iconst (-1), 1) := by decide +kernel
theorem dX8_keep_10 : decode cX8_keep 10 = .ok (.ireturn, 1) := by decide +kernel
theorem dX8_keep_11 : decode cX8_keep 11 = .ok (.aload_n 0, 1) := by decide +kernel
theorem dX8_keep_12 : decode cX8_keep 12 = .ok (.invokevirtual 157, 3) := by decide +kernel
theorem dX8_keep_15 : decode cX8_keep 15 = .ok (.aload_n 0, 1) := by decide +kernel
theorem dX8_keep_16 : decode cX8_keep 16 = .ok (.getfield 22, 3) := by decide +kernel
theorem dX8_keep_19 : decode cX8_keep 19 = .ok (.bipush 11, 2) := by decide +kernel
theorem dX8_keep_21 : decode cX8_keep 21 = .ok (.iload_n 1, 1) := by decide +kernel
theorem dX8_keep_22 : decode cX8_keep 22 = .ok (.imul, 1) := by decide +kernel
theorem dX8_keep_23 : decode cX8_keep 23 = .ok (.aload_n 0, 1) := by decide +kernel
theorem dX8_keep_24 : decode cX8_keep 24 = .ok (.getfield 16, 3) := by decide +kernel
theorem dX8_keep_27 : decode cX8_keep 27 = .ok (.iconst 0, 1) := by decide +kernel
theorem dX8_keep_28 : decode cX8_keep 28 = .ok (.invokestatic 119, 3) := by decide +kernel
theorem dX8_keep_31 : decode cX8_keep 31 = .ok (.aload_n 0, 1) := by decide +kernel
theorem dX8_keep_32 : decode cX8_keep 32 = .ok (.getfield 25, 3) := by decide +kernel
theorem dX8_keep_35 : decode cX8_keep 35 = .ok (.iload_n 1, 1) := by decide +kernel
theorem dX8_keep_36 : decode cX8_keep 36 = .ok (.iconst 1, 1) := by decide +kernel
theorem dX8_keep_37 : decode cX8_keep 37 = .ok (.bastore, 1) := by decide +kernel
theorem dX8_keep_38 : decode cX8_keep 38 = .ok (.aload_n 0, 1) := by decide +kernel
theorem dX8_keep_39 : decode cX8_keep 39 = .ok (.invokevirtual 161, 3) := by decide +kernel
theorem dX8_keep_42 : decode cX8_keep 42 = .ok (.invokestatic 174, 3) := by decide +kernel
theorem dX8_keep_45 : decode cX8_keep 45 = .ok (.ireturn, 1) := by decide +kernel
theorem dX8_back_0 : decode cX8_back 0 = .ok (.iload_n 1, 1) := by decide +kernel
theorem dX8_back_1 : decode cX8_back 1 = .ok (.iconst 0, 1) := by decide +kernel
theorem dX8_back_2 : decode cX8_back 2 = .ok (.iconst 1, 1) := by decide +kernel
theorem dX8_back_3 : decode cX8_back 3 = .ok (.invokestatic 54, 3) := by decide +kernel
theorem dX8_back_6 : decode cX8_back 6 = .ok (.ifCond .ne 5, 3) := by decide +kernel
theorem dX8_back_9 : decode cX8_back 9 = .ok (.iconst (-1), 1) := by decide +kernel
theorem dX8_back_10 : decode cX8_back 10 = .ok (.ireturn, 1) := by decide +kernel
theorem dX8_back_11 : decode cX8_back 11 = .ok (.aload_n 0, 1) := by decide +kernel
theorem dX8_back_12 : decode cX8_back 12 = .ok (.getfield 25, 3) := by decide +kernel
theorem dX8_back_15 : decode cX8_back 15 = .ok (.iload_n 1, 1) := by decide +kernel
theorem dX8_back_16 : decode cX8_back 16 = .ok (.baload, 1) := by decide +kernel
theorem dX8_back_17 : decode cX8_back 17 = .ok (.ifCond .ne 6, 3) := by decide +kernel
theorem dX8_back_20 : decode cX8_back 20 = .ok (.bipush (-2), 2) := by decide +kernel
theorem dX8_back_22 : decode cX8_back 22 = .ok (.ireturn, 1) := by decide +kernel
theorem dX8_back_23 : decode cX8_back 23 = .ok (.aload_n 0, 1) := by decide +kernel
theorem dX8_back_24 : decode cX8_back 24 = .ok (.getfield 16, 3) := by decide +kernel
theorem dX8_back_27 : decode cX8_back 27 = .ok (.iconst 0, 1) := by decide +kernel
theorem dX8_back_28 : decode cX8_back 28 = .ok (.aload_n 0, 1) := by decide +kernel
theorem dX8_back_29 : decode cX8_back 29 = .ok (.getfield 22, 3) := by decide +kernel
theorem dX8_back_32 : decode cX8_back 32 = .ok (.bipush 11, 2) := by decide +kernel
theorem dX8_back_34 : decode cX8_back 34 = .ok (.iload_n 1, 1) := by decide +kernel
theorem dX8_back_35 : decode cX8_back 35 = .ok (.imul, 1) := by decide +kernel
theorem dX8_back_36 : decode cX8_back 36 = .ok (.invokestatic 119, 3) := by decide +kernel
theorem dX8_back_39 : decode cX8_back 39 = .ok (.aload_n 0, 1) := by decide +kernel
theorem dX8_back_40 : decode cX8_back 40 = .ok (.iconst 0, 1) := by decide +kernel
theorem dX8_back_41 : decode cX8_back 41 = .ok (.putfield 113, 3) := by decide +kernel
theorem dX8_back_44 : decode cX8_back 44 = .ok (.aload_n 0, 1) := by decide +kernel
theorem dX8_back_45 : decode cX8_back 45 = .ok (.invokevirtual 157, 3) := by decide +kernel
theorem dX8_back_48 : decode cX8_back 48 = .ok (.aload_n 0, 1) := by decide +kernel
theorem dX8_back_49 : decode cX8_back 49 = .ok (.invokevirtual 161, 3) := by decide +kernel
theorem dX8_back_52 : decode cX8_back 52 = .ok (.invokestatic 174, 3) := by decide +kernel
theorem dX8_back_55 : decode cX8_back 55 = .ok (.ireturn, 1) := by decide +kernel
theorem dX8_count_0 : decode cX8_count 0 = .ok (.iload_n 1, 1) := by decide +kernel
theorem dX8_count_1 : decode cX8_count 1 = .ok (.ifCond .ne 10, 3) := by decide +kernel
theorem dX8_count_4 : decode cX8_count 4 = .ok (.aload_n 0, 1) := by decide +kernel
theorem dX8_count_5 : decode cX8_count 5 = .ok (.getfield 50, 3) := by decide +kernel
theorem dX8_count_8 : decode cX8_count 8 = .ok (.goto 28, 3) := by decide +kernel
theorem dX8_count_11 : decode cX8_count 11 = .ok (.iload_n 1, 1) := by decide +kernel
theorem dX8_count_12 : decode cX8_count 12 = .ok (.iconst 1, 1) := by decide +kernel
theorem dX8_count_13 : decode cX8_count 13 = .ok (.if_icmp .ne 10, 3) := by decide +kernel
theorem dX8_count_16 : decode cX8_count 16 = .ok (.aload_n 0, 1) := by decide +kernel
theorem dX8_count_17 : decode cX8_count 17 = .ok (.getfield 116, 3) := by decide +kernel
theorem dX8_count_20 : decode cX8_count 20 = .ok (.goto 16, 3) := by decide +kernel
theorem dX8_count_23 : decode cX8_count 23 = .ok (.iload_n 1, 1) := by decide +kernel
theorem dX8_count_24 : decode cX8_count 24 = .ok (.iconst 2, 1) := by decide +kernel
theorem dX8_count_25 : decode cX8_count 25 = .ok (.if_icmp .ne 10, 3) := by decide +kernel
theorem dX8_count_28 : decode cX8_count 28 = .ok (.aload_n 0, 1) := by decide +kernel
theorem dX8_count_29 : decode cX8_count 29 = .ok (.getfield 58, 3) := by decide +kernel
theorem dX8_count_32 : decode cX8_count 32 = .ok (.goto 4, 3) := by decide +kernel
theorem dX8_count_35 : decode cX8_count 35 = .ok (.iconst (-1), 1) := by decide +kernel
theorem dX8_count_36 : decode cX8_count 36 = .ok (.ireturn, 1) := by decide +kernel
theorem dX8_trace_0 : decode cX8_trace 0 = .ok (.aload_n 0, 1) := by decide +kernel
theorem dX8_trace_1 : decode cX8_trace 1 = .ok (.getfield 215, 3) := by decide +kernel
theorem dX8_trace_4 : decode cX8_trace 4 = .ok (.lreturn, 1) := by decide +kernel
end
section
theorem dJ6_bitCount_0f7a4_0 : decode cJ6_bitCount_0f7a4 0 = .ok (.iload_n 0, 1) := by decide +kernel
theorem dJ6_bitCount_0f7a4_1 : decode cJ6_bitCount_0f7a4 1 = .ok (.iload_n 0, 1) := by decide +kernel
theorem dJ6_bitCount_0f7a4_2 : decode cJ6_bitCount_0f7a4 2 = .ok (.iconst 1, 1) := by decide +kernel
theorem dJ6_bitCount_0f7a4_3 : decode cJ6_bitCount_0f7a4 3 = .ok (.iushr, 1) := by decide +kernel
theorem dJ6_bitCount_0f7a4_4 : decode cJ6_bitCount_0f7a4 4 = .ok (.ldc_w 265, 3) := by decide +kernel
theorem dJ6_bitCount_0f7a4_7 : decode cJ6_bitCount_0f7a4 7 = .ok (.iand, 1) := by decide +kernel
theorem dJ6_bitCount_0f7a4_8 : decode cJ6_bitCount_0f7a4 8 = .ok (.isub, 1) := by decide +kernel
theorem dJ6_bitCount_0f7a4_9 : decode cJ6_bitCount_0f7a4 9 = .ok (.istore_n 0, 1) := by decide +kernel
theorem dJ6_bitCount_0f7a4_10 : decode cJ6_bitCount_0f7a4 10 = .ok (.iload_n 0, 1) := by decide +kernel
theorem dJ6_bitCount_0f7a4_11 : decode cJ6_bitCount_0f7a4 11 = .ok (.ldc_w 266, 3) := by decide +kernel
theorem dJ6_bitCount_0f7a4_14 : decode cJ6_bitCount_0f7a4 14 = .ok (.iand, 1) := by decide +kernel
theorem dJ6_bitCount_0f7a4_15 : decode cJ6_bitCount_0f7a4 15 = .ok (.iload_n 0, 1) := by decide +kernel
theorem dJ6_bitCount_0f7a4_16 : decode cJ6_bitCount_0f7a4 16 = .ok (.iconst 2, 1) := by decide +kernel
theorem dJ6_bitCount_0f7a4_17 : decode cJ6_bitCount_0f7a4 17 = .ok (.iushr, 1) := by decide +kernel
theorem dJ6_bitCount_0f7a4_18 : decode cJ6_bitCount_0f7a4 18 = .ok (.ldc_w 266, 3) := by decide +kernel
theorem dJ6_bitCount_0f7a4_21 : decode cJ6_bitCount_0f7a4 21 = .ok (.iand, 1) := by decide +kernel
theorem dJ6_bitCount_0f7a4_22 : decode cJ6_bitCount_0f7a4 22 = .ok (.iadd, 1) := by decide +kernel
theorem dJ6_bitCount_0f7a4_23 : decode cJ6_bitCount_0f7a4 23 = .ok (.istore_n 0, 1) := by decide +kernel
theorem dJ6_bitCount_0f7a4_24 : decode cJ6_bitCount_0f7a4 24 = .ok (.iload_n 0, 1) := by decide +kernel
theorem dJ6_bitCount_0f7a4_25 : decode cJ6_bitCount_0f7a4 25 = .ok (.iload_n 0, 1) := by decide +kernel
theorem dJ6_bitCount_0f7a4_26 : decode cJ6_bitCount_0f7a4 26 = .ok (.iconst 4, 1) := by decide +kernel
theorem dJ6_bitCount_0f7a4_27 : decode cJ6_bitCount_0f7a4 27 = .ok (.iushr, 1) := by decide +kernel
theorem dJ6_bitCount_0f7a4_28 : decode cJ6_bitCount_0f7a4 28 = .ok (.iadd, 1) := by decide +kernel
theorem dJ6_bitCount_0f7a4_29 : decode cJ6_bitCount_0f7a4 29 = .ok (.ldc_w 267, 3) := by decide +kernel
theorem dJ6_bitCount_0f7a4_32 : decode cJ6_bitCount_0f7a4 32 = .ok (.iand, 1) := by decide +kernel
theorem dJ6_bitCount_0f7a4_33 : decode cJ6_bitCount_0f7a4 33 = .ok (.istore_n 0, 1) := by decide +kernel
theorem dJ6_bitCount_0f7a4_34 : decode cJ6_bitCount_0f7a4 34 = .ok (.iload_n 0, 1) := by decide +kernel
theorem dJ6_bitCount_0f7a4_35 : decode cJ6_bitCount_0f7a4 35 = .ok (.iload_n 0, 1) := by decide +kernel
theorem dJ6_bitCount_0f7a4_36 : decode cJ6_bitCount_0f7a4 36 = .ok (.bipush 8, 2) := by decide +kernel
theorem dJ6_bitCount_0f7a4_38 : decode cJ6_bitCount_0f7a4 38 = .ok (.iushr, 1) := by decide +kernel
theorem dJ6_bitCount_0f7a4_39 : decode cJ6_bitCount_0f7a4 39 = .ok (.iadd, 1) := by decide +kernel
theorem dJ6_bitCount_0f7a4_40 : decode cJ6_bitCount_0f7a4 40 = .ok (.istore_n 0, 1) := by decide +kernel
theorem dJ6_bitCount_0f7a4_41 : decode cJ6_bitCount_0f7a4 41 = .ok (.iload_n 0, 1) := by decide +kernel
theorem dJ6_bitCount_0f7a4_42 : decode cJ6_bitCount_0f7a4 42 = .ok (.iload_n 0, 1) := by decide +kernel
theorem dJ6_bitCount_0f7a4_43 : decode cJ6_bitCount_0f7a4 43 = .ok (.bipush 16, 2) := by decide +kernel
theorem dJ6_bitCount_0f7a4_45 : decode cJ6_bitCount_0f7a4 45 = .ok (.iushr, 1) := by decide +kernel
theorem dJ6_bitCount_0f7a4_46 : decode cJ6_bitCount_0f7a4 46 = .ok (.iadd, 1) := by decide +kernel
theorem dJ6_bitCount_0f7a4_47 : decode cJ6_bitCount_0f7a4 47 = .ok (.istore_n 0, 1) := by decide +kernel
theorem dJ6_bitCount_0f7a4_48 : decode cJ6_bitCount_0f7a4 48 = .ok (.iload_n 0, 1) := by decide +kernel
theorem dJ6_bitCount_0f7a4_49 : decode cJ6_bitCount_0f7a4 49 = .ok (.bipush 63, 2) := by decide +kernel
theorem dJ6_bitCount_0f7a4_51 : decode cJ6_bitCount_0f7a4 51 = .ok (.iand, 1) := by decide +kernel
theorem dJ6_bitCount_0f7a4_52 : decode cJ6_bitCount_0f7a4 52 = .ok (.ireturn, 1) := by decide +kernel
theorem dJ9_abs_0f7a4_0 : decode cJ9_abs_0f7a4 0 = .ok (.iload_n 0, 1) := by decide +kernel
theorem dJ9_abs_0f7a4_1 : decode cJ9_abs_0f7a4 1 = .ok (.ifCond .ge 8, 3) := by decide +kernel
theorem dJ9_abs_0f7a4_4 : decode cJ9_abs_0f7a4 4 = .ok (.iload_n 0, 1) := by decide +kernel
theorem dJ9_abs_0f7a4_5 : decode cJ9_abs_0f7a4 5 = .ok (.ineg, 1) := by decide +kernel
theorem dJ9_abs_0f7a4_6 : decode cJ9_abs_0f7a4 6 = .ok (.goto 4, 3) := by decide +kernel
theorem dJ9_abs_0f7a4_9 : decode cJ9_abs_0f7a4 9 = .ok (.iload_n 0, 1) := by decide +kernel
theorem dJ9_abs_0f7a4_10 : decode cJ9_abs_0f7a4 10 = .ok (.ireturn, 1) := by decide +kernel
theorem dJ9_max_7cf53_0 : decode cJ9_max_7cf53 0 = .ok (.iload_n 0, 1) := by decide +kernel
theorem dJ9_max_7cf53_1 : decode cJ9_max_7cf53 1 = .ok (.iload_n 1, 1) := by decide +kernel
theorem dJ9_max_7cf53_2 : decode cJ9_max_7cf53 2 = .ok (.if_icmp .lt 7, 3) := by decide +kernel
theorem dJ9_max_7cf53_5 : decode cJ9_max_7cf53 5 = .ok (.iload_n 0, 1) := by decide +kernel
theorem dJ9_max_7cf53_6 : decode cJ9_max_7cf53 6 = .ok (.goto 4, 3) := by decide +kernel
theorem dJ9_max_7cf53_9 : decode cJ9_max_7cf53 9 = .ok (.iload_n 1, 1) := by decide +kernel
theorem dJ9_max_7cf53_10 : decode cJ9_max_7cf53 10 = .ok (.ireturn, 1) := by decide +kernel
theorem dJ9_min_7cf53_0 : decode cJ9_min_7cf53 0 = .ok (.iload_n 0, 1) := by decide +kernel
theorem dJ9_min_7cf53_1 : decode cJ9_min_7cf53 1 = .ok (.iload_n 1, 1) := by decide +kernel
theorem dJ9_min_7cf53_2 : decode cJ9_min_7cf53 2 = .ok (.if_icmp .gt 7, 3) := by decide +kernel
theorem dJ9_min_7cf53_5 : decode cJ9_min_7cf53 5 = .ok (.iload_n 0, 1) := by decide +kernel
theorem dJ9_min_7cf53_6 : decode cJ9_min_7cf53 6 = .ok (.goto 4, 3) := by decide +kernel
theorem dJ9_min_7cf53_9 : decode cJ9_min_7cf53 9 = .ok (.iload_n 1, 1) := by decide +kernel
theorem dJ9_min_7cf53_10 : decode cJ9_min_7cf53 10 = .ok (.ireturn, 1) := by decide +kernel
theorem dJ7_fill_53178_0 : decode cJ7_fill_53178 0 = .ok (.iconst 0, 1) := by decide +kernel
theorem dJ7_fill_53178_1 : decode cJ7_fill_53178 1 = .ok (.istore_n 2, 1) := by decide +kernel
theorem dJ7_fill_53178_2 : decode cJ7_fill_53178 2 = .ok (.aload_n 0, 1) := by decide +kernel
theorem dJ7_fill_53178_3 : decode cJ7_fill_53178 3 = .ok (.arraylength, 1) := by decide +kernel
theorem dJ7_fill_53178_4 : decode cJ7_fill_53178 4 = .ok (.istore_n 3, 1) := by decide +kernel
theorem dJ7_fill_53178_5 : decode cJ7_fill_53178 5 = .ok (.iload_n 2, 1) := by decide +kernel
theorem dJ7_fill_53178_6 : decode cJ7_fill_53178 6 = .ok (.iload_n 3, 1) := by decide +kernel
theorem dJ7_fill_53178_7 : decode cJ7_fill_53178 7 = .ok (.if_icmp .ge 13, 3) := by decide +kernel
theorem dJ7_fill_53178_10 : decode cJ7_fill_53178 10 = .ok (.aload_n 0, 1) := by decide +kernel
theorem dJ7_fill_53178_11 : decode cJ7_fill_53178 11 = .ok (.iload_n 2, 1) := by decide +kernel
theorem dJ7_fill_53178_12 : decode cJ7_fill_53178 12 = .ok (.iload_n 1, 1) := by decide +kernel
theorem dJ7_fill_53178_13 : decode cJ7_fill_53178 13 = .ok (.iastore, 1) := by decide +kernel
theorem dJ7_fill_53178_14 : decode cJ7_fill_53178 14 = .ok (.iinc 2 1, 3) := by decide +kernel
theorem dJ7_fill_53178_17 : decode cJ7_fill_53178 17 = .ok (.goto (-12), 3) := by decide +kernel
theorem dJ7_fill_53178_20 : decode cJ7_fill_53178 20 = .ok (.return_, 1) := by decide +kernel
theorem dL_law_0 : decode cL_law 0 = .ok (.new 7, 3) := by decide +kernel
theorem dL_law_3 : decode cL_law 3 = .ok (.dup, 1) := by decide +kernel
theorem dL_law_4 : decode cL_law 4 = .ok (.invokespecial 9, 3) := by decide +kernel
theorem dL_law_7 : decode cL_law 7 = .ok (.astore_n 1, 1) := by decide +kernel
theorem dL_law_8 : decode cL_law 8 = .ok (.new 10, 3) := by decide +kernel
theorem dL_law_11 : decode cL_law 11 = .ok (.dup, 1) := by decide +kernel
theorem dL_law_12 : decode cL_law 12 = .ok (.invokespecial 12, 3) := by decide +kernel
theorem dL_law_15 : decode cL_law 15 = .ok (.astore_n 2, 1) := by decide +kernel
theorem dL_law_16 : decode cL_law 16 = .ok (.iconst 0, 1) := by decide +kernel
theorem dL_law_17 : decode cL_law 17 = .ok (.istore_n 3, 1) := by decide +kernel
theorem dL_law_18 : decode cL_law 18 = .ok (.iload_n 3, 1) := by decide +kernel
theorem dL_law_19 : decode cL_law 19 = .ok (.aload_n 0, 1) := by decide +kernel
theorem dL_law_20 : decode cL_law 20 = .ok (.arraylength, 1) := by decide +kernel
theorem dL_law_21 : decode cL_law 21 = .ok (.iconst 4, 1) := by decide +kernel
theorem dL_law_22 : decode cL_law 22 = .ok (.isub, 1) := by decide +kernel
theorem dL_law_23 : decode cL_law 23 = .ok (.if_icmp .gt 717, 3) := by decide +kernel
theorem dL_law_26 : decode cL_law 26 = .ok (.aload_n 0, 1) := by decide +kernel
theorem dL_law_27 : decode cL_law 27 = .ok (.iload_n 3, 1) := by decide +kernel
theorem dL_law_28 : decode cL_law 28 = .ok (.iaload, 1) := by decide +kernel
theorem dL_law_29 : decode cL_law 29 = .ok (.bipush 31, 2) := by decide +kernel
theorem dL_law_31 : decode cL_law 31 = .ok (.iand, 1) := by decide +kernel
theorem dL_law_32 : decode cL_law 32 = .ok (.tableswitch 702 0 24 #[116, 139, 152, 165, 188, 221, 254, 277, 300, 313, 336, 369, 382, 415, 438, 461, 504, 527, 540, 573, 586, 619, 642, 665, 688], 116) := by decide +kernel
theorem dL_law_148 : decode cL_law 148 = .ok (.aload_n 1, 1) := by decide +kernel
theorem dL_law_149 : decode cL_law 149 = .ok (.aload_n 0, 1) := by decide +kernel
theorem dL_law_150 : decode cL_law 150 = .ok (.iload_n 3, 1) := by decide +kernel
theorem dL_law_151 : decode cL_law 151 = .ok (.iconst 1, 1) := by decide +kernel
theorem dL_law_152 : decode cL_law 152 = .ok (.iadd, 1) := by decide +kernel
theorem dL_law_153 : decode cL_law 153 = .ok (.iaload, 1) := by decide +kernel
theorem dL_law_154 : decode cL_law 154 = .ok (.invokevirtual 13, 3) := by decide +kernel
theorem dL_law_157 : decode cL_law 157 = .ok (.aload_n 2, 1) := by decide +kernel
theorem dL_law_158 : decode cL_law 158 = .ok (.aload_n 0, 1) := by decide +kernel
theorem dL_law_159 : decode cL_law 159 = .ok (.iload_n 3, 1) := by decide +kernel
theorem dL_law_160 : decode cL_law 160 = .ok (.iconst 1, 1) := by decide +kernel
theorem dL_law_161 : decode cL_law 161 = .ok (.iadd, 1) := by decide +kernel
theorem dL_law_162 : decode cL_law 162 = .ok (.iaload, 1) := by decide +kernel
theorem dL_law_163 : decode cL_law 163 = .ok (.invokevirtual 17, 3) := by decide +kernel
theorem dL_law_166 : decode cL_law 166 = .ok (.if_icmp .eq 568, 3) := by decide +kernel
theorem dL_law_169 : decode cL_law 169 = .ok (.iconst 0, 1) := by decide +kernel
theorem dL_law_170 : decode cL_law 170 = .ok (.ireturn, 1) := by decide +kernel
theorem dL_law_171 : decode cL_law 171 = .ok (.aload_n 1, 1) := by decide +kernel
theorem dL_law_172 : decode cL_law 172 = .ok (.invokevirtual 18, 3) := by decide +kernel
theorem dL_law_175 : decode cL_law 175 = .ok (.aload_n 2, 1) := by decide +kernel
theorem dL_law_176 : decode cL_law 176 = .ok (.invokevirtual 22, 3) := by decide +kernel
theorem dL_law_179 : decode cL_law 179 = .ok (.if_icmp .eq 555, 3) := by decide +kernel
theorem dL_law_182 : decode cL_law 182 = .ok (.iconst 0, 1) := by decide +kernel
theorem dL_law_183 : decode cL_law 183 = .ok (.ireturn, 1) := by decide +kernel
theorem dL_law_184 : decode cL_law 184 = .ok (.aload_n 1, 1) := by decide +kernel
theorem dL_law_185 : decode cL_law 185 = .ok (.invokevirtual 23, 3) := by decide +kernel
theorem dL_law_188 : decode cL_law 188 = .ok (.aload_n 2, 1) := by decide +kernel
theorem dL_law_189 : decode cL_law 189 = .ok (.invokevirtual 26, 3) := by decide +kernel
theorem dL_law_192 : decode cL_law 192 = .ok (.if_icmp .eq 542, 3) := by decide +kernel
theorem dL_law_195 : decode cL_law 195 = .ok (.iconst 0, 1) := by decide +kernel
theorem dL_law_196 : decode cL_law 196 = .ok (.ireturn, 1) := by decide +kernel
theorem dL_law_197 : decode cL_law 197 = .ok (.aload_n 1, 1) := by decide +kernel
theorem dL_law_198 : decode cL_law 198 = .ok (.aload_n 0, 1) := by decide +kernel
theorem dL_law_199 : decode cL_law 199 = .ok (.iload_n 3, 1) := by decide +kernel
theorem dL_law_200 : decode cL_law 200 = .ok (.iconst 1, 1) := by decide +kernel
theorem dL_law_201 : decode cL_law 201 = .ok (.iadd, 1) := by decide +kernel
theorem dL_law_202 : decode cL_law 202 = .ok (.iaload, 1) := by decide +kernel
theorem dL_law_203 : decode cL_law 203 = .ok (.invokevirtual 27, 3) := by decide +kernel
theorem dL_law_206 : decode cL_law 206 = .ok (.aload_n 2, 1) := by decide +kernel
theorem dL_law_207 : decode cL_law 207 = .ok (.aload_n 0, 1) := by decide +kernel
theorem dL_law_208 : decode cL_law 208 = .ok (.iload_n 3, 1) := by decide +kernel
theorem dL_law_209 : decode cL_law 209 = .ok (.iconst 1, 1) := by decide +kernel
theorem dL_law_210 : decode cL_law 210 = .ok (.iadd, 1) := by decide +kernel
theorem dL_law_211 : decode cL_law 211 = .ok (.iaload, 1) := by decide +kernel
theorem dL_law_212 : decode cL_law 212 = .ok (.invokevirtual 30, 3) := by decide +kernel
theorem dL_law_215 : decode cL_law 215 = .ok (.if_icmp .eq 519, 3) := by decide +kernel
theorem dL_law_218 : decode cL_law 218 = .ok (.iconst 0, 1) := by decide +kernel
theorem dL_law_219 : decode cL_law 219 = .ok (.ireturn, 1) := by decide +kernel
theorem dL_law_220 : decode cL_law 220 = .ok (.aload_n 1, 1) := by decide +kernel
theorem dL_law_221 : decode cL_law 221 = .ok (.aload_n 0, 1) := by decide +kernel
theorem dL_law_222 : decode cL_law 222 = .ok (.iload_n 3, 1) := by decide +kernel
theorem dL_law_223 : decode cL_law 223 = .ok (.iconst 1, 1) := by decide +kernel
theorem dL_law_224 : decode cL_law 224 = .ok (.iadd, 1) := by decide +kernel
theorem dL_law_225 : decode cL_law 225 = .ok (.iaload, 1) := by decide +kernel
theorem dL_law_226 : decode cL_law 226 = .ok (.aload_n 0, 1) := by decide +kernel
theorem dL_law_227 : decode cL_law 227 = .ok (.iload_n 3, 1) := by decide +kernel
theorem dL_law_228 : decode cL_law 228 = .ok (.iconst 2, 1) := by decide +kernel
theorem dL_law_229 : decode cL_law 229 = .ok (.iadd, 1) := by decide +kernel
theorem dL_law_230 : decode cL_law 230 = .ok (.iaload, 1) := by decide +kernel
theorem dL_law_231 : decode cL_law 231 = .ok (.invokevirtual 31, 3) := by decide +kernel
theorem dL_law_234 : decode cL_law 234 = .ok (.aload_n 2, 1) := by decide +kernel
theorem dL_law_235 : decode cL_law 235 = .ok (.aload_n 0, 1) := by decide +kernel
theorem dL_law_236 : decode cL_law 236 = .ok (.iload_n 3, 1) := by decide +kernel
theorem dL_law_237 : decode cL_law 237 = .ok (.iconst 1, 1) := by decide +kernel
theorem dL_law_238 : decode cL_law 238 = .ok (.iadd, 1) := by decide +kernel
theorem dL_law_239 : decode cL_law 239 = .ok (.iaload, 1) := by decide +kernel
theorem dL_law_240 : decode cL_law 240 = .ok (.aload_n 0, 1) := by decide +kernel
theorem dL_law_241 : decode cL_law 241 = .ok (.iload_n 3, 1) := by decide +kernel
theorem dL_law_242 : decode cL_law 242 = .ok (.iconst 2, 1) := by decide +kernel
theorem dL_law_243 : decode cL_law 243 = .ok (.iadd, 1) := by decide +kernel
theorem dL_law_244 : decode cL_law 244 = .ok (.iaload, 1) := by decide +kernel
theorem dL_law_245 : decode cL_law 245 = .ok (.invokevirtual 35, 3) := by decide +kernel
theorem dL_law_248 : decode cL_law 248 = .ok (.if_icmp .eq 486, 3) := by decide +kernel
theorem dL_law_251 : decode cL_law 251 = .ok (.iconst 0, 1) := by decide +kernel
theorem dL_law_252 : decode cL_law 252 = .ok (.ireturn, 1) := by decide +kernel
theorem dL_law_253 : decode cL_law 253 = .ok (.aload_n 1, 1) := by decide +kernel
theorem dL_law_254 : decode cL_law 254 = .ok (.aload_n 0, 1) := by decide +kernel
theorem dL_law_255 : decode cL_law 255 = .ok (.iload_n 3, 1) := by decide +kernel
theorem dL_law_256 : decode cL_law 256 = .ok (.iconst 1, 1) := by decide +kernel
theorem dL_law_257 : decode cL_law 257 = .ok (.iadd, 1) := by decide +kernel
theorem dL_law_258 : decode cL_law 258 = .ok (.iaload, 1) := by decide +kernel
theorem dL_law_259 : decode cL_law 259 = .ok (.aload_n 0, 1) := by decide +kernel
theorem dL_law_260 : decode cL_law 260 = .ok (.iload_n 3, 1) := by decide +kernel
theorem dL_law_261 : decode cL_law 261 = .ok (.iconst 2, 1) := by decide +kernel
theorem dL_law_262 : decode cL_law 262 = .ok (.iadd, 1) := by decide +kernel
theorem dL_law_263 : decode cL_law 263 = .ok (.iaload, 1) := by decide +kernel
theorem dL_law_264 : decode cL_law 264 = .ok (.invokevirtual 36, 3) := by decide +kernel
theorem dL_law_267 : decode cL_law 267 = .ok (.aload_n 2, 1) := by decide +kernel
theorem dL_law_268 : decode cL_law 268 = .ok (.aload_n 0, 1) := by decide +kernel
theorem dL_law_269 : decode cL_law 269 = .ok (.iload_n 3, 1) := by decide +kernel
theorem dL_law_270 : decode cL_law 270 = .ok (.iconst 1, 1) := by decide +kernel
theorem dL_law_271 : decode cL_law 271 = .ok (.iadd, 1) := by decide +kernel
theorem dL_law_272 : decode cL_law 272 = .ok (.iaload, 1) := by decide +kernel
theorem dL_law_273 : decode cL_law 273 = .ok (.aload_n 0, 1) := by decide +kernel
theorem dL_law_274 : decode cL_law 274 = .ok (.iload_n 3, 1) := by decide +kernel
theorem dL_law_275 : decode cL_law 275 = .ok (.iconst 2, 1) := by decide +kernel
theorem dL_law_276 : decode cL_law 276 = .ok (.iadd, 1) := by decide +kernel
theorem dL_law_277 : decode cL_law 277 = .ok (.iaload, 1) := by decide +kernel
theorem dL_law_278 : decode cL_law 278 = .ok (.invokevirtual 39, 3) := by decide +kernel
theorem dL_law_281 : decode cL_law 281 = .ok (.if_icmp .eq 453, 3) := by decide +kernel
theorem dL_law_284 : decode cL_law 284 = .ok (.iconst 0, 1) := by decide +kernel
theorem dL_law_285 : decode cL_law 285 = .ok (.ireturn, 1) := by decide +kernel
theorem dL_law_286 : decode cL_law 286 = .ok (.aload_n 1, 1) := by decide +kernel
theorem dL_law_287 : decode cL_law 287 = .ok (.aload_n 0, 1) := by decide +kernel
theorem dL_law_288 : decode cL_law 288 = .ok (.iload_n 3, 1) := by decide +kernel
theorem dL_law_289 : decode cL_law 289 = .ok (.iconst 1, 1) := by decide +kernel
theorem dL_law_290 : decode cL_law 290 = .ok (.iadd, 1) := by decide +kernel
theorem dL_law_291 : decode cL_law 291 = .ok (.iaload, 1) := by decide +kernel
theorem dL_law_292 : decode cL_law 292 = .ok (.invokevirtual 40, 3) := by decide +kernel
theorem dL_law_295 : decode cL_law 295 = .ok (.aload_n 2, 1) := by decide +kernel
theorem dL_law_296 : decode cL_law 296 = .ok (.aload_n 0, 1) := by decide +kernel
theorem dL_law_297 : decode cL_law 297 = .ok (.iload_n 3, 1) := by decide +kernel
theorem dL_law_298 : decode cL_law 298 = .ok (.iconst 1, 1) := by decide +kernel
theorem dL_law_299 : decode cL_law 299 = .ok (.iadd, 1) := by decide +kernel
theorem dL_law_300 : decode cL_law 300 = .ok (.iaload, 1) := by decide +kernel
theorem dL_law_301 : decode cL_law 301 = .ok (.invokevirtual 43, 3) := by decide +kernel
theorem dL_law_304 : decode cL_law 304 = .ok (.if_icmp .eq 430, 3) := by decide +kernel
theorem dL_law_307 : decode cL_law 307 = .ok (.iconst 0, 1) := by decide +kernel
theorem dL_law_308 : decode cL_law 308 = .ok (.ireturn, 1) := by decide +kernel
theorem dL_law_309 : decode cL_law 309 = .ok (.aload_n 1, 1) := by decide +kernel
theorem dL_law_310 : decode cL_law 310 = .ok (.aload_n 0, 1) := by decide +kernel
theorem dL_law_311 : decode cL_law 311 = .ok (.iload_n 3, 1) := by decide +kernel
theorem dL_law_312 : decode cL_law 312 = .ok (.iconst 1, 1) := by decide +kernel
theorem dL_law_313 : decode cL_law 313 = .ok (.iadd, 1) := by decide +kernel
theorem dL_law_314 : decode cL_law 314 = .ok (.iaload, 1) := by decide +kernel
theorem dL_law_315 : decode cL_law 315 = .ok (.invokevirtual 44, 3) := by decide +kernel
theorem dL_law_318 : decode cL_law 318 = .ok (.aload_n 2, 1) := by decide +kernel
theorem dL_law_319 : decode cL_law 319 = .ok (.aload_n 0, 1) := by decide +kernel
theorem dL_law_320 : decode cL_law 320 = .ok (.iload_n 3, 1) := by decide +kernel
theorem dL_law_321 : decode cL_law 321 = .ok (.iconst 1, 1) := by decide +kernel
theorem dL_law_322 : decode cL_law 322 = .ok (.iadd, 1) := by decide +kernel
theorem dL_law_323 : decode cL_law 323 = .ok (.iaload, 1) := by decide +kernel
theorem dL_law_324 : decode cL_law 324 = .ok (.invokevirtual 47, 3) := by decide +kernel
theorem dL_law_327 : decode cL_law 327 = .ok (.if_icmp .eq 407, 3) := by decide +kernel
theorem dL_law_330 : decode cL_law 330 = .ok (.iconst 0, 1) := by decide +kernel
theorem dL_law_331 : decode cL_law 331 = .ok (.ireturn, 1) := by decide +kernel
theorem dL_law_332 : decode cL_law 332 = .ok (.aload_n 1, 1) := by decide +kernel
theorem dL_law_333 : decode cL_law 333 = .ok (.invokevirtual 48, 3) := by decide +kernel
theorem dL_law_336 : decode cL_law 336 = .ok (.aload_n 2, 1) := by decide +kernel
theorem dL_law_337 : decode cL_law 337 = .ok (.invokevirtual 51, 3) := by decide +kernel
theorem dL_law_340 : decode cL_law 340 = .ok (.if_icmp .eq 394, 3) := by decide +kernel
theorem dL_law_343 : decode cL_law 343 = .ok (.iconst 0, 1) := by decide +kernel
theorem dL_law_344 : decode cL_law 344 = .ok (.ireturn, 1) := by decide +kernel
theorem dL_law_345 : decode cL_law 345 = .ok (.aload_n 1, 1) := by decide +kernel
theorem dL_law_346 : decode cL_law 346 = .ok (.aload_n 0, 1) := by decide +kernel
theorem dL_law_347 : decode cL_law 347 = .ok (.iload_n 3, 1) := by decide +kernel
theorem dL_law_348 : decode cL_law 348 = .ok (.iconst 1, 1) := by decide +kernel
theorem dL_law_349 : decode cL_law 349 = .ok (.iadd, 1) := by decide +kernel
theorem dL_law_350 : decode cL_law 350 = .ok (.iaload, 1) := by decide +kernel
theorem dL_law_351 : decode cL_law 351 = .ok (.invokevirtual 52, 3) := by decide +kernel
theorem dL_law_354 : decode cL_law 354 = .ok (.aload_n 2, 1) := by decide +kernel
theorem dL_law_355 : decode cL_law 355 = .ok (.aload_n 0, 1) := by decide +kernel
theorem dL_law_356 : decode cL_law 356 = .ok (.iload_n 3, 1) := by decide +kernel
theorem dL_law_357 : decode cL_law 357 = .ok (.iconst 1, 1) := by decide +kernel
theorem dL_law_358 : decode cL_law 358 = .ok (.iadd, 1) := by decide +kernel
theorem dL_law_359 : decode cL_law 359 = .ok (.iaload, 1) := by decide +kernel
theorem dL_law_360 : decode cL_law 360 = .ok (.invokevirtual 55, 3) := by decide +kernel
theorem dL_law_363 : decode cL_law 363 = .ok (.if_icmp .eq 371, 3) := by decide +kernel
theorem dL_law_366 : decode cL_law 366 = .ok (.iconst 0, 1) := by decide +kernel
theorem dL_law_367 : decode cL_law 367 = .ok (.ireturn, 1) := by decide +kernel
theorem dL_law_368 : decode cL_law 368 = .ok (.aload_n 1, 1) := by decide +kernel
theorem dL_law_369 : decode cL_law 369 = .ok (.aload_n 0, 1) := by decide +kernel
theorem dL_law_370 : decode cL_law 370 = .ok (.iload_n 3, 1) := by decide +kernel
theorem dL_law_371 : decode cL_law 371 = .ok (.iconst 1, 1) := by decide +kernel
theorem dL_law_372 : decode cL_law 372 = .ok (.iadd, 1) := by decide +kernel
theorem dL_law_373 : decode cL_law 373 = .ok (.iaload, 1) := by decide +kernel
theorem dL_law_374 : decode cL_law 374 = .ok (.aload_n 0, 1) := by decide +kernel
theorem dL_law_375 : decode cL_law 375 = .ok (.iload_n 3, 1) := by decide +kernel
theorem dL_law_376 : decode cL_law 376 = .ok (.iconst 2, 1) := by decide +kernel
theorem dL_law_377 : decode cL_law 377 = .ok (.iadd, 1) := by decide +kernel
theorem dL_law_378 : decode cL_law 378 = .ok (.iaload, 1) := by decide +kernel
theorem dL_law_379 : decode cL_law 379 = .ok (.invokevirtual 56, 3) := by decide +kernel
theorem dL_law_382 : decode cL_law 382 = .ok (.aload_n 2, 1) := by decide +kernel
theorem dL_law_383 : decode cL_law 383 = .ok (.aload_n 0, 1) := by decide +kernel
theorem dL_law_384 : decode cL_law 384 = .ok (.iload_n 3, 1) := by decide +kernel
theorem dL_law_385 : decode cL_law 385 = .ok (.iconst 1, 1) := by decide +kernel
theorem dL_law_386 : decode cL_law 386 = .ok (.iadd, 1) := by decide +kernel
theorem dL_law_387 : decode cL_law 387 = .ok (.iaload, 1) := by decide +kernel
theorem dL_law_388 : decode cL_law 388 = .ok (.aload_n 0, 1) := by decide +kernel
theorem dL_law_389 : decode cL_law 389 = .ok (.iload_n 3, 1) := by decide +kernel
theorem dL_law_390 : decode cL_law 390 = .ok (.iconst 2, 1) := by decide +kernel
theorem dL_law_391 : decode cL_law 391 = .ok (.iadd, 1) := by decide +kernel
theorem dL_law_392 : decode cL_law 392 = .ok (.iaload, 1) := by decide +kernel
theorem dL_law_393 : decode cL_law 393 = .ok (.invokevirtual 59, 3) := by decide +kernel
theorem dL_law_396 : decode cL_law 396 = .ok (.if_icmp .eq 338, 3) := by decide +kernel
theorem dL_law_399 : decode cL_law 399 = .ok (.iconst 0, 1) := by decide +kernel
theorem dL_law_400 : decode cL_law 400 = .ok (.ireturn, 1) := by decide +kernel
theorem dL_law_401 : decode cL_law 401 = .ok (.aload_n 1, 1) := by decide +kernel
theorem dL_law_402 : decode cL_law 402 = .ok (.invokevirtual 60, 3) := by decide +kernel
theorem dL_law_405 : decode cL_law 405 = .ok (.aload_n 2, 1) := by decide +kernel
theorem dL_law_406 : decode cL_law 406 = .ok (.invokevirtual 63, 3) := by decide +kernel
theorem dL_law_409 : decode cL_law 409 = .ok (.if_icmp .eq 325, 3) := by decide +kernel
theorem dL_law_412 : decode cL_law 412 = .ok (.iconst 0, 1) := by decide +kernel
theorem dL_law_413 : decode cL_law 413 = .ok (.ireturn, 1) := by decide +kernel
theorem dL_law_414 : decode cL_law 414 = .ok (.aload_n 1, 1) := by decide +kernel
theorem dL_law_415 : decode cL_law 415 = .ok (.aload_n 0, 1) := by decide +kernel
theorem dL_law_416 : decode cL_law 416 = .ok (.iload_n 3, 1) := by decide +kernel
theorem dL_law_417 : decode cL_law 417 = .ok (.iconst 1, 1) := by decide +kernel
theorem dL_law_418 : decode cL_law 418 = .ok (.iadd, 1) := by decide +kernel
theorem dL_law_419 : decode cL_law 419 = .ok (.iaload, 1) := by decide +kernel
theorem dL_law_420 : decode cL_law 420 = .ok (.aload_n 0, 1) := by decide +kernel
theorem dL_law_421 : decode cL_law 421 = .ok (.iload_n 3, 1) := by decide +kernel
theorem dL_law_422 : decode cL_law 422 = .ok (.iconst 2, 1) := by decide +kernel
theorem dL_law_423 : decode cL_law 423 = .ok (.iadd, 1) := by decide +kernel
theorem dL_law_424 : decode cL_law 424 = .ok (.iaload, 1) := by decide +kernel
theorem dL_law_425 : decode cL_law 425 = .ok (.invokevirtual 64, 3) := by decide +kernel
theorem dL_law_428 : decode cL_law 428 = .ok (.aload_n 2, 1) := by decide +kernel
theorem dL_law_429 : decode cL_law 429 = .ok (.aload_n 0, 1) := by decide +kernel
theorem dL_law_430 : decode cL_law 430 = .ok (.iload_n 3, 1) := by decide +kernel
theorem dL_law_431 : decode cL_law 431 = .ok (.iconst 1, 1) := by decide +kernel
theorem dL_law_432 : decode cL_law 432 = .ok (.iadd, 1) := by decide +kernel
theorem dL_law_433 : decode cL_law 433 = .ok (.iaload, 1) := by decide +kernel
theorem dL_law_434 : decode cL_law 434 = .ok (.aload_n 0, 1) := by decide +kernel
theorem dL_law_435 : decode cL_law 435 = .ok (.iload_n 3, 1) := by decide +kernel
theorem dL_law_436 : decode cL_law 436 = .ok (.iconst 2, 1) := by decide +kernel
theorem dL_law_437 : decode cL_law 437 = .ok (.iadd, 1) := by decide +kernel
theorem dL_law_438 : decode cL_law 438 = .ok (.iaload, 1) := by decide +kernel
theorem dL_law_439 : decode cL_law 439 = .ok (.invokevirtual 67, 3) := by decide +kernel
theorem dL_law_442 : decode cL_law 442 = .ok (.if_icmp .eq 292, 3) := by decide +kernel
theorem dL_law_445 : decode cL_law 445 = .ok (.iconst 0, 1) := by decide +kernel
theorem dL_law_446 : decode cL_law 446 = .ok (.ireturn, 1) := by decide +kernel
theorem dL_law_447 : decode cL_law 447 = .ok (.aload_n 1, 1) := by decide +kernel
theorem dL_law_448 : decode cL_law 448 = .ok (.aload_n 0, 1) := by decide +kernel
theorem dL_law_449 : decode cL_law 449 = .ok (.iload_n 3, 1) := by decide +kernel
theorem dL_law_450 : decode cL_law 450 = .ok (.iconst 1, 1) := by decide +kernel
theorem dL_law_451 : decode cL_law 451 = .ok (.iadd, 1) := by decide +kernel
theorem dL_law_452 : decode cL_law 452 = .ok (.iaload, 1) := by decide +kernel
theorem dL_law_453 : decode cL_law 453 = .ok (.invokevirtual 68, 3) := by decide +kernel
theorem dL_law_456 : decode cL_law 456 = .ok (.aload_n 2, 1) := by decide +kernel
theorem dL_law_457 : decode cL_law 457 = .ok (.aload_n 0, 1) := by decide +kernel
theorem dL_law_458 : decode cL_law 458 = .ok (.iload_n 3, 1) := by decide +kernel
theorem dL_law_459 : decode cL_law 459 = .ok (.iconst 1, 1) := by decide +kernel
theorem dL_law_460 : decode cL_law 460 = .ok (.iadd, 1) := by decide +kernel
theorem dL_law_461 : decode cL_law 461 = .ok (.iaload, 1) := by decide +kernel
theorem dL_law_462 : decode cL_law 462 = .ok (.invokevirtual 71, 3) := by decide +kernel
theorem dL_law_465 : decode cL_law 465 = .ok (.if_icmp .eq 269, 3) := by decide +kernel
theorem dL_law_468 : decode cL_law 468 = .ok (.iconst 0, 1) := by decide +kernel
theorem dL_law_469 : decode cL_law 469 = .ok (.ireturn, 1) := by decide +kernel
theorem dL_law_470 : decode cL_law 470 = .ok (.aload_n 1, 1) := by decide +kernel
theorem dL_law_471 : decode cL_law 471 = .ok (.aload_n 0, 1) := by decide +kernel
theorem dL_law_472 : decode cL_law 472 = .ok (.iload_n 3, 1) := by decide +kernel
theorem dL_law_473 : decode cL_law 473 = .ok (.iconst 1, 1) := by decide +kernel
theorem dL_law_474 : decode cL_law 474 = .ok (.iadd, 1) := by decide +kernel
theorem dL_law_475 : decode cL_law 475 = .ok (.iaload, 1) := by decide +kernel
theorem dL_law_476 : decode cL_law 476 = .ok (.invokevirtual 72, 3) := by decide +kernel
theorem dL_law_479 : decode cL_law 479 = .ok (.aload_n 2, 1) := by decide +kernel
theorem dL_law_480 : decode cL_law 480 = .ok (.aload_n 0, 1) := by decide +kernel
theorem dL_law_481 : decode cL_law 481 = .ok (.iload_n 3, 1) := by decide +kernel
theorem dL_law_482 : decode cL_law 482 = .ok (.iconst 1, 1) := by decide +kernel
theorem dL_law_483 : decode cL_law 483 = .ok (.iadd, 1) := by decide +kernel
theorem dL_law_484 : decode cL_law 484 = .ok (.iaload, 1) := by decide +kernel
theorem dL_law_485 : decode cL_law 485 = .ok (.invokevirtual 75, 3) := by decide +kernel
theorem dL_law_488 : decode cL_law 488 = .ok (.if_icmp .eq 246, 3) := by decide +kernel
theorem dL_law_491 : decode cL_law 491 = .ok (.iconst 0, 1) := by decide +kernel
theorem dL_law_492 : decode cL_law 492 = .ok (.ireturn, 1) := by decide +kernel
theorem dL_law_493 : decode cL_law 493 = .ok (.aload_n 1, 1) := by decide +kernel
theorem dL_law_494 : decode cL_law 494 = .ok (.aload_n 0, 1) := by decide +kernel
theorem dL_law_495 : decode cL_law 495 = .ok (.iload_n 3, 1) := by decide +kernel
theorem dL_law_496 : decode cL_law 496 = .ok (.iconst 1, 1) := by decide +kernel
theorem dL_law_497 : decode cL_law 497 = .ok (.iadd, 1) := by decide +kernel
theorem dL_law_498 : decode cL_law 498 = .ok (.iaload, 1) := by decide +kernel
theorem dL_law_499 : decode cL_law 499 = .ok (.aload_n 0, 1) := by decide +kernel
theorem dL_law_500 : decode cL_law 500 = .ok (.iload_n 3, 1) := by decide +kernel
theorem dL_law_501 : decode cL_law 501 = .ok (.iconst 2, 1) := by decide +kernel
theorem dL_law_502 : decode cL_law 502 = .ok (.iadd, 1) := by decide +kernel
theorem dL_law_503 : decode cL_law 503 = .ok (.iaload, 1) := by decide +kernel
theorem dL_law_504 : decode cL_law 504 = .ok (.aload_n 0, 1) := by decide +kernel
theorem dL_law_505 : decode cL_law 505 = .ok (.iload_n 3, 1) := by decide +kernel
theorem dL_law_506 : decode cL_law 506 = .ok (.iconst 3, 1) := by decide +kernel
theorem dL_law_507 : decode cL_law 507 = .ok (.iadd, 1) := by decide +kernel
theorem dL_law_508 : decode cL_law 508 = .ok (.iaload, 1) := by decide +kernel
theorem dL_law_509 : decode cL_law 509 = .ok (.invokevirtual 76, 3) := by decide +kernel
theorem dL_law_512 : decode cL_law 512 = .ok (.aload_n 2, 1) := by decide +kernel
theorem dL_law_513 : decode cL_law 513 = .ok (.aload_n 0, 1) := by decide +kernel
theorem dL_law_514 : decode cL_law 514 = .ok (.iload_n 3, 1) := by decide +kernel
theorem dL_law_515 : decode cL_law 515 = .ok (.iconst 1, 1) := by decide +kernel
theorem dL_law_516 : decode cL_law 516 = .ok (.iadd, 1) := by decide +kernel
theorem dL_law_517 : decode cL_law 517 = .ok (.iaload, 1) := by decide +kernel
theorem dL_law_518 : decode cL_law 518 = .ok (.aload_n 0, 1) := by decide +kernel
theorem dL_law_519 : decode cL_law 519 = .ok (.iload_n 3, 1) := by decide +kernel
theorem dL_law_520 : decode cL_law 520 = .ok (.iconst 2, 1) := by decide +kernel
theorem dL_law_521 : decode cL_law 521 = .ok (.iadd, 1) := by decide +kernel
theorem dL_law_522 : decode cL_law 522 = .ok (.iaload, 1) := by decide +kernel
theorem dL_law_523 : decode cL_law 523 = .ok (.aload_n 0, 1) := by decide +kernel
theorem dL_law_524 : decode cL_law 524 = .ok (.iload_n 3, 1) := by decide +kernel
theorem dL_law_525 : decode cL_law 525 = .ok (.iconst 3, 1) := by decide +kernel
theorem dL_law_526 : decode cL_law 526 = .ok (.iadd, 1) := by decide +kernel
theorem dL_law_527 : decode cL_law 527 = .ok (.iaload, 1) := by decide +kernel
theorem dL_law_528 : decode cL_law 528 = .ok (.invokevirtual 80, 3) := by decide +kernel
theorem dL_law_531 : decode cL_law 531 = .ok (.if_icmp .eq 203, 3) := by decide +kernel
theorem dL_law_534 : decode cL_law 534 = .ok (.iconst 0, 1) := by decide +kernel
theorem dL_law_535 : decode cL_law 535 = .ok (.ireturn, 1) := by decide +kernel
theorem dL_law_536 : decode cL_law 536 = .ok (.aload_n 1, 1) := by decide +kernel
theorem dL_law_537 : decode cL_law 537 = .ok (.aload_n 0, 1) := by decide +kernel
theorem dL_law_538 : decode cL_law 538 = .ok (.iload_n 3, 1) := by decide +kernel
theorem dL_law_539 : decode cL_law 539 = .ok (.iconst 1, 1) := by decide +kernel
theorem dL_law_540 : decode cL_law 540 = .ok (.iadd, 1) := by decide +kernel
theorem dL_law_541 : decode cL_law 541 = .ok (.iaload, 1) := by decide +kernel
theorem dL_law_542 : decode cL_law 542 = .ok (.invokevirtual 81, 3) := by decide +kernel
theorem dL_law_545 : decode cL_law 545 = .ok (.aload_n 2, 1) := by decide +kernel
theorem dL_law_546 : decode cL_law 546 = .ok (.aload_n 0, 1) := by decide +kernel
theorem dL_law_547 : decode cL_law 547 = .ok (.iload_n 3, 1) := by decide +kernel
theorem dL_law_548 : decode cL_law 548 = .ok (.iconst 1, 1) := by decide +kernel
theorem dL_law_549 : decode cL_law 549 = .ok (.iadd, 1) := by decide +kernel
theorem dL_law_550 : decode cL_law 550 = .ok (.iaload, 1) := by decide +kernel
theorem dL_law_551 : decode cL_law 551 = .ok (.invokevirtual 84, 3) := by decide +kernel
theorem dL_law_554 : decode cL_law 554 = .ok (.if_icmp .eq 180, 3) := by decide +kernel
theorem dL_law_557 : decode cL_law 557 = .ok (.iconst 0, 1) := by decide +kernel
theorem dL_law_558 : decode cL_law 558 = .ok (.ireturn, 1) := by decide +kernel
theorem dL_law_559 : decode cL_law 559 = .ok (.aload_n 1, 1) := by decide +kernel
theorem dL_law_560 : decode cL_law 560 = .ok (.invokevirtual 85, 3) := by decide +kernel
theorem dL_law_563 : decode cL_law 563 = .ok (.aload_n 2, 1) := by decide +kernel
theorem dL_law_564 : decode cL_law 564 = .ok (.invokevirtual 88, 3) := by decide +kernel
theorem dL_law_567 : decode cL_law 567 = .ok (.if_icmp .eq 167, 3) := by decide +kernel
theorem dL_law_570 : decode cL_law 570 = .ok (.iconst 0, 1) := by decide +kernel
theorem dL_law_571 : decode cL_law 571 = .ok (.ireturn, 1) := by decide +kernel
theorem dL_law_572 : decode cL_law 572 = .ok (.aload_n 1, 1) := by decide +kernel
theorem dL_law_573 : decode cL_law 573 = .ok (.aload_n 0, 1) := by decide +kernel
theorem dL_law_574 : decode cL_law 574 = .ok (.iload_n 3, 1) := by decide +kernel
theorem dL_law_575 : decode cL_law 575 = .ok (.iconst 1, 1) := by decide +kernel
theorem dL_law_576 : decode cL_law 576 = .ok (.iadd, 1) := by decide +kernel
theorem dL_law_577 : decode cL_law 577 = .ok (.iaload, 1) := by decide +kernel
theorem dL_law_578 : decode cL_law 578 = .ok (.aload_n 0, 1) := by decide +kernel
theorem dL_law_579 : decode cL_law 579 = .ok (.iload_n 3, 1) := by decide +kernel
theorem dL_law_580 : decode cL_law 580 = .ok (.iconst 2, 1) := by decide +kernel
theorem dL_law_581 : decode cL_law 581 = .ok (.iadd, 1) := by decide +kernel
theorem dL_law_582 : decode cL_law 582 = .ok (.iaload, 1) := by decide +kernel
theorem dL_law_583 : decode cL_law 583 = .ok (.invokevirtual 89, 3) := by decide +kernel
theorem dL_law_586 : decode cL_law 586 = .ok (.aload_n 2, 1) := by decide +kernel
theorem dL_law_587 : decode cL_law 587 = .ok (.aload_n 0, 1) := by decide +kernel
theorem dL_law_588 : decode cL_law 588 = .ok (.iload_n 3, 1) := by decide +kernel
theorem dL_law_589 : decode cL_law 589 = .ok (.iconst 1, 1) := by decide +kernel
theorem dL_law_590 : decode cL_law 590 = .ok (.iadd, 1) := by decide +kernel
theorem dL_law_591 : decode cL_law 591 = .ok (.iaload, 1) := by decide +kernel
theorem dL_law_592 : decode cL_law 592 = .ok (.aload_n 0, 1) := by decide +kernel
theorem dL_law_593 : decode cL_law 593 = .ok (.iload_n 3, 1) := by decide +kernel
theorem dL_law_594 : decode cL_law 594 = .ok (.iconst 2, 1) := by decide +kernel
theorem dL_law_595 : decode cL_law 595 = .ok (.iadd, 1) := by decide +kernel
theorem dL_law_596 : decode cL_law 596 = .ok (.iaload, 1) := by decide +kernel
theorem dL_law_597 : decode cL_law 597 = .ok (.invokevirtual 92, 3) := by decide +kernel
theorem dL_law_600 : decode cL_law 600 = .ok (.if_icmp .eq 134, 3) := by decide +kernel
theorem dL_law_603 : decode cL_law 603 = .ok (.iconst 0, 1) := by decide +kernel
theorem dL_law_604 : decode cL_law 604 = .ok (.ireturn, 1) := by decide +kernel
theorem dL_law_605 : decode cL_law 605 = .ok (.aload_n 1, 1) := by decide +kernel
theorem dL_law_606 : decode cL_law 606 = .ok (.invokevirtual 93, 3) := by decide +kernel
theorem dL_law_609 : decode cL_law 609 = .ok (.aload_n 2, 1) := by decide +kernel
theorem dL_law_610 : decode cL_law 610 = .ok (.invokevirtual 96, 3) := by decide +kernel
theorem dL_law_613 : decode cL_law 613 = .ok (.if_icmp .eq 121, 3) := by decide +kernel
theorem dL_law_616 : decode cL_law 616 = .ok (.iconst 0, 1) := by decide +kernel
theorem dL_law_617 : decode cL_law 617 = .ok (.ireturn, 1) := by decide +kernel
theorem dL_law_618 : decode cL_law 618 = .ok (.aload_n 1, 1) := by decide +kernel
theorem dL_law_619 : decode cL_law 619 = .ok (.aload_n 0, 1) := by decide +kernel
theorem dL_law_620 : decode cL_law 620 = .ok (.iload_n 3, 1) := by decide +kernel
theorem dL_law_621 : decode cL_law 621 = .ok (.iconst 1, 1) := by decide +kernel
theorem dL_law_622 : decode cL_law 622 = .ok (.iadd, 1) := by decide +kernel
theorem dL_law_623 : decode cL_law 623 = .ok (.iaload, 1) := by decide +kernel
theorem dL_law_624 : decode cL_law 624 = .ok (.aload_n 0, 1) := by decide +kernel
theorem dL_law_625 : decode cL_law 625 = .ok (.iload_n 3, 1) := by decide +kernel
theorem dL_law_626 : decode cL_law 626 = .ok (.iconst 2, 1) := by decide +kernel
theorem dL_law_627 : decode cL_law 627 = .ok (.iadd, 1) := by decide +kernel
theorem dL_law_628 : decode cL_law 628 = .ok (.iaload, 1) := by decide +kernel
theorem dL_law_629 : decode cL_law 629 = .ok (.invokevirtual 97, 3) := by decide +kernel
theorem dL_law_632 : decode cL_law 632 = .ok (.aload_n 2, 1) := by decide +kernel
theorem dL_law_633 : decode cL_law 633 = .ok (.aload_n 0, 1) := by decide +kernel
theorem dL_law_634 : decode cL_law 634 = .ok (.iload_n 3, 1) := by decide +kernel
theorem dL_law_635 : decode cL_law 635 = .ok (.iconst 1, 1) := by decide +kernel
theorem dL_law_636 : decode cL_law 636 = .ok (.iadd, 1) := by decide +kernel
theorem dL_law_637 : decode cL_law 637 = .ok (.iaload, 1) := by decide +kernel
theorem dL_law_638 : decode cL_law 638 = .ok (.aload_n 0, 1) := by decide +kernel
theorem dL_law_639 : decode cL_law 639 = .ok (.iload_n 3, 1) := by decide +kernel
theorem dL_law_640 : decode cL_law 640 = .ok (.iconst 2, 1) := by decide +kernel
theorem dL_law_641 : decode cL_law 641 = .ok (.iadd, 1) := by decide +kernel
theorem dL_law_642 : decode cL_law 642 = .ok (.iaload, 1) := by decide +kernel
theorem dL_law_643 : decode cL_law 643 = .ok (.invokevirtual 100, 3) := by decide +kernel
theorem dL_law_646 : decode cL_law 646 = .ok (.if_icmp .eq 88, 3) := by decide +kernel
theorem dL_law_649 : decode cL_law 649 = .ok (.iconst 0, 1) := by decide +kernel
theorem dL_law_650 : decode cL_law 650 = .ok (.ireturn, 1) := by decide +kernel
theorem dL_law_651 : decode cL_law 651 = .ok (.aload_n 1, 1) := by decide +kernel
theorem dL_law_652 : decode cL_law 652 = .ok (.aload_n 0, 1) := by decide +kernel
theorem dL_law_653 : decode cL_law 653 = .ok (.iload_n 3, 1) := by decide +kernel
theorem dL_law_654 : decode cL_law 654 = .ok (.iconst 1, 1) := by decide +kernel
theorem dL_law_655 : decode cL_law 655 = .ok (.iadd, 1) := by decide +kernel
theorem dL_law_656 : decode cL_law 656 = .ok (.iaload, 1) := by decide +kernel
theorem dL_law_657 : decode cL_law 657 = .ok (.invokevirtual 101, 3) := by decide +kernel
theorem dL_law_660 : decode cL_law 660 = .ok (.aload_n 2, 1) := by decide +kernel
theorem dL_law_661 : decode cL_law 661 = .ok (.aload_n 0, 1) := by decide +kernel
theorem dL_law_662 : decode cL_law 662 = .ok (.iload_n 3, 1) := by decide +kernel
theorem dL_law_663 : decode cL_law 663 = .ok (.iconst 1, 1) := by decide +kernel
theorem dL_law_664 : decode cL_law 664 = .ok (.iadd, 1) := by decide +kernel
theorem dL_law_665 : decode cL_law 665 = .ok (.iaload, 1) := by decide +kernel
theorem dL_law_666 : decode cL_law 666 = .ok (.invokevirtual 104, 3) := by decide +kernel
theorem dL_law_669 : decode cL_law 669 = .ok (.if_icmp .eq 65, 3) := by decide +kernel
theorem dL_law_672 : decode cL_law 672 = .ok (.iconst 0, 1) := by decide +kernel
theorem dL_law_673 : decode cL_law 673 = .ok (.ireturn, 1) := by decide +kernel
theorem dL_law_674 : decode cL_law 674 = .ok (.aload_n 1, 1) := by decide +kernel
theorem dL_law_675 : decode cL_law 675 = .ok (.aload_n 0, 1) := by decide +kernel
theorem dL_law_676 : decode cL_law 676 = .ok (.iload_n 3, 1) := by decide +kernel
theorem dL_law_677 : decode cL_law 677 = .ok (.iconst 1, 1) := by decide +kernel
theorem dL_law_678 : decode cL_law 678 = .ok (.iadd, 1) := by decide +kernel
theorem dL_law_679 : decode cL_law 679 = .ok (.iaload, 1) := by decide +kernel
theorem dL_law_680 : decode cL_law 680 = .ok (.invokevirtual 105, 3) := by decide +kernel
theorem dL_law_683 : decode cL_law 683 = .ok (.aload_n 2, 1) := by decide +kernel
theorem dL_law_684 : decode cL_law 684 = .ok (.aload_n 0, 1) := by decide +kernel
theorem dL_law_685 : decode cL_law 685 = .ok (.iload_n 3, 1) := by decide +kernel
theorem dL_law_686 : decode cL_law 686 = .ok (.iconst 1, 1) := by decide +kernel
theorem dL_law_687 : decode cL_law 687 = .ok (.iadd, 1) := by decide +kernel
theorem dL_law_688 : decode cL_law 688 = .ok (.iaload, 1) := by decide +kernel
theorem dL_law_689 : decode cL_law 689 = .ok (.invokevirtual 108, 3) := by decide +kernel
theorem dL_law_692 : decode cL_law 692 = .ok (.if_icmp .eq 42, 3) := by decide +kernel
theorem dL_law_695 : decode cL_law 695 = .ok (.iconst 0, 1) := by decide +kernel
theorem dL_law_696 : decode cL_law 696 = .ok (.ireturn, 1) := by decide +kernel
theorem dL_law_697 : decode cL_law 697 = .ok (.aload_n 1, 1) := by decide +kernel
theorem dL_law_698 : decode cL_law 698 = .ok (.aload_n 0, 1) := by decide +kernel
theorem dL_law_699 : decode cL_law 699 = .ok (.iload_n 3, 1) := by decide +kernel
theorem dL_law_700 : decode cL_law 700 = .ok (.iconst 1, 1) := by decide +kernel
theorem dL_law_701 : decode cL_law 701 = .ok (.iadd, 1) := by decide +kernel
theorem dL_law_702 : decode cL_law 702 = .ok (.iaload, 1) := by decide +kernel
theorem dL_law_703 : decode cL_law 703 = .ok (.invokevirtual 109, 3) := by decide +kernel
theorem dL_law_706 : decode cL_law 706 = .ok (.aload_n 2, 1) := by decide +kernel
theorem dL_law_707 : decode cL_law 707 = .ok (.aload_n 0, 1) := by decide +kernel
theorem dL_law_708 : decode cL_law 708 = .ok (.iload_n 3, 1) := by decide +kernel
theorem dL_law_709 : decode cL_law 709 = .ok (.iconst 1, 1) := by decide +kernel
theorem dL_law_710 : decode cL_law 710 = .ok (.iadd, 1) := by decide +kernel
theorem dL_law_711 : decode cL_law 711 = .ok (.iaload, 1) := by decide +kernel
theorem dL_law_712 : decode cL_law 712 = .ok (.invokevirtual 112, 3) := by decide +kernel
theorem dL_law_715 : decode cL_law 715 = .ok (.if_icmp .eq 19, 3) := by decide +kernel
theorem dL_law_718 : decode cL_law 718 = .ok (.iconst 0, 1) := by decide +kernel
theorem dL_law_719 : decode cL_law 719 = .ok (.ireturn, 1) := by decide +kernel
theorem dL_law_720 : decode cL_law 720 = .ok (.aload_n 1, 1) := by decide +kernel
theorem dL_law_721 : decode cL_law 721 = .ok (.invokevirtual 113, 3) := by decide +kernel
theorem dL_law_724 : decode cL_law 724 = .ok (.aload_n 2, 1) := by decide +kernel
theorem dL_law_725 : decode cL_law 725 = .ok (.invokevirtual 117, 3) := by decide +kernel
theorem dL_law_728 : decode cL_law 728 = .ok (.lcmp, 1) := by decide +kernel
theorem dL_law_729 : decode cL_law 729 = .ok (.ifCond .eq 5, 3) := by decide +kernel
theorem dL_law_732 : decode cL_law 732 = .ok (.iconst 0, 1) := by decide +kernel
theorem dL_law_733 : decode cL_law 733 = .ok (.ireturn, 1) := by decide +kernel
theorem dL_law_734 : decode cL_law 734 = .ok (.iinc 3 4, 3) := by decide +kernel
theorem dL_law_737 : decode cL_law 737 = .ok (.goto (-719), 3) := by decide +kernel
theorem dL_law_740 : decode cL_law 740 = .ok (.iconst 1, 1) := by decide +kernel
theorem dL_law_741 : decode cL_law 741 = .ok (.ireturn, 1) := by decide +kernel
end
section
/-! ===== the store: every cell of the class's and of the reference's objects has a number (id); the cells' shapes are fixed, ints and longs vary ===== -/
abbrev Sto : Type := (Nat → Nat → Int32) × (Nat → Int64)
abbrev NC : Nat := 131
/-- kinds: 0 .. 8 an object of that class (vwCl); 10 int[], 11 boolean[], 12 int[][], 13 Scene[], 14 Taster[] -/
def kd (k : Nat) : Nat :=
  if k < 25 then [7, 6, 10, 12, 10, 0, 14, 10, 10, 1, 13, 13, 11, 4, 10, 12, 12, 12, 2, 10, 10, 10, 10, 10, 11].getD k 99
  else if k < 39 then (if k % 2 = 1 then 5 else 10)
  else if k < 95 then (if k % 4 = 3 then 3 else 10)
  else if k < 117 then 10
  else if k = 117 then 8
  else if k = 123 then 11
  else if k < 131 then 10 else 99
def ln (k : Nat) : Nat :=
  if k < 25 then [0, 0, 120, 6, 4, 0, 6, 64, 7, 0, 10, 2, 2, 0, 4, 4, 6, 6, 0, 5, 1296, 1296, 1296, 1296, 1296].getD k 0
  else if k < 39 then 4
  else if k < 95 then (if k % 4 = 0 then 4 else 6)
  else if k < 101 then 6
  else if k < 111 then 4
  else if k < 117 then 9
  else [0, 24, 6, 11, 110, 22, 2, 16, 4, 120, 36, 4, 11, 9].getD (k - 117) 0
def rf (k j : Nat) : Nat :=
  if 25 ≤ k ∧ k < 117 then k + 1 + j
  else if k = 0 then [1, 5, 39, 9, 11, 12, 13, 18].getD j 0
  else if k = 1 then [2, 0, 3, 0, 4].getD j 0
  else if k = 3 then 95 + j
  else if k = 5 then [6, 0, 7, 8].getD j 0
  else if k = 6 then 25 + 2 * j
  else if k = 9 then 10
  else if k = 10 then 55 + 4 * j
  else if k = 11 then 47 + 4 * j
  else if k = 13 then [14, 15, 0, 37, 0, 0, 0, 16, 17].getD j 0
  else if k = 15 then 101 + j
  else if k = 16 then 105 + j
  else if k = 17 then 111 + j
  else if k = 18 then [19, 20, 21, 22, 23, 0, 24, 43].getD j 0
  else [0, 118, 119, 120, 121, 0, 122, 123, 0, 124, 125, 0, 126, 0, 0, 0, 0, 0, 0, 0, 0, 127, 0, 128, 129, 130].getD j 0
def nfl (c : Nat) : Nat := [4, 3, 8, 3, 9, 2, 7, 9, 26].getD c 0
/-- what a field holds: 0 int, 1 boolean, 2 long, 3 a reference -/
def fty (c j : Nat) : Nat := ([[3, 0, 3, 3], [3, 0, 0], [3, 3, 3, 3, 3, 0, 3, 3], [3, 3, 3], [3, 3, 0, 3, 0, 0, 0, 3, 3], [3, 0], [3, 0, 3, 0, 3, 1, 0], [3, 3, 3, 3, 3, 3, 3, 3, 2], [0, 3, 3, 3, 3, 0, 3, 3, 0, 3, 3, 2, 3, 0, 0, 0, 0, 0, 1, 0, 0, 3, 1, 3, 3, 3]].getD c []).getD j 0
def fv (ρ : Nat → Nat) (σ : Sto) (k j : Nat) : Value := if fty (kd k) j = 3 then .ref (ρ (rf k j)) else if fty (kd k) j = 2 then .long (σ.2 k) else .int (σ.1 k j)
def ce (ka : Nat → ClassId) (ρ : Nat → Nat) (σ : Sto) (k : Nat) : va_E :=
  if kd k < 9 then .inr (kd k, (List.range (nfl (kd k))).map (fv ρ σ k))
  else if kd k < 12 then .inl (ka (kd k), ln k, .inl (σ.1 k))
  else .inl (ka (kd k), ln k, .inr (.inr (.inr (.inr (fun i => some (ρ (rf k i)))))))
abbrev tysOf (ka : Nat → ClassId) : List (ClassId × FieldType) := [(ka 10, .int), (ka 11, .boolean), (ka 12, .array .int), (ka 13, .object RX3), (ka 14, .object RX5)]
def wsO (ka : Nat → ClassId) (ρ : Nat → Nat) (σ : Sto) : va_W := (List.range NC).map (fun k => (ρ k, ce ka ρ σ k))
def Inj (ρ : Nat → Nat) : Prop := ∀ i j, i < NC → j < NC → ρ i = ρ j → i = j
def Ar (ρ : Nat → Nat) : Nat → Prop := fun q => ∃ k, k < NC ∧ q = ρ k
/-- the tables' words that a contract may carry; and those of nest mates -/
def TBg : List Cond := lw_tbl.filter goodWord
def NW : List Cond := [.fieldLinkNest RX6 15 RX7 "LIMITS" "[I" RX7, .methodLinkNest RX2 77 ⟨RX7, "numberOf", "([I)I"⟩ RX7, .methodLinkNest RX2 56 ⟨RX7, "rowOf", "(I[I)V"⟩ RX7, .methodLinkNest RX2 73 ⟨RX7, "change", "([II)V"⟩ RX7, .methodLinkNest RX4 46 ⟨RX7, "rowOf", "(I[I)V"⟩ RX7, .methodLinkNest RX4 87 ⟨RX7, "change", "([II)V"⟩ RX7]
theorem tbg_of {w : Cond} (h : w ∈ lw_tbl) (hg : goodWord w = true) : w ∈ TBg := List.mem_filter.mpr ⟨h, hg⟩
theorem tbg_in {w : Cond} (h : w ∈ TBg) : w ∈ lw_tbl := (List.mem_filter.mp h).1
theorem tbg_at {w : Cond} (i : Nat) (h : lw_tbl[i]? = some w) (hg : goodWord w = true) : w ∈ TBg := tbg_of (List.mem_of_getElem? h) hg
theorem tbg_t {w : Cond} (i : Nat) (h : tables_1[i]? = some w) (hg : goodWord w = true) : w ∈ TBg := tbg_of (List.mem_append_right _ (List.mem_of_getElem? h)) hg
theorem tbg_s {w : Cond} (i : Nat) (h : (k2_sels lw_privs)[i]? = some w) (hg : goodWord w = true) : w ∈ TBg := tbg_of (List.mem_append_left _ (List.mem_of_getElem? h)) hg
def wsM (y : MethodName) (cc : ByteArray) (nL : Nat) (rt : Option FieldType) : List Cond := .code y cc nL rt :: TBg
theorem good_wsM {y : MethodName} {cc : ByteArray} {nL : Nat} {rt : Option FieldType} (h : Cond.code y cc nL rt ∈ TBg) : GoodIn TBg (wsM y cc nL rt) := by
  intro w hw
  have hm : w ∈ TBg := by
    rcases List.mem_cons.mp hw with e | e
    · rw [e]; exact h
    · exact e
  exact ⟨hm, good_of_word (List.mem_filter.mp hm).2⟩
/-! a value by ids, and as the machine has it -/
def tv (ρ : Nat → Nat) (v : Value) : Value := match v with
  | .ref k => .ref (ρ k)
  | w => w
theorem tv_cat (ρ : Nat → Nat) (v : Value) : (tv ρ v).category = v.category := by cases v <;> rfl
abbrev En : Type := va_G × (Nat → ClassId) × (Nat → Nat)
abbrev Scr : Type := Nat × (Nat → Int32)
def limV : Nat → Value := fun j => .int ([5, 5, 5, 5, 2, 1].getD j 0)
def Wd (S : Scr) (E : En) (U : State) : Prop :=
  va_K E.1 vwCl (tysOf E.2.1) U ∧ (∀ w ∈ NW, va_Nw w U) ∧ va_Z RX7 "LIMITS" "[I" (.ref (E.2.2 131)) (Ar E.2.2) U U.heap ∧ va_T .int (E.2.2 131) 6 limV (Ar E.2.2) U U.heap ∧ va_X (E.2.2 132) S.1 S.2 U U.heap ∧ E.2.2 132 < U.heap.size ∧ ¬ Ar E.2.2 (E.2.2 132)
def Rp (E : En) (σ : Sto) (H : Heap) : Prop := va_P E.1 vwCl (wsO E.2.1 E.2.2 σ) H
theorem wsO_at {ka : Nat → ClassId} {ρ : Nat → Nat} {σ : Sto} {k : Nat} (h : k < NC) : (wsO ka ρ σ)[k]? = some (ρ k, ce ka ρ σ k) := by
  unfold wsO
  rw [List.getElem?_map, List.getElem?_range h]
  rfl
theorem wsO_inv {ka : Nat → ClassId} {ρ : Nat → Nat} {σ : Sto} {k : Nat} {q : Nat × va_E} (h : (wsO ka ρ σ)[k]? = some q) : k < NC ∧ q = (ρ k, ce ka ρ σ k) := by
  have hk : k < NC := by
    have := (List.getElem?_eq_some_iff.mp h).1
    simpa [wsO] using this
  exact ⟨hk, (Option.some.inj (h.symm.trans (wsO_at hk)))⟩
theorem wsO_D {ka : Nat → ClassId} {ρ : Nat → Nat} {σ : Sto} (h : Inj ρ) : va_D (Ar ρ) (wsO ka ρ σ) := by
  refine ⟨fun i j p q hp hq e => ?_, fun k q hq => ?_⟩
  · obtain ⟨h1, rfl⟩ := wsO_inv hp
    obtain ⟨h2, rfl⟩ := wsO_inv hq
    exact h i j h1 h2 e
  · obtain ⟨h1, rfl⟩ := wsO_inv hq
    exact ⟨k, h1, rfl⟩
/-- one cell set: the world of another store -/
theorem wsO_set {ka : Nat → ClassId} {ρ : Nat → Nat} {σ σ' : Sto} {k : Nat} {q : Nat × va_E} (hk : k < NC) (hq : q = (ρ k, ce ka ρ σ' k)) (ho : ∀ j, j < NC → j ≠ k → ce ka ρ σ' j = ce ka ρ σ j) : (wsO ka ρ σ).set k q = wsO ka ρ σ' := by
  apply List.ext_getElem?
  intro i
  by_cases hi : i < NC
  · rw [wsO_at hi]
    by_cases e : i = k
    · subst e
      rw [List.getElem?_set_self (by simp [wsO]; exact hi), hq]
    · rw [List.getElem?_set_ne (fun z => e z.symm), wsO_at hi, ho i hi e]
  · rw [List.getElem?_eq_none (by simp [wsO]; omega), List.getElem?_eq_none (by simp [wsO]; omega)]
/-! stores -/
def wr (σ : Sto) (k i : Nat) (x : Int32) : Sto := (fun a b => if a = k ∧ b = i then x else σ.1 a b, σ.2)
def wrL (σ : Sto) (k : Nat) (x : Int64) : Sto := (σ.1, fun a => if a = k then x else σ.2 a)
def cpy (σ : Sto) (src sp dst dp n : Nat) : Sto := (fun a b => if a = dst ∧ dp ≤ b ∧ b < dp + n then σ.1 src (sp + (b - dp)) else σ.1 a b, σ.2)
theorem ce_wr_ne {ka : Nat → ClassId} {ρ : Nat → Nat} {σ : Sto} {k i j : Nat} {x : Int32} (h : j ≠ k) : ce ka ρ (wr σ k i x) j = ce ka ρ σ j := by
  have h1 : (wr σ k i x).1 j = σ.1 j := by funext b; simp [wr, h]
  have h2 : fv ρ (wr σ k i x) j = fv ρ σ j := by funext b; simp [fv, h, wr]
  unfold ce
  rw [h1, h2]
theorem ce_wrL_ne {ka : Nat → ClassId} {ρ : Nat → Nat} {σ : Sto} {k j : Nat} {x : Int64} (h : j ≠ k) : ce ka ρ (wrL σ k x) j = ce ka ρ σ j := by
  have h2 : fv ρ (wrL σ k x) j = fv ρ σ j := by funext b; simp [fv, wrL, h]
  unfold ce
  rw [h2]
  rfl
theorem ce_cpy_ne {ka : Nat → ClassId} {ρ : Nat → Nat} {σ : Sto} {src sp k dp n j : Nat} (h : j ≠ k) : ce ka ρ (cpy σ src sp k dp n) j = ce ka ρ σ j := by
  have h1 : (cpy σ src sp k dp n).1 j = σ.1 j := by funext b; simp [cpy, h]
  have h2 : fv ρ (cpy σ src sp k dp n) j = fv ρ σ j := by funext b; simp [fv, h, cpy]
  unfold ce
  rw [h1, h2]
/-! shapes -/
theorem ce_obj {ka : Nat → ClassId} {ρ : Nat → Nat} {σ : Sto} {k c : Nat} (h : kd k = c) (hc : c < 9) : ce ka ρ σ k = .inr (c, (List.range (nfl c)).map (fv ρ σ k)) := by
  unfold ce; rw [h, if_pos hc]
theorem ce_int {ka : Nat → ClassId} {ρ : Nat → Nat} {σ : Sto} {k c : Nat} (h : kd k = c) (h1 : 9 ≤ c) (h2 : c < 12) : ce ka ρ σ k = .inl (ka c, ln k, .inl (σ.1 k)) := by
  unfold ce; rw [h, if_neg (by omega), if_pos h2]
theorem ce_ref {ka : Nat → ClassId} {ρ : Nat → Nat} {σ : Sto} {k c : Nat} (h : kd k = c) (h1 : 12 ≤ c) : ce ka ρ σ k = .inl (ka c, ln k, .inr (.inr (.inr (.inr (fun i => some (ρ (rf k i))))))) := by
  unfold ce; rw [h, if_neg (by omega), if_neg (by omega)]
/-! locals -/
def Lo (ρ : Nat → Nat) (lsA : Array Slot) (n : Nat) (ls : List Value) : Prop := lsA.size = n ∧ lv_wf lsA ∧ (∀ (i : Nat) (v : Value), ls[i]? = some v → v ≠ .null → lsA[i]? = some (.val (tv ρ v))) ∧ ∀ v ∈ ls, v.category = 1
def lvl (ρ : Nat → Nat) (ls : List Value) : List (Nat × Value) := (List.range ls.length).filterMap (fun i => (ls[i]?).bind (fun v => if v = Value.null then none else some (i, tv ρ v)))
theorem lvl_mem {ρ : Nat → Nat} {ls : List Value} {i : Nat} {v : Value} (h : ls[i]? = some v) (hn : v ≠ .null) : (i, tv ρ v) ∈ lvl ρ ls := by
  refine List.mem_filterMap.mpr ⟨i, List.mem_range.mpr (List.getElem?_eq_some_iff.mp h).1, ?_⟩
  rw [h, Option.bind_some, if_neg hn]
theorem lvl_inv {ρ : Nat → Nat} {ls : List Value} {q : Nat × Value} (h : q ∈ lvl ρ ls) : ∃ v, ls[q.1]? = some v ∧ v ≠ .null ∧ q.2 = tv ρ v := by
  obtain ⟨i, -, hq⟩ := List.mem_filterMap.mp h
  cases hl : ls[i]? with
  | none => rw [hl] at hq; cases hq
  | some v =>
    rw [hl, Option.bind_some] at hq
    by_cases hn : v = .null
    · rw [if_pos hn] at hq; cases hq
    · rw [if_neg hn] at hq
      cases hq
      exact ⟨v, hl, hn, rfl⟩
theorem Lo.has {ρ : Nat → Nat} {lsA : Array Slot} {n : Nat} {ls : List Value} (h : Lo ρ lsA n ls) : lv_has lsA n (lvl ρ ls) := by
  refine ⟨h.1, h.2.1, fun q hq => ?_⟩
  obtain ⟨v, h1, h2, h3⟩ := lvl_inv hq
  rw [h3]
  exact h.2.2.1 _ _ h1 h2
theorem Lo.store {ρ : Nat → Nat} {lsA lsB : Array Slot} {n i : Nat} {ls : List Value} {v : Value} (h : Lo ρ lsA n ls) (hc : v.category = 1) (hs : lv_has lsB n ((i, tv ρ v) :: (lvl ρ ls).filter (fun q => !(q.1 == i) && !(q.1 + 1 == i && q.2.category == 2)))) : Lo ρ lsB n (ls.set i v) := by
  refine ⟨hs.1, hs.2.1, fun j w hj hw => ?_, fun w hw => ?_⟩
  · by_cases e : j = i
    · subst e
      have hlt : j < ls.length := by
        have := (List.getElem?_eq_some_iff.mp hj).1
        simpa using this
      rw [List.getElem?_set_self hlt] at hj
      cases hj
      exact hs.2.2 _ List.mem_cons_self
    · rw [List.getElem?_set_ne (fun z => e z.symm)] at hj
      refine hs.2.2 (j, tv ρ w) (List.mem_cons_of_mem _ (List.mem_filter.mpr ⟨lvl_mem hj hw, ?_⟩))
      have hcat : (tv ρ w).category = 1 := by rw [tv_cat]; exact h.2.2.2 w (List.mem_of_getElem? hj)
      simp [e, hcat]
  · rcases List.mem_or_eq_of_mem_set hw with h1 | h1
    · exact h.2.2.2 w h1
    · rw [h1]; exact hc
theorem Lo.at {ρ : Nat → Nat} {lsA : Array Slot} {n i : Nat} {ls : List Value} {v : Value} (h : Lo ρ lsA n ls) (hi : ls[i]? = some v) (hn : v ≠ .null) : lsA[i]? = some (.val (tv ρ v)) := h.2.2.1 i v hi hn
theorem Lo.put {ρ : Nat → Nat} {lsA : Array Slot} {n i : Nat} {ls : List Value} {v : Value} (h : Lo ρ lsA n ls) (hi : i < n) (hc : v.category = 1) : ∃ lsB, storeLocals lsA i (tv ρ v) = some lsB ∧ Lo ρ lsB n (ls.set i v) := by
  obtain ⟨lsB, h1, h2⟩ := lv_store1 (v := tv ρ v) h.has hi (by rw [tv_cat]; exact hc)
  exact ⟨lsB, h1, h.store hc h2⟩
/-! ===== the judgement: from pc with these locals, this operand stack and this store the method comes to a return with Q ===== -/
def RetAt (rt : Option FieldType) (cc : ByteArray) (pc : Nat) (r : Option Value) : Prop :=
  (r = none ∧ rt = none ∧ decode cc pc = .ok (.return_, 1)) ∨ (∃ (v : Int32) (ty : FieldType), r = some (.int v) ∧ rt = some ty ∧ narrow ty (.int v) = .int v ∧ decode cc pc = .ok (.ireturn, 1)) ∨ (∃ v : Int64, r = some (.long v) ∧ rt = some .long ∧ decode cc pc = .ok (.lreturn, 1))
def Fx (S : Scr) (own : String) (cc : ByteArray) (nL : Nat) (rt : Option FieldType) (d : Nat) (Q : Option Value → Sto → Prop) (E : En) (p : Program) (l : Launch) (e : Env) (R : Room) (s : State) (m : MethodId) (args : Array Value) (below : List Frame) (meth : Method) (c : Code) (cells slots : Nat) (QQ : State → Prop) : Prop :=
  p.tables.exec = Jvm.exec ∧ c.code = cc ∧ c.maxLocals = nL ∧ s.vm.findClass own = some m.cls ∧ (∀ w ∈ TBg, w.before args s = true) ∧ Inj E.2.2 ∧ Wd S E s ∧ d ≤ R.frames ∧ 36 * d ≤ R.locals ∧ cells ≤ R.cells ∧ slots ≤ R.slots ∧
  ∀ (r : Option Value) (σ' : Sto) (H' : Heap) (locs' : List Loc) (pc' : Nat) (lsA' : Array Slot), Q r σ' → Rp E σ' H' → va_S (Ar E.2.2) s.heap H' locs' → RetAt rt cc pc' r → W p l e R s m args below meth c H' locs' cells slots QQ (F0 m pc' lsA' (r.toList.map (tv E.2.2)))
def Ev (S : Scr) (own : String) (cc : ByteArray) (nL : Nat) (rt : Option FieldType) (d pc : Nat) (ls st : List Value) (σ : Sto) (Q : Option Value → Sto → Prop) : Prop :=
  ∀ (E : En) (p : Program) (l : Launch) (e : Env) (R : Room) (s : State) (m : MethodId) (args : Array Value) (below : List Frame) (meth : Method) (c : Code) (cells slots : Nat) (QQ : State → Prop),
    Fx S own cc nL rt d Q E p l e R s m args below meth c cells slots QQ → ∀ (H : Heap) (locs : List Loc) (lsA : Array Slot), Rp E σ H → va_S (Ar E.2.2) s.heap H locs → Lo E.2.2 lsA nL ls →
    W p l e R s m args below meth c H locs cells slots QQ (F0 m pc lsA (st.map (tv E.2.2)))
def rmD (d : Nat) : Room := { frames := d, cells := 0, slots := 0, locals := 36 * d }
def PcM (S : Scr) (E : En) (av : List Value) (σ : Sto) : Array Value → State → Prop := va_Pc (av.map (tv E.2.2)) (fun U => Wd S E U ∧ Rp E σ U.heap)
def QcM (E : En) (Q : Option Value → Sto → Prop) : Array Value → State → Outcome → State → Prop := fun _ st oc t => (∃ (r : Option Value) (σ' : Sto), oc = .returned (r.map (tv E.2.2)) ∧ Q r σ' ∧ Rp E σ' t.heap) ∧ va_F (Ar E.2.2) st t
/-- a method's contract at these arguments and this store -/
def Mt (S : Scr) (y : MethodName) (cc : ByteArray) (nL : Nat) (rt : Option FieldType) (d : Nat) (av : List Value) (σ : Sto) (Q : Option Value → Sto → Prop) : Prop :=
  ∀ (E : En) (l : Launch), Inj E.2.2 → Met l y (wsM y cc nL rt) (rmD d) (PcM S E av σ) (QcM E Q) 0 0 (Ar E.2.2)
abbrev Is (r0 : Option Value) (σ0 : Sto) : Option Value → Sto → Prop := fun r σ' => r = r0 ∧ σ' = σ0
end
section
section EVR
variable {S : Scr} {own : String} {cc : ByteArray} {nL : Nat} {rt : Option FieldType} {d pc : Nat} {ls st : List Value} {σ : Sto} {Q : Option Value → Sto → Prop}
theorem ev_iconst {n : Int} {v : Int32} (hd : decode cc pc = .ok (.iconst n, 1)) (hv : Int32.ofInt n = v) (kk : Ev S own cc nL rt d (pc + 1) ls (.int v :: st) σ Q) : Ev S own cc nL rt d pc ls st σ Q := by
  intro E p l e R s m args below meth co cells slots QQ F H locs lsA hR hS hL
  obtain ⟨hx, hb, hml, hown, hts, hinj, hw, hfr, hlo, hce, hsl, hq⟩ := id F
  exact lv_iconst hx hb hd hv (kk E p l e R s m args below meth co cells slots QQ F H locs lsA hR hS hL)
theorem ev_bipush {n : Int} {v : Int32} (hd : decode cc pc = .ok (.bipush n, 2)) (hv : (Int8.ofInt n).toInt32 = v) (kk : Ev S own cc nL rt d (pc + 2) ls (.int v :: st) σ Q) : Ev S own cc nL rt d pc ls st σ Q := by
  intro E p l e R s m args below meth co cells slots QQ F H locs lsA hR hS hL
  obtain ⟨hx, hb, hml, hown, hts, hinj, hw, hfr, hlo, hce, hsl, hq⟩ := id F
  exact lv_bipush hx hb hd hv (kk E p l e R s m args below meth co cells slots QQ F H locs lsA hR hS hL)
theorem ev_sipush {n : Int} {v : Int32} (hd : decode cc pc = .ok (.sipush n, 3)) (hv : (Int16.ofInt n).toInt32 = v) (kk : Ev S own cc nL rt d (pc + 3) ls (.int v :: st) σ Q) : Ev S own cc nL rt d pc ls st σ Q := by
  intro E p l e R s m args below meth co cells slots QQ F H locs lsA hR hS hL
  obtain ⟨hx, hb, hml, hown, hts, hinj, hw, hfr, hlo, hce, hsl, hq⟩ := id F
  exact lv_sipush hx hb hd hv (kk E p l e R s m args below meth co cells slots QQ F H locs lsA hR hS hL)
theorem ev_lconst {n : Fin 2} {v : Int64} (hd : decode cc pc = .ok (.lconst n, 1)) (hv : Int64.ofNat (n : Nat) = v) (kk : Ev S own cc nL rt d (pc + 1) ls (.long v :: st) σ Q) : Ev S own cc nL rt d pc ls st σ Q := by
  intro E p l e R s m args below meth co cells slots QQ F H locs lsA hR hS hL
  obtain ⟨hx, hb, hml, hown, hts, hinj, hw, hfr, hlo, hce, hsl, hq⟩ := id F
  exact lv_lconst hx hb hd hv (kk E p l e R s m args below meth co cells slots QQ F H locs lsA hR hS hL)
theorem ev_ldc {index : Nat} {v : Int32} (hd : decode cc pc = .ok (.ldc index, 2)) (hk : Cond.constant own index v ∈ TBg) (kk : Ev S own cc nL rt d (pc + 2) ls (.int v :: st) σ Q) : Ev S own cc nL rt d pc ls st σ Q := by
  intro E p l e R s m args below meth co cells slots QQ F H locs lsA hR hS hL
  obtain ⟨hx, hb, hml, hown, hts, hinj, hw, hfr, hlo, hce, hsl, hq⟩ := id F
  exact lv_ldc hx hb hown (hts _ hk) hd (kk E p l e R s m args below meth co cells slots QQ F H locs lsA hR hS hL)
theorem ev_ldcw {index : Nat} {v : Int32} (hd : decode cc pc = .ok (.ldc_w index, 3)) (hk : Cond.constant own index v ∈ TBg) (kk : Ev S own cc nL rt d (pc + 3) ls (.int v :: st) σ Q) : Ev S own cc nL rt d pc ls st σ Q := by
  intro E p l e R s m args below meth co cells slots QQ F H locs lsA hR hS hL
  obtain ⟨hx, hb, hml, hown, hts, hinj, hw, hfr, hlo, hce, hsl, hq⟩ := id F
  exact lv_ldcw hx hb hown (hts _ hk) hd (kk E p l e R s m args below meth co cells slots QQ F H locs lsA hR hS hL)
theorem ev_ldc2 {index : Nat} {v : Int64} (hd : decode cc pc = .ok (.ldc2_w index, 3)) (hk : Cond.constantLong own index v ∈ TBg) (kk : Ev S own cc nL rt d (pc + 3) ls (.long v :: st) σ Q) : Ev S own cc nL rt d pc ls st σ Q := by
  intro E p l e R s m args below meth co cells slots QQ F H locs lsA hR hS hL
  obtain ⟨hx, hb, hml, hown, hts, hinj, hw, hfr, hlo, hce, hsl, hq⟩ := id F
  exact lv_ldc2 hx hb hown (hts _ hk) hd (kk E p l e R s m args below meth co cells slots QQ F H locs lsA hR hS hL)
theorem ev_iload_n {k : Fin 4} {x : Int32} (hd : decode cc pc = .ok (.iload_n k, 1)) (h : ls[(k : Nat)]? = some (.int x)) (kk : Ev S own cc nL rt d (pc + 1) ls (.int x :: st) σ Q) : Ev S own cc nL rt d pc ls st σ Q := by
  intro E p l e R s m args below meth co cells slots QQ F H locs lsA hR hS hL
  obtain ⟨hx, hb, hml, hown, hts, hinj, hw, hfr, hlo, hce, hsl, hq⟩ := id F
  exact lv_iload_n hx hb hd rfl (hL.at h (fun z => by cases z)) (kk E p l e R s m args below meth co cells slots QQ F H locs lsA hR hS hL)
theorem ev_iload {k : Nat} {x : Int32} (hd : decode cc pc = .ok (.iload k, 2)) (h : ls[k]? = some (.int x)) (kk : Ev S own cc nL rt d (pc + 2) ls (.int x :: st) σ Q) : Ev S own cc nL rt d pc ls st σ Q := by
  intro E p l e R s m args below meth co cells slots QQ F H locs lsA hR hS hL
  obtain ⟨hx, hb, hml, hown, hts, hinj, hw, hfr, hlo, hce, hsl, hq⟩ := id F
  exact lv_iload hx hb hd (hL.at h (fun z => by cases z)) (kk E p l e R s m args below meth co cells slots QQ F H locs lsA hR hS hL)
theorem ev_aload_n {k : Fin 4} {x : Nat} (hd : decode cc pc = .ok (.aload_n k, 1)) (h : ls[(k : Nat)]? = some (.ref x)) (kk : Ev S own cc nL rt d (pc + 1) ls (.ref x :: st) σ Q) : Ev S own cc nL rt d pc ls st σ Q := by
  intro E p l e R s m args below meth co cells slots QQ F H locs lsA hR hS hL
  obtain ⟨hx, hb, hml, hown, hts, hinj, hw, hfr, hlo, hce, hsl, hq⟩ := id F
  exact lv_aload_n hx hb hd rfl (hL.at h (fun z => by cases z)) (kk E p l e R s m args below meth co cells slots QQ F H locs lsA hR hS hL)
theorem ev_aload {k : Nat} {x : Nat} (hd : decode cc pc = .ok (.aload k, 2)) (h : ls[k]? = some (.ref x)) (kk : Ev S own cc nL rt d (pc + 2) ls (.ref x :: st) σ Q) : Ev S own cc nL rt d pc ls st σ Q := by
  intro E p l e R s m args below meth co cells slots QQ F H locs lsA hR hS hL
  obtain ⟨hx, hb, hml, hown, hts, hinj, hw, hfr, hlo, hce, hsl, hq⟩ := id F
  exact lv_aload hx hb hd (hL.at h (fun z => by cases z)) (kk E p l e R s m args below meth co cells slots QQ F H locs lsA hR hS hL)
theorem ev_istore_n {k : Fin 4} {x : Int32} {ls' : List Value} (hd : decode cc pc = .ok (.istore_n k, 1)) (hn : (k : Nat) < nL) (hs : ls.set (k : Nat) (.int x) = ls') (kk : Ev S own cc nL rt d (pc + 1) ls' st σ Q) : Ev S own cc nL rt d pc ls (.int x :: st) σ Q := by
  subst hs
  intro E p l e R s m args below meth co cells slots QQ F H locs lsA hR hS hL
  obtain ⟨hx, hb, hml, hown, hts, hinj, hw, hfr, hlo, hce, hsl, hq⟩ := id F
  exact lv_istore_n hx hb hd rfl hL.has hn rfl (fun lsB hB => kk E p l e R s m args below meth co cells slots QQ F H locs lsB hR hS (hL.store (v := .int x) rfl hB))
theorem ev_istore {k : Nat} {x : Int32} {ls' : List Value} (hd : decode cc pc = .ok (.istore k, 2)) (hn : k < nL) (hs : ls.set k (.int x) = ls') (kk : Ev S own cc nL rt d (pc + 2) ls' st σ Q) : Ev S own cc nL rt d pc ls (.int x :: st) σ Q := by
  subst hs
  intro E p l e R s m args below meth co cells slots QQ F H locs lsA hR hS hL
  obtain ⟨hx, hb, hml, hown, hts, hinj, hw, hfr, hlo, hce, hsl, hq⟩ := id F
  exact lv_istore hx hb hd hL.has hn rfl (fun lsB hB => kk E p l e R s m args below meth co cells slots QQ F H locs lsB hR hS (hL.store (v := .int x) rfl hB))
theorem ev_astore_n {k : Fin 4} {x : Nat} {ls' : List Value} (hd : decode cc pc = .ok (.astore_n k, 1)) (hn : (k : Nat) < nL) (hs : ls.set (k : Nat) (.ref x) = ls') (kk : Ev S own cc nL rt d (pc + 1) ls' st σ Q) : Ev S own cc nL rt d pc ls (.ref x :: st) σ Q := by
  subst hs
  intro E p l e R s m args below meth co cells slots QQ F H locs lsA hR hS hL
  obtain ⟨hx, hb, hml, hown, hts, hinj, hw, hfr, hlo, hce, hsl, hq⟩ := id F
  exact lv_astore_n hx hb hd rfl hL.has hn rfl (fun lsB hB => kk E p l e R s m args below meth co cells slots QQ F H locs lsB hR hS (hL.store (v := .ref x) rfl hB))
theorem ev_astore {k : Nat} {x : Nat} {ls' : List Value} (hd : decode cc pc = .ok (.astore k, 2)) (hn : k < nL) (hs : ls.set k (.ref x) = ls') (kk : Ev S own cc nL rt d (pc + 2) ls' st σ Q) : Ev S own cc nL rt d pc ls (.ref x :: st) σ Q := by
  subst hs
  intro E p l e R s m args below meth co cells slots QQ F H locs lsA hR hS hL
  obtain ⟨hx, hb, hml, hown, hts, hinj, hw, hfr, hlo, hce, hsl, hq⟩ := id F
  exact lv_astore hx hb hd hL.has hn rfl (fun lsB hB => kk E p l e R s m args below meth co cells slots QQ F H locs lsB hR hS (hL.store (v := .ref x) rfl hB))
theorem ev_iinc {k : Nat} {n : Int} {x v : Int32} {ls' : List Value} (hd : decode cc pc = .ok (.iinc k n, 3)) (h : ls[k]? = some (.int x)) (hv : x + Int32.ofInt n = v) (hn : k < nL) (hs : ls.set k (.int v) = ls') (kk : Ev S own cc nL rt d (pc + 3) ls' st σ Q) : Ev S own cc nL rt d pc ls st σ Q := by
  subst hs
  intro E p l e R s m args below meth co cells slots QQ F H locs lsA hR hS hL
  obtain ⟨hx, hb, hml, hown, hts, hinj, hw, hfr, hlo, hce, hsl, hq⟩ := id F
  obtain ⟨j, hj⟩ := List.getElem?_of_mem (lvl_mem (ρ := E.2.2) h (fun z => by cases z))
  exact lv_iinc hx hb hd hL.has hj hv hn rfl (fun lsB hB => kk E p l e R s m args below meth co cells slots QQ F H locs lsB hR hS (hL.store (v := .int v) rfl hB))
theorem ev_iadd {x y : Int32} (hd : decode cc pc = .ok (.iadd, 1)) (kk : Ev S own cc nL rt d (pc + 1) ls (.int (x + y) :: st) σ Q) : Ev S own cc nL rt d pc ls (.int y :: .int x :: st) σ Q := by
  intro E p l e R s m args below meth co cells slots QQ F H locs lsA hR hS hL
  obtain ⟨hx, hb, hml, hown, hts, hinj, hw, hfr, hlo, hce, hsl, hq⟩ := id F
  exact lv_iadd hx hb hd (kk E p l e R s m args below meth co cells slots QQ F H locs lsA hR hS hL)
theorem ev_isub {x y : Int32} (hd : decode cc pc = .ok (.isub, 1)) (kk : Ev S own cc nL rt d (pc + 1) ls (.int (x - y) :: st) σ Q) : Ev S own cc nL rt d pc ls (.int y :: .int x :: st) σ Q := by
  intro E p l e R s m args below meth co cells slots QQ F H locs lsA hR hS hL
  obtain ⟨hx, hb, hml, hown, hts, hinj, hw, hfr, hlo, hce, hsl, hq⟩ := id F
  exact lv_isub hx hb hd (kk E p l e R s m args below meth co cells slots QQ F H locs lsA hR hS hL)
theorem ev_imul {x y : Int32} (hd : decode cc pc = .ok (.imul, 1)) (kk : Ev S own cc nL rt d (pc + 1) ls (.int (x * y) :: st) σ Q) : Ev S own cc nL rt d pc ls (.int y :: .int x :: st) σ Q := by
  intro E p l e R s m args below meth co cells slots QQ F H locs lsA hR hS hL
  obtain ⟨hx, hb, hml, hown, hts, hinj, hw, hfr, hlo, hce, hsl, hq⟩ := id F
  exact lv_imul hx hb hd (kk E p l e R s m args below meth co cells slots QQ F H locs lsA hR hS hL)
theorem ev_iand {x y : Int32} (hd : decode cc pc = .ok (.iand, 1)) (kk : Ev S own cc nL rt d (pc + 1) ls (.int (x &&& y) :: st) σ Q) : Ev S own cc nL rt d pc ls (.int y :: .int x :: st) σ Q := by
  intro E p l e R s m args below meth co cells slots QQ F H locs lsA hR hS hL
  obtain ⟨hx, hb, hml, hown, hts, hinj, hw, hfr, hlo, hce, hsl, hq⟩ := id F
  exact lv_iand hx hb hd (kk E p l e R s m args below meth co cells slots QQ F H locs lsA hR hS hL)
theorem ev_ior {x y : Int32} (hd : decode cc pc = .ok (.ior, 1)) (kk : Ev S own cc nL rt d (pc + 1) ls (.int (x ||| y) :: st) σ Q) : Ev S own cc nL rt d pc ls (.int y :: .int x :: st) σ Q := by
  intro E p l e R s m args below meth co cells slots QQ F H locs lsA hR hS hL
  obtain ⟨hx, hb, hml, hown, hts, hinj, hw, hfr, hlo, hce, hsl, hq⟩ := id F
  exact lv_ior hx hb hd (kk E p l e R s m args below meth co cells slots QQ F H locs lsA hR hS hL)
theorem ev_ixor {x y : Int32} (hd : decode cc pc = .ok (.ixor, 1)) (kk : Ev S own cc nL rt d (pc + 1) ls (.int (x ^^^ y) :: st) σ Q) : Ev S own cc nL rt d pc ls (.int y :: .int x :: st) σ Q := by
  intro E p l e R s m args below meth co cells slots QQ F H locs lsA hR hS hL
  obtain ⟨hx, hb, hml, hown, hts, hinj, hw, hfr, hlo, hce, hsl, hq⟩ := id F
  exact lv_ixor hx hb hd (kk E p l e R s m args below meth co cells slots QQ F H locs lsA hR hS hL)
theorem ev_ishl {x y : Int32} (hd : decode cc pc = .ok (.ishl, 1)) (kk : Ev S own cc nL rt d (pc + 1) ls (.int (x <<< (y &&& 31)) :: st) σ Q) : Ev S own cc nL rt d pc ls (.int y :: .int x :: st) σ Q := by
  intro E p l e R s m args below meth co cells slots QQ F H locs lsA hR hS hL
  obtain ⟨hx, hb, hml, hown, hts, hinj, hw, hfr, hlo, hce, hsl, hq⟩ := id F
  exact lv_ishl hx hb hd (kk E p l e R s m args below meth co cells slots QQ F H locs lsA hR hS hL)
theorem ev_ishr {x y : Int32} (hd : decode cc pc = .ok (.ishr, 1)) (kk : Ev S own cc nL rt d (pc + 1) ls (.int (x >>> (y &&& 31)) :: st) σ Q) : Ev S own cc nL rt d pc ls (.int y :: .int x :: st) σ Q := by
  intro E p l e R s m args below meth co cells slots QQ F H locs lsA hR hS hL
  obtain ⟨hx, hb, hml, hown, hts, hinj, hw, hfr, hlo, hce, hsl, hq⟩ := id F
  exact lv_ishr hx hb hd (kk E p l e R s m args below meth co cells slots QQ F H locs lsA hR hS hL)
theorem ev_iushr {x y v : Int32} (hd : decode cc pc = .ok (.iushr, 1)) (hv : (x.toUInt32 >>> (y.toUInt32 &&& Int32.toUInt32 31)).toInt32 = v) (kk : Ev S own cc nL rt d (pc + 1) ls (.int v :: st) σ Q) : Ev S own cc nL rt d pc ls (.int y :: .int x :: st) σ Q := by
  intro E p l e R s m args below meth co cells slots QQ F H locs lsA hR hS hL
  obtain ⟨hx, hb, hml, hown, hts, hinj, hw, hfr, hlo, hce, hsl, hq⟩ := id F
  exact lv_iushr hx hb hd hv (kk E p l e R s m args below meth co cells slots QQ F H locs lsA hR hS hL)
theorem ev_idiv {x y : Int32} (hd : decode cc pc = .ok (.idiv, 1)) (hne : ¬ y = 0) (kk : Ev S own cc nL rt d (pc + 1) ls (.int (x / y) :: st) σ Q) : Ev S own cc nL rt d pc ls (.int y :: .int x :: st) σ Q := by
  intro E p l e R s m args below meth co cells slots QQ F H locs lsA hR hS hL
  obtain ⟨hx, hb, hml, hown, hts, hinj, hw, hfr, hlo, hce, hsl, hq⟩ := id F
  exact lv_idiv hx hb hd hne (kk E p l e R s m args below meth co cells slots QQ F H locs lsA hR hS hL)
theorem ev_irem {x y : Int32} (hd : decode cc pc = .ok (.irem, 1)) (hne : ¬ y = 0) (kk : Ev S own cc nL rt d (pc + 1) ls (.int (x - x / y * y) :: st) σ Q) : Ev S own cc nL rt d pc ls (.int y :: .int x :: st) σ Q := by
  intro E p l e R s m args below meth co cells slots QQ F H locs lsA hR hS hL
  obtain ⟨hx, hb, hml, hown, hts, hinj, hw, hfr, hlo, hce, hsl, hq⟩ := id F
  exact lv_irem hx hb hd hne (kk E p l e R s m args below meth co cells slots QQ F H locs lsA hR hS hL)
theorem ev_ineg {x : Int32} (hd : decode cc pc = .ok (.ineg, 1)) (kk : Ev S own cc nL rt d (pc + 1) ls (.int (-x) :: st) σ Q) : Ev S own cc nL rt d pc ls (.int x :: st) σ Q := by
  intro E p l e R s m args below meth co cells slots QQ F H locs lsA hR hS hL
  obtain ⟨hx, hb, hml, hown, hts, hinj, hw, hfr, hlo, hce, hsl, hq⟩ := id F
  exact lv_ineg hx hb hd (kk E p l e R s m args below meth co cells slots QQ F H locs lsA hR hS hL)
theorem ev_ladd {x y : Int64} (hd : decode cc pc = .ok (.ladd, 1)) (kk : Ev S own cc nL rt d (pc + 1) ls (.long (x + y) :: st) σ Q) : Ev S own cc nL rt d pc ls (.long y :: .long x :: st) σ Q := by
  intro E p l e R s m args below meth co cells slots QQ F H locs lsA hR hS hL
  obtain ⟨hx, hb, hml, hown, hts, hinj, hw, hfr, hlo, hce, hsl, hq⟩ := id F
  exact lv_ladd hx hb hd (kk E p l e R s m args below meth co cells slots QQ F H locs lsA hR hS hL)
theorem ev_lcmp {x y : Int64} (hd : decode cc pc = .ok (.lcmp, 1)) (kk : Ev S own cc nL rt d (pc + 1) ls (.int (lg_cmp x y) :: st) σ Q) : Ev S own cc nL rt d pc ls (.long y :: .long x :: st) σ Q := by
  intro E p l e R s m args below meth co cells slots QQ F H locs lsA hR hS hL
  obtain ⟨hx, hb, hml, hown, hts, hinj, hw, hfr, hlo, hce, hsl, hq⟩ := id F
  exact W.lcmp hx hb hd (kk E p l e R s m args below meth co cells slots QQ F H locs lsA hR hS hL)
theorem ev_dup {v : Value} (hd : decode cc pc = .ok (.dup, 1)) (hc : v.category = 1) (kk : Ev S own cc nL rt d (pc + 1) ls (v :: v :: st) σ Q) : Ev S own cc nL rt d pc ls (v :: st) σ Q := by
  intro E p l e R s m args below meth co cells slots QQ F H locs lsA hR hS hL
  obtain ⟨hx, hb, hml, hown, hts, hinj, hw, hfr, hlo, hce, hsl, hq⟩ := id F
  exact lv_dup hx hb hd (by rw [tv_cat]; exact hc) (kk E p l e R s m args below meth co cells slots QQ F H locs lsA hR hS hL)
theorem ev_pop {v : Value} (hd : decode cc pc = .ok (.pop, 1)) (hc : v.category = 1) (kk : Ev S own cc nL rt d (pc + 1) ls st σ Q) : Ev S own cc nL rt d pc ls (v :: st) σ Q := by
  intro E p l e R s m args below meth co cells slots QQ F H locs lsA hR hS hL
  obtain ⟨hx, hb, hml, hown, hts, hinj, hw, hfr, hlo, hce, hsl, hq⟩ := id F
  exact lv_pop hx hb hd (by rw [tv_cat]; exact hc) (kk E p l e R s m args below meth co cells slots QQ F H locs lsA hR hS hL)
theorem ev_dup2 {v w : Value} (hd : decode cc pc = .ok (.dup2, 1)) (hc : v.category = 1) (hc' : w.category = 1) (kk : Ev S own cc nL rt d (pc + 1) ls (v :: w :: v :: w :: st) σ Q) : Ev S own cc nL rt d pc ls (v :: w :: st) σ Q := by
  intro E p l e R s m args below meth co cells slots QQ F H locs lsA hR hS hL
  obtain ⟨hx, hb, hml, hown, hts, hinj, hw, hfr, hlo, hce, hsl, hq⟩ := id F
  exact lv_dup2_11 hx hb hd (by rw [tv_cat]; exact hc) (by rw [tv_cat]; exact hc') (kk E p l e R s m args below meth co cells slots QQ F H locs lsA hR hS hL)
theorem ev_if_eq {x : Int32} {off : Int} {tgt : Nat} (hd : decode cc pc = .ok (.ifCond .eq off, 3)) (ht : (pc : Int) + off = (tgt : Int)) (kt : x = 0 → Ev S own cc nL rt d tgt ls st σ Q) (kf : ¬ (x = 0) → Ev S own cc nL rt d (pc + 3) ls st σ Q) : Ev S own cc nL rt d pc ls (.int x :: st) σ Q := by
  intro E p l e R s m args below meth co cells slots QQ F H locs lsA hR hS hL
  obtain ⟨hx, hb, hml, hown, hts, hinj, hw, hfr, hlo, hce, hsl, hq⟩ := id F
  exact lv_if_eq hx hb hd ht (fun h => kt h E p l e R s m args below meth co cells slots QQ F H locs lsA hR hS hL) (fun h => kf h E p l e R s m args below meth co cells slots QQ F H locs lsA hR hS hL)
theorem ev_icmp_eq {x y : Int32} {off : Int} {tgt : Nat} (hd : decode cc pc = .ok (.if_icmp .eq off, 3)) (ht : (pc : Int) + off = (tgt : Int)) (kt : x = y → Ev S own cc nL rt d tgt ls st σ Q) (kf : ¬ (x = y) → Ev S own cc nL rt d (pc + 3) ls st σ Q) : Ev S own cc nL rt d pc ls (.int y :: .int x :: st) σ Q := by
  intro E p l e R s m args below meth co cells slots QQ F H locs lsA hR hS hL
  obtain ⟨hx, hb, hml, hown, hts, hinj, hw, hfr, hlo, hce, hsl, hq⟩ := id F
  exact lv_icmp_eq hx hb hd ht (fun h => kt h E p l e R s m args below meth co cells slots QQ F H locs lsA hR hS hL) (fun h => kf h E p l e R s m args below meth co cells slots QQ F H locs lsA hR hS hL)
theorem ev_if_ne {x : Int32} {off : Int} {tgt : Nat} (hd : decode cc pc = .ok (.ifCond .ne off, 3)) (ht : (pc : Int) + off = (tgt : Int)) (kt : ¬ x = 0 → Ev S own cc nL rt d tgt ls st σ Q) (kf : x = 0 → Ev S own cc nL rt d (pc + 3) ls st σ Q) : Ev S own cc nL rt d pc ls (.int x :: st) σ Q := by
  intro E p l e R s m args below meth co cells slots QQ F H locs lsA hR hS hL
  obtain ⟨hx, hb, hml, hown, hts, hinj, hw, hfr, hlo, hce, hsl, hq⟩ := id F
  exact lv_if_ne hx hb hd ht (fun h => kt h E p l e R s m args below meth co cells slots QQ F H locs lsA hR hS hL) (fun h => kf h E p l e R s m args below meth co cells slots QQ F H locs lsA hR hS hL)
theorem ev_icmp_ne {x y : Int32} {off : Int} {tgt : Nat} (hd : decode cc pc = .ok (.if_icmp .ne off, 3)) (ht : (pc : Int) + off = (tgt : Int)) (kt : ¬ x = y → Ev S own cc nL rt d tgt ls st σ Q) (kf : x = y → Ev S own cc nL rt d (pc + 3) ls st σ Q) : Ev S own cc nL rt d pc ls (.int y :: .int x :: st) σ Q := by
  intro E p l e R s m args below meth co cells slots QQ F H locs lsA hR hS hL
  obtain ⟨hx, hb, hml, hown, hts, hinj, hw, hfr, hlo, hce, hsl, hq⟩ := id F
  exact lv_icmp_ne hx hb hd ht (fun h => kt h E p l e R s m args below meth co cells slots QQ F H locs lsA hR hS hL) (fun h => kf h E p l e R s m args below meth co cells slots QQ F H locs lsA hR hS hL)
theorem ev_if_lt {x : Int32} {off : Int} {tgt : Nat} (hd : decode cc pc = .ok (.ifCond .lt off, 3)) (ht : (pc : Int) + off = (tgt : Int)) (kt : x < 0 → Ev S own cc nL rt d tgt ls st σ Q) (kf : ¬ (x < 0) → Ev S own cc nL rt d (pc + 3) ls st σ Q) : Ev S own cc nL rt d pc ls (.int x :: st) σ Q := by
  intro E p l e R s m args below meth co cells slots QQ F H locs lsA hR hS hL
  obtain ⟨hx, hb, hml, hown, hts, hinj, hw, hfr, hlo, hce, hsl, hq⟩ := id F
  exact lv_if_lt hx hb hd ht (fun h => kt h E p l e R s m args below meth co cells slots QQ F H locs lsA hR hS hL) (fun h => kf h E p l e R s m args below meth co cells slots QQ F H locs lsA hR hS hL)
theorem ev_icmp_lt {x y : Int32} {off : Int} {tgt : Nat} (hd : decode cc pc = .ok (.if_icmp .lt off, 3)) (ht : (pc : Int) + off = (tgt : Int)) (kt : x < y → Ev S own cc nL rt d tgt ls st σ Q) (kf : ¬ (x < y) → Ev S own cc nL rt d (pc + 3) ls st σ Q) : Ev S own cc nL rt d pc ls (.int y :: .int x :: st) σ Q := by
  intro E p l e R s m args below meth co cells slots QQ F H locs lsA hR hS hL
  obtain ⟨hx, hb, hml, hown, hts, hinj, hw, hfr, hlo, hce, hsl, hq⟩ := id F
  exact lv_icmp_lt hx hb hd ht (fun h => kt h E p l e R s m args below meth co cells slots QQ F H locs lsA hR hS hL) (fun h => kf h E p l e R s m args below meth co cells slots QQ F H locs lsA hR hS hL)
theorem ev_if_ge {x : Int32} {off : Int} {tgt : Nat} (hd : decode cc pc = .ok (.ifCond .ge off, 3)) (ht : (pc : Int) + off = (tgt : Int)) (kt : 0 ≤ x → Ev S own cc nL rt d tgt ls st σ Q) (kf : ¬ (0 ≤ x) → Ev S own cc nL rt d (pc + 3) ls st σ Q) : Ev S own cc nL rt d pc ls (.int x :: st) σ Q := by
  intro E p l e R s m args below meth co cells slots QQ F H locs lsA hR hS hL
  obtain ⟨hx, hb, hml, hown, hts, hinj, hw, hfr, hlo, hce, hsl, hq⟩ := id F
  exact lv_if_ge hx hb hd ht (fun h => kt h E p l e R s m args below meth co cells slots QQ F H locs lsA hR hS hL) (fun h => kf h E p l e R s m args below meth co cells slots QQ F H locs lsA hR hS hL)
theorem ev_icmp_ge {x y : Int32} {off : Int} {tgt : Nat} (hd : decode cc pc = .ok (.if_icmp .ge off, 3)) (ht : (pc : Int) + off = (tgt : Int)) (kt : y ≤ x → Ev S own cc nL rt d tgt ls st σ Q) (kf : ¬ (y ≤ x) → Ev S own cc nL rt d (pc + 3) ls st σ Q) : Ev S own cc nL rt d pc ls (.int y :: .int x :: st) σ Q := by
  intro E p l e R s m args below meth co cells slots QQ F H locs lsA hR hS hL
  obtain ⟨hx, hb, hml, hown, hts, hinj, hw, hfr, hlo, hce, hsl, hq⟩ := id F
  exact lv_icmp_ge hx hb hd ht (fun h => kt h E p l e R s m args below meth co cells slots QQ F H locs lsA hR hS hL) (fun h => kf h E p l e R s m args below meth co cells slots QQ F H locs lsA hR hS hL)
theorem ev_if_gt {x : Int32} {off : Int} {tgt : Nat} (hd : decode cc pc = .ok (.ifCond .gt off, 3)) (ht : (pc : Int) + off = (tgt : Int)) (kt : 0 < x → Ev S own cc nL rt d tgt ls st σ Q) (kf : ¬ (0 < x) → Ev S own cc nL rt d (pc + 3) ls st σ Q) : Ev S own cc nL rt d pc ls (.int x :: st) σ Q := by
  intro E p l e R s m args below meth co cells slots QQ F H locs lsA hR hS hL
  obtain ⟨hx, hb, hml, hown, hts, hinj, hw, hfr, hlo, hce, hsl, hq⟩ := id F
  exact lv_if_gt hx hb hd ht (fun h => kt h E p l e R s m args below meth co cells slots QQ F H locs lsA hR hS hL) (fun h => kf h E p l e R s m args below meth co cells slots QQ F H locs lsA hR hS hL)
theorem ev_icmp_gt {x y : Int32} {off : Int} {tgt : Nat} (hd : decode cc pc = .ok (.if_icmp .gt off, 3)) (ht : (pc : Int) + off = (tgt : Int)) (kt : y < x → Ev S own cc nL rt d tgt ls st σ Q) (kf : ¬ (y < x) → Ev S own cc nL rt d (pc + 3) ls st σ Q) : Ev S own cc nL rt d pc ls (.int y :: .int x :: st) σ Q := by
  intro E p l e R s m args below meth co cells slots QQ F H locs lsA hR hS hL
  obtain ⟨hx, hb, hml, hown, hts, hinj, hw, hfr, hlo, hce, hsl, hq⟩ := id F
  exact lv_icmp_gt hx hb hd ht (fun h => kt h E p l e R s m args below meth co cells slots QQ F H locs lsA hR hS hL) (fun h => kf h E p l e R s m args below meth co cells slots QQ F H locs lsA hR hS hL)
theorem ev_if_le {x : Int32} {off : Int} {tgt : Nat} (hd : decode cc pc = .ok (.ifCond .le off, 3)) (ht : (pc : Int) + off = (tgt : Int)) (kt : x ≤ 0 → Ev S own cc nL rt d tgt ls st σ Q) (kf : ¬ (x ≤ 0) → Ev S own cc nL rt d (pc + 3) ls st σ Q) : Ev S own cc nL rt d pc ls (.int x :: st) σ Q := by
  intro E p l e R s m args below meth co cells slots QQ F H locs lsA hR hS hL
  obtain ⟨hx, hb, hml, hown, hts, hinj, hw, hfr, hlo, hce, hsl, hq⟩ := id F
  exact lv_if_le hx hb hd ht (fun h => kt h E p l e R s m args below meth co cells slots QQ F H locs lsA hR hS hL) (fun h => kf h E p l e R s m args below meth co cells slots QQ F H locs lsA hR hS hL)
theorem ev_icmp_le {x y : Int32} {off : Int} {tgt : Nat} (hd : decode cc pc = .ok (.if_icmp .le off, 3)) (ht : (pc : Int) + off = (tgt : Int)) (kt : x ≤ y → Ev S own cc nL rt d tgt ls st σ Q) (kf : ¬ (x ≤ y) → Ev S own cc nL rt d (pc + 3) ls st σ Q) : Ev S own cc nL rt d pc ls (.int y :: .int x :: st) σ Q := by
  intro E p l e R s m args below meth co cells slots QQ F H locs lsA hR hS hL
  obtain ⟨hx, hb, hml, hown, hts, hinj, hw, hfr, hlo, hce, hsl, hq⟩ := id F
  exact lv_icmp_le hx hb hd ht (fun h => kt h E p l e R s m args below meth co cells slots QQ F H locs lsA hR hS hL) (fun h => kf h E p l e R s m args below meth co cells slots QQ F H locs lsA hR hS hL)
theorem ev_goto {off : Int} {tgt : Nat} (hd : decode cc pc = .ok (.goto off, 3)) (ht : (pc : Int) + off = (tgt : Int)) (kk : Ev S own cc nL rt d tgt ls st σ Q) : Ev S own cc nL rt d pc ls st σ Q := by
  intro E p l e R s m args below meth co cells slots QQ F H locs lsA hR hS hL
  obtain ⟨hx, hb, hml, hown, hts, hinj, hw, hfr, hlo, hce, hsl, hq⟩ := id F
  exact lv_goto hx hb hd ht (kk E p l e R s m args below meth co cells slots QQ F H locs lsA hR hS hL)
theorem ev_tableOut {dflt lo hi : Int} {offs : Array Int} {len : Nat} {x : Int32} {tgt : Nat} (hd : decode cc pc = .ok (.tableswitch dflt lo hi offs, len)) (h : x.toInt < lo ∨ hi < x.toInt) (ht : (pc : Int) + dflt = (tgt : Int)) (kk : Ev S own cc nL rt d tgt ls st σ Q) : Ev S own cc nL rt d pc ls (.int x :: st) σ Q := by
  intro E p l e R s m args below meth co cells slots QQ F H locs lsA hR hS hL
  obtain ⟨hx, hb, hml, hown, hts, hinj, hw, hfr, hlo, hce, hsl, hq⟩ := id F
  exact lv_tableOut hx hb hd h ht (kk E p l e R s m args below meth co cells slots QQ F H locs lsA hR hS hL)
theorem ev_tableIn {dflt lo hi : Int} {offs : Array Int} {len : Nat} {x : Int32} {off : Int} {tgt : Nat} (hd : decode cc pc = .ok (.tableswitch dflt lo hi offs, len)) (h1 : ¬ x.toInt < lo) (h2 : ¬ hi < x.toInt) (ho : offs[(x.toInt - lo).toNat]? = some off) (ht : (pc : Int) + off = (tgt : Int)) (kk : Ev S own cc nL rt d tgt ls st σ Q) : Ev S own cc nL rt d pc ls (.int x :: st) σ Q := by
  intro E p l e R s m args below meth co cells slots QQ F H locs lsA hR hS hL
  obtain ⟨hx, hb, hml, hown, hts, hinj, hw, hfr, hlo, hce, hsl, hq⟩ := id F
  exact lv_tableIn hx hb hd h1 h2 ho ht (kk E p l e R s m args below meth co cells slots QQ F H locs lsA hR hS hL)
/-- a field's link, and its class's tables -/
def FL (own : String) (idx c j : Nat) : Prop := ∃ (C : String) (T : u_T) (N : Nat) (ty0 : Nat → FieldType), vwCl[c]? = some (C, T, N) ∧ c < 9 ∧ N = nfl c ∧ (∀ w ∈ u_ws C T N, w ∈ TBg) ∧ j < N ∧ Cond.fieldLink own idx C (T j).2.1 (T j).2.2.1 ∈ TBg ∧ (∀ k, k < N → parseFieldDescriptor (T k).2.2.1 = some (ty0 k)) ∧ (∀ a, a < N → ∀ b, b < N → a ≠ b → (T a).2.1 ≠ (T b).2.1) ∧ (T j).1 = C ∧ (fty c j < 3 → (T j).2.2.2 = false) ∧ (fty c j = 0 → ty0 j = .int) ∧ (fty c j = 1 → ty0 j = .boolean) ∧ (fty c j = 2 → ty0 j = .long)
theorem ev_getI {idx c j k : Nat} (hd : decode cc pc = .ok (.getfield idx, 3)) (hF : FL own idx c j) (hk : k < NC) (hc : kd k = c) (ht : fty c j = 0 ∨ fty c j = 1) (kk : Ev S own cc nL rt d (pc + 3) ls (.int (σ.1 k j) :: st) σ Q) : Ev S own cc nL rt d pc ls (.ref k :: st) σ Q := by
  intro E p l e R s m args below meth co cells slots QQ F H locs lsA hR hS hL
  obtain ⟨hx, hb, hml, hown, hts, hinj, hw, hfr, hlo, hce, hsl, hq⟩ := id F
  obtain ⟨C, T, N, ty0, f1, f2, f3, f4, f5, f6, f7, f8, f9, -⟩ := hF
  have ha := wsO_at (ka := E.2.1) (ρ := E.2.2) (σ := σ) hk
  rw [ce_obj hc f2] at ha
  have hv : ((List.range (nfl c)).map (fv E.2.2 σ k))[j]? = some (tv E.2.2 (.int (σ.1 k j))) := by
    rw [List.getElem?_map, List.getElem?_range (by omega)]
    subst hc
    rcases ht with ht | ht <;> simp [fv, ht, tv]
  exact va_get (v := tv E.2.2 (.int (σ.1 k j))) hx hb hts f4 hown hw.1 hR k ha f1 j f5 (hts _ f6) (fun x h => by rw [f9] at h; exact h) hv hd (kk E p l e R s m args below meth co cells slots QQ F H locs lsA hR hS hL)
theorem ev_getL {idx c j k : Nat} (hd : decode cc pc = .ok (.getfield idx, 3)) (hF : FL own idx c j) (hk : k < NC) (hc : kd k = c) (ht : fty c j = 2) (kk : Ev S own cc nL rt d (pc + 3) ls (.long (σ.2 k) :: st) σ Q) : Ev S own cc nL rt d pc ls (.ref k :: st) σ Q := by
  intro E p l e R s m args below meth co cells slots QQ F H locs lsA hR hS hL
  obtain ⟨hx, hb, hml, hown, hts, hinj, hw, hfr, hlo, hce, hsl, hq⟩ := id F
  obtain ⟨C, T, N, ty0, f1, f2, f3, f4, f5, f6, f7, f8, f9, -⟩ := hF
  have ha := wsO_at (ka := E.2.1) (ρ := E.2.2) (σ := σ) hk
  rw [ce_obj hc f2] at ha
  have hv : ((List.range (nfl c)).map (fv E.2.2 σ k))[j]? = some (tv E.2.2 (.long (σ.2 k))) := by
    rw [List.getElem?_map, List.getElem?_range (by omega)]
    subst hc
    simp [fv, ht, tv]
  exact va_get (v := tv E.2.2 (.long (σ.2 k))) hx hb hts f4 hown hw.1 hR k ha f1 j f5 (hts _ f6) (fun x h => by rw [f9] at h; exact h) hv hd (kk E p l e R s m args below meth co cells slots QQ F H locs lsA hR hS hL)
theorem ev_getR {idx c j k r : Nat} (hd : decode cc pc = .ok (.getfield idx, 3)) (hF : FL own idx c j) (hk : k < NC) (hc : kd k = c) (ht : fty c j = 3) (hr : rf k j = r) (kk : Ev S own cc nL rt d (pc + 3) ls (.ref r :: st) σ Q) : Ev S own cc nL rt d pc ls (.ref k :: st) σ Q := by
  intro E p l e R s m args below meth co cells slots QQ F H locs lsA hR hS hL
  obtain ⟨hx, hb, hml, hown, hts, hinj, hw, hfr, hlo, hce, hsl, hq⟩ := id F
  obtain ⟨C, T, N, ty0, f1, f2, f3, f4, f5, f6, f7, f8, f9, -⟩ := hF
  have ha := wsO_at (ka := E.2.1) (ρ := E.2.2) (σ := σ) hk
  rw [ce_obj hc f2] at ha
  have hv : ((List.range (nfl c)).map (fv E.2.2 σ k))[j]? = some (tv E.2.2 (.ref r)) := by
    rw [List.getElem?_map, List.getElem?_range (by omega)]
    subst hc
    simp [fv, ht, tv, hr]
  exact va_get (v := tv E.2.2 (.ref r)) hx hb hts f4 hown hw.1 hR k ha f1 j f5 (hts _ f6) (fun x h => by rw [f9] at h; exact h) hv hd (kk E p l e R s m args below meth co cells slots QQ F H locs lsA hR hS hL)
theorem ev_putI {idx c j k : Nat} {x : Int32} (hd : decode cc pc = .ok (.putfield idx, 3)) (hF : FL own idx c j) (hk : k < NC) (hc : kd k = c) (ht : fty c j = 0) (kk : Ev S own cc nL rt d (pc + 3) ls st (wr σ k j x) Q) : Ev S own cc nL rt d pc ls (.int x :: .ref k :: st) σ Q := by
  intro E p l e R s m args below meth co cells slots QQ F H locs lsA hR hS hL
  obtain ⟨hx, hb, hml, hown, hts, hinj, hw, hfr, hlo, hce, hsl, hq⟩ := id F
  obtain ⟨C, T, N, ty0, f1, f2, f3, f4, f5, f6, f7, f8, f9, g1, g2, g3, g4⟩ := hF
  have ha := wsO_at (ka := E.2.1) (ρ := E.2.2) (σ := σ) hk
  rw [ce_obj hc f2] at ha
  refine va_put (v := .int x) (ty := .int) hx hb hts f4 ty0 f7 f8 hown hw.1 hR (wsO_D hinj) hS k ha f1 j f5 (hts _ f6) (fun z h => by rw [f9] at h; exact h) (g1 (by omega)) (by rw [f7 j f5]; first | rw [g2 ht] | rw [g3 ht] | rw [g4 ht]) rfl rfl (by simp; omega) hd (fun H1 locs1 hP1 hD1 hS1 => ?_)
  have hse := wsO_set (ka := E.2.1) (ρ := E.2.2) (σ := σ) (σ' := (wr σ k j x)) (k := k) (q := (E.2.2 k, .inr (c, ((List.range (nfl c)).map (fv E.2.2 σ k)).set j (.int x)))) hk (by
    rw [ce_obj hc f2]
    congr 3
    apply List.ext_getElem?
    intro i
    rw [List.getElem?_set]
    by_cases hi : i < nfl c
    · rw [List.getElem?_map, List.getElem?_map, List.getElem?_range hi]
      subst hc
      by_cases hij : j = i
      · subst hij
        simp [hi, fv, ht, wr]
      · simp [hij, fv, wr, Ne.symm hij, fun z => hij z]
        first | done | (intro z; exact absurd z.symm hij) | skip
    · have h1 : ((List.range (nfl c)).map (fv E.2.2 ((wr σ k j x)) k))[i]? = none := List.getElem?_eq_none (by simp; omega)
      have h2 : ((List.range (nfl c)).map (fv E.2.2 σ k))[i]? = none := List.getElem?_eq_none (by simp; omega)
      rw [h1, h2]
      by_cases hij : j = i
      · subst hij
        simp [hi]
      · simp [hij]) (fun i _ hi => by first | exact ce_wr_ne hi | exact ce_wrL_ne hi)
  rw [hse] at hP1
  exact kk E p l e R s m args below meth co cells slots QQ F H1 locs1 lsA hP1 hS1 hL
theorem ev_putZ {idx c j k : Nat} {x : Int32} (hd : decode cc pc = .ok (.putfield idx, 3)) (hF : FL own idx c j) (hk : k < NC) (hc : kd k = c) (ht : fty c j = 1) (hx01 : x = 0 ∨ x = 1) (kk : Ev S own cc nL rt d (pc + 3) ls st (wr σ k j x) Q) : Ev S own cc nL rt d pc ls (.int x :: .ref k :: st) σ Q := by
  intro E p l e R s m args below meth co cells slots QQ F H locs lsA hR hS hL
  obtain ⟨hx, hb, hml, hown, hts, hinj, hw, hfr, hlo, hce, hsl, hq⟩ := id F
  obtain ⟨C, T, N, ty0, f1, f2, f3, f4, f5, f6, f7, f8, f9, g1, g2, g3, g4⟩ := hF
  have ha := wsO_at (ka := E.2.1) (ρ := E.2.2) (σ := σ) hk
  rw [ce_obj hc f2] at ha
  refine va_put (v := .int x) (ty := .boolean) hx hb hts f4 ty0 f7 f8 hown hw.1 hR (wsO_D hinj) hS k ha f1 j f5 (hts _ f6) (fun z h => by rw [f9] at h; exact h) (g1 (by omega)) (by rw [f7 j f5]; first | rw [g2 ht] | rw [g3 ht] | rw [g4 ht]) (by rcases hx01 with h | h <;> subst h <;> rfl) (by rcases hx01 with h | h <;> subst h <;> rfl) (by simp; omega) hd (fun H1 locs1 hP1 hD1 hS1 => ?_)
  have hse := wsO_set (ka := E.2.1) (ρ := E.2.2) (σ := σ) (σ' := (wr σ k j x)) (k := k) (q := (E.2.2 k, .inr (c, ((List.range (nfl c)).map (fv E.2.2 σ k)).set j (.int x)))) hk (by
    rw [ce_obj hc f2]
    congr 3
    apply List.ext_getElem?
    intro i
    rw [List.getElem?_set]
    by_cases hi : i < nfl c
    · rw [List.getElem?_map, List.getElem?_map, List.getElem?_range hi]
      subst hc
      by_cases hij : j = i
      · subst hij
        simp [hi, fv, ht, wr]
      · simp [hij, fv, wr, Ne.symm hij, fun z => hij z]
        first | done | (intro z; exact absurd z.symm hij) | skip
    · have h1 : ((List.range (nfl c)).map (fv E.2.2 ((wr σ k j x)) k))[i]? = none := List.getElem?_eq_none (by simp; omega)
      have h2 : ((List.range (nfl c)).map (fv E.2.2 σ k))[i]? = none := List.getElem?_eq_none (by simp; omega)
      rw [h1, h2]
      by_cases hij : j = i
      · subst hij
        simp [hi]
      · simp [hij]) (fun i _ hi => by first | exact ce_wr_ne hi | exact ce_wrL_ne hi)
  rw [hse] at hP1
  exact kk E p l e R s m args below meth co cells slots QQ F H1 locs1 lsA hP1 hS1 hL
theorem ev_putL {idx c j k : Nat} {x : Int64} (hd : decode cc pc = .ok (.putfield idx, 3)) (hF : FL own idx c j) (hk : k < NC) (hc : kd k = c) (ht : fty c j = 2) (hone : ∀ i, i < nfl c → fty c i = 2 → i = j) (kk : Ev S own cc nL rt d (pc + 3) ls st (wrL σ k x) Q) : Ev S own cc nL rt d pc ls (.long x :: .ref k :: st) σ Q := by
  intro E p l e R s m args below meth co cells slots QQ F H locs lsA hR hS hL
  obtain ⟨hx, hb, hml, hown, hts, hinj, hw, hfr, hlo, hce, hsl, hq⟩ := id F
  obtain ⟨C, T, N, ty0, f1, f2, f3, f4, f5, f6, f7, f8, f9, g1, g2, g3, g4⟩ := hF
  have ha := wsO_at (ka := E.2.1) (ρ := E.2.2) (σ := σ) hk
  rw [ce_obj hc f2] at ha
  refine va_put (v := .long x) (ty := .long) hx hb hts f4 ty0 f7 f8 hown hw.1 hR (wsO_D hinj) hS k ha f1 j f5 (hts _ f6) (fun z h => by rw [f9] at h; exact h) (g1 (by omega)) (by rw [f7 j f5]; first | rw [g2 ht] | rw [g3 ht] | rw [g4 ht]) rfl rfl (by simp; omega) hd (fun H1 locs1 hP1 hD1 hS1 => ?_)
  have hse := wsO_set (ka := E.2.1) (ρ := E.2.2) (σ := σ) (σ' := (wrL σ k x)) (k := k) (q := (E.2.2 k, .inr (c, ((List.range (nfl c)).map (fv E.2.2 σ k)).set j (.long x)))) hk (by
    rw [ce_obj hc f2]
    congr 3
    apply List.ext_getElem?
    intro i
    rw [List.getElem?_set]
    by_cases hi : i < nfl c
    · rw [List.getElem?_map, List.getElem?_map, List.getElem?_range hi]
      subst hc
      by_cases hij : j = i
      · subst hij
        simp [hi, fv, ht, wrL]
      · simp only [hij, fv, wrL, if_false]
        have hne : ¬ fty (kd k) i = 2 := fun z => hij (hone i hi z).symm
        simp [fv, hne]
    · have h1 : ((List.range (nfl c)).map (fv E.2.2 ((wrL σ k x)) k))[i]? = none := List.getElem?_eq_none (by simp; omega)
      have h2 : ((List.range (nfl c)).map (fv E.2.2 σ k))[i]? = none := List.getElem?_eq_none (by simp; omega)
      rw [h1, h2]
      by_cases hij : j = i
      · subst hij
        simp [hi]
      · simp [hij]) (fun i _ hi => by first | exact ce_wr_ne hi | exact ce_wrL_ne hi)
  rw [hse] at hP1
  exact kk E p l e R s m args below meth co cells slots QQ F H1 locs1 lsA hP1 hS1 hL
theorem ev_iaload {k : Nat} {i : Int32} (hd : decode cc pc = .ok (.iaload, 1)) (hk : k < NC) (hc : kd k = 10) (hin : vp_in i (ln k)) (kk : Ev S own cc nL rt d (pc + 1) ls (.int (σ.1 k i.toNatClampNeg) :: st) σ Q) : Ev S own cc nL rt d pc ls (.int i :: .ref k :: st) σ Q := by
  intro E p l e R s m args below meth co cells slots QQ F H locs lsA hR hS hL
  obtain ⟨hx, hb, hml, hown, hts, hinj, hw, hfr, hlo, hce, hsl, hq⟩ := id F
  have ha := wsO_at (ka := E.2.1) (ρ := E.2.2) (σ := σ) hk
  rw [ce_int hc (by omega) (by omega)] at ha
  exact va_iald hx hb hw.1 hR k 0 ha rfl hin hd (kk E p l e R s m args below meth co cells slots QQ F H locs lsA hR hS hL)
theorem ev_baload {k : Nat} {i : Int32} (hd : decode cc pc = .ok (.baload, 1)) (hk : k < NC) (hc : kd k = 11) (hin : vp_in i (ln k)) (kk : Ev S own cc nL rt d (pc + 1) ls (.int (σ.1 k i.toNatClampNeg) :: st) σ Q) : Ev S own cc nL rt d pc ls (.int i :: .ref k :: st) σ Q := by
  intro E p l e R s m args below meth co cells slots QQ F H locs lsA hR hS hL
  obtain ⟨hx, hb, hml, hown, hts, hinj, hw, hfr, hlo, hce, hsl, hq⟩ := id F
  have ha := wsO_at (ka := E.2.1) (ρ := E.2.2) (σ := σ) hk
  rw [ce_int hc (by omega) (by omega)] at ha
  exact va_zald hx hb hw.1 hR k 1 ha rfl hin hd (kk E p l e R s m args below meth co cells slots QQ F H locs lsA hR hS hL)
theorem ev_aaload {k c t r : Nat} {i : Int32} (hd : decode cc pc = .ok (.aaload, 1)) (hk : k < NC) (hc : kd k = c) (h12 : 12 ≤ c) (h15 : c < 15) (hin : vp_in i (ln k)) (hr : rf k i.toNatClampNeg = r) (kk : Ev S own cc nL rt d (pc + 1) ls (.ref r :: st) σ Q) : Ev S own cc nL rt d pc ls (.int i :: .ref k :: st) σ Q := by
  intro E p l e R s m args below meth co cells slots QQ F H locs lsA hR hS hL
  obtain ⟨hx, hb, hml, hown, hts, hinj, hw, hfr, hlo, hce, hsl, hq⟩ := id F
  subst hr
  have ha := wsO_at (ka := E.2.1) (ρ := E.2.2) (σ := σ) hk
  rw [ce_ref hc h12] at ha
  have hlt : i.toNatClampNeg < ln k := Nat.not_le.mp fun q => hin (Or.inr q)
  obtain ⟨ty, hty, t0, ht0⟩ : ∃ ty : FieldType, ty.isReference = true ∧ ∃ t0 : Nat, (tysOf E.2.1)[t0]? = some (E.2.1 c, ty) := by
    rcases (show c = 12 ∨ c = 13 ∨ c = 14 by omega) with rfl | rfl | rfl
    · exact ⟨_, rfl, 2, rfl⟩
    · exact ⟨_, rfl, 3, rfl⟩
    · exact ⟨_, rfl, 4, rfl⟩
  exact W.aald (v := .ref (E.2.2 (rf k i.toNatClampNeg))) (ty := ty) hx hb (hR k _ ha) ((hw.1.2 t0 _ ht0).1 (ln k) (fun j => va_rf (some (E.2.2 (rf k j))))) hty (fun q => by cases q) (by show ¬ (i < 0 ∨ (arrV _ _ _).slots.size ≤ _); rw [arrV_size]; exact hin) (by show (arrV _ _ _).slots[_]? = _; rw [arrV_read _ _ hlt]; rfl) rfl rfl hd (kk E p l e R s m args below meth co cells slots QQ F H locs lsA hR hS hL)
theorem ev_iastore {k : Nat} {i x : Int32} (hd : decode cc pc = .ok (.iastore, 1)) (hk : k < NC) (hc : kd k = 10) (hin : vp_in i (ln k))  (kk : Ev S own cc nL rt d (pc + 1) ls st (wr σ k i.toNatClampNeg x) Q) : Ev S own cc nL rt d pc ls (.int x :: .int i :: .ref k :: st) σ Q := by
  intro E p l e R s m args below meth co cells slots QQ F H locs lsA hR hS hL
  obtain ⟨hx, hb, hml, hown, hts, hinj, hw, hfr, hlo, hce, hsl, hq⟩ := id F
  have ha := wsO_at (ka := E.2.1) (ρ := E.2.2) (σ := σ) hk
  rw [ce_int hc (by omega) (by omega)] at ha
  refine va_iast hx hb hw.1 hR (wsO_D hinj) hS k 0 ha rfl hin hd (fun H1 locs1 hP1 hD1 hS1 => ?_)
  skip
  have hfe : upd (σ.1 k) i.toNatClampNeg x = (wr σ k i.toNatClampNeg x).1 k := by
    funext b
    by_cases hb : b = i.toNatClampNeg
    · simp [upd, wr, hb]
    · simp [upd, wr, hb]
  rw [wsO_set (σ' := wr σ k i.toNatClampNeg x) hk (by rw [ce_int hc (by omega) (by omega), hfe]) (fun j _ hj => ce_wr_ne hj)] at hP1
  exact kk E p l e R s m args below meth co cells slots QQ F H1 locs1 lsA hP1 hS1 hL
theorem ev_bastore {k : Nat} {i x : Int32} (hd : decode cc pc = .ok (.bastore, 1)) (hk : k < NC) (hc : kd k = 11) (hin : vp_in i (ln k)) (hx01 : x = 0 ∨ x = 1) (kk : Ev S own cc nL rt d (pc + 1) ls st (wr σ k i.toNatClampNeg x) Q) : Ev S own cc nL rt d pc ls (.int x :: .int i :: .ref k :: st) σ Q := by
  intro E p l e R s m args below meth co cells slots QQ F H locs lsA hR hS hL
  obtain ⟨hx, hb, hml, hown, hts, hinj, hw, hfr, hlo, hce, hsl, hq⟩ := id F
  have ha := wsO_at (ka := E.2.1) (ρ := E.2.2) (σ := σ) hk
  rw [ce_int hc (by omega) (by omega)] at ha
  refine va_zast hx hb hw.1 hR (wsO_D hinj) hS k 1 ha rfl hin hd (fun H1 locs1 hP1 hD1 hS1 => ?_)
  rw [show vp_nar .boolean x = x by rcases hx01 with h | h <;> subst h <;> rfl] at hP1
  have hfe : upd (σ.1 k) i.toNatClampNeg x = (wr σ k i.toNatClampNeg x).1 k := by
    funext b
    by_cases hb : b = i.toNatClampNeg
    · simp [upd, wr, hb]
    · simp [upd, wr, hb]
  rw [wsO_set (σ' := wr σ k i.toNatClampNeg x) hk (by rw [ce_int hc (by omega) (by omega), hfe]) (fun j _ hj => ce_wr_ne hj)] at hP1
  exact kk E p l e R s m args below meth co cells slots QQ F H1 locs1 lsA hP1 hS1 hL
theorem ev_arraylength {k c : Nat} {v : Int32} (hd : decode cc pc = .ok (.arraylength, 1)) (hk : k < NC) (hc : kd k = c) (hci : c = 10 ∨ c = 11) (hv : Int32.ofNat (ln k) = v) (kk : Ev S own cc nL rt d (pc + 1) ls (.int v :: st) σ Q) : Ev S own cc nL rt d pc ls (.ref k :: st) σ Q := by
  intro E p l e R s m args below meth co cells slots QQ F H locs lsA hR hS hL
  obtain ⟨hx, hb, hml, hown, hts, hinj, hw, hfr, hlo, hce, hsl, hq⟩ := id F
  have ha := wsO_at (ka := E.2.1) (ρ := E.2.2) (σ := σ) hk
  rw [ce_int hc (by omega) (by omega)] at ha
  rcases hci with rfl | rfl
  · exact va_alen hx hb hw.1 hR k 0 ha rfl hv hd (kk E p l e R s m args below meth co cells slots QQ F H locs lsA hR hS hL)
  · exact va_alen hx hb hw.1 hR k 1 ha rfl hv hd (kk E p l e R s m args below meth co cells slots QQ F H locs lsA hR hS hL)
theorem ev_getLim (hd : decode cc pc = .ok (.getstatic 15, 3)) (ho : own = RX6) (kk : Ev S own cc nL rt d (pc + 3) ls (.ref 131 :: st) σ Q) : Ev S own cc nL rt d pc ls st σ Q := by
  intro E p l e R s m args below meth co cells slots QQ F H locs lsA hR hS hL
  obtain ⟨hx, hb, hml, hown, hts, hinj, hw, hfr, hlo, hce, hsl, hq⟩ := id F
  subst ho
  exact va_getsN hx hb hw.2.2.1 hS hown (va_Nw.use rfl (hw.2.1 _ List.mem_cons_self)) (fun _ h => h) hd (kk E p l e R s m args below meth co cells slots QQ F H locs lsA hR hS hL)
theorem ev_limld {i : Int32} {v : Int32} (hd : decode cc pc = .ok (.iaload, 1)) (hin : vp_in i 6) (hv : ([5, 5, 5, 5, 2, 1] : List Int32).getD i.toNatClampNeg 0 = v) (kk : Ev S own cc nL rt d (pc + 1) ls (.int v :: st) σ Q) : Ev S own cc nL rt d pc ls (.int i :: .ref 131 :: st) σ Q := by
  intro E p l e R s m args below meth co cells slots QQ F H locs lsA hR hS hL
  obtain ⟨hx, hb, hml, hown, hts, hinj, hw, hfr, hlo, hce, hsl, hq⟩ := id F
  exact va_ti hx hb hw.2.2.2.1 hS hin (v := .int v) (by unfold limV; rw [hv]) hd (kk E p l e R s m args below meth co cells slots QQ F H locs lsA hR hS hL)
theorem ev_limlen {v : Int32} (hd : decode cc pc = .ok (.arraylength, 1)) (hv : Int32.ofNat 6 = v) (kk : Ev S own cc nL rt d (pc + 1) ls (.int v :: st) σ Q) : Ev S own cc nL rt d pc ls (.ref 131 :: st) σ Q := by
  intro E p l e R s m args below meth co cells slots QQ F H locs lsA hR hS hL
  obtain ⟨hx, hb, hml, hown, hts, hinj, hw, hfr, hlo, hce, hsl, hq⟩ := id F
  exact va_tlen hx hb hw.2.2.2.1 hS hv hd (kk E p l e R s m args below meth co cells slots QQ F H locs lsA hR hS hL)
theorem ev_scrld {i : Int32} (hd : decode cc pc = .ok (.iaload, 1)) (hin : vp_in i S.1) (kk : Ev S own cc nL rt d (pc + 1) ls (.int (S.2 i.toNatClampNeg) :: st) σ Q) : Ev S own cc nL rt d pc ls (.int i :: .ref 132 :: st) σ Q := by
  intro E p l e R s m args below meth co cells slots QQ F H locs lsA hR hS hL
  obtain ⟨hx, hb, hml, hown, hts, hinj, hw, hfr, hlo, hce, hsl, hq⟩ := id F
  exact va_sld hx hb hw.2.2.2.2.1 hw.2.2.2.2.2.1 hw.2.2.2.2.2.2 hS hin hd (kk E p l e R s m args below meth co cells slots QQ F H locs lsA hR hS hL)
theorem ev_scrlen (hd : decode cc pc = .ok (.arraylength, 1)) (kk : Ev S own cc nL rt d (pc + 1) ls (.int (Int32.ofNat S.1) :: st) σ Q) : Ev S own cc nL rt d pc ls (.ref 132 :: st) σ Q := by
  intro E p l e R s m args below meth co cells slots QQ F H locs lsA hR hS hL
  obtain ⟨hx, hb, hml, hown, hts, hinj, hw, hfr, hlo, hce, hsl, hq⟩ := id F
  exact va_slen hx hb hw.2.2.2.2.1 hw.2.2.2.2.2.1 hw.2.2.2.2.2.2 hS hd (kk E p l e R s m args below meth co cells slots QQ F H locs lsA hR hS hL)
def LM (own : String) (idx : Nat) (y : MethodName) (b : ByteArray) (n : Nat) : Prop := Cond.methodLink own idx y ∈ TBg ∧ Cond.static y ∈ TBg ∧ Cond.initialized "java/lang/Math" ∈ TBg ∧ Cond.code y b n (some .int) ∈ TBg
theorem st_sum (ρ : Nat → Nat) (st : List Value) : ((st.map (tv ρ)).map fun v => v.category).sum = (st.map fun v => v.category).sum := by
  rw [List.map_map]; congr 1; apply List.map_congr_left; intro v _; exact tv_cat ρ v
theorem ev_mmax {idx : Nat} {x y : Int32} (hd : decode cc pc = .ok (.invokestatic idx, 3)) (hM : LM own idx Lib.Math.max.name Lib.Math.max.code 2) (h1 : 0 < d) (h8 : (st.map fun v => v.category).sum ≤ 8) (kk : Ev S own cc nL rt d (pc + 3) ls (.int (if x < y then y else x) :: st) σ Q) : Ev S own cc nL rt d pc ls (.int y :: .int x :: st) σ Q := by
  intro E p l e R s m args below meth co cells slots QQ F H locs lsA hR hS hL
  obtain ⟨hx, hb, hml, hown, hts, hinj, hw, hfr, hlo, hce, hsl, hq⟩ := id F
  exact va_mmax hx hb (by rw [hml]; exact hL.1.symm) hown (hts _ hM.1) (hts _ hM.2.1) (hts _ hM.2.2.1) (hts _ hM.2.2.2) (by omega) (by rw [st_sum]; omega) hce hsl hd (kk E p l e R s m args below meth co cells slots QQ F H locs lsA hR hS hL)
theorem ev_mmin {idx : Nat} {x y : Int32} (hd : decode cc pc = .ok (.invokestatic idx, 3)) (hM : LM own idx Lib.Math.min.name Lib.Math.min.code 2) (h1 : 0 < d) (h8 : (st.map fun v => v.category).sum ≤ 8) (kk : Ev S own cc nL rt d (pc + 3) ls (.int (if y < x then y else x) :: st) σ Q) : Ev S own cc nL rt d pc ls (.int y :: .int x :: st) σ Q := by
  intro E p l e R s m args below meth co cells slots QQ F H locs lsA hR hS hL
  obtain ⟨hx, hb, hml, hown, hts, hinj, hw, hfr, hlo, hce, hsl, hq⟩ := id F
  exact va_mmin hx hb (by rw [hml]; exact hL.1.symm) hown (hts _ hM.1) (hts _ hM.2.1) (hts _ hM.2.2.1) (hts _ hM.2.2.2) (by omega) (by rw [st_sum]; omega) hce hsl hd (kk E p l e R s m args below meth co cells slots QQ F H locs lsA hR hS hL)
theorem ev_mabs {idx : Nat} {x : Int32} (hd : decode cc pc = .ok (.invokestatic idx, 3)) (hM : LM own idx Lib.Math.abs.name Lib.Math.abs.code 1) (h1 : 0 < d) (h8 : (st.map fun v => v.category).sum ≤ 8) (kk : Ev S own cc nL rt d (pc + 3) ls (.int (if 0 ≤ x then x else 0 - x) :: st) σ Q) : Ev S own cc nL rt d pc ls (.int x :: st) σ Q := by
  intro E p l e R s m args below meth co cells slots QQ F H locs lsA hR hS hL
  obtain ⟨hx, hb, hml, hown, hts, hinj, hw, hfr, hlo, hce, hsl, hq⟩ := id F
  exact va_mabs hx hb (by rw [hml]; exact hL.1.symm) hown (hts _ hM.1) (hts _ hM.2.1) (hts _ hM.2.2.1) (hts _ hM.2.2.2) (by omega) (by rw [st_sum]; omega) hce hsl hd (kk E p l e R s m args below meth co cells slots QQ F H locs lsA hR hS hL)
def LC (own : String) (idx : Nat) : Prop := Cond.methodLink own idx arraycopyName ∈ TBg ∧ Cond.native arraycopyName ∈ TBg ∧ Cond.static arraycopyName ∈ TBg ∧ Cond.initialized "java/lang/System" ∈ TBg
theorem ev_copy {idx k0 k1 : Nat} {n dp sp : Int32} (hd : decode cc pc = .ok (.invokestatic idx, 3)) (hM : LC own idx) (h1 : 0 < d) (h8 : (st.map fun v => v.category).sum ≤ 8) (hk0 : k0 < NC) (hk1 : k1 < NC) (hc0 : kd k0 = 10) (hc1 : kd k1 = 10)
    (n0 : ¬ sp < 0) (n1 : ¬ dp < 0) (n2 : ¬ n < 0) (b0 : sp.toNatClampNeg + n.toNatClampNeg ≤ ln k0) (b1 : dp.toNatClampNeg + n.toNatClampNeg ≤ ln k1) (kk : Ev S own cc nL rt d (pc + 3) ls st (cpy σ k0 sp.toNatClampNeg k1 dp.toNatClampNeg n.toNatClampNeg) Q) : Ev S own cc nL rt d pc ls (.int n :: .int dp :: .ref k1 :: .int sp :: .ref k0 :: st) σ Q := by
  intro E p l e R s m args below meth co cells slots QQ F H locs lsA hR hS hL
  obtain ⟨hx, hb, hml, hown, hts, hinj, hw, hfr, hlo, hce, hsl, hq⟩ := id F
  have ha := wsO_at (ka := E.2.1) (ρ := E.2.2) (σ := σ) hk0
  rw [ce_int hc0 (by omega) (by omega)] at ha
  have ha1 := wsO_at (ka := E.2.1) (ρ := E.2.2) (σ := σ) hk1
  rw [ce_int hc1 (by omega) (by omega)] at ha1
  refine va_copyi hx hb (by rw [hml]; exact hL.1.symm) hown (hts _ hM.1) (hts _ hM.2.1) (hts _ hM.2.2.1) (hts _ hM.2.2.2) hw.1 hR (wsO_D hinj) hS k0 k1 0 0 ha ha1 rfl rfl rfl n0 n1 n2 b0 b1 (fun _ _ => rfl) (by omega) (by rw [st_sum, show nativeFrameWords "java/lang/System" "arraycopy" 5 = 7 from by decide +kernel]; omega) hd (fun H1 locs1 hP1 hD1 hS1 => ?_)
  have hfe : va_cpy (σ.1 k0) (σ.1 k1) sp.toNatClampNeg dp.toNatClampNeg n.toNatClampNeg = (cpy σ k0 sp.toNatClampNeg k1 dp.toNatClampNeg n.toNatClampNeg).1 k1 := by
    funext b
    simp [va_cpy, cpy]
  rw [wsO_set (σ' := cpy σ k0 sp.toNatClampNeg k1 dp.toNatClampNeg n.toNatClampNeg) hk1 (by rw [ce_int hc1 (by omega) (by omega), hfe]) (fun j _ hj => ce_cpy_ne hj)] at hP1
  exact kk E p l e R s m args below meth co cells slots QQ F H1 locs1 lsA hP1 hS1 hL
theorem ev_ireturn {v : Int32} {ty : FieldType} (hd : decode cc pc = .ok (.ireturn, 1)) (hr : rt = some ty) (hn : narrow ty (.int v) = .int v) (hQ : Q (some (.int v)) σ) : Ev S own cc nL rt d pc ls [.int v] σ Q := by
  intro E p l e R s m args below meth co cells slots QQ F H locs lsA hR hS hL
  obtain ⟨hx, hb, hml, hown, hts, hinj, hw, hfr, hlo, hce, hsl, hq⟩ := id F
  exact hq (some (.int v)) σ H locs pc lsA hQ hR hS (Or.inr (Or.inl ⟨v, ty, rfl, hr, hn, hd⟩))
theorem ev_lreturn {v : Int64} (hd : decode cc pc = .ok (.lreturn, 1)) (hr : rt = some .long) (hQ : Q (some (.long v)) σ) : Ev S own cc nL rt d pc ls [.long v] σ Q := by
  intro E p l e R s m args below meth co cells slots QQ F H locs lsA hR hS hL
  obtain ⟨hx, hb, hml, hown, hts, hinj, hw, hfr, hlo, hce, hsl, hq⟩ := id F
  exact hq (some (.long v)) σ H locs pc lsA hQ hR hS (Or.inr (Or.inr ⟨v, rfl, hr, hd⟩))
theorem ev_return (hd : decode cc pc = .ok (.return_, 1)) (hr : rt = none) (hQ : Q none σ) : Ev S own cc nL rt d pc ls [] σ Q := by
  intro E p l e R s m args below meth co cells slots QQ F H locs lsA hR hS hL
  obtain ⟨hx, hb, hml, hown, hts, hinj, hw, hfr, hlo, hce, hsl, hq⟩ := id F
  exact hq none σ H locs pc lsA hQ hR hS (Or.inl ⟨rfl, hr, hd⟩)
theorem ev_post {Q' : Option Value → Sto → Prop} (h : Ev S own cc nL rt d pc ls st σ Q') (hQ : ∀ r σ', Q' r σ' → Q r σ') : Ev S own cc nL rt d pc ls st σ Q := by
  intro E p l e R s m args below meth co cells slots QQ F H locs lsA hR hS hL
  obtain ⟨hx, hb, hml, hown, hts, hinj, hw, hfr, hlo, hce, hsl, hq⟩ := id F
  exact h E p l e R s m args below meth co cells slots QQ ⟨hx, hb, hml, hown, hts, hinj, hw, hfr, hlo, hce, hsl, fun r σ' H' locs' pc' lsA' h1 => hq r σ' H' locs' pc' lsA' (hQ r σ' h1)⟩ H locs lsA hR hS hL
def LB (own : String) (idx : Nat) (y : MethodName) (b : ByteArray) (mL : Nat) (r : Option FieldType) (n : Nat) : Prop := Cond.methodLink own idx y ∈ TBg ∧ Cond.code y b mL r ∈ TBg ∧ Cond.initialized y.cls ∈ TBg ∧ (y.cls ≠ "java/lang/invoke/MethodHandle" ∧ y.cls ≠ "java/lang/invoke/VarHandle" ∧ (parseMethodDescriptor y.desc).map (fun d => d.parameters.length) = some n) ∧ mL ≤ 17
def LV (own : String) (idx : Nat) (y : MethodName) (b : ByteArray) (mL : Nat) (r : Option FieldType) (n : Nat) : Prop := LB own idx y b mL r n ∧ Cond.instanceMethod y ∈ TBg ∧ Cond.selects y.cls y y ∈ TBg
def LSt (own : String) (idx : Nat) (y : MethodName) (b : ByteArray) (mL : Nat) (r : Option FieldType) (n : Nat) : Prop := LB own idx y b mL r n ∧ Cond.static y ∈ TBg
def LN (own : String) (idx : Nat) (y : MethodName) (b : ByteArray) (mL : Nat) (r : Option FieldType) (n : Nat) : Prop := Cond.methodLinkNest own idx y RX7 ∈ NW ∧ Cond.code y b mL r ∈ TBg ∧ Cond.initialized y.cls ∈ TBg ∧ (y.cls ≠ "java/lang/invoke/MethodHandle" ∧ y.cls ≠ "java/lang/invoke/VarHandle" ∧ (parseMethodDescriptor y.desc).map (fun d => d.parameters.length) = some n) ∧ mL ≤ 17 ∧ Cond.static y ∈ TBg
theorem nw_tab : ∀ w ∈ NW, w.onTables = true := by decide +kernel
theorem nw_warm {s U : State} (hW : s.WarmedH U.vm) (h : ∀ w ∈ NW, va_Nw w s) : ∀ w ∈ NW, va_Nw w U := by
  intro w hw
  have h0 := h w hw
  simp only [NW, List.mem_cons, List.not_mem_nil, or_false] at hw
  rcases hw with rfl | rfl | rfl | rfl | rfl | rfl
  · exact va_Nw.warmF hW h0
  all_goals exact va_Nw.warmM hW h0
theorem Wd.on {S : Scr} {E : En} {s U : State} {H : Heap} {locs : List Loc} (h : Wd S E s) (hS : va_S (Ar E.2.2) s.heap H locs) (hU : U.heap = H) (hW : s.WarmedH U.vm) : Wd S E U := by
  obtain ⟨h1, h2, h3, h4, h5, h6, h7⟩ := h
  have hq : ∀ a : Nat, a < s.heap.size → ¬ Ar E.2.2 a → U.heap[a]? = s.heap[a]? := fun a ha hn => by rw [hU]; exact hS.2.1 a ha hn
  exact ⟨h1.moved hW.alike, nw_warm hW h2, (h3.moved hW.alike).kept hq, (h4.moved hW.alike).kept hq, (h5.moved hW.alike).kept (hq _ h6 h7), by rw [hU]; exact Nat.lt_of_lt_of_le h6 hS.1, h7⟩
theorem Wd.calling {S : Scr} {E : En} {U : State} {g : JFrame} {mk : MethodId} {a : Array Value} (h : Wd S E U) : Wd S E (U.calling g mk a) := by
  obtain ⟨h1, h2, h3, h4, h5, h6, h7⟩ := h
  exact ⟨va_K.moved (u := U) (U := U.calling g mk a) (Vm.Alike.refl U.vm) h1, fun w hw => va_Nw.same (nw_tab w hw) (u := U) (U := U.calling g mk a) rfl (h2 w hw), va_Z.moved (u := U) (U := U.calling g mk a) (Vm.Alike.refl U.vm) h3, va_T.moved (u := U) (U := U.calling g mk a) (Vm.Alike.refl U.vm) h4, va_X.moved (u := U) (U := U.calling g mk a) (Vm.Alike.refl U.vm) h5, h6, h7⟩
theorem pcM_blind {S : Scr} {E : En} {av : List Value} {σ : Sto} : FrameBlind (PcM S E av σ) := fun a U g mk q => ⟨q.1, q.2.1.calling, q.2.2⟩
/-- behind a call's run -/
theorem ev_run {E : En} {p : Program} {l : Launch} {e : Env} {R : Room} {s : State} {m : MethodId} {args : Array Value} {below : List Frame} {meth : Method} {c : Code} {H : Heap} {locs : List Loc} {cells slots : Nat} {QQ : State → Prop} {pc : Nat} {lsA : Array Slot} {st0 rest : List Value} {Q' : Option Value → Sto → Prop} {a : Array Value}
    (hr : va_Run p l e R s m args below meth c H locs cells slots 0 0 (F0 m pc lsA st0) rest (QcM E Q' a) (Ar E.2.2)) (hS : va_S (Ar E.2.2) s.heap H locs)
    (kk : ∀ (r : Option Value) (σ' : Sto) (H1 : Heap) (locs1 : List Loc), Q' r σ' → Rp E σ' H1 → va_S (Ar E.2.2) s.heap H1 locs1 → W p l e R s m args below meth c H1 locs1 cells slots QQ (F0 m (pc + 3) lsA ((r.map (tv E.2.2)).toList ++ rest))) : W p l e R s m args below meth c H locs cells slots QQ (F0 m pc lsA st0) := by
  intro T hT X
  obtain ⟨v, st₀, t, T', L, h0, X', hL, e1, e2, ⟨⟨r, σ', hv, hp, hb⟩, hz, hk⟩, stp⟩ := hr T hT X
  cases hv
  rw [h0] at hz hk
  obtain ⟨t2, a1, b1⟩ := kk r σ' T'.heap (locs ++ L) hp (by rw [e1]; exact hb) ⟨Nat.le_trans hS.1 (by rw [e1]; exact hz), fun q h1 h2 => by rw [e1, hk q (Nat.lt_of_lt_of_le h1 hS.1) h2]; exact hS.2.1 q h1 h2, fun q hq => by
      rcases List.mem_append.mp hq with h | h
      · exact hS.2.2 q h
      · exact hL q h⟩ T' rfl X'
  exact ⟨t2, stp t2 a1, b1⟩
theorem opt_map (ρ : Nat → Nat) (r : Option Value) (st : List Value) : (r.map (tv ρ)).toList ++ st.map (tv ρ) = (r.toList ++ st).map (tv ρ) := by cases r <;> rfl
theorem ev_callV {idx k n mL d' : Nat} {y : MethodName} {b : ByteArray} {r : Option FieldType} {As stk : List Value} {Q' : Option Value → Sto → Prop} (hd : decode cc pc = .ok (.invokevirtual idx, 3)) (hM : LV own idx y b mL r n) (hT : Mt S y b mL r d' (.ref k :: As) σ Q') (hk : k < NC) (hc : ∃ q, vwCl[kd k]? = some q ∧ q.1 = y.cls) (hstk : stk = As.reverse ++ .ref k :: st) (hd' : d' < d) (hn : As.length = n) (h8 : (st.map fun v => v.category).sum ≤ 8) (kk : ∀ rv σ', Q' rv σ' → Ev S own cc nL rt d (pc + 3) ls (rv.toList ++ st) σ' Q) : Ev S own cc nL rt d pc ls stk σ Q := by
  intro E p l e R s m args below meth co cells slots QQ F H locs lsA hR hS hL
  obtain ⟨hx, hb, hml, hown, hts, hinj, hw, hfr, hlo, hce, hsl, hq⟩ := id F
  subst hstk
  obtain ⟨⟨m1, m2, m3, m4, m5⟩, m6, m7⟩ := hM
  obtain ⟨q, hq1, hq2⟩ := hc
  have hk9 : kd k < 9 := by
    have := (List.getElem?_eq_some_iff.mp hq1).1
    simpa [vwCl] using this
  have ha := wsO_at (ka := E.2.1) (ρ := E.2.2) (σ := σ) hk
  rw [ce_obj rfl hk9] at ha
  have hrecv := va_recv hw.1 hR hq1 ha
  rw [hq2] at hrecv
  refine ev_run (st0 := List.map (tv E.2.2) (As.reverse ++ .ref k :: st)) (rest := st.map (tv E.2.2)) (va_runV (As := As.map (tv E.2.2)) (b := E.2.2 k) (C := y.cls) (n := n) ⟨hx, hb, hml, hown, hts⟩ (hT E l hinj) ⟨callB_of n hts (good_wsM m2) rfl rfl rfl (hts _ m3) (hts _ m1) m4 ⟨by show d' + 1 ≤ _; omega, by show 8 + (mL + 11) + 36 * d' ≤ _; omega⟩, hts _ m6, hts _ m7⟩ ⟨pcM_blind, hrecv, fun U hU hW => ⟨rfl, hw.on hS hU hW, by rw [hU]; exact hR⟩⟩ rfl (by rw [List.length_map]; exact hn) hL.1 (by simp [tv]) (lv_room (by rw [st_sum]; exact h8)) hd ⟨by omega, by omega⟩) hS (fun rv σ' H1 locs1 h1 h2 h3 => ?_)
  rw [opt_map]
  exact kk rv σ' h1 E p l e R s m args below meth co cells slots QQ F H1 locs1 lsA h2 h3 hL
theorem ev_callS {idx n mL d' : Nat} {y : MethodName} {b : ByteArray} {r : Option FieldType} {As stk : List Value} {Q' : Option Value → Sto → Prop} (hd : decode cc pc = .ok (.invokestatic idx, 3)) (hM : LSt own idx y b mL r n) (hT : Mt S y b mL r d' As σ Q') (hstk : stk = As.reverse ++ st) (hd' : d' < d) (hn : As.length = n) (h8 : (st.map fun v => v.category).sum ≤ 8) (kk : ∀ rv σ', Q' rv σ' → Ev S own cc nL rt d (pc + 3) ls (rv.toList ++ st) σ' Q) : Ev S own cc nL rt d pc ls stk σ Q := by
  intro E p l e R s m args below meth co cells slots QQ F H locs lsA hR hS hL
  obtain ⟨hx, hb, hml, hown, hts, hinj, hw, hfr, hlo, hce, hsl, hq⟩ := id F
  subst hstk
  obtain ⟨⟨m1, m2, m3, m4, m5⟩, m6⟩ := hM
  refine ev_run (st0 := List.map (tv E.2.2) (As.reverse ++ st)) (rest := st.map (tv E.2.2)) (va_runS (As := As.map (tv E.2.2)) (n := n) ⟨hx, hb, hml, hown, hts⟩ (hT E l hinj) ⟨callB_of n hts (good_wsM m2) rfl rfl rfl (hts _ m3) (hts _ m1) m4 ⟨by show d' + 1 ≤ _; omega, by show 8 + (mL + 11) + 36 * d' ≤ _; omega⟩, hts _ m6⟩ ⟨pcM_blind, fun U hU hW => ⟨rfl, hw.on hS hU hW, by rw [hU]; exact hR⟩⟩ rfl (by rw [List.length_map]; exact hn) hL.1 (by simp) (lv_room (by rw [st_sum]; exact h8)) hd ⟨by omega, by omega⟩) hS (fun rv σ' H1 locs1 h1 h2 h3 => ?_)
  rw [opt_map]
  exact kk rv σ' h1 E p l e R s m args below meth co cells slots QQ F H1 locs1 lsA h2 h3 hL
theorem ev_callN {idx n mL d' : Nat} {y : MethodName} {b : ByteArray} {r : Option FieldType} {As stk : List Value} {Q' : Option Value → Sto → Prop} (hd : decode cc pc = .ok (.invokestatic idx, 3)) (hM : LN own idx y b mL r n) (hT : Mt S y b mL r d' As σ Q') (hstk : stk = As.reverse ++ st) (hd' : d' < d) (hn : As.length = n) (h8 : (st.map fun v => v.category).sum ≤ 8) (kk : ∀ rv σ', Q' rv σ' → Ev S own cc nL rt d (pc + 3) ls (rv.toList ++ st) σ' Q) : Ev S own cc nL rt d pc ls stk σ Q := by
  intro E p l e R s m args below meth co cells slots QQ F H locs lsA hR hS hL
  obtain ⟨hx, hb, hml, hown, hts, hinj, hw, hfr, hlo, hce, hsl, hq⟩ := id F
  subst hstk
  obtain ⟨m1, m2, m3, m4, m5, m6⟩ := hM
  refine ev_run (st0 := List.map (tv E.2.2) (As.reverse ++ st)) (rest := st.map (tv E.2.2)) (va_runSN (As := As.map (tv E.2.2)) (n := n) (host := RX7) ⟨hx, hb, hml, hown, hts⟩ (hT E l hinj) ⟨va_cnB n hts (good_wsM m2) rfl rfl rfl (hw.2.1 _ m1) (hts _ m3) m4 ⟨by show d' + 1 ≤ _; omega, by show 8 + (mL + 11) + 36 * d' ≤ _; omega⟩, hts _ m6, trivial⟩ ⟨pcM_blind, fun U hU hW => ⟨rfl, hw.on hS hU hW, by rw [hU]; exact hR⟩⟩ rfl (by rw [List.length_map]; exact hn) hL.1 (by simp) (lv_room (by rw [st_sum]; exact h8)) hd ⟨by omega, by omega⟩) hS (fun rv σ' H1 locs1 h1 h2 h3 => ?_)
  rw [opt_map]
  exact kk rv σ' h1 E p l e R s m args below meth co cells slots QQ F H1 locs1 lsA h2 h3 hL
end EVR
/-- a method's contract out of its walk -/
theorem mt_of {S : Scr} {y : MethodName} {cc : ByteArray} {nL : Nat} {rt : Option FieldType} {d : Nat} {av ls : List Value} {σ : Sto} {Q : Option Value → Sto → Prop} (hy : plainName y.cls = true) (hls : ls = av ++ List.replicate (nL - av.length) .null) (hlen : av.length ≤ nL) (hcat : ∀ v ∈ av, v.category = 1) (h : Ev S y.cls cc nL rt d 0 ls [] σ Q) : Mt S y cc nL rt d av σ Q := by
  intro E l hinj
  refine Met.ofW (cc := cc) (maxL := nL) (ret := rt) hy rfl ?_
  intro p e s m args below meth c s₁ B hml hv
  obtain ⟨rfl, hw, hR⟩ := hv
  have hr := B.returns
  have hlocks := B.notSynchronized
  have hts0 := atoms_spec (ws := wsM y cc nL rt) B.pre
  have hts : ∀ w ∈ TBg, w.before (av.map (tv E.2.2)).toArray s = true := fun w h => hts0 w (List.mem_cons_of_mem _ h)
  have hsl : (lg_sl (av.map (tv E.2.2))).length = av.length := by
    clear hls hlen h hw hR hr hlocks hts0 hts B
    induction av with
    | nil => rfl
    | cons a r ih =>
      have ha := hcat a List.mem_cons_self
      have := ih (fun v hv => hcat v (List.mem_cons_of_mem _ hv))
      have h2 : lg_sl ((a :: r).map (tv E.2.2)) = .val (tv E.2.2 a) :: lg_sl (r.map (tv E.2.2)) := by
        unfold lg_sl
        rw [List.map_cons, List.flatMap_cons, tv_cat, ha, if_neg (by decide)]
        rfl
      rw [h2, List.length_cons, this, List.length_cons]
  have hl := lv_entry (av.map (tv E.2.2)) (n := nL) (by rw [hsl]; exact hlen)
  rw [lg_entry_eq]
  generalize (lg_sl (av.map (tv E.2.2)) ++ List.replicate (nL - (lg_sl (av.map (tv E.2.2))).length) Slot.unset).toArray = lsA at hl ⊢
  have hLo : Lo E.2.2 lsA nL ls := by
    refine ⟨hl.1, hl.2.1, fun i v hi hn => ?_, fun v hv => ?_⟩
    · subst hls
      have hlt : i < av.length := by
        rcases Nat.lt_or_ge i av.length with q | q
        · exact q
        · rw [List.getElem?_append_right q] at hi
          exact absurd (List.eq_of_mem_replicate (List.mem_of_getElem? hi)) hn
      rw [List.getElem?_append_left hlt] at hi
      have key : ∀ (n0 : Nat) (as : List Value) (j : Nat) (w : Value), (∀ v ∈ as, v.category = 1) → as[j]? = some w → (n0 + j, tv E.2.2 w) ∈ lv_args n0 (as.map (tv E.2.2)) := by
        intro n0 as
        induction as generalizing n0 with
        | nil => intro j w _ hj; simp at hj
        | cons a r ih =>
          intro j w hc hj
          have ha := hc a List.mem_cons_self
          cases j with
          | zero =>
            simp at hj; subst hj
            simp [lv_args]
          | succ j =>
            simp at hj
            have := ih (n0 + 1) j w (fun v hv => hc v (List.mem_cons_of_mem _ hv)) hj
            simp only [List.map_cons, lv_args, tv_cat, ha]
            refine List.mem_cons_of_mem _ ?_
            rw [show n0 + (j + 1) = n0 + 1 + j by omega]
            exact this
      have := hl.2.2 _ (key 0 av i v hcat hi)
      simpa using this
    · subst hls
      rcases List.mem_append.mp hv with q | q
      · exact hcat v q
      · rw [List.eq_of_mem_replicate q]; rfl
  refine h E p l e _ s m _ below meth c 0 0 _ ⟨B.exec, B.bytes, hml, findClass_of_methodNamed B.named, hts, hinj, hw, Nat.le_refl _, Nat.le_refl _, Nat.zero_le _, Nat.zero_le _, ?_⟩ s.heap [] lsA hR va_S.rf hLo
  intro r σ' H' locs' pc' lsA' hQ hR' hS' hret
  rcases hret with ⟨rfl, hrt, hdec⟩ | ⟨v, ty, rfl, hrt, hn, hdec⟩ | ⟨v, rfl, hrt, hdec⟩
  · exact W.vret B.exec B.bytes (by rw [hr, hrt]) (fun t ht hW => ⟨⟨none, σ', rfl, hQ, by rw [ht]; exact hR'⟩, hS'.F ht⟩) hS'.2.2 hdec hlocks
  · exact W.zret B.exec B.bytes (by rw [hr, hrt]) hn (fun t ht hW => ⟨⟨some (.int v), σ', rfl, hQ, by rw [ht]; exact hR'⟩, hS'.F ht⟩) hS'.2.2 hdec hlocks
  · exact W.lret B.exec B.bytes (by rw [hr, hrt]) (fun t ht hW => ⟨⟨some (.long v), σ', rfl, hQ, by rw [ht]; exact hR'⟩, hS'.F ht⟩) hS'.2.2 hdec hlocks
end
section
theorem tbg_places (ws : List Cond) (ps : List Nat) (hp : ws = ps.filterMap (fun i => tables_1[i]?)) (h : ws.all goodWord = true) : ∀ w ∈ ws, w ∈ TBg := by
  intro w hw
  have h1 := List.all_eq_true.mp h w hw
  rw [hp] at hw
  obtain ⟨i, -, hi⟩ := List.mem_filterMap.mp hw
  exact tbg_t i hi h1
theorem inTX0 : ∀ w ∈ u_ws RX0 TX0 4, w ∈ TBg := tbg_places _ [90, 92, 94, 96] (by decide +kernel) (by decide +kernel)
theorem inTX1 : ∀ w ∈ u_ws RX1 TX1 3, w ∈ TBg := tbg_places _ [134, 136, 138] (by decide +kernel) (by decide +kernel)
theorem inTX2 : ∀ w ∈ u_ws RX2 TX2 8, w ∈ TBg := tbg_places _ [200, 202, 204, 206, 208, 210, 212, 214] (by decide +kernel) (by decide +kernel)
theorem inTX3 : ∀ w ∈ u_ws RX3 TX3 3, w ∈ TBg := tbg_places _ [114, 116, 118] (by decide +kernel) (by decide +kernel)
theorem inTX4 : ∀ w ∈ u_ws RX4 TX4 9, w ∈ TBg := tbg_places _ [163, 165, 167, 169, 171, 173, 175, 177, 179] (by decide +kernel) (by decide +kernel)
theorem inTX5 : ∀ w ∈ u_ws RX5 TX5 2, w ∈ TBg := tbg_places _ [79, 81] (by decide +kernel) (by decide +kernel)
theorem inTX6 : ∀ w ∈ u_ws RX6 TX6 7, w ∈ TBg := tbg_places _ [43, 45, 47, 49, 51, 53, 55] (by decide +kernel) (by decide +kernel)
theorem inTX7 : ∀ w ∈ u_ws RX7 TX7 9, w ∈ TBg := tbg_places _ [226, 228, 230, 232, 234, 236, 238, 240, 242] (by decide +kernel) (by decide +kernel)
theorem inTX8 : ∀ w ∈ u_ws RX8 TX8 26, w ∈ TBg := tbg_places _ [658, 660, 662, 664, 666, 668, 670, 672, 674, 676, 678, 680, 682, 684, 686, 688, 690, 692, 694, 696, 698, 700, 702, 704, 706, 708] (by decide +kernel) (by decide +kernel)
theorem fl_X0_11 : FL RX0 11 0 0 := ⟨RX0, TX0, 4, tyX0, rfl, by decide, rfl, inTX0, by decide, tbg_t 84 (by decide +kernel) (by decide +kernel), tyX0_ok, nmX0, rfl, fun _ => by first | rfl | contradiction, fun h => by first | rfl | exact absurd h (by decide), fun h => by first | rfl | exact absurd h (by decide), fun h => by first | rfl | exact absurd h (by decide)⟩
theorem fl_X0_17 : FL RX0 17 0 2 := ⟨RX0, TX0, 4, tyX0, rfl, by decide, rfl, inTX0, by decide, tbg_t 88 (by decide +kernel) (by decide +kernel), tyX0_ok, nmX0, rfl, fun _ => by first | rfl | contradiction, fun h => by first | rfl | exact absurd h (by decide), fun h => by first | rfl | exact absurd h (by decide), fun h => by first | rfl | exact absurd h (by decide)⟩
theorem fl_X0_21 : FL RX0 21 0 3 := ⟨RX0, TX0, 4, tyX0, rfl, by decide, rfl, inTX0, by decide, tbg_t 89 (by decide +kernel) (by decide +kernel), tyX0_ok, nmX0, rfl, fun _ => by first | rfl | contradiction, fun h => by first | rfl | exact absurd h (by decide), fun h => by first | rfl | exact absurd h (by decide), fun h => by first | rfl | exact absurd h (by decide)⟩
theorem fl_X0_31 : FL RX0 31 0 1 := ⟨RX0, TX0, 4, tyX0, rfl, by decide, rfl, inTX0, by decide, tbg_t 86 (by decide +kernel) (by decide +kernel), tyX0_ok, nmX0, rfl, fun _ => by first | rfl | contradiction, fun h => by first | rfl | exact absurd h (by decide), fun h => by first | rfl | exact absurd h (by decide), fun h => by first | rfl | exact absurd h (by decide)⟩
theorem fl_X0_35 : FL RX0 35 5 0 := ⟨RX5, TX5, 2, tyX5, rfl, by decide, rfl, inTX5, by decide, tbg_t 73 (by decide +kernel) (by decide +kernel), tyX5_ok, nmX5, rfl, fun _ => by first | rfl | contradiction, fun h => by first | rfl | exact absurd h (by decide), fun h => by first | rfl | exact absurd h (by decide), fun h => by first | rfl | exact absurd h (by decide)⟩
theorem fl_X0_44 : FL RX0 44 5 1 := ⟨RX5, TX5, 2, tyX5, rfl, by decide, rfl, inTX5, by decide, tbg_t 76 (by decide +kernel) (by decide +kernel), tyX5_ok, nmX5, rfl, fun _ => by first | rfl | contradiction, fun h => by first | rfl | exact absurd h (by decide), fun h => by first | rfl | exact absurd h (by decide), fun h => by first | rfl | exact absurd h (by decide)⟩
theorem fl_X0_47 : FL RX0 47 3 0 := ⟨RX3, TX3, 3, tyX3, rfl, by decide, rfl, inTX3, by decide, tbg_t 107 (by decide +kernel) (by decide +kernel), tyX3_ok, nmX3, rfl, fun _ => by first | rfl | contradiction, fun h => by first | rfl | exact absurd h (by decide), fun h => by first | rfl | exact absurd h (by decide), fun h => by first | rfl | exact absurd h (by decide)⟩
theorem fl_X0_52 : FL RX0 52 3 1 := ⟨RX3, TX3, 3, tyX3, rfl, by decide, rfl, inTX3, by decide, tbg_t 110 (by decide +kernel) (by decide +kernel), tyX3_ok, nmX3, rfl, fun _ => by first | rfl | contradiction, fun h => by first | rfl | exact absurd h (by decide), fun h => by first | rfl | exact absurd h (by decide), fun h => by first | rfl | exact absurd h (by decide)⟩
theorem fl_X1_11 : FL RX1 11 1 0 := ⟨RX1, TX1, 3, tyX1, rfl, by decide, rfl, inTX1, by decide, tbg_t 130 (by decide +kernel) (by decide +kernel), tyX1_ok, nmX1, rfl, fun _ => by first | rfl | contradiction, fun h => by first | rfl | exact absurd h (by decide), fun h => by first | rfl | exact absurd h (by decide), fun h => by first | rfl | exact absurd h (by decide)⟩
theorem fl_X1_18 : FL RX1 18 1 1 := ⟨RX1, TX1, 3, tyX1, rfl, by decide, rfl, inTX1, by decide, tbg_t 131 (by decide +kernel) (by decide +kernel), tyX1_ok, nmX1, rfl, fun _ => by first | rfl | contradiction, fun h => by first | rfl | exact absurd h (by decide), fun h => by first | rfl | exact absurd h (by decide), fun h => by first | rfl | exact absurd h (by decide)⟩
theorem fl_X1_26 : FL RX1 26 1 2 := ⟨RX1, TX1, 3, tyX1, rfl, by decide, rfl, inTX1, by decide, tbg_t 132 (by decide +kernel) (by decide +kernel), tyX1_ok, nmX1, rfl, fun _ => by first | rfl | contradiction, fun h => by first | rfl | exact absurd h (by decide), fun h => by first | rfl | exact absurd h (by decide), fun h => by first | rfl | exact absurd h (by decide)⟩
theorem fl_X2_15 : FL RX2 15 2 1 := ⟨RX2, TX2, 8, tyX2, rfl, by decide, rfl, inTX2, by decide, tbg_t 193 (by decide +kernel) (by decide +kernel), tyX2_ok, nmX2, rfl, fun _ => by first | rfl | contradiction, fun h => by first | rfl | exact absurd h (by decide), fun h => by first | rfl | exact absurd h (by decide), fun h => by first | rfl | exact absurd h (by decide)⟩
theorem fl_X2_18 : FL RX2 18 2 2 := ⟨RX2, TX2, 8, tyX2, rfl, by decide, rfl, inTX2, by decide, tbg_t 194 (by decide +kernel) (by decide +kernel), tyX2_ok, nmX2, rfl, fun _ => by first | rfl | contradiction, fun h => by first | rfl | exact absurd h (by decide), fun h => by first | rfl | exact absurd h (by decide), fun h => by first | rfl | exact absurd h (by decide)⟩
theorem fl_X2_21 : FL RX2 21 2 3 := ⟨RX2, TX2, 8, tyX2, rfl, by decide, rfl, inTX2, by decide, tbg_t 195 (by decide +kernel) (by decide +kernel), tyX2_ok, nmX2, rfl, fun _ => by first | rfl | contradiction, fun h => by first | rfl | exact absurd h (by decide), fun h => by first | rfl | exact absurd h (by decide), fun h => by first | rfl | exact absurd h (by decide)⟩
theorem fl_X2_24 : FL RX2 24 2 4 := ⟨RX2, TX2, 8, tyX2, rfl, by decide, rfl, inTX2, by decide, tbg_t 196 (by decide +kernel) (by decide +kernel), tyX2_ok, nmX2, rfl, fun _ => by first | rfl | contradiction, fun h => by first | rfl | exact absurd h (by decide), fun h => by first | rfl | exact absurd h (by decide), fun h => by first | rfl | exact absurd h (by decide)⟩
theorem fl_X2_27 : FL RX2 27 2 6 := ⟨RX2, TX2, 8, tyX2, rfl, by decide, rfl, inTX2, by decide, tbg_t 198 (by decide +kernel) (by decide +kernel), tyX2_ok, nmX2, rfl, fun _ => by first | rfl | contradiction, fun h => by first | rfl | exact absurd h (by decide), fun h => by first | rfl | exact absurd h (by decide), fun h => by first | rfl | exact absurd h (by decide)⟩
theorem fl_X2_34 : FL RX2 34 2 7 := ⟨RX2, TX2, 8, tyX2, rfl, by decide, rfl, inTX2, by decide, tbg_t 199 (by decide +kernel) (by decide +kernel), tyX2_ok, nmX2, rfl, fun _ => by first | rfl | contradiction, fun h => by first | rfl | exact absurd h (by decide), fun h => by first | rfl | exact absurd h (by decide), fun h => by first | rfl | exact absurd h (by decide)⟩
theorem fl_X2_49 : FL RX2 49 2 5 := ⟨RX2, TX2, 8, tyX2, rfl, by decide, rfl, inTX2, by decide, tbg_t 197 (by decide +kernel) (by decide +kernel), tyX2_ok, nmX2, rfl, fun _ => by first | rfl | contradiction, fun h => by first | rfl | exact absurd h (by decide), fun h => by first | rfl | exact absurd h (by decide), fun h => by first | rfl | exact absurd h (by decide)⟩
theorem fl_X2_53 : FL RX2 53 3 0 := ⟨RX3, TX3, 3, tyX3, rfl, by decide, rfl, inTX3, by decide, tbg_t 106 (by decide +kernel) (by decide +kernel), tyX3_ok, nmX3, rfl, fun _ => by first | rfl | contradiction, fun h => by first | rfl | exact absurd h (by decide), fun h => by first | rfl | exact absurd h (by decide), fun h => by first | rfl | exact absurd h (by decide)⟩
theorem fl_X2_9 : FL RX2 9 2 0 := ⟨RX2, TX2, 8, tyX2, rfl, by decide, rfl, inTX2, by decide, tbg_t 191 (by decide +kernel) (by decide +kernel), tyX2_ok, nmX2, rfl, fun _ => by first | rfl | contradiction, fun h => by first | rfl | exact absurd h (by decide), fun h => by first | rfl | exact absurd h (by decide), fun h => by first | rfl | exact absurd h (by decide)⟩
theorem fl_X3_15 : FL RX3 15 3 1 := ⟨RX3, TX3, 3, tyX3, rfl, by decide, rfl, inTX3, by decide, tbg_t 109 (by decide +kernel) (by decide +kernel), tyX3_ok, nmX3, rfl, fun _ => by first | rfl | contradiction, fun h => by first | rfl | exact absurd h (by decide), fun h => by first | rfl | exact absurd h (by decide), fun h => by first | rfl | exact absurd h (by decide)⟩
theorem fl_X3_18 : FL RX3 18 3 2 := ⟨RX3, TX3, 3, tyX3, rfl, by decide, rfl, inTX3, by decide, tbg_t 112 (by decide +kernel) (by decide +kernel), tyX3_ok, nmX3, rfl, fun _ => by first | rfl | contradiction, fun h => by first | rfl | exact absurd h (by decide), fun h => by first | rfl | exact absurd h (by decide), fun h => by first | rfl | exact absurd h (by decide)⟩
theorem fl_X3_9 : FL RX3 9 3 0 := ⟨RX3, TX3, 3, tyX3, rfl, by decide, rfl, inTX3, by decide, tbg_t 105 (by decide +kernel) (by decide +kernel), tyX3_ok, nmX3, rfl, fun _ => by first | rfl | contradiction, fun h => by first | rfl | exact absurd h (by decide), fun h => by first | rfl | exact absurd h (by decide), fun h => by first | rfl | exact absurd h (by decide)⟩
theorem fl_X4_17 : FL RX4 17 4 1 := ⟨RX4, TX4, 9, tyX4, rfl, by decide, rfl, inTX4, by decide, tbg_t 151 (by decide +kernel) (by decide +kernel), tyX4_ok, nmX4, rfl, fun _ => by first | rfl | contradiction, fun h => by first | rfl | exact absurd h (by decide), fun h => by first | rfl | exact absurd h (by decide), fun h => by first | rfl | exact absurd h (by decide)⟩
theorem fl_X4_23 : FL RX4 23 4 3 := ⟨RX4, TX4, 9, tyX4, rfl, by decide, rfl, inTX4, by decide, tbg_t 154 (by decide +kernel) (by decide +kernel), tyX4_ok, nmX4, rfl, fun _ => by first | rfl | contradiction, fun h => by first | rfl | exact absurd h (by decide), fun h => by first | rfl | exact absurd h (by decide), fun h => by first | rfl | exact absurd h (by decide)⟩
theorem fl_X4_27 : FL RX4 27 4 7 := ⟨RX4, TX4, 9, tyX4, rfl, by decide, rfl, inTX4, by decide, tbg_t 161 (by decide +kernel) (by decide +kernel), tyX4_ok, nmX4, rfl, fun _ => by first | rfl | contradiction, fun h => by first | rfl | exact absurd h (by decide), fun h => by first | rfl | exact absurd h (by decide), fun h => by first | rfl | exact absurd h (by decide)⟩
theorem fl_X4_30 : FL RX4 30 4 8 := ⟨RX4, TX4, 9, tyX4, rfl, by decide, rfl, inTX4, by decide, tbg_t 162 (by decide +kernel) (by decide +kernel), tyX4_ok, nmX4, rfl, fun _ => by first | rfl | contradiction, fun h => by first | rfl | exact absurd h (by decide), fun h => by first | rfl | exact absurd h (by decide), fun h => by first | rfl | exact absurd h (by decide)⟩
theorem fl_X4_33 : FL RX4 33 4 2 := ⟨RX4, TX4, 9, tyX4, rfl, by decide, rfl, inTX4, by decide, tbg_t 152 (by decide +kernel) (by decide +kernel), tyX4_ok, nmX4, rfl, fun _ => by first | rfl | contradiction, fun h => by first | rfl | exact absurd h (by decide), fun h => by first | rfl | exact absurd h (by decide), fun h => by first | rfl | exact absurd h (by decide)⟩
theorem fl_X4_43 : FL RX4 43 5 0 := ⟨RX5, TX5, 2, tyX5, rfl, by decide, rfl, inTX5, by decide, tbg_t 74 (by decide +kernel) (by decide +kernel), tyX5_ok, nmX5, rfl, fun _ => by first | rfl | contradiction, fun h => by first | rfl | exact absurd h (by decide), fun h => by first | rfl | exact absurd h (by decide), fun h => by first | rfl | exact absurd h (by decide)⟩
theorem fl_X4_54 : FL RX4 54 4 4 := ⟨RX4, TX4, 9, tyX4, rfl, by decide, rfl, inTX4, by decide, tbg_t 155 (by decide +kernel) (by decide +kernel), tyX4_ok, nmX4, rfl, fun _ => by first | rfl | contradiction, fun h => by first | rfl | exact absurd h (by decide), fun h => by first | rfl | exact absurd h (by decide), fun h => by first | rfl | exact absurd h (by decide)⟩
theorem fl_X4_57 : FL RX4 57 4 5 := ⟨RX4, TX4, 9, tyX4, rfl, by decide, rfl, inTX4, by decide, tbg_t 157 (by decide +kernel) (by decide +kernel), tyX4_ok, nmX4, rfl, fun _ => by first | rfl | contradiction, fun h => by first | rfl | exact absurd h (by decide), fun h => by first | rfl | exact absurd h (by decide), fun h => by first | rfl | exact absurd h (by decide)⟩
theorem fl_X4_60 : FL RX4 60 4 6 := ⟨RX4, TX4, 9, tyX4, rfl, by decide, rfl, inTX4, by decide, tbg_t 159 (by decide +kernel) (by decide +kernel), tyX4_ok, nmX4, rfl, fun _ => by first | rfl | contradiction, fun h => by first | rfl | exact absurd h (by decide), fun h => by first | rfl | exact absurd h (by decide), fun h => by first | rfl | exact absurd h (by decide)⟩
theorem fl_X4_9 : FL RX4 9 4 0 := ⟨RX4, TX4, 9, tyX4, rfl, by decide, rfl, inTX4, by decide, tbg_t 150 (by decide +kernel) (by decide +kernel), tyX4_ok, nmX4, rfl, fun _ => by first | rfl | contradiction, fun h => by first | rfl | exact absurd h (by decide), fun h => by first | rfl | exact absurd h (by decide), fun h => by first | rfl | exact absurd h (by decide)⟩
theorem fl_X5_15 : FL RX5 15 5 1 := ⟨RX5, TX5, 2, tyX5, rfl, by decide, rfl, inTX5, by decide, tbg_t 77 (by decide +kernel) (by decide +kernel), tyX5_ok, nmX5, rfl, fun _ => by first | rfl | contradiction, fun h => by first | rfl | exact absurd h (by decide), fun h => by first | rfl | exact absurd h (by decide), fun h => by first | rfl | exact absurd h (by decide)⟩
theorem fl_X5_9 : FL RX5 9 5 0 := ⟨RX5, TX5, 2, tyX5, rfl, by decide, rfl, inTX5, by decide, tbg_t 72 (by decide +kernel) (by decide +kernel), tyX5_ok, nmX5, rfl, fun _ => by first | rfl | contradiction, fun h => by first | rfl | exact absurd h (by decide), fun h => by first | rfl | exact absurd h (by decide), fun h => by first | rfl | exact absurd h (by decide)⟩
theorem fl_X6_20 : FL RX6 20 6 2 := ⟨RX6, TX6, 7, tyX6, rfl, by decide, rfl, inTX6, by decide, tbg_t 35 (by decide +kernel) (by decide +kernel), tyX6_ok, nmX6, rfl, fun _ => by first | rfl | contradiction, fun h => by first | rfl | exact absurd h (by decide), fun h => by first | rfl | exact absurd h (by decide), fun h => by first | rfl | exact absurd h (by decide)⟩
theorem fl_X6_23 : FL RX6 23 6 4 := ⟨RX6, TX6, 7, tyX6, rfl, by decide, rfl, inTX6, by decide, tbg_t 39 (by decide +kernel) (by decide +kernel), tyX6_ok, nmX6, rfl, fun _ => by first | rfl | contradiction, fun h => by first | rfl | exact absurd h (by decide), fun h => by first | rfl | exact absurd h (by decide), fun h => by first | rfl | exact absurd h (by decide)⟩
theorem fl_X6_26 : FL RX6 26 6 1 := ⟨RX6, TX6, 7, tyX6, rfl, by decide, rfl, inTX6, by decide, tbg_t 33 (by decide +kernel) (by decide +kernel), tyX6_ok, nmX6, rfl, fun _ => by first | rfl | contradiction, fun h => by first | rfl | exact absurd h (by decide), fun h => by first | rfl | exact absurd h (by decide), fun h => by first | rfl | exact absurd h (by decide)⟩
theorem fl_X6_30 : FL RX6 30 6 6 := ⟨RX6, TX6, 7, tyX6, rfl, by decide, rfl, inTX6, by decide, tbg_t 42 (by decide +kernel) (by decide +kernel), tyX6_ok, nmX6, rfl, fun _ => by first | rfl | contradiction, fun h => by first | rfl | exact absurd h (by decide), fun h => by first | rfl | exact absurd h (by decide), fun h => by first | rfl | exact absurd h (by decide)⟩
theorem fl_X6_33 : FL RX6 33 6 3 := ⟨RX6, TX6, 7, tyX6, rfl, by decide, rfl, inTX6, by decide, tbg_t 37 (by decide +kernel) (by decide +kernel), tyX6_ok, nmX6, rfl, fun _ => by first | rfl | contradiction, fun h => by first | rfl | exact absurd h (by decide), fun h => by first | rfl | exact absurd h (by decide), fun h => by first | rfl | exact absurd h (by decide)⟩
theorem fl_X6_36 : FL RX6 36 6 5 := ⟨RX6, TX6, 7, tyX6, rfl, by decide, rfl, inTX6, by decide, tbg_t 41 (by decide +kernel) (by decide +kernel), tyX6_ok, nmX6, rfl, fun _ => by first | rfl | contradiction, fun h => by first | rfl | exact absurd h (by decide), fun h => by first | rfl | exact absurd h (by decide), fun h => by first | rfl | exact absurd h (by decide)⟩
theorem fl_X6_9 : FL RX6 9 6 0 := ⟨RX6, TX6, 7, tyX6, rfl, by decide, rfl, inTX6, by decide, tbg_t 32 (by decide +kernel) (by decide +kernel), tyX6_ok, nmX6, rfl, fun _ => by first | rfl | contradiction, fun h => by first | rfl | exact absurd h (by decide), fun h => by first | rfl | exact absurd h (by decide), fun h => by first | rfl | exact absurd h (by decide)⟩
theorem fl_X7_10 : FL RX7 10 7 0 := ⟨RX7, TX7, 9, tyX7, rfl, by decide, rfl, inTX7, by decide, tbg_t 217 (by decide +kernel) (by decide +kernel), tyX7_ok, nmX7, rfl, fun _ => by first | rfl | contradiction, fun h => by first | rfl | exact absurd h (by decide), fun h => by first | rfl | exact absurd h (by decide), fun h => by first | rfl | exact absurd h (by decide)⟩
theorem fl_X7_100 : FL RX7 100 3 1 := ⟨RX3, TX3, 3, tyX3, rfl, by decide, rfl, inTX3, by decide, tbg_t 111 (by decide +kernel) (by decide +kernel), tyX3_ok, nmX3, rfl, fun _ => by first | rfl | contradiction, fun h => by first | rfl | exact absurd h (by decide), fun h => by first | rfl | exact absurd h (by decide), fun h => by first | rfl | exact absurd h (by decide)⟩
theorem fl_X7_110 : FL RX7 110 3 2 := ⟨RX3, TX3, 3, tyX3, rfl, by decide, rfl, inTX3, by decide, tbg_t 113 (by decide +kernel) (by decide +kernel), tyX3_ok, nmX3, rfl, fun _ => by first | rfl | contradiction, fun h => by first | rfl | exact absurd h (by decide), fun h => by first | rfl | exact absurd h (by decide), fun h => by first | rfl | exact absurd h (by decide)⟩
theorem fl_X7_132 : FL RX7 132 1 2 := ⟨RX1, TX1, 3, tyX1, rfl, by decide, rfl, inTX1, by decide, tbg_t 133 (by decide +kernel) (by decide +kernel), tyX1_ok, nmX1, rfl, fun _ => by first | rfl | contradiction, fun h => by first | rfl | exact absurd h (by decide), fun h => by first | rfl | exact absurd h (by decide), fun h => by first | rfl | exact absurd h (by decide)⟩
theorem fl_X7_158 : FL RX7 158 2 0 := ⟨RX2, TX2, 8, tyX2, rfl, by decide, rfl, inTX2, by decide, tbg_t 192 (by decide +kernel) (by decide +kernel), tyX2_ok, nmX2, rfl, fun _ => by first | rfl | contradiction, fun h => by first | rfl | exact absurd h (by decide), fun h => by first | rfl | exact absurd h (by decide), fun h => by first | rfl | exact absurd h (by decide)⟩
theorem fl_X7_184 : FL RX7 184 4 2 := ⟨RX4, TX4, 9, tyX4, rfl, by decide, rfl, inTX4, by decide, tbg_t 153 (by decide +kernel) (by decide +kernel), tyX4_ok, nmX4, rfl, fun _ => by first | rfl | contradiction, fun h => by first | rfl | exact absurd h (by decide), fun h => by first | rfl | exact absurd h (by decide), fun h => by first | rfl | exact absurd h (by decide)⟩
theorem fl_X7_19 : FL RX7 19 7 1 := ⟨RX7, TX7, 9, tyX7, rfl, by decide, rfl, inTX7, by decide, tbg_t 218 (by decide +kernel) (by decide +kernel), tyX7_ok, nmX7, rfl, fun _ => by first | rfl | contradiction, fun h => by first | rfl | exact absurd h (by decide), fun h => by first | rfl | exact absurd h (by decide), fun h => by first | rfl | exact absurd h (by decide)⟩
theorem fl_X7_195 : FL RX7 195 4 4 := ⟨RX4, TX4, 9, tyX4, rfl, by decide, rfl, inTX4, by decide, tbg_t 156 (by decide +kernel) (by decide +kernel), tyX4_ok, nmX4, rfl, fun _ => by first | rfl | contradiction, fun h => by first | rfl | exact absurd h (by decide), fun h => by first | rfl | exact absurd h (by decide), fun h => by first | rfl | exact absurd h (by decide)⟩
theorem fl_X7_198 : FL RX7 198 4 5 := ⟨RX4, TX4, 9, tyX4, rfl, by decide, rfl, inTX4, by decide, tbg_t 158 (by decide +kernel) (by decide +kernel), tyX4_ok, nmX4, rfl, fun _ => by first | rfl | contradiction, fun h => by first | rfl | exact absurd h (by decide), fun h => by first | rfl | exact absurd h (by decide), fun h => by first | rfl | exact absurd h (by decide)⟩
theorem fl_X7_201 : FL RX7 201 4 6 := ⟨RX4, TX4, 9, tyX4, rfl, by decide, rfl, inTX4, by decide, tbg_t 160 (by decide +kernel) (by decide +kernel), tyX4_ok, nmX4, rfl, fun _ => by first | rfl | contradiction, fun h => by first | rfl | exact absurd h (by decide), fun h => by first | rfl | exact absurd h (by decide), fun h => by first | rfl | exact absurd h (by decide)⟩
theorem fl_X7_234 : FL RX7 234 0 1 := ⟨RX0, TX0, 4, tyX0, rfl, by decide, rfl, inTX0, by decide, tbg_t 87 (by decide +kernel) (by decide +kernel), tyX0_ok, nmX0, rfl, fun _ => by first | rfl | contradiction, fun h => by first | rfl | exact absurd h (by decide), fun h => by first | rfl | exact absurd h (by decide), fun h => by first | rfl | exact absurd h (by decide)⟩
theorem fl_X7_237 : FL RX7 237 7 8 := ⟨RX7, TX7, 9, tyX7, rfl, by decide, rfl, inTX7, by decide, tbg_t 225 (by decide +kernel) (by decide +kernel), tyX7_ok, nmX7, rfl, fun _ => by first | rfl | contradiction, fun h => by first | rfl | exact absurd h (by decide), fun h => by first | rfl | exact absurd h (by decide), fun h => by first | rfl | exact absurd h (by decide)⟩
theorem fl_X7_241 : FL RX7 241 6 2 := ⟨RX6, TX6, 7, tyX6, rfl, by decide, rfl, inTX6, by decide, tbg_t 36 (by decide +kernel) (by decide +kernel), tyX6_ok, nmX6, rfl, fun _ => by first | rfl | contradiction, fun h => by first | rfl | exact absurd h (by decide), fun h => by first | rfl | exact absurd h (by decide), fun h => by first | rfl | exact absurd h (by decide)⟩
theorem fl_X7_244 : FL RX7 244 6 3 := ⟨RX6, TX6, 7, tyX6, rfl, by decide, rfl, inTX6, by decide, tbg_t 38 (by decide +kernel) (by decide +kernel), tyX6_ok, nmX6, rfl, fun _ => by first | rfl | contradiction, fun h => by first | rfl | exact absurd h (by decide), fun h => by first | rfl | exact absurd h (by decide), fun h => by first | rfl | exact absurd h (by decide)⟩
theorem fl_X7_249 : FL RX7 249 6 4 := ⟨RX6, TX6, 7, tyX6, rfl, by decide, rfl, inTX6, by decide, tbg_t 40 (by decide +kernel) (by decide +kernel), tyX6_ok, nmX6, rfl, fun _ => by first | rfl | contradiction, fun h => by first | rfl | exact absurd h (by decide), fun h => by first | rfl | exact absurd h (by decide), fun h => by first | rfl | exact absurd h (by decide)⟩
theorem fl_X7_26 : FL RX7 26 7 2 := ⟨RX7, TX7, 9, tyX7, rfl, by decide, rfl, inTX7, by decide, tbg_t 219 (by decide +kernel) (by decide +kernel), tyX7_ok, nmX7, rfl, fun _ => by first | rfl | contradiction, fun h => by first | rfl | exact absurd h (by decide), fun h => by first | rfl | exact absurd h (by decide), fun h => by first | rfl | exact absurd h (by decide)⟩
theorem fl_X7_33 : FL RX7 33 7 3 := ⟨RX7, TX7, 9, tyX7, rfl, by decide, rfl, inTX7, by decide, tbg_t 220 (by decide +kernel) (by decide +kernel), tyX7_ok, nmX7, rfl, fun _ => by first | rfl | contradiction, fun h => by first | rfl | exact absurd h (by decide), fun h => by first | rfl | exact absurd h (by decide), fun h => by first | rfl | exact absurd h (by decide)⟩
theorem fl_X7_37 : FL RX7 37 7 4 := ⟨RX7, TX7, 9, tyX7, rfl, by decide, rfl, inTX7, by decide, tbg_t 221 (by decide +kernel) (by decide +kernel), tyX7_ok, nmX7, rfl, fun _ => by first | rfl | contradiction, fun h => by first | rfl | exact absurd h (by decide), fun h => by first | rfl | exact absurd h (by decide), fun h => by first | rfl | exact absurd h (by decide)⟩
theorem fl_X7_41 : FL RX7 41 7 5 := ⟨RX7, TX7, 9, tyX7, rfl, by decide, rfl, inTX7, by decide, tbg_t 222 (by decide +kernel) (by decide +kernel), tyX7_ok, nmX7, rfl, fun _ => by first | rfl | contradiction, fun h => by first | rfl | exact absurd h (by decide), fun h => by first | rfl | exact absurd h (by decide), fun h => by first | rfl | exact absurd h (by decide)⟩
theorem fl_X7_48 : FL RX7 48 7 6 := ⟨RX7, TX7, 9, tyX7, rfl, by decide, rfl, inTX7, by decide, tbg_t 223 (by decide +kernel) (by decide +kernel), tyX7_ok, nmX7, rfl, fun _ => by first | rfl | contradiction, fun h => by first | rfl | exact absurd h (by decide), fun h => by first | rfl | exact absurd h (by decide), fun h => by first | rfl | exact absurd h (by decide)⟩
theorem fl_X7_55 : FL RX7 55 7 7 := ⟨RX7, TX7, 9, tyX7, rfl, by decide, rfl, inTX7, by decide, tbg_t 224 (by decide +kernel) (by decide +kernel), tyX7_ok, nmX7, rfl, fun _ => by first | rfl | contradiction, fun h => by first | rfl | exact absurd h (by decide), fun h => by first | rfl | exact absurd h (by decide), fun h => by first | rfl | exact absurd h (by decide)⟩
theorem fl_X7_59 : FL RX7 59 6 1 := ⟨RX6, TX6, 7, tyX6, rfl, by decide, rfl, inTX6, by decide, tbg_t 34 (by decide +kernel) (by decide +kernel), tyX6_ok, nmX6, rfl, fun _ => by first | rfl | contradiction, fun h => by first | rfl | exact absurd h (by decide), fun h => by first | rfl | exact absurd h (by decide), fun h => by first | rfl | exact absurd h (by decide)⟩
theorem fl_X7_81 : FL RX7 81 3 0 := ⟨RX3, TX3, 3, tyX3, rfl, by decide, rfl, inTX3, by decide, tbg_t 108 (by decide +kernel) (by decide +kernel), tyX3_ok, nmX3, rfl, fun _ => by first | rfl | contradiction, fun h => by first | rfl | exact absurd h (by decide), fun h => by first | rfl | exact absurd h (by decide), fun h => by first | rfl | exact absurd h (by decide)⟩
theorem fl_X7_88 : FL RX7 88 0 0 := ⟨RX0, TX0, 4, tyX0, rfl, by decide, rfl, inTX0, by decide, tbg_t 85 (by decide +kernel) (by decide +kernel), tyX0_ok, nmX0, rfl, fun _ => by first | rfl | contradiction, fun h => by first | rfl | exact absurd h (by decide), fun h => by first | rfl | exact absurd h (by decide), fun h => by first | rfl | exact absurd h (by decide)⟩
theorem fl_X7_92 : FL RX7 92 5 0 := ⟨RX5, TX5, 2, tyX5, rfl, by decide, rfl, inTX5, by decide, tbg_t 75 (by decide +kernel) (by decide +kernel), tyX5_ok, nmX5, rfl, fun _ => by first | rfl | contradiction, fun h => by first | rfl | exact absurd h (by decide), fun h => by first | rfl | exact absurd h (by decide), fun h => by first | rfl | exact absurd h (by decide)⟩
theorem fl_X7_97 : FL RX7 97 5 1 := ⟨RX5, TX5, 2, tyX5, rfl, by decide, rfl, inTX5, by decide, tbg_t 78 (by decide +kernel) (by decide +kernel), tyX5_ok, nmX5, rfl, fun _ => by first | rfl | contradiction, fun h => by first | rfl | exact absurd h (by decide), fun h => by first | rfl | exact absurd h (by decide), fun h => by first | rfl | exact absurd h (by decide)⟩
theorem fl_X8_104 : FL RX8 104 8 19 := ⟨RX8, TX8, 26, tyX8, rfl, by decide, rfl, inTX8, by decide, tbg_t 651 (by decide +kernel) (by decide +kernel), tyX8_ok, nmX8, rfl, fun _ => by first | rfl | contradiction, fun h => by first | rfl | exact absurd h (by decide), fun h => by first | rfl | exact absurd h (by decide), fun h => by first | rfl | exact absurd h (by decide)⟩
theorem fl_X8_113 : FL RX8 113 8 5 := ⟨RX8, TX8, 26, tyX8, rfl, by decide, rfl, inTX8, by decide, tbg_t 637 (by decide +kernel) (by decide +kernel), tyX8_ok, nmX8, rfl, fun _ => by first | rfl | contradiction, fun h => by first | rfl | exact absurd h (by decide), fun h => by first | rfl | exact absurd h (by decide), fun h => by first | rfl | exact absurd h (by decide)⟩
theorem fl_X8_116 : FL RX8 116 8 8 := ⟨RX8, TX8, 26, tyX8, rfl, by decide, rfl, inTX8, by decide, tbg_t 640 (by decide +kernel) (by decide +kernel), tyX8_ok, nmX8, rfl, fun _ => by first | rfl | contradiction, fun h => by first | rfl | exact absurd h (by decide), fun h => by first | rfl | exact absurd h (by decide), fun h => by first | rfl | exact absurd h (by decide)⟩
theorem fl_X8_13 : FL RX8 13 8 2 := ⟨RX8, TX8, 26, tyX8, rfl, by decide, rfl, inTX8, by decide, tbg_t 634 (by decide +kernel) (by decide +kernel), tyX8_ok, nmX8, rfl, fun _ => by first | rfl | contradiction, fun h => by first | rfl | exact absurd h (by decide), fun h => by first | rfl | exact absurd h (by decide), fun h => by first | rfl | exact absurd h (by decide)⟩
theorem fl_X8_16 : FL RX8 16 8 3 := ⟨RX8, TX8, 26, tyX8, rfl, by decide, rfl, inTX8, by decide, tbg_t 635 (by decide +kernel) (by decide +kernel), tyX8_ok, nmX8, rfl, fun _ => by first | rfl | contradiction, fun h => by first | rfl | exact absurd h (by decide), fun h => by first | rfl | exact absurd h (by decide), fun h => by first | rfl | exact absurd h (by decide)⟩
theorem fl_X8_19 : FL RX8 19 8 4 := ⟨RX8, TX8, 26, tyX8, rfl, by decide, rfl, inTX8, by decide, tbg_t 636 (by decide +kernel) (by decide +kernel), tyX8_ok, nmX8, rfl, fun _ => by first | rfl | contradiction, fun h => by first | rfl | exact absurd h (by decide), fun h => by first | rfl | exact absurd h (by decide), fun h => by first | rfl | exact absurd h (by decide)⟩
theorem fl_X8_215 : FL RX8 215 8 11 := ⟨RX8, TX8, 26, tyX8, rfl, by decide, rfl, inTX8, by decide, tbg_t 643 (by decide +kernel) (by decide +kernel), tyX8_ok, nmX8, rfl, fun _ => by first | rfl | contradiction, fun h => by first | rfl | exact absurd h (by decide), fun h => by first | rfl | exact absurd h (by decide), fun h => by first | rfl | exact absurd h (by decide)⟩
theorem fl_X8_22 : FL RX8 22 8 6 := ⟨RX8, TX8, 26, tyX8, rfl, by decide, rfl, inTX8, by decide, tbg_t 638 (by decide +kernel) (by decide +kernel), tyX8_ok, nmX8, rfl, fun _ => by first | rfl | contradiction, fun h => by first | rfl | exact absurd h (by decide), fun h => by first | rfl | exact absurd h (by decide), fun h => by first | rfl | exact absurd h (by decide)⟩
theorem fl_X8_25 : FL RX8 25 8 7 := ⟨RX8, TX8, 26, tyX8, rfl, by decide, rfl, inTX8, by decide, tbg_t 639 (by decide +kernel) (by decide +kernel), tyX8_ok, nmX8, rfl, fun _ => by first | rfl | contradiction, fun h => by first | rfl | exact absurd h (by decide), fun h => by first | rfl | exact absurd h (by decide), fun h => by first | rfl | exact absurd h (by decide)⟩
theorem fl_X8_29 : FL RX8 29 8 9 := ⟨RX8, TX8, 26, tyX8, rfl, by decide, rfl, inTX8, by decide, tbg_t 641 (by decide +kernel) (by decide +kernel), tyX8_ok, nmX8, rfl, fun _ => by first | rfl | contradiction, fun h => by first | rfl | exact absurd h (by decide), fun h => by first | rfl | exact absurd h (by decide), fun h => by first | rfl | exact absurd h (by decide)⟩
theorem fl_X8_32 : FL RX8 32 8 10 := ⟨RX8, TX8, 26, tyX8, rfl, by decide, rfl, inTX8, by decide, tbg_t 642 (by decide +kernel) (by decide +kernel), tyX8_ok, nmX8, rfl, fun _ => by first | rfl | contradiction, fun h => by first | rfl | exact absurd h (by decide), fun h => by first | rfl | exact absurd h (by decide), fun h => by first | rfl | exact absurd h (by decide)⟩
theorem fl_X8_35 : FL RX8 35 8 12 := ⟨RX8, TX8, 26, tyX8, rfl, by decide, rfl, inTX8, by decide, tbg_t 644 (by decide +kernel) (by decide +kernel), tyX8_ok, nmX8, rfl, fun _ => by first | rfl | contradiction, fun h => by first | rfl | exact absurd h (by decide), fun h => by first | rfl | exact absurd h (by decide), fun h => by first | rfl | exact absurd h (by decide)⟩
theorem fl_X8_38 : FL RX8 38 8 21 := ⟨RX8, TX8, 26, tyX8, rfl, by decide, rfl, inTX8, by decide, tbg_t 653 (by decide +kernel) (by decide +kernel), tyX8_ok, nmX8, rfl, fun _ => by first | rfl | contradiction, fun h => by first | rfl | exact absurd h (by decide), fun h => by first | rfl | exact absurd h (by decide), fun h => by first | rfl | exact absurd h (by decide)⟩
theorem fl_X8_41 : FL RX8 41 8 23 := ⟨RX8, TX8, 26, tyX8, rfl, by decide, rfl, inTX8, by decide, tbg_t 655 (by decide +kernel) (by decide +kernel), tyX8_ok, nmX8, rfl, fun _ => by first | rfl | contradiction, fun h => by first | rfl | exact absurd h (by decide), fun h => by first | rfl | exact absurd h (by decide), fun h => by first | rfl | exact absurd h (by decide)⟩
theorem fl_X8_44 : FL RX8 44 8 24 := ⟨RX8, TX8, 26, tyX8, rfl, by decide, rfl, inTX8, by decide, tbg_t 656 (by decide +kernel) (by decide +kernel), tyX8_ok, nmX8, rfl, fun _ => by first | rfl | contradiction, fun h => by first | rfl | exact absurd h (by decide), fun h => by first | rfl | exact absurd h (by decide), fun h => by first | rfl | exact absurd h (by decide)⟩
theorem fl_X8_47 : FL RX8 47 8 25 := ⟨RX8, TX8, 26, tyX8, rfl, by decide, rfl, inTX8, by decide, tbg_t 657 (by decide +kernel) (by decide +kernel), tyX8_ok, nmX8, rfl, fun _ => by first | rfl | contradiction, fun h => by first | rfl | exact absurd h (by decide), fun h => by first | rfl | exact absurd h (by decide), fun h => by first | rfl | exact absurd h (by decide)⟩
theorem fl_X8_50 : FL RX8 50 8 0 := ⟨RX8, TX8, 26, tyX8, rfl, by decide, rfl, inTX8, by decide, tbg_t 632 (by decide +kernel) (by decide +kernel), tyX8_ok, nmX8, rfl, fun _ => by first | rfl | contradiction, fun h => by first | rfl | exact absurd h (by decide), fun h => by first | rfl | exact absurd h (by decide), fun h => by first | rfl | exact absurd h (by decide)⟩
theorem fl_X8_58 : FL RX8 58 8 13 := ⟨RX8, TX8, 26, tyX8, rfl, by decide, rfl, inTX8, by decide, tbg_t 645 (by decide +kernel) (by decide +kernel), tyX8_ok, nmX8, rfl, fun _ => by first | rfl | contradiction, fun h => by first | rfl | exact absurd h (by decide), fun h => by first | rfl | exact absurd h (by decide), fun h => by first | rfl | exact absurd h (by decide)⟩
theorem fl_X8_61 : FL RX8 61 8 14 := ⟨RX8, TX8, 26, tyX8, rfl, by decide, rfl, inTX8, by decide, tbg_t 646 (by decide +kernel) (by decide +kernel), tyX8_ok, nmX8, rfl, fun _ => by first | rfl | contradiction, fun h => by first | rfl | exact absurd h (by decide), fun h => by first | rfl | exact absurd h (by decide), fun h => by first | rfl | exact absurd h (by decide)⟩
theorem fl_X8_68 : FL RX8 68 8 15 := ⟨RX8, TX8, 26, tyX8, rfl, by decide, rfl, inTX8, by decide, tbg_t 647 (by decide +kernel) (by decide +kernel), tyX8_ok, nmX8, rfl, fun _ => by first | rfl | contradiction, fun h => by first | rfl | exact absurd h (by decide), fun h => by first | rfl | exact absurd h (by decide), fun h => by first | rfl | exact absurd h (by decide)⟩
theorem fl_X8_7 : FL RX8 7 8 1 := ⟨RX8, TX8, 26, tyX8, rfl, by decide, rfl, inTX8, by decide, tbg_t 633 (by decide +kernel) (by decide +kernel), tyX8_ok, nmX8, rfl, fun _ => by first | rfl | contradiction, fun h => by first | rfl | exact absurd h (by decide), fun h => by first | rfl | exact absurd h (by decide), fun h => by first | rfl | exact absurd h (by decide)⟩
theorem fl_X8_71 : FL RX8 71 8 17 := ⟨RX8, TX8, 26, tyX8, rfl, by decide, rfl, inTX8, by decide, tbg_t 649 (by decide +kernel) (by decide +kernel), tyX8_ok, nmX8, rfl, fun _ => by first | rfl | contradiction, fun h => by first | rfl | exact absurd h (by decide), fun h => by first | rfl | exact absurd h (by decide), fun h => by first | rfl | exact absurd h (by decide)⟩
theorem fl_X8_74 : FL RX8 74 8 16 := ⟨RX8, TX8, 26, tyX8, rfl, by decide, rfl, inTX8, by decide, tbg_t 648 (by decide +kernel) (by decide +kernel), tyX8_ok, nmX8, rfl, fun _ => by first | rfl | contradiction, fun h => by first | rfl | exact absurd h (by decide), fun h => by first | rfl | exact absurd h (by decide), fun h => by first | rfl | exact absurd h (by decide)⟩
theorem fl_X8_81 : FL RX8 81 8 18 := ⟨RX8, TX8, 26, tyX8, rfl, by decide, rfl, inTX8, by decide, tbg_t 650 (by decide +kernel) (by decide +kernel), tyX8_ok, nmX8, rfl, fun _ => by first | rfl | contradiction, fun h => by first | rfl | exact absurd h (by decide), fun h => by first | rfl | exact absurd h (by decide), fun h => by first | rfl | exact absurd h (by decide)⟩
theorem fl_X8_88 : FL RX8 88 8 20 := ⟨RX8, TX8, 26, tyX8, rfl, by decide, rfl, inTX8, by decide, tbg_t 652 (by decide +kernel) (by decide +kernel), tyX8_ok, nmX8, rfl, fun _ => by first | rfl | contradiction, fun h => by first | rfl | exact absurd h (by decide), fun h => by first | rfl | exact absurd h (by decide), fun h => by first | rfl | exact absurd h (by decide)⟩
theorem fl_X8_95 : FL RX8 95 8 22 := ⟨RX8, TX8, 26, tyX8, rfl, by decide, rfl, inTX8, by decide, tbg_t 654 (by decide +kernel) (by decide +kernel), tyX8_ok, nmX8, rfl, fun _ => by first | rfl | contradiction, fun h => by first | rfl | exact absurd h (by decide), fun h => by first | rfl | exact absurd h (by decide), fun h => by first | rfl | exact absurd h (by decide)⟩
theorem ml_X0_102 : LV RX0 102 yX0_partedMind cX0_partedMind 2 (some .int) 1 := ⟨⟨tbg_t 492 (by decide +kernel) (by decide +kernel), tbg_t 495 (by decide +kernel) (by decide +kernel), tbg_t 3 (by decide +kernel) (by decide +kernel), ⟨by decide +kernel, by decide +kernel, by decide +kernel⟩, by decide⟩, tbg_t 493 (by decide +kernel) (by decide +kernel), tbg_t 494 (by decide +kernel) (by decide +kernel)⟩
theorem ml_X0_105 : LSt RX0 105 yJ7_fill_53178 cJ7_fill_53178 4 none 2 := ⟨⟨tbg_t 505 (by decide +kernel) (by decide +kernel), tbg_t 271 (by decide +kernel) (by decide +kernel), tbg_t 10 (by decide +kernel) (by decide +kernel), ⟨by decide +kernel, by decide +kernel, by decide +kernel⟩, by decide⟩, tbg_t 270 (by decide +kernel) (by decide +kernel)⟩
theorem ml_X0_25 : LM RX0 25 Lib.Math.min.name Lib.Math.min.code 2 := ⟨tbg_t 300 (by decide +kernel) (by decide +kernel), tbg_t 301 (by decide +kernel) (by decide +kernel), tbg_t 11 (by decide +kernel) (by decide +kernel), tbg_t 302 (by decide +kernel) (by decide +kernel)⟩
theorem ml_X0_38 : LC RX0 38 := ⟨tbg_t 303 (by decide +kernel) (by decide +kernel), tbg_t 305 (by decide +kernel) (by decide +kernel), tbg_t 304 (by decide +kernel) (by decide +kernel), tbg_t 12 (by decide +kernel) (by decide +kernel)⟩
theorem ml_X0_55 : LV RX0 55 yX5_mien cX5_mien 7 (some .int) 2 := ⟨⟨tbg_t 330 (by decide +kernel) (by decide +kernel), tbg_t 333 (by decide +kernel) (by decide +kernel), tbg_t 4 (by decide +kernel) (by decide +kernel), ⟨by decide +kernel, by decide +kernel, by decide +kernel⟩, by decide⟩, tbg_t 331 (by decide +kernel) (by decide +kernel), tbg_t 332 (by decide +kernel) (by decide +kernel)⟩
theorem ml_X0_59 : LV RX0 59 yX5_mind cX5_mind 5 (some .int) 2 := ⟨⟨tbg_t 345 (by decide +kernel) (by decide +kernel), tbg_t 348 (by decide +kernel) (by decide +kernel), tbg_t 4 (by decide +kernel) (by decide +kernel), ⟨by decide +kernel, by decide +kernel, by decide +kernel⟩, by decide⟩, tbg_t 346 (by decide +kernel) (by decide +kernel), tbg_t 347 (by decide +kernel) (by decide +kernel)⟩
theorem ml_X0_62 : LV RX0 62 yX0_mindOf cX0_mindOf 3 (some .int) 2 := ⟨⟨tbg_t 375 (by decide +kernel) (by decide +kernel), tbg_t 344 (by decide +kernel) (by decide +kernel), tbg_t 3 (by decide +kernel) (by decide +kernel), ⟨by decide +kernel, by decide +kernel, by decide +kernel⟩, by decide⟩, tbg_t 342 (by decide +kernel) (by decide +kernel), tbg_t 343 (by decide +kernel) (by decide +kernel)⟩
theorem ml_X0_66 : LV RX0 66 yX0_mienOf cX0_mienOf 3 (some .int) 2 := ⟨⟨tbg_t 363 (by decide +kernel) (by decide +kernel), tbg_t 329 (by decide +kernel) (by decide +kernel), tbg_t 3 (by decide +kernel) (by decide +kernel), ⟨by decide +kernel, by decide +kernel, by decide +kernel⟩, by decide⟩, tbg_t 327 (by decide +kernel) (by decide +kernel), tbg_t 328 (by decide +kernel) (by decide +kernel)⟩
theorem ml_X0_69 : LV RX0 69 yX0_calmSet cX0_calmSet 4 (some .int) 1 := ⟨⟨tbg_t 612 (by decide +kernel) (by decide +kernel), tbg_t 362 (by decide +kernel) (by decide +kernel), tbg_t 3 (by decide +kernel) (by decide +kernel), ⟨by decide +kernel, by decide +kernel, by decide +kernel⟩, by decide⟩, tbg_t 360 (by decide +kernel) (by decide +kernel), tbg_t 361 (by decide +kernel) (by decide +kernel)⟩
theorem ml_X0_73 : LSt RX0 73 yJ6_bitCount_0f7a4 cJ6_bitCount_0f7a4 1 (some .int) 1 := ⟨⟨tbg_t 613 (by decide +kernel) (by decide +kernel), tbg_t 410 (by decide +kernel) (by decide +kernel), tbg_t 13 (by decide +kernel) (by decide +kernel), ⟨by decide +kernel, by decide +kernel, by decide +kernel⟩, by decide⟩, tbg_t 409 (by decide +kernel) (by decide +kernel)⟩
theorem ml_X0_79 : LV RX0 79 yX5_offBy cX5_offBy 5 (some .int) 3 := ⟨⟨tbg_t 479 (by decide +kernel) (by decide +kernel), tbg_t 337 (by decide +kernel) (by decide +kernel), tbg_t 4 (by decide +kernel) (by decide +kernel), ⟨by decide +kernel, by decide +kernel, by decide +kernel⟩, by decide⟩, tbg_t 335 (by decide +kernel) (by decide +kernel), tbg_t 336 (by decide +kernel) (by decide +kernel)⟩
theorem ml_X0_83 : LM RX0 83 Lib.Math.abs.name Lib.Math.abs.code 1 := ⟨tbg_t 480 (by decide +kernel) (by decide +kernel), tbg_t 339 (by decide +kernel) (by decide +kernel), tbg_t 11 (by decide +kernel) (by decide +kernel), tbg_t 340 (by decide +kernel) (by decide +kernel)⟩
theorem ml_X0_86 : LV RX0 86 yX0_mindPart cX0_mindPart 7 (some .int) 4 := ⟨⟨tbg_t 475 (by decide +kernel) (by decide +kernel), tbg_t 478 (by decide +kernel) (by decide +kernel), tbg_t 3 (by decide +kernel) (by decide +kernel), ⟨by decide +kernel, by decide +kernel, by decide +kernel⟩, by decide⟩, tbg_t 477 (by decide +kernel) (by decide +kernel), tbg_s 10 (by decide +kernel) (by decide +kernel)⟩
theorem ml_X0_90 : LV RX0 90 yX0_bestAmount cX0_bestAmount 8 (some .int) 3 := ⟨⟨tbg_t 471 (by decide +kernel) (by decide +kernel), tbg_t 474 (by decide +kernel) (by decide +kernel), tbg_t 3 (by decide +kernel) (by decide +kernel), ⟨by decide +kernel, by decide +kernel, by decide +kernel⟩, by decide⟩, tbg_t 472 (by decide +kernel) (by decide +kernel), tbg_t 473 (by decide +kernel) (by decide +kernel)⟩
theorem ml_X0_94 : LV RX0 94 yX0_everyone cX0_everyone 1 (some .int) 0 := ⟨⟨tbg_t 490 (by decide +kernel) (by decide +kernel), tbg_t 429 (by decide +kernel) (by decide +kernel), tbg_t 3 (by decide +kernel) (by decide +kernel), ⟨by decide +kernel, by decide +kernel, by decide +kernel⟩, by decide⟩, tbg_t 427 (by decide +kernel) (by decide +kernel), tbg_t 428 (by decide +kernel) (by decide +kernel)⟩
theorem ml_X0_98 : LV RX0 98 yX0_leastMind cX0_leastMind 5 (some .int) 2 := ⟨⟨tbg_t 491 (by decide +kernel) (by decide +kernel), tbg_t 470 (by decide +kernel) (by decide +kernel), tbg_t 3 (by decide +kernel) (by decide +kernel), ⟨by decide +kernel, by decide +kernel, by decide +kernel⟩, by decide⟩, tbg_t 468 (by decide +kernel) (by decide +kernel), tbg_t 469 (by decide +kernel) (by decide +kernel)⟩
theorem ml_X1_22 : LV RX1 22 yX3_become cX3_become 2 none 1 := ⟨⟨tbg_t 384 (by decide +kernel) (by decide +kernel), tbg_t 387 (by decide +kernel) (by decide +kernel), tbg_t 5 (by decide +kernel) (by decide +kernel), ⟨by decide +kernel, by decide +kernel, by decide +kernel⟩, by decide⟩, tbg_t 385 (by decide +kernel) (by decide +kernel), tbg_t 386 (by decide +kernel) (by decide +kernel)⟩
theorem ml_X1_29 : LM RX1 29 Lib.Math.min.name Lib.Math.min.code 2 := ⟨tbg_t 388 (by decide +kernel) (by decide +kernel), tbg_t 301 (by decide +kernel) (by decide +kernel), tbg_t 11 (by decide +kernel) (by decide +kernel), tbg_t 302 (by decide +kernel) (by decide +kernel)⟩
theorem ml_X2_38 : LV RX2 38 yX2_forgetReached cX2_forgetReached 2 none 0 := ⟨⟨tbg_t 434 (by decide +kernel) (by decide +kernel), tbg_t 437 (by decide +kernel) (by decide +kernel), tbg_t 8 (by decide +kernel) (by decide +kernel), ⟨by decide +kernel, by decide +kernel, by decide +kernel⟩, by decide⟩, tbg_t 436 (by decide +kernel) (by decide +kernel), tbg_s 6 (by decide +kernel) (by decide +kernel)⟩
theorem ml_X2_41 : LV RX2 41 yX3_become cX3_become 2 none 1 := ⟨⟨tbg_t 438 (by decide +kernel) (by decide +kernel), tbg_t 387 (by decide +kernel) (by decide +kernel), tbg_t 5 (by decide +kernel) (by decide +kernel), ⟨by decide +kernel, by decide +kernel, by decide +kernel⟩, by decide⟩, tbg_t 385 (by decide +kernel) (by decide +kernel), tbg_t 386 (by decide +kernel) (by decide +kernel)⟩
theorem ml_X2_45 : LV RX2 45 yX2_reach cX2_reach 5 none 3 := ⟨⟨tbg_t 439 (by decide +kernel) (by decide +kernel), tbg_t 442 (by decide +kernel) (by decide +kernel), tbg_t 8 (by decide +kernel) (by decide +kernel), ⟨by decide +kernel, by decide +kernel, by decide +kernel⟩, by decide⟩, tbg_t 441 (by decide +kernel) (by decide +kernel), tbg_s 7 (by decide +kernel) (by decide +kernel)⟩
theorem ml_X2_60 : LV RX2 60 yX0_areCalm cX0_areCalm 4 (some .boolean) 2 := ⟨⟨tbg_t 449 (by decide +kernel) (by decide +kernel), tbg_t 452 (by decide +kernel) (by decide +kernel), tbg_t 3 (by decide +kernel) (by decide +kernel), ⟨by decide +kernel, by decide +kernel, by decide +kernel⟩, by decide⟩, tbg_t 450 (by decide +kernel) (by decide +kernel), tbg_t 451 (by decide +kernel) (by decide +kernel)⟩
theorem ml_X2_66 : LV RX2 66 yX2_tellRow cX2_tellRow 4 none 1 := ⟨⟨tbg_t 453 (by decide +kernel) (by decide +kernel), tbg_t 456 (by decide +kernel) (by decide +kernel), tbg_t 8 (by decide +kernel) (by decide +kernel), ⟨by decide +kernel, by decide +kernel, by decide +kernel⟩, by decide⟩, tbg_t 455 (by decide +kernel) (by decide +kernel), tbg_s 8 (by decide +kernel) (by decide +kernel)⟩
theorem ml_X2_70 : LV RX2 70 yX2_goOnFrom cX2_goOnFrom 3 none 1 := ⟨⟨tbg_t 458 (by decide +kernel) (by decide +kernel), tbg_t 461 (by decide +kernel) (by decide +kernel), tbg_t 8 (by decide +kernel) (by decide +kernel), ⟨by decide +kernel, by decide +kernel, by decide +kernel⟩, by decide⟩, tbg_t 460 (by decide +kernel) (by decide +kernel), tbg_s 9 (by decide +kernel) (by decide +kernel)⟩
theorem ml_X2_81 : LM RX2 81 Lib.Math.min.name Lib.Math.min.code 2 := ⟨tbg_t 457 (by decide +kernel) (by decide +kernel), tbg_t 301 (by decide +kernel) (by decide +kernel), tbg_t 11 (by decide +kernel) (by decide +kernel), tbg_t 302 (by decide +kernel) (by decide +kernel)⟩
theorem ml_X3_21 : LC RX3 21 := ⟨tbg_t 310 (by decide +kernel) (by decide +kernel), tbg_t 305 (by decide +kernel) (by decide +kernel), tbg_t 304 (by decide +kernel) (by decide +kernel), tbg_t 12 (by decide +kernel) (by decide +kernel)⟩
theorem ml_X4_37 : LC RX4 37 := ⟨tbg_t 521 (by decide +kernel) (by decide +kernel), tbg_t 305 (by decide +kernel) (by decide +kernel), tbg_t 304 (by decide +kernel) (by decide +kernel), tbg_t 12 (by decide +kernel) (by decide +kernel)⟩
theorem ml_X4_50 : LV RX4 50 yX5_mien cX5_mien 7 (some .int) 2 := ⟨⟨tbg_t 539 (by decide +kernel) (by decide +kernel), tbg_t 333 (by decide +kernel) (by decide +kernel), tbg_t 4 (by decide +kernel) (by decide +kernel), ⟨by decide +kernel, by decide +kernel, by decide +kernel⟩, by decide⟩, tbg_t 331 (by decide +kernel) (by decide +kernel), tbg_t 332 (by decide +kernel) (by decide +kernel)⟩
theorem ml_X4_63 : LV RX4 63 yX4_fits cX4_fits 3 (some .boolean) 1 := ⟨⟨tbg_t 534 (by decide +kernel) (by decide +kernel), tbg_t 537 (by decide +kernel) (by decide +kernel), tbg_t 7 (by decide +kernel) (by decide +kernel), ⟨by decide +kernel, by decide +kernel, by decide +kernel⟩, by decide⟩, tbg_t 536 (by decide +kernel) (by decide +kernel), tbg_s 11 (by decide +kernel) (by decide +kernel)⟩
theorem ml_X4_67 : LM RX4 67 Lib.Math.min.name Lib.Math.min.code 2 := ⟨tbg_t 540 (by decide +kernel) (by decide +kernel), tbg_t 301 (by decide +kernel) (by decide +kernel), tbg_t 11 (by decide +kernel) (by decide +kernel), tbg_t 302 (by decide +kernel) (by decide +kernel)⟩
theorem ml_X4_73 : LM RX4 73 Lib.Math.max.name Lib.Math.max.code 2 := ⟨tbg_t 541 (by decide +kernel) (by decide +kernel), tbg_t 393 (by decide +kernel) (by decide +kernel), tbg_t 11 (by decide +kernel) (by decide +kernel), tbg_t 394 (by decide +kernel) (by decide +kernel)⟩
theorem ml_X4_76 : LV RX4 76 yX4_foresee cX4_foresee 3 none 1 := ⟨⟨tbg_t 550 (by decide +kernel) (by decide +kernel), tbg_t 553 (by decide +kernel) (by decide +kernel), tbg_t 7 (by decide +kernel) (by decide +kernel), ⟨by decide +kernel, by decide +kernel, by decide +kernel⟩, by decide⟩, tbg_t 552 (by decide +kernel) (by decide +kernel), tbg_s 12 (by decide +kernel) (by decide +kernel)⟩
theorem ml_X4_80 : LV RX4 80 yX4_tallyGuess cX4_tallyGuess 2 none 0 := ⟨⟨tbg_t 556 (by decide +kernel) (by decide +kernel), tbg_t 559 (by decide +kernel) (by decide +kernel), tbg_t 7 (by decide +kernel) (by decide +kernel), ⟨by decide +kernel, by decide +kernel, by decide +kernel⟩, by decide⟩, tbg_t 558 (by decide +kernel) (by decide +kernel), tbg_s 13 (by decide +kernel) (by decide +kernel)⟩
theorem ml_X4_83 : LV RX4 83 yX4_mostTelling cX4_mostTelling 3 (some .int) 0 := ⟨⟨tbg_t 560 (by decide +kernel) (by decide +kernel), tbg_t 563 (by decide +kernel) (by decide +kernel), tbg_t 7 (by decide +kernel) (by decide +kernel), ⟨by decide +kernel, by decide +kernel, by decide +kernel⟩, by decide⟩, tbg_t 562 (by decide +kernel) (by decide +kernel), tbg_s 14 (by decide +kernel) (by decide +kernel)⟩
theorem ml_X4_91 : LSt RX4 91 yJ7_fill_53178 cJ7_fill_53178 4 none 2 := ⟨⟨tbg_t 555 (by decide +kernel) (by decide +kernel), tbg_t 271 (by decide +kernel) (by decide +kernel), tbg_t 10 (by decide +kernel) (by decide +kernel), ⟨by decide +kernel, by decide +kernel, by decide +kernel⟩, by decide⟩, tbg_t 270 (by decide +kernel) (by decide +kernel)⟩
theorem ml_X4_96 : LSt RX4 96 yX4_greatestOf cX4_greatestOf 6 (some .int) 1 := ⟨⟨tbg_t 564 (by decide +kernel) (by decide +kernel), tbg_t 566 (by decide +kernel) (by decide +kernel), tbg_t 7 (by decide +kernel) (by decide +kernel), ⟨by decide +kernel, by decide +kernel, by decide +kernel⟩, by decide⟩, tbg_t 565 (by decide +kernel) (by decide +kernel)⟩
theorem ml_X5_19 : LV RX5 19 yX5_offBy cX5_offBy 5 (some .int) 3 := ⟨⟨tbg_t 334 (by decide +kernel) (by decide +kernel), tbg_t 337 (by decide +kernel) (by decide +kernel), tbg_t 4 (by decide +kernel) (by decide +kernel), ⟨by decide +kernel, by decide +kernel, by decide +kernel⟩, by decide⟩, tbg_t 335 (by decide +kernel) (by decide +kernel), tbg_t 336 (by decide +kernel) (by decide +kernel)⟩
theorem ml_X5_23 : LM RX5 23 Lib.Math.abs.name Lib.Math.abs.code 1 := ⟨tbg_t 338 (by decide +kernel) (by decide +kernel), tbg_t 339 (by decide +kernel) (by decide +kernel), tbg_t 11 (by decide +kernel) (by decide +kernel), tbg_t 340 (by decide +kernel) (by decide +kernel)⟩
theorem ml_X6_40 : LSt RX6 40 yJ7_fill_53178 cJ7_fill_53178 4 none 2 := ⟨⟨tbg_t 269 (by decide +kernel) (by decide +kernel), tbg_t 271 (by decide +kernel) (by decide +kernel), tbg_t 10 (by decide +kernel) (by decide +kernel), ⟨by decide +kernel, by decide +kernel, by decide +kernel⟩, by decide⟩, tbg_t 270 (by decide +kernel) (by decide +kernel)⟩
theorem ml_X6_46 : LV RX6 46 yX6_skipBlanks cX6_skipBlanks 1 none 0 := ⟨⟨tbg_t 272 (by decide +kernel) (by decide +kernel), tbg_t 275 (by decide +kernel) (by decide +kernel), tbg_t 2 (by decide +kernel) (by decide +kernel), ⟨by decide +kernel, by decide +kernel, by decide +kernel⟩, by decide⟩, tbg_t 274 (by decide +kernel) (by decide +kernel), tbg_s 0 (by decide +kernel) (by decide +kernel)⟩
theorem ml_X6_49 : LV RX6 49 yX6_readItem cX6_readItem 1 (some .boolean) 0 := ⟨⟨tbg_t 280 (by decide +kernel) (by decide +kernel), tbg_t 283 (by decide +kernel) (by decide +kernel), tbg_t 2 (by decide +kernel) (by decide +kernel), ⟨by decide +kernel, by decide +kernel, by decide +kernel⟩, by decide⟩, tbg_t 282 (by decide +kernel) (by decide +kernel), tbg_s 2 (by decide +kernel) (by decide +kernel)⟩
theorem ml_X6_53 : LV RX6 53 yX6_isAt cX6_isAt 3 (some .boolean) 2 := ⟨⟨tbg_t 276 (by decide +kernel) (by decide +kernel), tbg_t 279 (by decide +kernel) (by decide +kernel), tbg_t 2 (by decide +kernel) (by decide +kernel), ⟨by decide +kernel, by decide +kernel, by decide +kernel⟩, by decide⟩, tbg_t 278 (by decide +kernel) (by decide +kernel), tbg_s 1 (by decide +kernel) (by decide +kernel)⟩
theorem ml_X6_57 : LV RX6 57 yX6_readRow cX6_readRow 4 (some .boolean) 1 := ⟨⟨tbg_t 284 (by decide +kernel) (by decide +kernel), tbg_t 287 (by decide +kernel) (by decide +kernel), tbg_t 2 (by decide +kernel) (by decide +kernel), ⟨by decide +kernel, by decide +kernel, by decide +kernel⟩, by decide⟩, tbg_t 286 (by decide +kernel) (by decide +kernel), tbg_s 3 (by decide +kernel) (by decide +kernel)⟩
theorem ml_X6_61 : LV RX6 61 yX6_digitAt cX6_digitAt 2 (some .int) 1 := ⟨⟨tbg_t 288 (by decide +kernel) (by decide +kernel), tbg_t 291 (by decide +kernel) (by decide +kernel), tbg_t 2 (by decide +kernel) (by decide +kernel), ⟨by decide +kernel, by decide +kernel, by decide +kernel⟩, by decide⟩, tbg_t 290 (by decide +kernel) (by decide +kernel), tbg_s 4 (by decide +kernel) (by decide +kernel)⟩
theorem ml_X7_103 : LV RX7 103 yX0_mienOf cX0_mienOf 3 (some .int) 2 := ⟨⟨tbg_t 326 (by decide +kernel) (by decide +kernel), tbg_t 329 (by decide +kernel) (by decide +kernel), tbg_t 3 (by decide +kernel) (by decide +kernel), ⟨by decide +kernel, by decide +kernel, by decide +kernel⟩, by decide⟩, tbg_t 327 (by decide +kernel) (by decide +kernel), tbg_t 328 (by decide +kernel) (by decide +kernel)⟩
theorem ml_X7_107 : LV RX7 107 yX0_mindOf cX0_mindOf 3 (some .int) 2 := ⟨⟨tbg_t 341 (by decide +kernel) (by decide +kernel), tbg_t 344 (by decide +kernel) (by decide +kernel), tbg_t 3 (by decide +kernel) (by decide +kernel), ⟨by decide +kernel, by decide +kernel, by decide +kernel⟩, by decide⟩, tbg_t 342 (by decide +kernel) (by decide +kernel), tbg_t 343 (by decide +kernel) (by decide +kernel)⟩
theorem ml_X7_114 : LV RX7 114 yX5_offBy cX5_offBy 5 (some .int) 3 := ⟨⟨tbg_t 354 (by decide +kernel) (by decide +kernel), tbg_t 337 (by decide +kernel) (by decide +kernel), tbg_t 4 (by decide +kernel) (by decide +kernel), ⟨by decide +kernel, by decide +kernel, by decide +kernel⟩, by decide⟩, tbg_t 335 (by decide +kernel) (by decide +kernel), tbg_t 336 (by decide +kernel) (by decide +kernel)⟩
theorem ml_X7_118 : LV RX7 118 yX0_calmSet cX0_calmSet 4 (some .int) 1 := ⟨⟨tbg_t 359 (by decide +kernel) (by decide +kernel), tbg_t 362 (by decide +kernel) (by decide +kernel), tbg_t 3 (by decide +kernel) (by decide +kernel), ⟨by decide +kernel, by decide +kernel, by decide +kernel⟩, by decide⟩, tbg_t 360 (by decide +kernel) (by decide +kernel), tbg_t 361 (by decide +kernel) (by decide +kernel)⟩
theorem ml_X7_122 : LV RX7 122 yX3_coldSet cX3_coldSet 3 (some .int) 0 := ⟨⟨tbg_t 364 (by decide +kernel) (by decide +kernel), tbg_t 367 (by decide +kernel) (by decide +kernel), tbg_t 5 (by decide +kernel) (by decide +kernel), ⟨by decide +kernel, by decide +kernel, by decide +kernel⟩, by decide⟩, tbg_t 365 (by decide +kernel) (by decide +kernel), tbg_t 366 (by decide +kernel) (by decide +kernel)⟩
theorem ml_X7_125 : LSt RX7 125 yX7_total cX7_total 6 (some .int) 1 := ⟨⟨tbg_t 368 (by decide +kernel) (by decide +kernel), tbg_t 370 (by decide +kernel) (by decide +kernel), tbg_t 1 (by decide +kernel) (by decide +kernel), ⟨by decide +kernel, by decide +kernel, by decide +kernel⟩, by decide⟩, tbg_t 369 (by decide +kernel) (by decide +kernel)⟩
theorem ml_X7_129 : LV RX7 129 yX0_mindOfAll cX0_mindOfAll 4 (some .int) 1 := ⟨⟨tbg_t 371 (by decide +kernel) (by decide +kernel), tbg_t 374 (by decide +kernel) (by decide +kernel), tbg_t 3 (by decide +kernel) (by decide +kernel), ⟨by decide +kernel, by decide +kernel, by decide +kernel⟩, by decide⟩, tbg_t 372 (by decide +kernel) (by decide +kernel), tbg_t 373 (by decide +kernel) (by decide +kernel)⟩
theorem ml_X7_135 : LV RX7 135 yX1_remember cX1_remember 2 none 1 := ⟨⟨tbg_t 380 (by decide +kernel) (by decide +kernel), tbg_t 383 (by decide +kernel) (by decide +kernel), tbg_t 6 (by decide +kernel) (by decide +kernel), ⟨by decide +kernel, by decide +kernel, by decide +kernel⟩, by decide⟩, tbg_t 381 (by decide +kernel) (by decide +kernel), tbg_t 382 (by decide +kernel) (by decide +kernel)⟩
theorem ml_X7_139 : LSt RX7 139 yX7_change cX7_change 3 none 2 := ⟨⟨tbg_t 389 (by decide +kernel) (by decide +kernel), tbg_t 391 (by decide +kernel) (by decide +kernel), tbg_t 1 (by decide +kernel) (by decide +kernel), ⟨by decide +kernel, by decide +kernel, by decide +kernel⟩, by decide⟩, tbg_t 390 (by decide +kernel) (by decide +kernel)⟩
theorem ml_X7_143 : LSt RX7 143 yJ6_bitCount_0f7a4 cJ6_bitCount_0f7a4 1 (some .int) 1 := ⟨⟨tbg_t 408 (by decide +kernel) (by decide +kernel), tbg_t 410 (by decide +kernel) (by decide +kernel), tbg_t 13 (by decide +kernel) (by decide +kernel), ⟨by decide +kernel, by decide +kernel, by decide +kernel⟩, by decide⟩, tbg_t 409 (by decide +kernel) (by decide +kernel)⟩
theorem ml_X7_148 : LV RX7 148 yX1_bringBack cX1_bringBack 2 (some .int) 1 := ⟨⟨tbg_t 418 (by decide +kernel) (by decide +kernel), tbg_t 421 (by decide +kernel) (by decide +kernel), tbg_t 6 (by decide +kernel) (by decide +kernel), ⟨by decide +kernel, by decide +kernel, by decide +kernel⟩, by decide⟩, tbg_t 419 (by decide +kernel) (by decide +kernel), tbg_t 420 (by decide +kernel) (by decide +kernel)⟩
theorem ml_X7_151 : LV RX7 151 yX0_everyone cX0_everyone 1 (some .int) 0 := ⟨⟨tbg_t 426 (by decide +kernel) (by decide +kernel), tbg_t 429 (by decide +kernel) (by decide +kernel), tbg_t 3 (by decide +kernel) (by decide +kernel), ⟨by decide +kernel, by decide +kernel, by decide +kernel⟩, by decide⟩, tbg_t 427 (by decide +kernel) (by decide +kernel), tbg_t 428 (by decide +kernel) (by decide +kernel)⟩
theorem ml_X7_154 : LV RX7 154 yX2_search cX2_search 5 (some .int) 3 := ⟨⟨tbg_t 430 (by decide +kernel) (by decide +kernel), tbg_t 433 (by decide +kernel) (by decide +kernel), tbg_t 8 (by decide +kernel) (by decide +kernel), ⟨by decide +kernel, by decide +kernel, by decide +kernel⟩, by decide⟩, tbg_t 431 (by decide +kernel) (by decide +kernel), tbg_t 432 (by decide +kernel) (by decide +kernel)⟩
theorem ml_X7_161 : LV RX7 161 yX0_leastMind cX0_leastMind 5 (some .int) 2 := ⟨⟨tbg_t 467 (by decide +kernel) (by decide +kernel), tbg_t 470 (by decide +kernel) (by decide +kernel), tbg_t 3 (by decide +kernel) (by decide +kernel), ⟨by decide +kernel, by decide +kernel, by decide +kernel⟩, by decide⟩, tbg_t 468 (by decide +kernel) (by decide +kernel), tbg_t 469 (by decide +kernel) (by decide +kernel)⟩
theorem ml_X7_165 : LV RX7 165 yX0_bestAmount cX0_bestAmount 8 (some .int) 3 := ⟨⟨tbg_t 481 (by decide +kernel) (by decide +kernel), tbg_t 474 (by decide +kernel) (by decide +kernel), tbg_t 3 (by decide +kernel) (by decide +kernel), ⟨by decide +kernel, by decide +kernel, by decide +kernel⟩, by decide⟩, tbg_t 472 (by decide +kernel) (by decide +kernel), tbg_t 473 (by decide +kernel) (by decide +kernel)⟩
theorem ml_X7_169 : LV RX7 169 yX0_bestParting cX0_bestParting 5 (some .int) 1 := ⟨⟨tbg_t 486 (by decide +kernel) (by decide +kernel), tbg_t 489 (by decide +kernel) (by decide +kernel), tbg_t 3 (by decide +kernel) (by decide +kernel), ⟨by decide +kernel, by decide +kernel, by decide +kernel⟩, by decide⟩, tbg_t 487 (by decide +kernel) (by decide +kernel), tbg_t 488 (by decide +kernel) (by decide +kernel)⟩
theorem ml_X7_172 : LV RX7 172 yX0_partedMind cX0_partedMind 2 (some .int) 1 := ⟨⟨tbg_t 496 (by decide +kernel) (by decide +kernel), tbg_t 495 (by decide +kernel) (by decide +kernel), tbg_t 3 (by decide +kernel) (by decide +kernel), ⟨by decide +kernel, by decide +kernel, by decide +kernel⟩, by decide⟩, tbg_t 493 (by decide +kernel) (by decide +kernel), tbg_t 494 (by decide +kernel) (by decide +kernel)⟩
theorem ml_X7_175 : LV RX7 175 yX0_countWays cX0_countWays 6 none 2 := ⟨⟨tbg_t 501 (by decide +kernel) (by decide +kernel), tbg_t 504 (by decide +kernel) (by decide +kernel), tbg_t 3 (by decide +kernel) (by decide +kernel), ⟨by decide +kernel, by decide +kernel, by decide +kernel⟩, by decide⟩, tbg_t 502 (by decide +kernel) (by decide +kernel), tbg_t 503 (by decide +kernel) (by decide +kernel)⟩
theorem ml_X7_178 : LV RX7 178 yX0_waysFrom cX0_waysFrom 4 (some .int) 1 := ⟨⟨tbg_t 506 (by decide +kernel) (by decide +kernel), tbg_t 509 (by decide +kernel) (by decide +kernel), tbg_t 3 (by decide +kernel) (by decide +kernel), ⟨by decide +kernel, by decide +kernel, by decide +kernel⟩, by decide⟩, tbg_t 507 (by decide +kernel) (by decide +kernel), tbg_t 508 (by decide +kernel) (by decide +kernel)⟩
theorem ml_X7_181 : LSt RX7 181 yX7_inLeastTerms cX7_inLeastTerms 6 (some .int) 3 := ⟨⟨tbg_t 510 (by decide +kernel) (by decide +kernel), tbg_t 512 (by decide +kernel) (by decide +kernel), tbg_t 1 (by decide +kernel) (by decide +kernel), ⟨by decide +kernel, by decide +kernel, by decide +kernel⟩, by decide⟩, tbg_t 511 (by decide +kernel) (by decide +kernel)⟩
theorem ml_X7_187 : LV RX7 187 yX4_notice cX4_notice 3 (some .int) 2 := ⟨⟨tbg_t 517 (by decide +kernel) (by decide +kernel), tbg_t 520 (by decide +kernel) (by decide +kernel), tbg_t 7 (by decide +kernel) (by decide +kernel), ⟨by decide +kernel, by decide +kernel, by decide +kernel⟩, by decide⟩, tbg_t 518 (by decide +kernel) (by decide +kernel), tbg_t 519 (by decide +kernel) (by decide +kernel)⟩
theorem ml_X7_191 : LV RX7 191 yX4_gather cX4_gather 3 none 1 := ⟨⟨tbg_t 530 (by decide +kernel) (by decide +kernel), tbg_t 533 (by decide +kernel) (by decide +kernel), tbg_t 7 (by decide +kernel) (by decide +kernel), ⟨by decide +kernel, by decide +kernel, by decide +kernel⟩, by decide⟩, tbg_t 531 (by decide +kernel) (by decide +kernel), tbg_t 532 (by decide +kernel) (by decide +kernel)⟩
theorem ml_X7_204 : LV RX7 204 yX4_bestQuestion cX4_bestQuestion 3 (some .int) 1 := ⟨⟨tbg_t 546 (by decide +kernel) (by decide +kernel), tbg_t 549 (by decide +kernel) (by decide +kernel), tbg_t 7 (by decide +kernel) (by decide +kernel), ⟨by decide +kernel, by decide +kernel, by decide +kernel⟩, by decide⟩, tbg_t 547 (by decide +kernel) (by decide +kernel), tbg_t 548 (by decide +kernel) (by decide +kernel)⟩
theorem ml_X7_207 : LV RX7 207 yX7_asBrother cX7_asBrother 2 (some .int) 1 := ⟨⟨tbg_t 571 (by decide +kernel) (by decide +kernel), tbg_t 574 (by decide +kernel) (by decide +kernel), tbg_t 1 (by decide +kernel) (by decide +kernel), ⟨by decide +kernel, by decide +kernel, by decide +kernel⟩, by decide⟩, tbg_t 573 (by decide +kernel) (by decide +kernel), tbg_s 15 (by decide +kernel) (by decide +kernel)⟩
theorem ml_X7_210 : LV RX7 210 yX7_asNovice cX7_asNovice 2 (some .int) 1 := ⟨⟨tbg_t 575 (by decide +kernel) (by decide +kernel), tbg_t 578 (by decide +kernel) (by decide +kernel), tbg_t 1 (by decide +kernel) (by decide +kernel), ⟨by decide +kernel, by decide +kernel, by decide +kernel⟩, by decide⟩, tbg_t 577 (by decide +kernel) (by decide +kernel), tbg_s 16 (by decide +kernel) (by decide +kernel)⟩
theorem ml_X7_213 : LV RX7 213 yX7_asAbbot cX7_asAbbot 2 (some .int) 1 := ⟨⟨tbg_t 580 (by decide +kernel) (by decide +kernel), tbg_t 583 (by decide +kernel) (by decide +kernel), tbg_t 1 (by decide +kernel) (by decide +kernel), ⟨by decide +kernel, by decide +kernel, by decide +kernel⟩, by decide⟩, tbg_t 582 (by decide +kernel) (by decide +kernel), tbg_s 17 (by decide +kernel) (by decide +kernel)⟩
theorem ml_X7_216 : LV RX7 216 yX7_asGiles cX7_asGiles 2 (some .int) 1 := ⟨⟨tbg_t 585 (by decide +kernel) (by decide +kernel), tbg_t 588 (by decide +kernel) (by decide +kernel), tbg_t 1 (by decide +kernel) (by decide +kernel), ⟨by decide +kernel, by decide +kernel, by decide +kernel⟩, by decide⟩, tbg_t 587 (by decide +kernel) (by decide +kernel), tbg_s 18 (by decide +kernel) (by decide +kernel)⟩
theorem ml_X7_219 : LV RX7 219 yX7_asPrior cX7_asPrior 2 (some .int) 1 := ⟨⟨tbg_t 590 (by decide +kernel) (by decide +kernel), tbg_t 593 (by decide +kernel) (by decide +kernel), tbg_t 1 (by decide +kernel) (by decide +kernel), ⟨by decide +kernel, by decide +kernel, by decide +kernel⟩, by decide⟩, tbg_t 592 (by decide +kernel) (by decide +kernel), tbg_s 19 (by decide +kernel) (by decide +kernel)⟩
theorem ml_X7_222 : LV RX7 222 yX7_asCellarer cX7_asCellarer 2 (some .int) 1 := ⟨⟨tbg_t 595 (by decide +kernel) (by decide +kernel), tbg_t 598 (by decide +kernel) (by decide +kernel), tbg_t 1 (by decide +kernel) (by decide +kernel), ⟨by decide +kernel, by decide +kernel, by decide +kernel⟩, by decide⟩, tbg_t 597 (by decide +kernel) (by decide +kernel), tbg_s 20 (by decide +kernel) (by decide +kernel)⟩
theorem ml_X7_225 : LSt RX7 225 yX7_isImage cX7_isImage 1 (some .boolean) 1 := ⟨⟨tbg_t 604 (by decide +kernel) (by decide +kernel), tbg_t 606 (by decide +kernel) (by decide +kernel), tbg_t 1 (by decide +kernel) (by decide +kernel), ⟨by decide +kernel, by decide +kernel, by decide +kernel⟩, by decide⟩, tbg_t 605 (by decide +kernel) (by decide +kernel)⟩
theorem ml_X7_228 : LV RX7 228 yX3_become cX3_become 2 none 1 := ⟨⟨tbg_t 607 (by decide +kernel) (by decide +kernel), tbg_t 387 (by decide +kernel) (by decide +kernel), tbg_t 5 (by decide +kernel) (by decide +kernel), ⟨by decide +kernel, by decide +kernel, by decide +kernel⟩, by decide⟩, tbg_t 385 (by decide +kernel) (by decide +kernel), tbg_t 386 (by decide +kernel) (by decide +kernel)⟩
theorem ml_X7_231 : LV RX7 231 yX0_howManyCalm cX0_howManyCalm 2 (some .int) 1 := ⟨⟨tbg_t 608 (by decide +kernel) (by decide +kernel), tbg_t 611 (by decide +kernel) (by decide +kernel), tbg_t 3 (by decide +kernel) (by decide +kernel), ⟨by decide +kernel, by decide +kernel, by decide +kernel⟩, by decide⟩, tbg_t 609 (by decide +kernel) (by decide +kernel), tbg_t 610 (by decide +kernel) (by decide +kernel)⟩
theorem ml_X7_246 : LV RX7 246 yX0_become cX0_become 4 none 2 := ⟨⟨tbg_t 296 (by decide +kernel) (by decide +kernel), tbg_t 299 (by decide +kernel) (by decide +kernel), tbg_t 3 (by decide +kernel) (by decide +kernel), ⟨by decide +kernel, by decide +kernel, by decide +kernel⟩, by decide⟩, tbg_t 297 (by decide +kernel) (by decide +kernel), tbg_t 298 (by decide +kernel) (by decide +kernel)⟩
theorem ml_X7_250 : LV RX7 250 yX3_begin cX3_begin 5 none 3 := ⟨⟨tbg_t 306 (by decide +kernel) (by decide +kernel), tbg_t 309 (by decide +kernel) (by decide +kernel), tbg_t 5 (by decide +kernel) (by decide +kernel), ⟨by decide +kernel, by decide +kernel, by decide +kernel⟩, by decide⟩, tbg_t 307 (by decide +kernel) (by decide +kernel), tbg_t 308 (by decide +kernel) (by decide +kernel)⟩
theorem ml_X7_264 : LM RX7 264 Lib.Math.max.name Lib.Math.max.code 2 := ⟨tbg_t 392 (by decide +kernel) (by decide +kernel), tbg_t 393 (by decide +kernel) (by decide +kernel), tbg_t 11 (by decide +kernel) (by decide +kernel), tbg_t 394 (by decide +kernel) (by decide +kernel)⟩
theorem ml_X7_270 : LM RX7 270 Lib.Math.min.name Lib.Math.min.code 2 := ⟨tbg_t 395 (by decide +kernel) (by decide +kernel), tbg_t 301 (by decide +kernel) (by decide +kernel), tbg_t 11 (by decide +kernel) (by decide +kernel), tbg_t 302 (by decide +kernel) (by decide +kernel)⟩
theorem ml_X7_63 : LV RX7 63 yX6_append cX6_append 2 (some .int) 1 := ⟨⟨tbg_t 249 (by decide +kernel) (by decide +kernel), tbg_t 252 (by decide +kernel) (by decide +kernel), tbg_t 2 (by decide +kernel) (by decide +kernel), ⟨by decide +kernel, by decide +kernel, by decide +kernel⟩, by decide⟩, tbg_t 250 (by decide +kernel) (by decide +kernel), tbg_t 251 (by decide +kernel) (by decide +kernel)⟩
theorem ml_X7_67 : LV RX7 67 yX6_empty cX6_empty 2 (some .int) 0 := ⟨⟨tbg_t 257 (by decide +kernel) (by decide +kernel), tbg_t 260 (by decide +kernel) (by decide +kernel), tbg_t 2 (by decide +kernel) (by decide +kernel), ⟨by decide +kernel, by decide +kernel, by decide +kernel⟩, by decide⟩, tbg_t 258 (by decide +kernel) (by decide +kernel), tbg_t 259 (by decide +kernel) (by decide +kernel)⟩
theorem ml_X7_71 : LV RX7 71 yX6_read cX6_read 2 (some .int) 0 := ⟨⟨tbg_t 265 (by decide +kernel) (by decide +kernel), tbg_t 268 (by decide +kernel) (by decide +kernel), tbg_t 2 (by decide +kernel) (by decide +kernel), ⟨by decide +kernel, by decide +kernel, by decide +kernel⟩, by decide⟩, tbg_t 266 (by decide +kernel) (by decide +kernel), tbg_t 267 (by decide +kernel) (by decide +kernel)⟩
theorem ml_X7_74 : LV RX7 74 yX7_beginAnew cX7_beginAnew 2 none 0 := ⟨⟨tbg_t 292 (by decide +kernel) (by decide +kernel), tbg_t 295 (by decide +kernel) (by decide +kernel), tbg_t 1 (by decide +kernel) (by decide +kernel), ⟨by decide +kernel, by decide +kernel, by decide +kernel⟩, by decide⟩, tbg_t 294 (by decide +kernel) (by decide +kernel), tbg_s 5 (by decide +kernel) (by decide +kernel)⟩
theorem ml_X7_77 : LSt RX7 77 yX7_isPart cX7_isPart 1 (some .boolean) 1 := ⟨⟨tbg_t 315 (by decide +kernel) (by decide +kernel), tbg_t 317 (by decide +kernel) (by decide +kernel), tbg_t 1 (by decide +kernel) (by decide +kernel), ⟨by decide +kernel, by decide +kernel, by decide +kernel⟩, by decide⟩, tbg_t 316 (by decide +kernel) (by decide +kernel)⟩
theorem ml_X7_85 : LV RX7 85 yX0_has cX0_has 2 (some .boolean) 1 := ⟨⟨tbg_t 322 (by decide +kernel) (by decide +kernel), tbg_t 325 (by decide +kernel) (by decide +kernel), tbg_t 3 (by decide +kernel) (by decide +kernel), ⟨by decide +kernel, by decide +kernel, by decide +kernel⟩, by decide⟩, tbg_t 323 (by decide +kernel) (by decide +kernel), tbg_t 324 (by decide +kernel) (by decide +kernel)⟩
theorem ml_L_100 : LV RL 100 yX8_rate cX8_rate 6 (some .int) 2 := ⟨⟨tbg_t 929 (by decide +kernel) (by decide +kernel), tbg_t 932 (by decide +kernel) (by decide +kernel), tbg_t 9 (by decide +kernel) (by decide +kernel), ⟨by decide +kernel, by decide +kernel, by decide +kernel⟩, by decide⟩, tbg_t 930 (by decide +kernel) (by decide +kernel), tbg_t 931 (by decide +kernel) (by decide +kernel)⟩
theorem ml_L_101 : LV RL 101 yX7_keep cX7_keep 2 (some .int) 1 := ⟨⟨tbg_t 600 (by decide +kernel) (by decide +kernel), tbg_t 603 (by decide +kernel) (by decide +kernel), tbg_t 1 (by decide +kernel) (by decide +kernel), ⟨by decide +kernel, by decide +kernel, by decide +kernel⟩, by decide⟩, tbg_t 601 (by decide +kernel) (by decide +kernel), tbg_t 602 (by decide +kernel) (by decide +kernel)⟩
theorem ml_L_104 : LV RL 104 yX8_keep cX8_keep 2 (some .int) 1 := ⟨⟨tbg_t 938 (by decide +kernel) (by decide +kernel), tbg_t 941 (by decide +kernel) (by decide +kernel), tbg_t 9 (by decide +kernel) (by decide +kernel), ⟨by decide +kernel, by decide +kernel, by decide +kernel⟩, by decide⟩, tbg_t 939 (by decide +kernel) (by decide +kernel), tbg_t 940 (by decide +kernel) (by decide +kernel)⟩
theorem ml_L_105 : LV RL 105 yX7_back cX7_back 2 (some .int) 1 := ⟨⟨tbg_t 614 (by decide +kernel) (by decide +kernel), tbg_t 617 (by decide +kernel) (by decide +kernel), tbg_t 1 (by decide +kernel) (by decide +kernel), ⟨by decide +kernel, by decide +kernel, by decide +kernel⟩, by decide⟩, tbg_t 615 (by decide +kernel) (by decide +kernel), tbg_t 616 (by decide +kernel) (by decide +kernel)⟩
theorem ml_L_108 : LV RL 108 yX8_back cX8_back 2 (some .int) 1 := ⟨⟨tbg_t 942 (by decide +kernel) (by decide +kernel), tbg_t 945 (by decide +kernel) (by decide +kernel), tbg_t 9 (by decide +kernel) (by decide +kernel), ⟨by decide +kernel, by decide +kernel, by decide +kernel⟩, by decide⟩, tbg_t 943 (by decide +kernel) (by decide +kernel), tbg_t 944 (by decide +kernel) (by decide +kernel)⟩
theorem ml_L_109 : LV RL 109 yX7_count cX7_count 2 (some .int) 1 := ⟨⟨tbg_t 618 (by decide +kernel) (by decide +kernel), tbg_t 621 (by decide +kernel) (by decide +kernel), tbg_t 1 (by decide +kernel) (by decide +kernel), ⟨by decide +kernel, by decide +kernel, by decide +kernel⟩, by decide⟩, tbg_t 619 (by decide +kernel) (by decide +kernel), tbg_t 620 (by decide +kernel) (by decide +kernel)⟩
theorem ml_L_112 : LV RL 112 yX8_count cX8_count 2 (some .int) 1 := ⟨⟨tbg_t 946 (by decide +kernel) (by decide +kernel), tbg_t 949 (by decide +kernel) (by decide +kernel), tbg_t 9 (by decide +kernel) (by decide +kernel), ⟨by decide +kernel, by decide +kernel, by decide +kernel⟩, by decide⟩, tbg_t 947 (by decide +kernel) (by decide +kernel), tbg_t 948 (by decide +kernel) (by decide +kernel)⟩
theorem ml_L_113 : LV RL 113 yX7_trace cX7_trace 1 (some .long) 0 := ⟨⟨tbg_t 622 (by decide +kernel) (by decide +kernel), tbg_t 625 (by decide +kernel) (by decide +kernel), tbg_t 1 (by decide +kernel) (by decide +kernel), ⟨by decide +kernel, by decide +kernel, by decide +kernel⟩, by decide⟩, tbg_t 623 (by decide +kernel) (by decide +kernel), tbg_t 624 (by decide +kernel) (by decide +kernel)⟩
theorem ml_L_117 : LV RL 117 yX8_trace cX8_trace 1 (some .long) 0 := ⟨⟨tbg_t 950 (by decide +kernel) (by decide +kernel), tbg_t 953 (by decide +kernel) (by decide +kernel), tbg_t 9 (by decide +kernel) (by decide +kernel), ⟨by decide +kernel, by decide +kernel, by decide +kernel⟩, by decide⟩, tbg_t 951 (by decide +kernel) (by decide +kernel), tbg_t 952 (by decide +kernel) (by decide +kernel)⟩
theorem ml_L_13 : LV RL 13 yX7_type cX7_type 2 (some .int) 1 := ⟨⟨tbg_t 245 (by decide +kernel) (by decide +kernel), tbg_t 248 (by decide +kernel) (by decide +kernel), tbg_t 1 (by decide +kernel) (by decide +kernel), ⟨by decide +kernel, by decide +kernel, by decide +kernel⟩, by decide⟩, tbg_t 246 (by decide +kernel) (by decide +kernel), tbg_t 247 (by decide +kernel) (by decide +kernel)⟩
theorem ml_L_17 : LV RL 17 yX8_type cX8_type 2 (some .int) 1 := ⟨⟨tbg_t 711 (by decide +kernel) (by decide +kernel), tbg_t 714 (by decide +kernel) (by decide +kernel), tbg_t 9 (by decide +kernel) (by decide +kernel), ⟨by decide +kernel, by decide +kernel, by decide +kernel⟩, by decide⟩, tbg_t 712 (by decide +kernel) (by decide +kernel), tbg_t 713 (by decide +kernel) (by decide +kernel)⟩
theorem ml_L_18 : LV RL 18 yX7_clear cX7_clear 1 (some .int) 0 := ⟨⟨tbg_t 253 (by decide +kernel) (by decide +kernel), tbg_t 256 (by decide +kernel) (by decide +kernel), tbg_t 1 (by decide +kernel) (by decide +kernel), ⟨by decide +kernel, by decide +kernel, by decide +kernel⟩, by decide⟩, tbg_t 254 (by decide +kernel) (by decide +kernel), tbg_t 255 (by decide +kernel) (by decide +kernel)⟩
theorem ml_L_22 : LV RL 22 yX8_clear cX8_clear 2 (some .int) 0 := ⟨⟨tbg_t 718 (by decide +kernel) (by decide +kernel), tbg_t 721 (by decide +kernel) (by decide +kernel), tbg_t 9 (by decide +kernel) (by decide +kernel), ⟨by decide +kernel, by decide +kernel, by decide +kernel⟩, by decide⟩, tbg_t 719 (by decide +kernel) (by decide +kernel), tbg_t 720 (by decide +kernel) (by decide +kernel)⟩
theorem ml_L_23 : LV RL 23 yX7_kitchen cX7_kitchen 2 (some .int) 0 := ⟨⟨tbg_t 261 (by decide +kernel) (by decide +kernel), tbg_t 264 (by decide +kernel) (by decide +kernel), tbg_t 1 (by decide +kernel) (by decide +kernel), ⟨by decide +kernel, by decide +kernel, by decide +kernel⟩, by decide⟩, tbg_t 262 (by decide +kernel) (by decide +kernel), tbg_t 263 (by decide +kernel) (by decide +kernel)⟩
theorem ml_L_26 : LV RL 26 yX8_kitchen cX8_kitchen 2 (some .int) 0 := ⟨⟨tbg_t 722 (by decide +kernel) (by decide +kernel), tbg_t 725 (by decide +kernel) (by decide +kernel), tbg_t 9 (by decide +kernel) (by decide +kernel), ⟨by decide +kernel, by decide +kernel, by decide +kernel⟩, by decide⟩, tbg_t 723 (by decide +kernel) (by decide +kernel), tbg_t 724 (by decide +kernel) (by decide +kernel)⟩
theorem ml_L_27 : LV RL 27 yX7_pot cX7_pot 2 (some .int) 1 := ⟨⟨tbg_t 311 (by decide +kernel) (by decide +kernel), tbg_t 314 (by decide +kernel) (by decide +kernel), tbg_t 1 (by decide +kernel) (by decide +kernel), ⟨by decide +kernel, by decide +kernel, by decide +kernel⟩, by decide⟩, tbg_t 312 (by decide +kernel) (by decide +kernel), tbg_t 313 (by decide +kernel) (by decide +kernel)⟩
theorem ml_L_30 : LV RL 30 yX8_pot cX8_pot 2 (some .int) 1 := ⟨⟨tbg_t 757 (by decide +kernel) (by decide +kernel), tbg_t 760 (by decide +kernel) (by decide +kernel), tbg_t 9 (by decide +kernel) (by decide +kernel), ⟨by decide +kernel, by decide +kernel, by decide +kernel⟩, by decide⟩, tbg_t 758 (by decide +kernel) (by decide +kernel), tbg_t 759 (by decide +kernel) (by decide +kernel)⟩
theorem ml_L_31 : LV RL 31 yX7_brother cX7_brother 3 (some .int) 2 := ⟨⟨tbg_t 318 (by decide +kernel) (by decide +kernel), tbg_t 321 (by decide +kernel) (by decide +kernel), tbg_t 1 (by decide +kernel) (by decide +kernel), ⟨by decide +kernel, by decide +kernel, by decide +kernel⟩, by decide⟩, tbg_t 319 (by decide +kernel) (by decide +kernel), tbg_t 320 (by decide +kernel) (by decide +kernel)⟩
theorem ml_L_35 : LV RL 35 yX8_brother cX8_brother 3 (some .int) 2 := ⟨⟨tbg_t 764 (by decide +kernel) (by decide +kernel), tbg_t 767 (by decide +kernel) (by decide +kernel), tbg_t 9 (by decide +kernel) (by decide +kernel), ⟨by decide +kernel, by decide +kernel, by decide +kernel⟩, by decide⟩, tbg_t 765 (by decide +kernel) (by decide +kernel), tbg_t 766 (by decide +kernel) (by decide +kernel)⟩
theorem ml_L_36 : LV RL 36 yX7_off cX7_off 3 (some .int) 2 := ⟨⟨tbg_t 349 (by decide +kernel) (by decide +kernel), tbg_t 352 (by decide +kernel) (by decide +kernel), tbg_t 1 (by decide +kernel) (by decide +kernel), ⟨by decide +kernel, by decide +kernel, by decide +kernel⟩, by decide⟩, tbg_t 350 (by decide +kernel) (by decide +kernel), tbg_t 351 (by decide +kernel) (by decide +kernel)⟩
theorem ml_L_39 : LV RL 39 yX8_off cX8_off 3 (some .int) 2 := ⟨⟨tbg_t 804 (by decide +kernel) (by decide +kernel), tbg_t 807 (by decide +kernel) (by decide +kernel), tbg_t 9 (by decide +kernel) (by decide +kernel), ⟨by decide +kernel, by decide +kernel, by decide +kernel⟩, by decide⟩, tbg_t 805 (by decide +kernel) (by decide +kernel), tbg_t 806 (by decide +kernel) (by decide +kernel)⟩
theorem ml_L_40 : LV RL 40 yX7_now cX7_now 2 (some .int) 1 := ⟨⟨tbg_t 355 (by decide +kernel) (by decide +kernel), tbg_t 358 (by decide +kernel) (by decide +kernel), tbg_t 1 (by decide +kernel) (by decide +kernel), ⟨by decide +kernel, by decide +kernel, by decide +kernel⟩, by decide⟩, tbg_t 356 (by decide +kernel) (by decide +kernel), tbg_t 357 (by decide +kernel) (by decide +kernel)⟩
theorem ml_L_43 : LV RL 43 yX8_now cX8_now 2 (some .int) 1 := ⟨⟨tbg_t 809 (by decide +kernel) (by decide +kernel), tbg_t 812 (by decide +kernel) (by decide +kernel), tbg_t 9 (by decide +kernel) (by decide +kernel), ⟨by decide +kernel, by decide +kernel, by decide +kernel⟩, by decide⟩, tbg_t 810 (by decide +kernel) (by decide +kernel), tbg_t 811 (by decide +kernel) (by decide +kernel)⟩
theorem ml_L_44 : LV RL 44 yX7_adds cX7_adds 2 (some .int) 1 := ⟨⟨tbg_t 376 (by decide +kernel) (by decide +kernel), tbg_t 379 (by decide +kernel) (by decide +kernel), tbg_t 1 (by decide +kernel) (by decide +kernel), ⟨by decide +kernel, by decide +kernel, by decide +kernel⟩, by decide⟩, tbg_t 377 (by decide +kernel) (by decide +kernel), tbg_t 378 (by decide +kernel) (by decide +kernel)⟩
theorem ml_L_47 : LV RL 47 yX8_adds cX8_adds 2 (some .int) 1 := ⟨⟨tbg_t 825 (by decide +kernel) (by decide +kernel), tbg_t 828 (by decide +kernel) (by decide +kernel), tbg_t 9 (by decide +kernel) (by decide +kernel), ⟨by decide +kernel, by decide +kernel, by decide +kernel⟩, by decide⟩, tbg_t 826 (by decide +kernel) (by decide +kernel), tbg_t 827 (by decide +kernel) (by decide +kernel)⟩
theorem ml_L_48 : LV RL 48 yX7_waters cX7_waters 1 (some .int) 0 := ⟨⟨tbg_t 396 (by decide +kernel) (by decide +kernel), tbg_t 399 (by decide +kernel) (by decide +kernel), tbg_t 1 (by decide +kernel) (by decide +kernel), ⟨by decide +kernel, by decide +kernel, by decide +kernel⟩, by decide⟩, tbg_t 397 (by decide +kernel) (by decide +kernel), tbg_t 398 (by decide +kernel) (by decide +kernel)⟩
theorem ml_L_51 : LV RL 51 yX8_waters cX8_waters 1 (some .int) 0 := ⟨⟨tbg_t 833 (by decide +kernel) (by decide +kernel), tbg_t 836 (by decide +kernel) (by decide +kernel), tbg_t 9 (by decide +kernel) (by decide +kernel), ⟨by decide +kernel, by decide +kernel, by decide +kernel⟩, by decide⟩, tbg_t 834 (by decide +kernel) (by decide +kernel), tbg_t 835 (by decide +kernel) (by decide +kernel)⟩
theorem ml_L_52 : LV RL 52 yX7_sends cX7_sends 2 (some .int) 1 := ⟨⟨tbg_t 400 (by decide +kernel) (by decide +kernel), tbg_t 403 (by decide +kernel) (by decide +kernel), tbg_t 1 (by decide +kernel) (by decide +kernel), ⟨by decide +kernel, by decide +kernel, by decide +kernel⟩, by decide⟩, tbg_t 401 (by decide +kernel) (by decide +kernel), tbg_t 402 (by decide +kernel) (by decide +kernel)⟩
theorem ml_L_55 : LV RL 55 yX8_sends cX8_sends 2 (some .int) 1 := ⟨⟨tbg_t 841 (by decide +kernel) (by decide +kernel), tbg_t 844 (by decide +kernel) (by decide +kernel), tbg_t 9 (by decide +kernel) (by decide +kernel), ⟨by decide +kernel, by decide +kernel, by decide +kernel⟩, by decide⟩, tbg_t 842 (by decide +kernel) (by decide +kernel), tbg_t 843 (by decide +kernel) (by decide +kernel)⟩
theorem ml_L_56 : LV RL 56 yX7_colds cX7_colds 3 (some .int) 2 := ⟨⟨tbg_t 404 (by decide +kernel) (by decide +kernel), tbg_t 407 (by decide +kernel) (by decide +kernel), tbg_t 1 (by decide +kernel) (by decide +kernel), ⟨by decide +kernel, by decide +kernel, by decide +kernel⟩, by decide⟩, tbg_t 405 (by decide +kernel) (by decide +kernel), tbg_t 406 (by decide +kernel) (by decide +kernel)⟩
theorem ml_L_59 : LV RL 59 yX8_colds cX8_colds 3 (some .int) 2 := ⟨⟨tbg_t 845 (by decide +kernel) (by decide +kernel), tbg_t 848 (by decide +kernel) (by decide +kernel), tbg_t 9 (by decide +kernel) (by decide +kernel), ⟨by decide +kernel, by decide +kernel, by decide +kernel⟩, by decide⟩, tbg_t 846 (by decide +kernel) (by decide +kernel), tbg_t 847 (by decide +kernel) (by decide +kernel)⟩
theorem ml_L_60 : LV RL 60 yX7_undo cX7_undo 1 (some .int) 0 := ⟨⟨tbg_t 414 (by decide +kernel) (by decide +kernel), tbg_t 417 (by decide +kernel) (by decide +kernel), tbg_t 1 (by decide +kernel) (by decide +kernel), ⟨by decide +kernel, by decide +kernel, by decide +kernel⟩, by decide⟩, tbg_t 415 (by decide +kernel) (by decide +kernel), tbg_t 416 (by decide +kernel) (by decide +kernel)⟩
theorem ml_L_63 : LV RL 63 yX8_undo cX8_undo 1 (some .int) 0 := ⟨⟨tbg_t 852 (by decide +kernel) (by decide +kernel), tbg_t 855 (by decide +kernel) (by decide +kernel), tbg_t 9 (by decide +kernel) (by decide +kernel), ⟨by decide +kernel, by decide +kernel, by decide +kernel⟩, by decide⟩, tbg_t 853 (by decide +kernel) (by decide +kernel), tbg_t 854 (by decide +kernel) (by decide +kernel)⟩
theorem ml_L_64 : LV RL 64 yX7_plan cX7_plan 4 (some .int) 2 := ⟨⟨tbg_t 422 (by decide +kernel) (by decide +kernel), tbg_t 425 (by decide +kernel) (by decide +kernel), tbg_t 1 (by decide +kernel) (by decide +kernel), ⟨by decide +kernel, by decide +kernel, by decide +kernel⟩, by decide⟩, tbg_t 423 (by decide +kernel) (by decide +kernel), tbg_t 424 (by decide +kernel) (by decide +kernel)⟩
theorem ml_L_67 : LV RL 67 yX8_plan cX8_plan 5 (some .int) 2 := ⟨⟨tbg_t 856 (by decide +kernel) (by decide +kernel), tbg_t 859 (by decide +kernel) (by decide +kernel), tbg_t 9 (by decide +kernel) (by decide +kernel), ⟨by decide +kernel, by decide +kernel, by decide +kernel⟩, by decide⟩, tbg_t 857 (by decide +kernel) (by decide +kernel), tbg_t 858 (by decide +kernel) (by decide +kernel)⟩
theorem ml_L_68 : LV RL 68 yX7_middle cX7_middle 3 (some .int) 1 := ⟨⟨tbg_t 463 (by decide +kernel) (by decide +kernel), tbg_t 466 (by decide +kernel) (by decide +kernel), tbg_t 1 (by decide +kernel) (by decide +kernel), ⟨by decide +kernel, by decide +kernel, by decide +kernel⟩, by decide⟩, tbg_t 464 (by decide +kernel) (by decide +kernel), tbg_t 465 (by decide +kernel) (by decide +kernel)⟩
theorem ml_L_71 : LV RL 71 yX8_middle cX8_middle 3 (some .int) 1 := ⟨⟨tbg_t 871 (by decide +kernel) (by decide +kernel), tbg_t 874 (by decide +kernel) (by decide +kernel), tbg_t 9 (by decide +kernel) (by decide +kernel), ⟨by decide +kernel, by decide +kernel, by decide +kernel⟩, by decide⟩, tbg_t 872 (by decide +kernel) (by decide +kernel), tbg_t 873 (by decide +kernel) (by decide +kernel)⟩
theorem ml_L_72 : LV RL 72 yX7_parted cX7_parted 3 (some .int) 1 := ⟨⟨tbg_t 482 (by decide +kernel) (by decide +kernel), tbg_t 485 (by decide +kernel) (by decide +kernel), tbg_t 1 (by decide +kernel) (by decide +kernel), ⟨by decide +kernel, by decide +kernel, by decide +kernel⟩, by decide⟩, tbg_t 483 (by decide +kernel) (by decide +kernel), tbg_t 484 (by decide +kernel) (by decide +kernel)⟩
theorem ml_L_75 : LV RL 75 yX8_parted cX8_parted 7 (some .int) 1 := ⟨⟨tbg_t 887 (by decide +kernel) (by decide +kernel), tbg_t 890 (by decide +kernel) (by decide +kernel), tbg_t 9 (by decide +kernel) (by decide +kernel), ⟨by decide +kernel, by decide +kernel, by decide +kernel⟩, by decide⟩, tbg_t 888 (by decide +kernel) (by decide +kernel), tbg_t 889 (by decide +kernel) (by decide +kernel)⟩
theorem ml_L_76 : LV RL 76 yX7_odds cX7_odds 4 (some .int) 3 := ⟨⟨tbg_t 497 (by decide +kernel) (by decide +kernel), tbg_t 500 (by decide +kernel) (by decide +kernel), tbg_t 1 (by decide +kernel) (by decide +kernel), ⟨by decide +kernel, by decide +kernel, by decide +kernel⟩, by decide⟩, tbg_t 498 (by decide +kernel) (by decide +kernel), tbg_t 499 (by decide +kernel) (by decide +kernel)⟩
theorem ml_L_80 : LV RL 80 yX8_odds cX8_odds 10 (some .int) 3 := ⟨⟨tbg_t 891 (by decide +kernel) (by decide +kernel), tbg_t 894 (by decide +kernel) (by decide +kernel), tbg_t 9 (by decide +kernel) (by decide +kernel), ⟨by decide +kernel, by decide +kernel, by decide +kernel⟩, by decide⟩, tbg_t 892 (by decide +kernel) (by decide +kernel), tbg_t 893 (by decide +kernel) (by decide +kernel)⟩
theorem ml_L_81 : LV RL 81 yX7_sees cX7_sees 2 (some .int) 1 := ⟨⟨tbg_t 513 (by decide +kernel) (by decide +kernel), tbg_t 516 (by decide +kernel) (by decide +kernel), tbg_t 1 (by decide +kernel) (by decide +kernel), ⟨by decide +kernel, by decide +kernel, by decide +kernel⟩, by decide⟩, tbg_t 514 (by decide +kernel) (by decide +kernel), tbg_t 515 (by decide +kernel) (by decide +kernel)⟩
theorem ml_L_84 : LV RL 84 yX8_sees cX8_sees 3 (some .int) 1 := ⟨⟨tbg_t 898 (by decide +kernel) (by decide +kernel), tbg_t 901 (by decide +kernel) (by decide +kernel), tbg_t 9 (by decide +kernel) (by decide +kernel), ⟨by decide +kernel, by decide +kernel, by decide +kernel⟩, by decide⟩, tbg_t 899 (by decide +kernel) (by decide +kernel), tbg_t 900 (by decide +kernel) (by decide +kernel)⟩
theorem ml_L_85 : LV RL 85 yX7_forget cX7_forget 2 (some .int) 0 := ⟨⟨tbg_t 522 (by decide +kernel) (by decide +kernel), tbg_t 525 (by decide +kernel) (by decide +kernel), tbg_t 1 (by decide +kernel) (by decide +kernel), ⟨by decide +kernel, by decide +kernel, by decide +kernel⟩, by decide⟩, tbg_t 523 (by decide +kernel) (by decide +kernel), tbg_t 524 (by decide +kernel) (by decide +kernel)⟩
theorem ml_L_88 : LV RL 88 yX8_forget cX8_forget 2 (some .int) 0 := ⟨⟨tbg_t 902 (by decide +kernel) (by decide +kernel), tbg_t 905 (by decide +kernel) (by decide +kernel), tbg_t 9 (by decide +kernel) (by decide +kernel), ⟨by decide +kernel, by decide +kernel, by decide +kernel⟩, by decide⟩, tbg_t 903 (by decide +kernel) (by decide +kernel), tbg_t 904 (by decide +kernel) (by decide +kernel)⟩
theorem ml_L_89 : LV RL 89 yX7_likings cX7_likings 3 (some .int) 2 := ⟨⟨tbg_t 526 (by decide +kernel) (by decide +kernel), tbg_t 529 (by decide +kernel) (by decide +kernel), tbg_t 1 (by decide +kernel) (by decide +kernel), ⟨by decide +kernel, by decide +kernel, by decide +kernel⟩, by decide⟩, tbg_t 527 (by decide +kernel) (by decide +kernel), tbg_t 528 (by decide +kernel) (by decide +kernel)⟩
theorem ml_L_92 : LV RL 92 yX8_likings cX8_likings 8 (some .int) 2 := ⟨⟨tbg_t 906 (by decide +kernel) (by decide +kernel), tbg_t 909 (by decide +kernel) (by decide +kernel), tbg_t 9 (by decide +kernel) (by decide +kernel), ⟨by decide +kernel, by decide +kernel, by decide +kernel⟩, by decide⟩, tbg_t 907 (by decide +kernel) (by decide +kernel), tbg_t 908 (by decide +kernel) (by decide +kernel)⟩
theorem ml_L_93 : LV RL 93 yX7_ask cX7_ask 1 (some .int) 0 := ⟨⟨tbg_t 542 (by decide +kernel) (by decide +kernel), tbg_t 545 (by decide +kernel) (by decide +kernel), tbg_t 1 (by decide +kernel) (by decide +kernel), ⟨by decide +kernel, by decide +kernel, by decide +kernel⟩, by decide⟩, tbg_t 543 (by decide +kernel) (by decide +kernel), tbg_t 544 (by decide +kernel) (by decide +kernel)⟩
theorem ml_L_96 : LV RL 96 yX8_ask cX8_ask 5 (some .int) 0 := ⟨⟨tbg_t 920 (by decide +kernel) (by decide +kernel), tbg_t 923 (by decide +kernel) (by decide +kernel), tbg_t 9 (by decide +kernel) (by decide +kernel), ⟨by decide +kernel, by decide +kernel, by decide +kernel⟩, by decide⟩, tbg_t 921 (by decide +kernel) (by decide +kernel), tbg_t 922 (by decide +kernel) (by decide +kernel)⟩
theorem ml_L_97 : LV RL 97 yX7_rate cX7_rate 3 (some .int) 2 := ⟨⟨tbg_t 567 (by decide +kernel) (by decide +kernel), tbg_t 570 (by decide +kernel) (by decide +kernel), tbg_t 1 (by decide +kernel) (by decide +kernel), ⟨by decide +kernel, by decide +kernel, by decide +kernel⟩, by decide⟩, tbg_t 568 (by decide +kernel) (by decide +kernel), tbg_t 569 (by decide +kernel) (by decide +kernel)⟩
theorem ml_X8_101 : LV RX8 101 yX8_readPot cX8_readPot 2 none 0 := ⟨⟨tbg_t 749 (by decide +kernel) (by decide +kernel), tbg_t 752 (by decide +kernel) (by decide +kernel), tbg_t 9 (by decide +kernel) (by decide +kernel), ⟨by decide +kernel, by decide +kernel, by decide +kernel⟩, by decide⟩, tbg_t 751 (by decide +kernel) (by decide +kernel), tbg_s 26 (by decide +kernel) (by decide +kernel)⟩
theorem ml_X8_107 : LV RX8 107 yX8_readItem cX8_readItem 3 none 0 := ⟨⟨tbg_t 737 (by decide +kernel) (by decide +kernel), tbg_t 740 (by decide +kernel) (by decide +kernel), tbg_t 9 (by decide +kernel) (by decide +kernel), ⟨by decide +kernel, by decide +kernel, by decide +kernel⟩, by decide⟩, tbg_t 739 (by decide +kernel) (by decide +kernel), tbg_s 23 (by decide +kernel) (by decide +kernel)⟩
theorem ml_X8_110 : LV RX8 110 yX8_settles cX8_settles 3 none 0 := ⟨⟨tbg_t 753 (by decide +kernel) (by decide +kernel), tbg_t 756 (by decide +kernel) (by decide +kernel), tbg_t 9 (by decide +kernel) (by decide +kernel), ⟨by decide +kernel, by decide +kernel, by decide +kernel⟩, by decide⟩, tbg_t 755 (by decide +kernel) (by decide +kernel), tbg_s 27 (by decide +kernel) (by decide +kernel)⟩
theorem ml_X8_119 : LSt RX8 119 yX8_copy cX8_copy 5 none 4 := ⟨⟨tbg_t 776 (by decide +kernel) (by decide +kernel), tbg_t 778 (by decide +kernel) (by decide +kernel), tbg_t 9 (by decide +kernel) (by decide +kernel), ⟨by decide +kernel, by decide +kernel, by decide +kernel⟩, by decide⟩, tbg_t 777 (by decide +kernel) (by decide +kernel)⟩
theorem ml_X8_123 : LSt RX8 123 yX8_tasted cX8_tasted 3 (some .int) 3 := ⟨⟨tbg_t 794 (by decide +kernel) (by decide +kernel), tbg_t 796 (by decide +kernel) (by decide +kernel), tbg_t 9 (by decide +kernel) (by decide +kernel), ⟨by decide +kernel, by decide +kernel, by decide +kernel⟩, by decide⟩, tbg_t 795 (by decide +kernel) (by decide +kernel)⟩
theorem ml_X8_127 : LV RX8 127 yX8_offOf cX8_offOf 4 (some .int) 3 := ⟨⟨tbg_t 790 (by decide +kernel) (by decide +kernel), tbg_t 793 (by decide +kernel) (by decide +kernel), tbg_t 9 (by decide +kernel) (by decide +kernel), ⟨by decide +kernel, by decide +kernel, by decide +kernel⟩, by decide⟩, tbg_t 792 (by decide +kernel) (by decide +kernel), tbg_s 32 (by decide +kernel) (by decide +kernel)⟩
theorem ml_X8_130 : LSt RX8 130 yX8_far cX8_far 1 (some .int) 1 := ⟨⟨tbg_t 797 (by decide +kernel) (by decide +kernel), tbg_t 799 (by decide +kernel) (by decide +kernel), tbg_t 9 (by decide +kernel) (by decide +kernel), ⟨by decide +kernel, by decide +kernel, by decide +kernel⟩, by decide⟩, tbg_t 798 (by decide +kernel) (by decide +kernel)⟩
theorem ml_X8_133 : LSt RX8 133 yX8_has cX8_has 2 (some .boolean) 2 := ⟨⟨tbg_t 783 (by decide +kernel) (by decide +kernel), tbg_t 785 (by decide +kernel) (by decide +kernel), tbg_t 9 (by decide +kernel) (by decide +kernel), ⟨by decide +kernel, by decide +kernel, by decide +kernel⟩, by decide⟩, tbg_t 784 (by decide +kernel) (by decide +kernel)⟩
theorem ml_X8_137 : LV RX8 137 yX8_mienBy cX8_mienBy 5 (some .int) 2 := ⟨⟨tbg_t 786 (by decide +kernel) (by decide +kernel), tbg_t 789 (by decide +kernel) (by decide +kernel), tbg_t 9 (by decide +kernel) (by decide +kernel), ⟨by decide +kernel, by decide +kernel, by decide +kernel⟩, by decide⟩, tbg_t 788 (by decide +kernel) (by decide +kernel), tbg_s 31 (by decide +kernel) (by decide +kernel)⟩
theorem ml_X8_141 : LV RX8 141 yX8_mien cX8_mien 2 (some .int) 1 := ⟨⟨tbg_t 779 (by decide +kernel) (by decide +kernel), tbg_t 782 (by decide +kernel) (by decide +kernel), tbg_t 9 (by decide +kernel) (by decide +kernel), ⟨by decide +kernel, by decide +kernel, by decide +kernel⟩, by decide⟩, tbg_t 781 (by decide +kernel) (by decide +kernel), tbg_s 30 (by decide +kernel) (by decide +kernel)⟩
theorem ml_X8_144 : LV RX8 144 yX8_mind cX8_mind 4 (some .int) 1 := ⟨⟨tbg_t 800 (by decide +kernel) (by decide +kernel), tbg_t 803 (by decide +kernel) (by decide +kernel), tbg_t 9 (by decide +kernel) (by decide +kernel), ⟨by decide +kernel, by decide +kernel, by decide +kernel⟩, by decide⟩, tbg_t 802 (by decide +kernel) (by decide +kernel), tbg_s 33 (by decide +kernel) (by decide +kernel)⟩
theorem ml_X8_147 : LV RX8 147 yX8_inPot cX8_inPot 3 (some .int) 0 := ⟨⟨tbg_t 817 (by decide +kernel) (by decide +kernel), tbg_t 820 (by decide +kernel) (by decide +kernel), tbg_t 9 (by decide +kernel) (by decide +kernel), ⟨by decide +kernel, by decide +kernel, by decide +kernel⟩, by decide⟩, tbg_t 819 (by decide +kernel) (by decide +kernel), tbg_s 35 (by decide +kernel) (by decide +kernel)⟩
theorem ml_X8_151 : LSt RX8 151 yX8_isPart cX8_isPart 1 (some .boolean) 1 := ⟨⟨tbg_t 761 (by decide +kernel) (by decide +kernel), tbg_t 763 (by decide +kernel) (by decide +kernel), tbg_t 9 (by decide +kernel) (by decide +kernel), ⟨by decide +kernel, by decide +kernel, by decide +kernel⟩, by decide⟩, tbg_t 762 (by decide +kernel) (by decide +kernel)⟩
theorem ml_X8_154 : LV RX8 154 yX8_isBrother cX8_isBrother 2 (some .boolean) 1 := ⟨⟨tbg_t 768 (by decide +kernel) (by decide +kernel), tbg_t 771 (by decide +kernel) (by decide +kernel), tbg_t 9 (by decide +kernel) (by decide +kernel), ⟨by decide +kernel, by decide +kernel, by decide +kernel⟩, by decide⟩, tbg_t 770 (by decide +kernel) (by decide +kernel), tbg_s 28 (by decide +kernel) (by decide +kernel)⟩
theorem ml_X8_157 : LV RX8 157 yX8_asItIs cX8_asItIs 1 none 0 := ⟨⟨tbg_t 772 (by decide +kernel) (by decide +kernel), tbg_t 775 (by decide +kernel) (by decide +kernel), tbg_t 9 (by decide +kernel) (by decide +kernel), ⟨by decide +kernel, by decide +kernel, by decide +kernel⟩, by decide⟩, tbg_t 774 (by decide +kernel) (by decide +kernel), tbg_s 29 (by decide +kernel) (by decide +kernel)⟩
theorem ml_X8_161 : LV RX8 161 yX8_calm cX8_calm 3 (some .int) 0 := ⟨⟨tbg_t 813 (by decide +kernel) (by decide +kernel), tbg_t 816 (by decide +kernel) (by decide +kernel), tbg_t 9 (by decide +kernel) (by decide +kernel), ⟨by decide +kernel, by decide +kernel, by decide +kernel⟩, by decide⟩, tbg_t 815 (by decide +kernel) (by decide +kernel), tbg_s 34 (by decide +kernel) (by decide +kernel)⟩
theorem ml_X8_164 : LV RX8 164 yX8_mindAll cX8_mindAll 3 (some .int) 0 := ⟨⟨tbg_t 821 (by decide +kernel) (by decide +kernel), tbg_t 824 (by decide +kernel) (by decide +kernel), tbg_t 9 (by decide +kernel) (by decide +kernel), ⟨by decide +kernel, by decide +kernel, by decide +kernel⟩, by decide⟩, tbg_t 823 (by decide +kernel) (by decide +kernel), tbg_s 36 (by decide +kernel) (by decide +kernel)⟩
theorem ml_X8_167 : LV RX8 167 yX8_remembers cX8_remembers 2 none 0 := ⟨⟨tbg_t 829 (by decide +kernel) (by decide +kernel), tbg_t 832 (by decide +kernel) (by decide +kernel), tbg_t 9 (by decide +kernel) (by decide +kernel), ⟨by decide +kernel, by decide +kernel, by decide +kernel⟩, by decide⟩, tbg_t 831 (by decide +kernel) (by decide +kernel), tbg_s 37 (by decide +kernel) (by decide +kernel)⟩
theorem ml_X8_170 : LV RX8 170 yX8_does cX8_does 4 none 1 := ⟨⟨tbg_t 837 (by decide +kernel) (by decide +kernel), tbg_t 840 (by decide +kernel) (by decide +kernel), tbg_t 9 (by decide +kernel) (by decide +kernel), ⟨by decide +kernel, by decide +kernel, by decide +kernel⟩, by decide⟩, tbg_t 839 (by decide +kernel) (by decide +kernel), tbg_s 38 (by decide +kernel) (by decide +kernel)⟩
theorem ml_X8_174 : LSt RX8 174 yX8_bits cX8_bits 3 (some .int) 1 := ⟨⟨tbg_t 849 (by decide +kernel) (by decide +kernel), tbg_t 851 (by decide +kernel) (by decide +kernel), tbg_t 9 (by decide +kernel) (by decide +kernel), ⟨by decide +kernel, by decide +kernel, by decide +kernel⟩, by decide⟩, tbg_t 850 (by decide +kernel) (by decide +kernel)⟩
theorem ml_X8_177 : LSt RX8 177 yX8_fives cX8_fives 3 (some .int) 1 := ⟨⟨tbg_t 860 (by decide +kernel) (by decide +kernel), tbg_t 862 (by decide +kernel) (by decide +kernel), tbg_t 9 (by decide +kernel) (by decide +kernel), ⟨by decide +kernel, by decide +kernel, by decide +kernel⟩, by decide⟩, tbg_t 861 (by decide +kernel) (by decide +kernel)⟩
theorem ml_X8_180 : LV RX8 180 yX8_canBe cX8_canBe 2 (some .boolean) 1 := ⟨⟨tbg_t 867 (by decide +kernel) (by decide +kernel), tbg_t 870 (by decide +kernel) (by decide +kernel), tbg_t 9 (by decide +kernel) (by decide +kernel), ⟨by decide +kernel, by decide +kernel, by decide +kernel⟩, by decide⟩, tbg_t 869 (by decide +kernel) (by decide +kernel), tbg_s 40 (by decide +kernel) (by decide +kernel)⟩
theorem ml_X8_183 : LV RX8 183 yX8_calmsBy cX8_calmsBy 7 (some .boolean) 3 := ⟨⟨tbg_t 863 (by decide +kernel) (by decide +kernel), tbg_t 866 (by decide +kernel) (by decide +kernel), tbg_t 9 (by decide +kernel) (by decide +kernel), ⟨by decide +kernel, by decide +kernel, by decide +kernel⟩, by decide⟩, tbg_t 865 (by decide +kernel) (by decide +kernel), tbg_s 39 (by decide +kernel) (by decide +kernel)⟩
theorem ml_X8_186 : LV RX8 186 yX8_mindOf cX8_mindOf 6 (some .int) 3 := ⟨⟨tbg_t 883 (by decide +kernel) (by decide +kernel), tbg_t 886 (by decide +kernel) (by decide +kernel), tbg_t 9 (by decide +kernel) (by decide +kernel), ⟨by decide +kernel, by decide +kernel, by decide +kernel⟩, by decide⟩, tbg_t 885 (by decide +kernel) (by decide +kernel), tbg_s 43 (by decide +kernel) (by decide +kernel)⟩
theorem ml_X8_190 : LV RX8 190 yX8_middleOf cX8_middleOf 5 (some .int) 2 := ⟨⟨tbg_t 879 (by decide +kernel) (by decide +kernel), tbg_t 882 (by decide +kernel) (by decide +kernel), tbg_t 9 (by decide +kernel) (by decide +kernel), ⟨by decide +kernel, by decide +kernel, by decide +kernel⟩, by decide⟩, tbg_t 881 (by decide +kernel) (by decide +kernel), tbg_s 42 (by decide +kernel) (by decide +kernel)⟩
theorem ml_X8_193 : LV RX8 193 yX8_leastOf cX8_leastOf 4 (some .int) 1 := ⟨⟨tbg_t 875 (by decide +kernel) (by decide +kernel), tbg_t 878 (by decide +kernel) (by decide +kernel), tbg_t 9 (by decide +kernel) (by decide +kernel), ⟨by decide +kernel, by decide +kernel, by decide +kernel⟩, by decide⟩, tbg_t 877 (by decide +kernel) (by decide +kernel), tbg_s 41 (by decide +kernel) (by decide +kernel)⟩
theorem ml_X8_196 : LSt RX8 196 yX8_lowest cX8_lowest 6 (some .int) 3 := ⟨⟨tbg_t 895 (by decide +kernel) (by decide +kernel), tbg_t 897 (by decide +kernel) (by decide +kernel), tbg_t 9 (by decide +kernel) (by decide +kernel), ⟨by decide +kernel, by decide +kernel, by decide +kernel⟩, by decide⟩, tbg_t 896 (by decide +kernel) (by decide +kernel)⟩
theorem ml_X8_199 : LSt RX8 199 yX8_likeOf cX8_likeOf 2 (some .int) 2 := ⟨⟨tbg_t 917 (by decide +kernel) (by decide +kernel), tbg_t 919 (by decide +kernel) (by decide +kernel), tbg_t 9 (by decide +kernel) (by decide +kernel), ⟨by decide +kernel, by decide +kernel, by decide +kernel⟩, by decide⟩, tbg_t 918 (by decide +kernel) (by decide +kernel)⟩
theorem ml_X8_202 : LSt RX8 202 yX8_mienOf cX8_mienOf 5 (some .int) 3 := ⟨⟨tbg_t 914 (by decide +kernel) (by decide +kernel), tbg_t 916 (by decide +kernel) (by decide +kernel), tbg_t 9 (by decide +kernel) (by decide +kernel), ⟨by decide +kernel, by decide +kernel, by decide +kernel⟩, by decide⟩, tbg_t 915 (by decide +kernel) (by decide +kernel)⟩
theorem ml_X8_206 : LV RX8 206 yX8_isSo cX8_isSo 4 (some .boolean) 1 := ⟨⟨tbg_t 910 (by decide +kernel) (by decide +kernel), tbg_t 913 (by decide +kernel) (by decide +kernel), tbg_t 9 (by decide +kernel) (by decide +kernel), ⟨by decide +kernel, by decide +kernel, by decide +kernel⟩, by decide⟩, tbg_t 912 (by decide +kernel) (by decide +kernel), tbg_s 44 (by decide +kernel) (by decide +kernel)⟩
theorem ml_X8_209 : LV RX8 209 yX8_likings cX8_likings 8 (some .int) 2 := ⟨⟨tbg_t 924 (by decide +kernel) (by decide +kernel), tbg_t 909 (by decide +kernel) (by decide +kernel), tbg_t 9 (by decide +kernel) (by decide +kernel), ⟨by decide +kernel, by decide +kernel, by decide +kernel⟩, by decide⟩, tbg_t 907 (by decide +kernel) (by decide +kernel), tbg_t 908 (by decide +kernel) (by decide +kernel)⟩
theorem ml_X8_212 : LV RX8 212 yX8_greatestPart cX8_greatestPart 4 (some .int) 0 := ⟨⟨tbg_t 925 (by decide +kernel) (by decide +kernel), tbg_t 928 (by decide +kernel) (by decide +kernel), tbg_t 9 (by decide +kernel) (by decide +kernel), ⟨by decide +kernel, by decide +kernel, by decide +kernel⟩, by decide⟩, tbg_t 927 (by decide +kernel) (by decide +kernel), tbg_s 45 (by decide +kernel) (by decide +kernel)⟩
theorem ml_X8_54 : LSt RX8 54 yX8_in cX8_in 3 (some .boolean) 3 := ⟨⟨tbg_t 715 (by decide +kernel) (by decide +kernel), tbg_t 717 (by decide +kernel) (by decide +kernel), tbg_t 9 (by decide +kernel) (by decide +kernel), ⟨by decide +kernel, by decide +kernel, by decide +kernel⟩, by decide⟩, tbg_t 716 (by decide +kernel) (by decide +kernel)⟩
theorem ml_X8_64 : LV RX8 64 yX8_letterAt cX8_letterAt 2 (some .int) 1 := ⟨⟨tbg_t 730 (by decide +kernel) (by decide +kernel), tbg_t 733 (by decide +kernel) (by decide +kernel), tbg_t 9 (by decide +kernel) (by decide +kernel), ⟨by decide +kernel, by decide +kernel, by decide +kernel⟩, by decide⟩, tbg_t 732 (by decide +kernel) (by decide +kernel), tbg_s 22 (by decide +kernel) (by decide +kernel)⟩
theorem ml_X8_77 : LSt RX8 77 yX8_isFigure cX8_isFigure 1 (some .boolean) 1 := ⟨⟨tbg_t 734 (by decide +kernel) (by decide +kernel), tbg_t 736 (by decide +kernel) (by decide +kernel), tbg_t 9 (by decide +kernel) (by decide +kernel), ⟨by decide +kernel, by decide +kernel, by decide +kernel⟩, by decide⟩, tbg_t 735 (by decide +kernel) (by decide +kernel)⟩
theorem ml_X8_85 : LV RX8 85 yX8_next cX8_next 2 none 0 := ⟨⟨tbg_t 726 (by decide +kernel) (by decide +kernel), tbg_t 729 (by decide +kernel) (by decide +kernel), tbg_t 9 (by decide +kernel) (by decide +kernel), ⟨by decide +kernel, by decide +kernel, by decide +kernel⟩, by decide⟩, tbg_t 728 (by decide +kernel) (by decide +kernel), tbg_s 21 (by decide +kernel) (by decide +kernel)⟩
theorem ml_X8_91 : LV RX8 91 yX8_takesNumber cX8_takesNumber 5 (some .int) 2 := ⟨⟨tbg_t 745 (by decide +kernel) (by decide +kernel), tbg_t 748 (by decide +kernel) (by decide +kernel), tbg_t 9 (by decide +kernel) (by decide +kernel), ⟨by decide +kernel, by decide +kernel, by decide +kernel⟩, by decide⟩, tbg_t 747 (by decide +kernel) (by decide +kernel), tbg_s 25 (by decide +kernel) (by decide +kernel)⟩
theorem ml_X8_98 : LV RX8 98 yX8_readBrother cX8_readBrother 3 none 0 := ⟨⟨tbg_t 741 (by decide +kernel) (by decide +kernel), tbg_t 744 (by decide +kernel) (by decide +kernel), tbg_t 9 (by decide +kernel) (by decide +kernel), ⟨by decide +kernel, by decide +kernel, by decide +kernel⟩, by decide⟩, tbg_t 743 (by decide +kernel) (by decide +kernel), tbg_s 24 (by decide +kernel) (by decide +kernel)⟩
theorem mn_X2_56 : LN RX2 56 yX7_rowOf cX7_rowOf 4 none 2 := ⟨by decide +kernel, tbg_t 448 (by decide +kernel) (by decide +kernel), tbg_t 1 (by decide +kernel) (by decide +kernel), ⟨by decide +kernel, by decide +kernel, by decide +kernel⟩, by decide, tbg_t 447 (by decide +kernel) (by decide +kernel)⟩
theorem mn_X2_73 : LN RX2 73 yX7_change cX7_change 3 none 2 := ⟨by decide +kernel, tbg_t 391 (by decide +kernel) (by decide +kernel), tbg_t 1 (by decide +kernel) (by decide +kernel), ⟨by decide +kernel, by decide +kernel, by decide +kernel⟩, by decide, tbg_t 390 (by decide +kernel) (by decide +kernel)⟩
theorem mn_X2_77 : LN RX2 77 yX7_numberOf cX7_numberOf 3 (some .int) 1 := ⟨by decide +kernel, tbg_t 445 (by decide +kernel) (by decide +kernel), tbg_t 1 (by decide +kernel) (by decide +kernel), ⟨by decide +kernel, by decide +kernel, by decide +kernel⟩, by decide, tbg_t 444 (by decide +kernel) (by decide +kernel)⟩
theorem mn_X4_46 : LN RX4 46 yX7_rowOf cX7_rowOf 4 none 2 := ⟨by decide +kernel, tbg_t 448 (by decide +kernel) (by decide +kernel), tbg_t 1 (by decide +kernel) (by decide +kernel), ⟨by decide +kernel, by decide +kernel, by decide +kernel⟩, by decide, tbg_t 447 (by decide +kernel) (by decide +kernel)⟩
theorem mn_X4_87 : LN RX4 87 yX7_change cX7_change 3 none 2 := ⟨by decide +kernel, tbg_t 391 (by decide +kernel) (by decide +kernel), tbg_t 1 (by decide +kernel) (by decide +kernel), ⟨by decide +kernel, by decide +kernel, by decide +kernel⟩, by decide, tbg_t 390 (by decide +kernel) (by decide +kernel)⟩
theorem k_X7_113 : Cond.constant RX7 113 (-1000000) ∈ TBg := tbg_t 353 (by decide +kernel) (by decide +kernel)
theorem k_X8_160 : Cond.constant RX8 160 (-1000000) ∈ TBg := tbg_t 808 (by decide +kernel) (by decide +kernel)
theorem k_J6_265 : Cond.constant RJ6 265 (1431655765) ∈ TBg := tbg_t 411 (by decide +kernel) (by decide +kernel)
theorem k_J6_266 : Cond.constant RJ6 266 (858993459) ∈ TBg := tbg_t 412 (by decide +kernel) (by decide +kernel)
theorem k_J6_267 : Cond.constant RJ6 267 (252645135) ∈ TBg := tbg_t 413 (by decide +kernel) (by decide +kernel)
theorem k_X7_254 : Cond.constantLong RX7 254 (10) ∈ TBg := tbg_t 579 (by decide +kernel) (by decide +kernel)
theorem k_X7_256 : Cond.constantLong RX7 256 (100) ∈ TBg := tbg_t 584 (by decide +kernel) (by decide +kernel)
theorem k_X7_258 : Cond.constantLong RX7 258 (1000) ∈ TBg := tbg_t 589 (by decide +kernel) (by decide +kernel)
theorem k_X7_260 : Cond.constantLong RX7 260 (10000) ∈ TBg := tbg_t 594 (by decide +kernel) (by decide +kernel)
theorem k_X7_262 : Cond.constantLong RX7 262 (100000) ∈ TBg := tbg_t 599 (by decide +kernel) (by decide +kernel)
theorem k_X8_219 : Cond.constantLong RX8 219 (11) ∈ TBg := tbg_t 933 (by decide +kernel) (by decide +kernel)
theorem k_X8_221 : Cond.constantLong RX8 221 (101) ∈ TBg := tbg_t 934 (by decide +kernel) (by decide +kernel)
theorem k_X8_223 : Cond.constantLong RX8 223 (1011) ∈ TBg := tbg_t 935 (by decide +kernel) (by decide +kernel)
theorem k_X8_225 : Cond.constantLong RX8 225 (10101) ∈ TBg := tbg_t 936 (by decide +kernel) (by decide +kernel)
theorem k_X8_227 : Cond.constantLong RX8 227 (100001) ∈ TBg := tbg_t 937 (by decide +kernel) (by decide +kernel)
end
section
def ab (x : Int32) : Int32 := if 0 ≤ x then x else 0 - x
def mxI (x y : Int32) : Int32 := if x < y then y else x
def mnI (x y : Int32) : Int32 := if y < x then y else x
section EVT
variable {S : Scr} {own : String} {cc : ByteArray} {nL : Nat} {rt : Option FieldType} {d pc : Nat} {ls st : List Value} {σ : Sto} {Q : Option Value → Sto → Prop}
theorem ev_iinc1 {k : Nat} {x : Int32} {ls' : List Value} (hd : decode cc pc = .ok (.iinc k 1, 3)) (h : ls[k]? = some (.int x)) (hn : k < nL) (hs : ls.set k (.int (x + 1)) = ls') (kk : Ev S own cc nL rt d (pc + 3) ls' st σ Q) : Ev S own cc nL rt d pc ls st σ Q := ev_iinc (v := x + 1) hd h rfl hn hs kk
theorem nI_inc (i : Nat) : nI i + Int32.ofInt 1 = nI (i + 1) := (nI_succ i).symm
theorem ev_iaload' {k j : Nat} {i : Int32} (hd : decode cc pc = .ok (.iaload, 1)) (hk : k < NC) (hc : kd k = 10) (hin : vp_in i (ln k)) (hj : i.toNatClampNeg = j) (kk : Ev S own cc nL rt d (pc + 1) ls (.int (σ.1 k j) :: st) σ Q) : Ev S own cc nL rt d pc ls (.int i :: .ref k :: st) σ Q := by
  subst hj; exact ev_iaload hd hk hc hin kk
theorem ev_baload' {k j : Nat} {i : Int32} (hd : decode cc pc = .ok (.baload, 1)) (hk : k < NC) (hc : kd k = 11) (hin : vp_in i (ln k)) (hj : i.toNatClampNeg = j) (kk : Ev S own cc nL rt d (pc + 1) ls (.int (σ.1 k j) :: st) σ Q) : Ev S own cc nL rt d pc ls (.int i :: .ref k :: st) σ Q := by
  subst hj; exact ev_baload hd hk hc hin kk
theorem ev_aaload' {k c j r : Nat} {i : Int32} (hd : decode cc pc = .ok (.aaload, 1)) (hk : k < NC) (hc : kd k = c) (h12 : 12 ≤ c) (h15 : c < 15) (hin : vp_in i (ln k)) (hj : i.toNatClampNeg = j) (hr : rf k j = r) (kk : Ev S own cc nL rt d (pc + 1) ls (.ref r :: st) σ Q) : Ev S own cc nL rt d pc ls (.int i :: .ref k :: st) σ Q := by
  subst hj; exact ev_aaload (t := 0) hd hk hc h12 h15 hin hr kk
theorem ev_iastore' {k j : Nat} {i x : Int32} (hd : decode cc pc = .ok (.iastore, 1)) (hk : k < NC) (hc : kd k = 10) (hin : vp_in i (ln k)) (hj : i.toNatClampNeg = j) (kk : Ev S own cc nL rt d (pc + 1) ls st (wr σ k j x) Q) : Ev S own cc nL rt d pc ls (.int x :: .int i :: .ref k :: st) σ Q := by
  subst hj; exact ev_iastore hd hk hc hin kk
theorem ev_bastore' {k j : Nat} {i x : Int32} (hd : decode cc pc = .ok (.bastore, 1)) (hk : k < NC) (hc : kd k = 11) (hin : vp_in i (ln k)) (hj : i.toNatClampNeg = j) (hx01 : x = 0 ∨ x = 1) (kk : Ev S own cc nL rt d (pc + 1) ls st (wr σ k j x) Q) : Ev S own cc nL rt d pc ls (.int x :: .int i :: .ref k :: st) σ Q := by
  subst hj; exact ev_bastore hd hk hc hin hx01 kk
theorem ev_eq {ls' st' : List Value} {σ' : Sto} (h1 : ls = ls') (h2 : st = st') (h3 : σ = σ') (h : Ev S own cc nL rt d pc ls' st' σ' Q) : Ev S own cc nL rt d pc ls st σ Q := by
  subst h1; subst h2; subst h3; exact h
/-- a local that nobody asks for any more -/
theorem ev_null (k : Nat) (h : Ev S own cc nL rt d pc (ls.set k .null) st σ Q) : Ev S own cc nL rt d pc ls st σ Q := by
  intro E p l e R s m args below meth co cells slots QQ F H locs lsA hR hS hL
  refine h E p l e R s m args below meth co cells slots QQ F H locs lsA hR hS ⟨hL.1, hL.2.1, fun i v hi hn => ?_, fun v hv => ?_⟩
  · by_cases e : k = i
    · subst e
      rw [List.getElem?_set_self (by have := (List.getElem?_eq_some_iff.mp hi).1; simpa using this)] at hi
      cases hi
      exact absurd rfl hn
    · rw [List.getElem?_set_ne e] at hi
      exact hL.2.2.1 i v hi hn
  · rcases List.mem_or_eq_of_mem_set hv with h1 | h1
    · exact hL.2.2.2 v h1
    · rw [h1]; rfl
/-- more room than needed -/
theorem ev_room {d' : Nat} (hd : d' ≤ d) (h : Ev S own cc nL rt d' pc ls st σ Q) : Ev S own cc nL rt d pc ls st σ Q := by
  intro E p l e R s m args below meth co cells slots QQ F H locs lsA hR hS hL
  obtain ⟨hx, hb, hml, hown, hts, hinj, hw, hfr, hlo, hce, hsl, hq⟩ := F
  exact h E p l e R s m args below meth co cells slots QQ ⟨hx, hb, hml, hown, hts, hinj, hw, by omega, by omega, hce, hsl, hq⟩ H locs lsA hR hS hL
theorem ev_callV1 {idx k n mL d' : Nat} {y : MethodName} {b : ByteArray} {r : Option FieldType} {As stk : List Value} {v : Value} {σ' : Sto} (hd : decode cc pc = .ok (.invokevirtual idx, 3)) (hM : LV own idx y b mL r n) (hT : Mt S y b mL r d' (.ref k :: As) σ (Is (some v) σ')) (hk : k < NC) (hc : ∃ q, vwCl[kd k]? = some q ∧ q.1 = y.cls) (hstk : stk = As.reverse ++ .ref k :: st) (hd' : d' < d) (hn : As.length = n) (h8 : (st.map fun v => v.category).sum ≤ 8) (kk : Ev S own cc nL rt d (pc + 3) ls (v :: st) σ' Q) : Ev S own cc nL rt d pc ls stk σ Q :=
  ev_callV hd hM hT hk hc hstk hd' hn h8 (fun _ _ h => by obtain ⟨rfl, rfl⟩ := h; exact kk)
theorem ev_callV0 {idx k n mL d' : Nat} {y : MethodName} {b : ByteArray} {r : Option FieldType} {As stk : List Value} {σ' : Sto} (hd : decode cc pc = .ok (.invokevirtual idx, 3)) (hM : LV own idx y b mL r n) (hT : Mt S y b mL r d' (.ref k :: As) σ (Is none σ')) (hk : k < NC) (hc : ∃ q, vwCl[kd k]? = some q ∧ q.1 = y.cls) (hstk : stk = As.reverse ++ .ref k :: st) (hd' : d' < d) (hn : As.length = n) (h8 : (st.map fun v => v.category).sum ≤ 8) (kk : Ev S own cc nL rt d (pc + 3) ls st σ' Q) : Ev S own cc nL rt d pc ls stk σ Q :=
  ev_callV hd hM hT hk hc hstk hd' hn h8 (fun _ _ h => by obtain ⟨rfl, rfl⟩ := h; exact kk)
theorem ev_callS1 {idx n mL d' : Nat} {y : MethodName} {b : ByteArray} {r : Option FieldType} {As stk : List Value} {v : Value} {σ' : Sto} (hd : decode cc pc = .ok (.invokestatic idx, 3)) (hM : LSt own idx y b mL r n) (hT : Mt S y b mL r d' As σ (Is (some v) σ')) (hstk : stk = As.reverse ++ st) (hd' : d' < d) (hn : As.length = n) (h8 : (st.map fun v => v.category).sum ≤ 8) (kk : Ev S own cc nL rt d (pc + 3) ls (v :: st) σ' Q) : Ev S own cc nL rt d pc ls stk σ Q :=
  ev_callS hd hM hT hstk hd' hn h8 (fun _ _ h => by obtain ⟨rfl, rfl⟩ := h; exact kk)
theorem ev_callS0 {idx n mL d' : Nat} {y : MethodName} {b : ByteArray} {r : Option FieldType} {As stk : List Value} {σ' : Sto} (hd : decode cc pc = .ok (.invokestatic idx, 3)) (hM : LSt own idx y b mL r n) (hT : Mt S y b mL r d' As σ (Is none σ')) (hstk : stk = As.reverse ++ st) (hd' : d' < d) (hn : As.length = n) (h8 : (st.map fun v => v.category).sum ≤ 8) (kk : Ev S own cc nL rt d (pc + 3) ls st σ' Q) : Ev S own cc nL rt d pc ls stk σ Q :=
  ev_callS hd hM hT hstk hd' hn h8 (fun _ _ h => by obtain ⟨rfl, rfl⟩ := h; exact kk)
theorem ev_callN1 {idx n mL d' : Nat} {y : MethodName} {b : ByteArray} {r : Option FieldType} {As stk : List Value} {v : Value} {σ' : Sto} (hd : decode cc pc = .ok (.invokestatic idx, 3)) (hM : LN own idx y b mL r n) (hT : Mt S y b mL r d' As σ (Is (some v) σ')) (hstk : stk = As.reverse ++ st) (hd' : d' < d) (hn : As.length = n) (h8 : (st.map fun v => v.category).sum ≤ 8) (kk : Ev S own cc nL rt d (pc + 3) ls (v :: st) σ' Q) : Ev S own cc nL rt d pc ls stk σ Q :=
  ev_callN hd hM hT hstk hd' hn h8 (fun _ _ h => by obtain ⟨rfl, rfl⟩ := h; exact kk)
theorem ev_callN0 {idx n mL d' : Nat} {y : MethodName} {b : ByteArray} {r : Option FieldType} {As stk : List Value} {σ' : Sto} (hd : decode cc pc = .ok (.invokestatic idx, 3)) (hM : LN own idx y b mL r n) (hT : Mt S y b mL r d' As σ (Is none σ')) (hstk : stk = As.reverse ++ st) (hd' : d' < d) (hn : As.length = n) (h8 : (st.map fun v => v.category).sum ≤ 8) (kk : Ev S own cc nL rt d (pc + 3) ls st σ' Q) : Ev S own cc nL rt d pc ls stk σ Q :=
  ev_callN hd hM hT hstk hd' hn h8 (fun _ _ h => by obtain ⟨rfl, rfl⟩ := h; exact kk)
theorem ev_mabs' {idx : Nat} {x : Int32} (hd : decode cc pc = .ok (.invokestatic idx, 3)) (hM : LM own idx Lib.Math.abs.name Lib.Math.abs.code 1) (h1 : 0 < d) (h8 : (st.map fun v => v.category).sum ≤ 8) (kk : Ev S own cc nL rt d (pc + 3) ls (.int (ab x) :: st) σ Q) : Ev S own cc nL rt d pc ls (.int x :: st) σ Q := ev_mabs hd hM h1 h8 kk
theorem ev_mmax' {idx : Nat} {x y : Int32} (hd : decode cc pc = .ok (.invokestatic idx, 3)) (hM : LM own idx Lib.Math.max.name Lib.Math.max.code 2) (h1 : 0 < d) (h8 : (st.map fun v => v.category).sum ≤ 8) (kk : Ev S own cc nL rt d (pc + 3) ls (.int (mxI x y) :: st) σ Q) : Ev S own cc nL rt d pc ls (.int y :: .int x :: st) σ Q := ev_mmax hd hM h1 h8 kk
theorem ev_mmin' {idx : Nat} {x y : Int32} (hd : decode cc pc = .ok (.invokestatic idx, 3)) (hM : LM own idx Lib.Math.min.name Lib.Math.min.code 2) (h1 : 0 < d) (h8 : (st.map fun v => v.category).sum ≤ 8) (kk : Ev S own cc nL rt d (pc + 3) ls (.int (mnI x y) :: st) σ Q) : Ev S own cc nL rt d pc ls (.int y :: .int x :: st) σ Q := ev_mmin hd hM h1 h8 kk
theorem ev_iload_n_0 {t : List Value} {x : Int32} (hd : decode cc pc = .ok (.iload_n 0, 1)) (kk : Ev S own cc nL rt d (pc + 1) (.int x :: t) (.int x :: st) σ Q) : Ev S own cc nL rt d pc (.int x :: t) st σ Q := ev_iload_n hd rfl kk
theorem ev_istore_n_0 {z : Value} {t : List Value} {x : Int32} (hd : decode cc pc = .ok (.istore_n 0, 1)) (hn : 0 < nL) (kk : Ev S own cc nL rt d (pc + 1) (.int x :: t) st σ Q) : Ev S own cc nL rt d pc (z :: t) (.int x :: st) σ Q := ev_istore_n hd hn rfl kk
theorem ev_aload_n_0 {t : List Value} {x : Nat} (hd : decode cc pc = .ok (.aload_n 0, 1)) (kk : Ev S own cc nL rt d (pc + 1) (.ref x :: t) (.ref x :: st) σ Q) : Ev S own cc nL rt d pc (.ref x :: t) st σ Q := ev_aload_n hd rfl kk
theorem ev_astore_n_0 {z : Value} {t : List Value} {x : Nat} (hd : decode cc pc = .ok (.astore_n 0, 1)) (hn : 0 < nL) (kk : Ev S own cc nL rt d (pc + 1) (.ref x :: t) st σ Q) : Ev S own cc nL rt d pc (z :: t) (.ref x :: st) σ Q := ev_astore_n hd hn rfl kk
theorem ev_iinc_0 {t : List Value} {n : Int} {x v : Int32} (hd : decode cc pc = .ok (.iinc 0 n, 3)) (hv : x + Int32.ofInt n = v) (hn : 0 < nL) (kk : Ev S own cc nL rt d (pc + 3) (.int v :: t) st σ Q) : Ev S own cc nL rt d pc (.int x :: t) st σ Q := ev_iinc hd rfl hv hn rfl kk
theorem ev_iinc1_0 {t : List Value} {x : Int32} (hd : decode cc pc = .ok (.iinc 0 1, 3)) (hn : 0 < nL) (kk : Ev S own cc nL rt d (pc + 3) (.int (x + 1) :: t) st σ Q) : Ev S own cc nL rt d pc (.int x :: t) st σ Q := ev_iinc1 hd rfl hn rfl kk
theorem ev_null_0 {z : Value} {t : List Value} (kk : Ev S own cc nL rt d pc (.null :: t) st σ Q) : Ev S own cc nL rt d pc (z :: t) st σ Q := ev_null 0 kk
theorem ev_iload_n_1 {a0 : Value} {t : List Value} {x : Int32} (hd : decode cc pc = .ok (.iload_n 1, 1)) (kk : Ev S own cc nL rt d (pc + 1) (a0 :: .int x :: t) (.int x :: st) σ Q) : Ev S own cc nL rt d pc (a0 :: .int x :: t) st σ Q := ev_iload_n hd rfl kk
theorem ev_istore_n_1 {a0 : Value} {z : Value} {t : List Value} {x : Int32} (hd : decode cc pc = .ok (.istore_n 1, 1)) (hn : 1 < nL) (kk : Ev S own cc nL rt d (pc + 1) (a0 :: .int x :: t) st σ Q) : Ev S own cc nL rt d pc (a0 :: z :: t) (.int x :: st) σ Q := ev_istore_n hd hn rfl kk
theorem ev_aload_n_1 {a0 : Value} {t : List Value} {x : Nat} (hd : decode cc pc = .ok (.aload_n 1, 1)) (kk : Ev S own cc nL rt d (pc + 1) (a0 :: .ref x :: t) (.ref x :: st) σ Q) : Ev S own cc nL rt d pc (a0 :: .ref x :: t) st σ Q := ev_aload_n hd rfl kk
theorem ev_astore_n_1 {a0 : Value} {z : Value} {t : List Value} {x : Nat} (hd : decode cc pc = .ok (.astore_n 1, 1)) (hn : 1 < nL) (kk : Ev S own cc nL rt d (pc + 1) (a0 :: .ref x :: t) st σ Q) : Ev S own cc nL rt d pc (a0 :: z :: t) (.ref x :: st) σ Q := ev_astore_n hd hn rfl kk
theorem ev_iinc_1 {a0 : Value} {t : List Value} {n : Int} {x v : Int32} (hd : decode cc pc = .ok (.iinc 1 n, 3)) (hv : x + Int32.ofInt n = v) (hn : 1 < nL) (kk : Ev S own cc nL rt d (pc + 3) (a0 :: .int v :: t) st σ Q) : Ev S own cc nL rt d pc (a0 :: .int x :: t) st σ Q := ev_iinc hd rfl hv hn rfl kk
theorem ev_iinc1_1 {a0 : Value} {t : List Value} {x : Int32} (hd : decode cc pc = .ok (.iinc 1 1, 3)) (hn : 1 < nL) (kk : Ev S own cc nL rt d (pc + 3) (a0 :: .int (x + 1) :: t) st σ Q) : Ev S own cc nL rt d pc (a0 :: .int x :: t) st σ Q := ev_iinc1 hd rfl hn rfl kk
theorem ev_null_1 {a0 : Value} {z : Value} {t : List Value} (kk : Ev S own cc nL rt d pc (a0 :: .null :: t) st σ Q) : Ev S own cc nL rt d pc (a0 :: z :: t) st σ Q := ev_null 1 kk
theorem ev_iload_n_2 {a0 a1 : Value} {t : List Value} {x : Int32} (hd : decode cc pc = .ok (.iload_n 2, 1)) (kk : Ev S own cc nL rt d (pc + 1) (a0 :: a1 :: .int x :: t) (.int x :: st) σ Q) : Ev S own cc nL rt d pc (a0 :: a1 :: .int x :: t) st σ Q := ev_iload_n hd rfl kk
theorem ev_istore_n_2 {a0 a1 : Value} {z : Value} {t : List Value} {x : Int32} (hd : decode cc pc = .ok (.istore_n 2, 1)) (hn : 2 < nL) (kk : Ev S own cc nL rt d (pc + 1) (a0 :: a1 :: .int x :: t) st σ Q) : Ev S own cc nL rt d pc (a0 :: a1 :: z :: t) (.int x :: st) σ Q := ev_istore_n hd hn rfl kk
theorem ev_aload_n_2 {a0 a1 : Value} {t : List Value} {x : Nat} (hd : decode cc pc = .ok (.aload_n 2, 1)) (kk : Ev S own cc nL rt d (pc + 1) (a0 :: a1 :: .ref x :: t) (.ref x :: st) σ Q) : Ev S own cc nL rt d pc (a0 :: a1 :: .ref x :: t) st σ Q := ev_aload_n hd rfl kk
theorem ev_astore_n_2 {a0 a1 : Value} {z : Value} {t : List Value} {x : Nat} (hd : decode cc pc = .ok (.astore_n 2, 1)) (hn : 2 < nL) (kk : Ev S own cc nL rt d (pc + 1) (a0 :: a1 :: .ref x :: t) st σ Q) : Ev S own cc nL rt d pc (a0 :: a1 :: z :: t) (.ref x :: st) σ Q := ev_astore_n hd hn rfl kk
theorem ev_iinc_2 {a0 a1 : Value} {t : List Value} {n : Int} {x v : Int32} (hd : decode cc pc = .ok (.iinc 2 n, 3)) (hv : x + Int32.ofInt n = v) (hn : 2 < nL) (kk : Ev S own cc nL rt d (pc + 3) (a0 :: a1 :: .int v :: t) st σ Q) : Ev S own cc nL rt d pc (a0 :: a1 :: .int x :: t) st σ Q := ev_iinc hd rfl hv hn rfl kk
theorem ev_iinc1_2 {a0 a1 : Value} {t : List Value} {x : Int32} (hd : decode cc pc = .ok (.iinc 2 1, 3)) (hn : 2 < nL) (kk : Ev S own cc nL rt d (pc + 3) (a0 :: a1 :: .int (x + 1) :: t) st σ Q) : Ev S own cc nL rt d pc (a0 :: a1 :: .int x :: t) st σ Q := ev_iinc1 hd rfl hn rfl kk
theorem ev_null_2 {a0 a1 : Value} {z : Value} {t : List Value} (kk : Ev S own cc nL rt d pc (a0 :: a1 :: .null :: t) st σ Q) : Ev S own cc nL rt d pc (a0 :: a1 :: z :: t) st σ Q := ev_null 2 kk
theorem ev_iload_n_3 {a0 a1 a2 : Value} {t : List Value} {x : Int32} (hd : decode cc pc = .ok (.iload_n 3, 1)) (kk : Ev S own cc nL rt d (pc + 1) (a0 :: a1 :: a2 :: .int x :: t) (.int x :: st) σ Q) : Ev S own cc nL rt d pc (a0 :: a1 :: a2 :: .int x :: t) st σ Q := ev_iload_n hd rfl kk
theorem ev_istore_n_3 {a0 a1 a2 : Value} {z : Value} {t : List Value} {x : Int32} (hd : decode cc pc = .ok (.istore_n 3, 1)) (hn : 3 < nL) (kk : Ev S own cc nL rt d (pc + 1) (a0 :: a1 :: a2 :: .int x :: t) st σ Q) : Ev S own cc nL rt d pc (a0 :: a1 :: a2 :: z :: t) (.int x :: st) σ Q := ev_istore_n hd hn rfl kk
theorem ev_aload_n_3 {a0 a1 a2 : Value} {t : List Value} {x : Nat} (hd : decode cc pc = .ok (.aload_n 3, 1)) (kk : Ev S own cc nL rt d (pc + 1) (a0 :: a1 :: a2 :: .ref x :: t) (.ref x :: st) σ Q) : Ev S own cc nL rt d pc (a0 :: a1 :: a2 :: .ref x :: t) st σ Q := ev_aload_n hd rfl kk
theorem ev_astore_n_3 {a0 a1 a2 : Value} {z : Value} {t : List Value} {x : Nat} (hd : decode cc pc = .ok (.astore_n 3, 1)) (hn : 3 < nL) (kk : Ev S own cc nL rt d (pc + 1) (a0 :: a1 :: a2 :: .ref x :: t) st σ Q) : Ev S own cc nL rt d pc (a0 :: a1 :: a2 :: z :: t) (.ref x :: st) σ Q := ev_astore_n hd hn rfl kk
theorem ev_iinc_3 {a0 a1 a2 : Value} {t : List Value} {n : Int} {x v : Int32} (hd : decode cc pc = .ok (.iinc 3 n, 3)) (hv : x + Int32.ofInt n = v) (hn : 3 < nL) (kk : Ev S own cc nL rt d (pc + 3) (a0 :: a1 :: a2 :: .int v :: t) st σ Q) : Ev S own cc nL rt d pc (a0 :: a1 :: a2 :: .int x :: t) st σ Q := ev_iinc hd rfl hv hn rfl kk
theorem ev_iinc1_3 {a0 a1 a2 : Value} {t : List Value} {x : Int32} (hd : decode cc pc = .ok (.iinc 3 1, 3)) (hn : 3 < nL) (kk : Ev S own cc nL rt d (pc + 3) (a0 :: a1 :: a2 :: .int (x + 1) :: t) st σ Q) : Ev S own cc nL rt d pc (a0 :: a1 :: a2 :: .int x :: t) st σ Q := ev_iinc1 hd rfl hn rfl kk
theorem ev_null_3 {a0 a1 a2 : Value} {z : Value} {t : List Value} (kk : Ev S own cc nL rt d pc (a0 :: a1 :: a2 :: .null :: t) st σ Q) : Ev S own cc nL rt d pc (a0 :: a1 :: a2 :: z :: t) st σ Q := ev_null 3 kk
theorem ev_iload_4 {a0 a1 a2 a3 : Value} {t : List Value} {x : Int32} (hd : decode cc pc = .ok (.iload 4, 2)) (kk : Ev S own cc nL rt d (pc + 2) (a0 :: a1 :: a2 :: a3 :: .int x :: t) (.int x :: st) σ Q) : Ev S own cc nL rt d pc (a0 :: a1 :: a2 :: a3 :: .int x :: t) st σ Q := ev_iload hd rfl kk
theorem ev_istore_4 {a0 a1 a2 a3 : Value} {z : Value} {t : List Value} {x : Int32} (hd : decode cc pc = .ok (.istore 4, 2)) (hn : 4 < nL) (kk : Ev S own cc nL rt d (pc + 2) (a0 :: a1 :: a2 :: a3 :: .int x :: t) st σ Q) : Ev S own cc nL rt d pc (a0 :: a1 :: a2 :: a3 :: z :: t) (.int x :: st) σ Q := ev_istore hd hn rfl kk
theorem ev_aload_4 {a0 a1 a2 a3 : Value} {t : List Value} {x : Nat} (hd : decode cc pc = .ok (.aload 4, 2)) (kk : Ev S own cc nL rt d (pc + 2) (a0 :: a1 :: a2 :: a3 :: .ref x :: t) (.ref x :: st) σ Q) : Ev S own cc nL rt d pc (a0 :: a1 :: a2 :: a3 :: .ref x :: t) st σ Q := ev_aload hd rfl kk
theorem ev_astore_4 {a0 a1 a2 a3 : Value} {z : Value} {t : List Value} {x : Nat} (hd : decode cc pc = .ok (.astore 4, 2)) (hn : 4 < nL) (kk : Ev S own cc nL rt d (pc + 2) (a0 :: a1 :: a2 :: a3 :: .ref x :: t) st σ Q) : Ev S own cc nL rt d pc (a0 :: a1 :: a2 :: a3 :: z :: t) (.ref x :: st) σ Q := ev_astore hd hn rfl kk
theorem ev_iinc_4 {a0 a1 a2 a3 : Value} {t : List Value} {n : Int} {x v : Int32} (hd : decode cc pc = .ok (.iinc 4 n, 3)) (hv : x + Int32.ofInt n = v) (hn : 4 < nL) (kk : Ev S own cc nL rt d (pc + 3) (a0 :: a1 :: a2 :: a3 :: .int v :: t) st σ Q) : Ev S own cc nL rt d pc (a0 :: a1 :: a2 :: a3 :: .int x :: t) st σ Q := ev_iinc hd rfl hv hn rfl kk
theorem ev_iinc1_4 {a0 a1 a2 a3 : Value} {t : List Value} {x : Int32} (hd : decode cc pc = .ok (.iinc 4 1, 3)) (hn : 4 < nL) (kk : Ev S own cc nL rt d (pc + 3) (a0 :: a1 :: a2 :: a3 :: .int (x + 1) :: t) st σ Q) : Ev S own cc nL rt d pc (a0 :: a1 :: a2 :: a3 :: .int x :: t) st σ Q := ev_iinc1 hd rfl hn rfl kk
theorem ev_null_4 {a0 a1 a2 a3 : Value} {z : Value} {t : List Value} (kk : Ev S own cc nL rt d pc (a0 :: a1 :: a2 :: a3 :: .null :: t) st σ Q) : Ev S own cc nL rt d pc (a0 :: a1 :: a2 :: a3 :: z :: t) st σ Q := ev_null 4 kk
theorem ev_iload_5 {a0 a1 a2 a3 a4 : Value} {t : List Value} {x : Int32} (hd : decode cc pc = .ok (.iload 5, 2)) (kk : Ev S own cc nL rt d (pc + 2) (a0 :: a1 :: a2 :: a3 :: a4 :: .int x :: t) (.int x :: st) σ Q) : Ev S own cc nL rt d pc (a0 :: a1 :: a2 :: a3 :: a4 :: .int x :: t) st σ Q := ev_iload hd rfl kk
theorem ev_istore_5 {a0 a1 a2 a3 a4 : Value} {z : Value} {t : List Value} {x : Int32} (hd : decode cc pc = .ok (.istore 5, 2)) (hn : 5 < nL) (kk : Ev S own cc nL rt d (pc + 2) (a0 :: a1 :: a2 :: a3 :: a4 :: .int x :: t) st σ Q) : Ev S own cc nL rt d pc (a0 :: a1 :: a2 :: a3 :: a4 :: z :: t) (.int x :: st) σ Q := ev_istore hd hn rfl kk
theorem ev_aload_5 {a0 a1 a2 a3 a4 : Value} {t : List Value} {x : Nat} (hd : decode cc pc = .ok (.aload 5, 2)) (kk : Ev S own cc nL rt d (pc + 2) (a0 :: a1 :: a2 :: a3 :: a4 :: .ref x :: t) (.ref x :: st) σ Q) : Ev S own cc nL rt d pc (a0 :: a1 :: a2 :: a3 :: a4 :: .ref x :: t) st σ Q := ev_aload hd rfl kk
theorem ev_astore_5 {a0 a1 a2 a3 a4 : Value} {z : Value} {t : List Value} {x : Nat} (hd : decode cc pc = .ok (.astore 5, 2)) (hn : 5 < nL) (kk : Ev S own cc nL rt d (pc + 2) (a0 :: a1 :: a2 :: a3 :: a4 :: .ref x :: t) st σ Q) : Ev S own cc nL rt d pc (a0 :: a1 :: a2 :: a3 :: a4 :: z :: t) (.ref x :: st) σ Q := ev_astore hd hn rfl kk
theorem ev_iinc_5 {a0 a1 a2 a3 a4 : Value} {t : List Value} {n : Int} {x v : Int32} (hd : decode cc pc = .ok (.iinc 5 n, 3)) (hv : x + Int32.ofInt n = v) (hn : 5 < nL) (kk : Ev S own cc nL rt d (pc + 3) (a0 :: a1 :: a2 :: a3 :: a4 :: .int v :: t) st σ Q) : Ev S own cc nL rt d pc (a0 :: a1 :: a2 :: a3 :: a4 :: .int x :: t) st σ Q := ev_iinc hd rfl hv hn rfl kk
theorem ev_iinc1_5 {a0 a1 a2 a3 a4 : Value} {t : List Value} {x : Int32} (hd : decode cc pc = .ok (.iinc 5 1, 3)) (hn : 5 < nL) (kk : Ev S own cc nL rt d (pc + 3) (a0 :: a1 :: a2 :: a3 :: a4 :: .int (x + 1) :: t) st σ Q) : Ev S own cc nL rt d pc (a0 :: a1 :: a2 :: a3 :: a4 :: .int x :: t) st σ Q := ev_iinc1 hd rfl hn rfl kk
theorem ev_null_5 {a0 a1 a2 a3 a4 : Value} {z : Value} {t : List Value} (kk : Ev S own cc nL rt d pc (a0 :: a1 :: a2 :: a3 :: a4 :: .null :: t) st σ Q) : Ev S own cc nL rt d pc (a0 :: a1 :: a2 :: a3 :: a4 :: z :: t) st σ Q := ev_null 5 kk
theorem ev_iload_6 {a0 a1 a2 a3 a4 a5 : Value} {t : List Value} {x : Int32} (hd : decode cc pc = .ok (.iload 6, 2)) (kk : Ev S own cc nL rt d (pc + 2) (a0 :: a1 :: a2 :: a3 :: a4 :: a5 :: .int x :: t) (.int x :: st) σ Q) : Ev S own cc nL rt d pc (a0 :: a1 :: a2 :: a3 :: a4 :: a5 :: .int x :: t) st σ Q := ev_iload hd rfl kk
theorem ev_istore_6 {a0 a1 a2 a3 a4 a5 : Value} {z : Value} {t : List Value} {x : Int32} (hd : decode cc pc = .ok (.istore 6, 2)) (hn : 6 < nL) (kk : Ev S own cc nL rt d (pc + 2) (a0 :: a1 :: a2 :: a3 :: a4 :: a5 :: .int x :: t) st σ Q) : Ev S own cc nL rt d pc (a0 :: a1 :: a2 :: a3 :: a4 :: a5 :: z :: t) (.int x :: st) σ Q := ev_istore hd hn rfl kk
theorem ev_aload_6 {a0 a1 a2 a3 a4 a5 : Value} {t : List Value} {x : Nat} (hd : decode cc pc = .ok (.aload 6, 2)) (kk : Ev S own cc nL rt d (pc + 2) (a0 :: a1 :: a2 :: a3 :: a4 :: a5 :: .ref x :: t) (.ref x :: st) σ Q) : Ev S own cc nL rt d pc (a0 :: a1 :: a2 :: a3 :: a4 :: a5 :: .ref x :: t) st σ Q := ev_aload hd rfl kk
theorem ev_astore_6 {a0 a1 a2 a3 a4 a5 : Value} {z : Value} {t : List Value} {x : Nat} (hd : decode cc pc = .ok (.astore 6, 2)) (hn : 6 < nL) (kk : Ev S own cc nL rt d (pc + 2) (a0 :: a1 :: a2 :: a3 :: a4 :: a5 :: .ref x :: t) st σ Q) : Ev S own cc nL rt d pc (a0 :: a1 :: a2 :: a3 :: a4 :: a5 :: z :: t) (.ref x :: st) σ Q := ev_astore hd hn rfl kk
theorem ev_iinc_6 {a0 a1 a2 a3 a4 a5 : Value} {t : List Value} {n : Int} {x v : Int32} (hd : decode cc pc = .ok (.iinc 6 n, 3)) (hv : x + Int32.ofInt n = v) (hn : 6 < nL) (kk : Ev S own cc nL rt d (pc + 3) (a0 :: a1 :: a2 :: a3 :: a4 :: a5 :: .int v :: t) st σ Q) : Ev S own cc nL rt d pc (a0 :: a1 :: a2 :: a3 :: a4 :: a5 :: .int x :: t) st σ Q := ev_iinc hd rfl hv hn rfl kk
theorem ev_iinc1_6 {a0 a1 a2 a3 a4 a5 : Value} {t : List Value} {x : Int32} (hd : decode cc pc = .ok (.iinc 6 1, 3)) (hn : 6 < nL) (kk : Ev S own cc nL rt d (pc + 3) (a0 :: a1 :: a2 :: a3 :: a4 :: a5 :: .int (x + 1) :: t) st σ Q) : Ev S own cc nL rt d pc (a0 :: a1 :: a2 :: a3 :: a4 :: a5 :: .int x :: t) st σ Q := ev_iinc1 hd rfl hn rfl kk
theorem ev_null_6 {a0 a1 a2 a3 a4 a5 : Value} {z : Value} {t : List Value} (kk : Ev S own cc nL rt d pc (a0 :: a1 :: a2 :: a3 :: a4 :: a5 :: .null :: t) st σ Q) : Ev S own cc nL rt d pc (a0 :: a1 :: a2 :: a3 :: a4 :: a5 :: z :: t) st σ Q := ev_null 6 kk
theorem ev_iload_7 {a0 a1 a2 a3 a4 a5 a6 : Value} {t : List Value} {x : Int32} (hd : decode cc pc = .ok (.iload 7, 2)) (kk : Ev S own cc nL rt d (pc + 2) (a0 :: a1 :: a2 :: a3 :: a4 :: a5 :: a6 :: .int x :: t) (.int x :: st) σ Q) : Ev S own cc nL rt d pc (a0 :: a1 :: a2 :: a3 :: a4 :: a5 :: a6 :: .int x :: t) st σ Q := ev_iload hd rfl kk
theorem ev_istore_7 {a0 a1 a2 a3 a4 a5 a6 : Value} {z : Value} {t : List Value} {x : Int32} (hd : decode cc pc = .ok (.istore 7, 2)) (hn : 7 < nL) (kk : Ev S own cc nL rt d (pc + 2) (a0 :: a1 :: a2 :: a3 :: a4 :: a5 :: a6 :: .int x :: t) st σ Q) : Ev S own cc nL rt d pc (a0 :: a1 :: a2 :: a3 :: a4 :: a5 :: a6 :: z :: t) (.int x :: st) σ Q := ev_istore hd hn rfl kk
theorem ev_aload_7 {a0 a1 a2 a3 a4 a5 a6 : Value} {t : List Value} {x : Nat} (hd : decode cc pc = .ok (.aload 7, 2)) (kk : Ev S own cc nL rt d (pc + 2) (a0 :: a1 :: a2 :: a3 :: a4 :: a5 :: a6 :: .ref x :: t) (.ref x :: st) σ Q) : Ev S own cc nL rt d pc (a0 :: a1 :: a2 :: a3 :: a4 :: a5 :: a6 :: .ref x :: t) st σ Q := ev_aload hd rfl kk
theorem ev_astore_7 {a0 a1 a2 a3 a4 a5 a6 : Value} {z : Value} {t : List Value} {x : Nat} (hd : decode cc pc = .ok (.astore 7, 2)) (hn : 7 < nL) (kk : Ev S own cc nL rt d (pc + 2) (a0 :: a1 :: a2 :: a3 :: a4 :: a5 :: a6 :: .ref x :: t) st σ Q) : Ev S own cc nL rt d pc (a0 :: a1 :: a2 :: a3 :: a4 :: a5 :: a6 :: z :: t) (.ref x :: st) σ Q := ev_astore hd hn rfl kk
theorem ev_iinc_7 {a0 a1 a2 a3 a4 a5 a6 : Value} {t : List Value} {n : Int} {x v : Int32} (hd : decode cc pc = .ok (.iinc 7 n, 3)) (hv : x + Int32.ofInt n = v) (hn : 7 < nL) (kk : Ev S own cc nL rt d (pc + 3) (a0 :: a1 :: a2 :: a3 :: a4 :: a5 :: a6 :: .int v :: t) st σ Q) : Ev S own cc nL rt d pc (a0 :: a1 :: a2 :: a3 :: a4 :: a5 :: a6 :: .int x :: t) st σ Q := ev_iinc hd rfl hv hn rfl kk
theorem ev_iinc1_7 {a0 a1 a2 a3 a4 a5 a6 : Value} {t : List Value} {x : Int32} (hd : decode cc pc = .ok (.iinc 7 1, 3)) (hn : 7 < nL) (kk : Ev S own cc nL rt d (pc + 3) (a0 :: a1 :: a2 :: a3 :: a4 :: a5 :: a6 :: .int (x + 1) :: t) st σ Q) : Ev S own cc nL rt d pc (a0 :: a1 :: a2 :: a3 :: a4 :: a5 :: a6 :: .int x :: t) st σ Q := ev_iinc1 hd rfl hn rfl kk
theorem ev_null_7 {a0 a1 a2 a3 a4 a5 a6 : Value} {z : Value} {t : List Value} (kk : Ev S own cc nL rt d pc (a0 :: a1 :: a2 :: a3 :: a4 :: a5 :: a6 :: .null :: t) st σ Q) : Ev S own cc nL rt d pc (a0 :: a1 :: a2 :: a3 :: a4 :: a5 :: a6 :: z :: t) st σ Q := ev_null 7 kk
theorem ev_iload_8 {a0 a1 a2 a3 a4 a5 a6 a7 : Value} {t : List Value} {x : Int32} (hd : decode cc pc = .ok (.iload 8, 2)) (kk : Ev S own cc nL rt d (pc + 2) (a0 :: a1 :: a2 :: a3 :: a4 :: a5 :: a6 :: a7 :: .int x :: t) (.int x :: st) σ Q) : Ev S own cc nL rt d pc (a0 :: a1 :: a2 :: a3 :: a4 :: a5 :: a6 :: a7 :: .int x :: t) st σ Q := ev_iload hd rfl kk
theorem ev_istore_8 {a0 a1 a2 a3 a4 a5 a6 a7 : Value} {z : Value} {t : List Value} {x : Int32} (hd : decode cc pc = .ok (.istore 8, 2)) (hn : 8 < nL) (kk : Ev S own cc nL rt d (pc + 2) (a0 :: a1 :: a2 :: a3 :: a4 :: a5 :: a6 :: a7 :: .int x :: t) st σ Q) : Ev S own cc nL rt d pc (a0 :: a1 :: a2 :: a3 :: a4 :: a5 :: a6 :: a7 :: z :: t) (.int x :: st) σ Q := ev_istore hd hn rfl kk
theorem ev_aload_8 {a0 a1 a2 a3 a4 a5 a6 a7 : Value} {t : List Value} {x : Nat} (hd : decode cc pc = .ok (.aload 8, 2)) (kk : Ev S own cc nL rt d (pc + 2) (a0 :: a1 :: a2 :: a3 :: a4 :: a5 :: a6 :: a7 :: .ref x :: t) (.ref x :: st) σ Q) : Ev S own cc nL rt d pc (a0 :: a1 :: a2 :: a3 :: a4 :: a5 :: a6 :: a7 :: .ref x :: t) st σ Q := ev_aload hd rfl kk
theorem ev_astore_8 {a0 a1 a2 a3 a4 a5 a6 a7 : Value} {z : Value} {t : List Value} {x : Nat} (hd : decode cc pc = .ok (.astore 8, 2)) (hn : 8 < nL) (kk : Ev S own cc nL rt d (pc + 2) (a0 :: a1 :: a2 :: a3 :: a4 :: a5 :: a6 :: a7 :: .ref x :: t) st σ Q) : Ev S own cc nL rt d pc (a0 :: a1 :: a2 :: a3 :: a4 :: a5 :: a6 :: a7 :: z :: t) (.ref x :: st) σ Q := ev_astore hd hn rfl kk
theorem ev_iinc_8 {a0 a1 a2 a3 a4 a5 a6 a7 : Value} {t : List Value} {n : Int} {x v : Int32} (hd : decode cc pc = .ok (.iinc 8 n, 3)) (hv : x + Int32.ofInt n = v) (hn : 8 < nL) (kk : Ev S own cc nL rt d (pc + 3) (a0 :: a1 :: a2 :: a3 :: a4 :: a5 :: a6 :: a7 :: .int v :: t) st σ Q) : Ev S own cc nL rt d pc (a0 :: a1 :: a2 :: a3 :: a4 :: a5 :: a6 :: a7 :: .int x :: t) st σ Q := ev_iinc hd rfl hv hn rfl kk
theorem ev_iinc1_8 {a0 a1 a2 a3 a4 a5 a6 a7 : Value} {t : List Value} {x : Int32} (hd : decode cc pc = .ok (.iinc 8 1, 3)) (hn : 8 < nL) (kk : Ev S own cc nL rt d (pc + 3) (a0 :: a1 :: a2 :: a3 :: a4 :: a5 :: a6 :: a7 :: .int (x + 1) :: t) st σ Q) : Ev S own cc nL rt d pc (a0 :: a1 :: a2 :: a3 :: a4 :: a5 :: a6 :: a7 :: .int x :: t) st σ Q := ev_iinc1 hd rfl hn rfl kk
theorem ev_null_8 {a0 a1 a2 a3 a4 a5 a6 a7 : Value} {z : Value} {t : List Value} (kk : Ev S own cc nL rt d pc (a0 :: a1 :: a2 :: a3 :: a4 :: a5 :: a6 :: a7 :: .null :: t) st σ Q) : Ev S own cc nL rt d pc (a0 :: a1 :: a2 :: a3 :: a4 :: a5 :: a6 :: a7 :: z :: t) st σ Q := ev_null 8 kk
theorem ev_iload_9 {a0 a1 a2 a3 a4 a5 a6 a7 a8 : Value} {t : List Value} {x : Int32} (hd : decode cc pc = .ok (.iload 9, 2)) (kk : Ev S own cc nL rt d (pc + 2) (a0 :: a1 :: a2 :: a3 :: a4 :: a5 :: a6 :: a7 :: a8 :: .int x :: t) (.int x :: st) σ Q) : Ev S own cc nL rt d pc (a0 :: a1 :: a2 :: a3 :: a4 :: a5 :: a6 :: a7 :: a8 :: .int x :: t) st σ Q := ev_iload hd rfl kk
theorem ev_istore_9 {a0 a1 a2 a3 a4 a5 a6 a7 a8 : Value} {z : Value} {t : List Value} {x : Int32} (hd : decode cc pc = .ok (.istore 9, 2)) (hn : 9 < nL) (kk : Ev S own cc nL rt d (pc + 2) (a0 :: a1 :: a2 :: a3 :: a4 :: a5 :: a6 :: a7 :: a8 :: .int x :: t) st σ Q) : Ev S own cc nL rt d pc (a0 :: a1 :: a2 :: a3 :: a4 :: a5 :: a6 :: a7 :: a8 :: z :: t) (.int x :: st) σ Q := ev_istore hd hn rfl kk
theorem ev_aload_9 {a0 a1 a2 a3 a4 a5 a6 a7 a8 : Value} {t : List Value} {x : Nat} (hd : decode cc pc = .ok (.aload 9, 2)) (kk : Ev S own cc nL rt d (pc + 2) (a0 :: a1 :: a2 :: a3 :: a4 :: a5 :: a6 :: a7 :: a8 :: .ref x :: t) (.ref x :: st) σ Q) : Ev S own cc nL rt d pc (a0 :: a1 :: a2 :: a3 :: a4 :: a5 :: a6 :: a7 :: a8 :: .ref x :: t) st σ Q := ev_aload hd rfl kk
theorem ev_astore_9 {a0 a1 a2 a3 a4 a5 a6 a7 a8 : Value} {z : Value} {t : List Value} {x : Nat} (hd : decode cc pc = .ok (.astore 9, 2)) (hn : 9 < nL) (kk : Ev S own cc nL rt d (pc + 2) (a0 :: a1 :: a2 :: a3 :: a4 :: a5 :: a6 :: a7 :: a8 :: .ref x :: t) st σ Q) : Ev S own cc nL rt d pc (a0 :: a1 :: a2 :: a3 :: a4 :: a5 :: a6 :: a7 :: a8 :: z :: t) (.ref x :: st) σ Q := ev_astore hd hn rfl kk
theorem ev_iinc_9 {a0 a1 a2 a3 a4 a5 a6 a7 a8 : Value} {t : List Value} {n : Int} {x v : Int32} (hd : decode cc pc = .ok (.iinc 9 n, 3)) (hv : x + Int32.ofInt n = v) (hn : 9 < nL) (kk : Ev S own cc nL rt d (pc + 3) (a0 :: a1 :: a2 :: a3 :: a4 :: a5 :: a6 :: a7 :: a8 :: .int v :: t) st σ Q) : Ev S own cc nL rt d pc (a0 :: a1 :: a2 :: a3 :: a4 :: a5 :: a6 :: a7 :: a8 :: .int x :: t) st σ Q := ev_iinc hd rfl hv hn rfl kk
theorem ev_iinc1_9 {a0 a1 a2 a3 a4 a5 a6 a7 a8 : Value} {t : List Value} {x : Int32} (hd : decode cc pc = .ok (.iinc 9 1, 3)) (hn : 9 < nL) (kk : Ev S own cc nL rt d (pc + 3) (a0 :: a1 :: a2 :: a3 :: a4 :: a5 :: a6 :: a7 :: a8 :: .int (x + 1) :: t) st σ Q) : Ev S own cc nL rt d pc (a0 :: a1 :: a2 :: a3 :: a4 :: a5 :: a6 :: a7 :: a8 :: .int x :: t) st σ Q := ev_iinc1 hd rfl hn rfl kk
theorem ev_null_9 {a0 a1 a2 a3 a4 a5 a6 a7 a8 : Value} {z : Value} {t : List Value} (kk : Ev S own cc nL rt d pc (a0 :: a1 :: a2 :: a3 :: a4 :: a5 :: a6 :: a7 :: a8 :: .null :: t) st σ Q) : Ev S own cc nL rt d pc (a0 :: a1 :: a2 :: a3 :: a4 :: a5 :: a6 :: a7 :: a8 :: z :: t) st σ Q := ev_null 9 kk
theorem ev_iload_10 {a0 a1 a2 a3 a4 a5 a6 a7 a8 a9 : Value} {t : List Value} {x : Int32} (hd : decode cc pc = .ok (.iload 10, 2)) (kk : Ev S own cc nL rt d (pc + 2) (a0 :: a1 :: a2 :: a3 :: a4 :: a5 :: a6 :: a7 :: a8 :: a9 :: .int x :: t) (.int x :: st) σ Q) : Ev S own cc nL rt d pc (a0 :: a1 :: a2 :: a3 :: a4 :: a5 :: a6 :: a7 :: a8 :: a9 :: .int x :: t) st σ Q := ev_iload hd rfl kk
theorem ev_istore_10 {a0 a1 a2 a3 a4 a5 a6 a7 a8 a9 : Value} {z : Value} {t : List Value} {x : Int32} (hd : decode cc pc = .ok (.istore 10, 2)) (hn : 10 < nL) (kk : Ev S own cc nL rt d (pc + 2) (a0 :: a1 :: a2 :: a3 :: a4 :: a5 :: a6 :: a7 :: a8 :: a9 :: .int x :: t) st σ Q) : Ev S own cc nL rt d pc (a0 :: a1 :: a2 :: a3 :: a4 :: a5 :: a6 :: a7 :: a8 :: a9 :: z :: t) (.int x :: st) σ Q := ev_istore hd hn rfl kk
theorem ev_aload_10 {a0 a1 a2 a3 a4 a5 a6 a7 a8 a9 : Value} {t : List Value} {x : Nat} (hd : decode cc pc = .ok (.aload 10, 2)) (kk : Ev S own cc nL rt d (pc + 2) (a0 :: a1 :: a2 :: a3 :: a4 :: a5 :: a6 :: a7 :: a8 :: a9 :: .ref x :: t) (.ref x :: st) σ Q) : Ev S own cc nL rt d pc (a0 :: a1 :: a2 :: a3 :: a4 :: a5 :: a6 :: a7 :: a8 :: a9 :: .ref x :: t) st σ Q := ev_aload hd rfl kk
theorem ev_astore_10 {a0 a1 a2 a3 a4 a5 a6 a7 a8 a9 : Value} {z : Value} {t : List Value} {x : Nat} (hd : decode cc pc = .ok (.astore 10, 2)) (hn : 10 < nL) (kk : Ev S own cc nL rt d (pc + 2) (a0 :: a1 :: a2 :: a3 :: a4 :: a5 :: a6 :: a7 :: a8 :: a9 :: .ref x :: t) st σ Q) : Ev S own cc nL rt d pc (a0 :: a1 :: a2 :: a3 :: a4 :: a5 :: a6 :: a7 :: a8 :: a9 :: z :: t) (.ref x :: st) σ Q := ev_astore hd hn rfl kk
theorem ev_iinc_10 {a0 a1 a2 a3 a4 a5 a6 a7 a8 a9 : Value} {t : List Value} {n : Int} {x v : Int32} (hd : decode cc pc = .ok (.iinc 10 n, 3)) (hv : x + Int32.ofInt n = v) (hn : 10 < nL) (kk : Ev S own cc nL rt d (pc + 3) (a0 :: a1 :: a2 :: a3 :: a4 :: a5 :: a6 :: a7 :: a8 :: a9 :: .int v :: t) st σ Q) : Ev S own cc nL rt d pc (a0 :: a1 :: a2 :: a3 :: a4 :: a5 :: a6 :: a7 :: a8 :: a9 :: .int x :: t) st σ Q := ev_iinc hd rfl hv hn rfl kk
theorem ev_iinc1_10 {a0 a1 a2 a3 a4 a5 a6 a7 a8 a9 : Value} {t : List Value} {x : Int32} (hd : decode cc pc = .ok (.iinc 10 1, 3)) (hn : 10 < nL) (kk : Ev S own cc nL rt d (pc + 3) (a0 :: a1 :: a2 :: a3 :: a4 :: a5 :: a6 :: a7 :: a8 :: a9 :: .int (x + 1) :: t) st σ Q) : Ev S own cc nL rt d pc (a0 :: a1 :: a2 :: a3 :: a4 :: a5 :: a6 :: a7 :: a8 :: a9 :: .int x :: t) st σ Q := ev_iinc1 hd rfl hn rfl kk
theorem ev_null_10 {a0 a1 a2 a3 a4 a5 a6 a7 a8 a9 : Value} {z : Value} {t : List Value} (kk : Ev S own cc nL rt d pc (a0 :: a1 :: a2 :: a3 :: a4 :: a5 :: a6 :: a7 :: a8 :: a9 :: .null :: t) st σ Q) : Ev S own cc nL rt d pc (a0 :: a1 :: a2 :: a3 :: a4 :: a5 :: a6 :: a7 :: a8 :: a9 :: z :: t) st σ Q := ev_null 10 kk
theorem ev_iaddc {x y v : Int32} (hd : decode cc pc = .ok (.iadd, 1)) (hv : x + y = v) (kk : Ev S own cc nL rt d (pc + 1) ls (.int v :: st) σ Q) : Ev S own cc nL rt d pc ls (.int y :: .int x :: st) σ Q := by subst hv; exact ev_iadd hd kk
theorem ev_isubc {x y v : Int32} (hd : decode cc pc = .ok (.isub, 1)) (hv : x - y = v) (kk : Ev S own cc nL rt d (pc + 1) ls (.int v :: st) σ Q) : Ev S own cc nL rt d pc ls (.int y :: .int x :: st) σ Q := by subst hv; exact ev_isub hd kk
theorem ev_imulc {x y v : Int32} (hd : decode cc pc = .ok (.imul, 1)) (hv : x * y = v) (kk : Ev S own cc nL rt d (pc + 1) ls (.int v :: st) σ Q) : Ev S own cc nL rt d pc ls (.int y :: .int x :: st) σ Q := by subst hv; exact ev_imul hd kk
end EVT
theorem vin_c {i : Int32} {n : Nat} (h : ¬ (i < 0 ∨ n ≤ i.toNatClampNeg)) : vp_in i n := h
theorem mt_post {S : Scr} {y : MethodName} {cc : ByteArray} {nL : Nat} {rt : Option FieldType} {d : Nat} {av : List Value} {σ : Sto} {Q Q' : Option Value → Sto → Prop} (h : Mt S y cc nL rt d av σ Q) (hQ : ∀ r σ', Q r σ' → Q' r σ') : Mt S y cc nL rt d av σ Q' := by
  intro E l hinj p e ha hc hk s m args below hf happ hP hK
  obtain ⟨k, o, h1, h2, h3, ⟨⟨⟨r, σ', g1, g2, g3⟩, g4⟩, g5⟩⟩ := h E l hinj p e ha hc hk s m args below hf happ hP hK
  exact ⟨k, o, h1, h2, h3, ⟨⟨r, σ', g1, hQ r σ' g2, g3⟩, g4⟩, g5⟩
/-! shapes of scenes, tasters, int arrays -/
def IsA (a n : Nat) : Prop := a < NC ∧ kd a = 10 ∧ ln a = n
def IsSc (k : Nat) : Prop := ∃ i, i < 14 ∧ k = 39 + 4 * i
def IsTa (k : Nat) : Prop := ∃ i, i < 7 ∧ k = 25 + 2 * i
theorem rf_hi {k : Nat} (j : Nat) (h1 : 25 ≤ k) (h2 : k < 117) : rf k j = k + 1 + j := by unfold rf; rw [if_pos ⟨h1, h2⟩]
theorem sc_tab : ∀ i, i < 14 → kd (39 + 4 * i) = 3 ∧ kd (39 + 4 * i + 1) = 10 ∧ kd (39 + 4 * i + 2) = 10 ∧ kd (39 + 4 * i + 3) = 10 ∧ ln (39 + 4 * i + 1) = 4 ∧ ln (39 + 4 * i + 2) = 6 ∧ ln (39 + 4 * i + 3) = 6 := by decide
theorem ta_tab : ∀ i, i < 7 → kd (25 + 2 * i) = 5 ∧ kd (25 + 2 * i + 1) = 10 ∧ ln (25 + 2 * i + 1) = 4 := by decide
theorem IsSc.lt {k : Nat} (h : IsSc k) : k < NC := by obtain ⟨i, h1, rfl⟩ := h; show _ < 131; omega
theorem IsSc.lt1 {k : Nat} (h : IsSc k) : k + 1 < NC := by obtain ⟨i, h1, rfl⟩ := h; show _ < 131; omega
theorem IsSc.lt2 {k : Nat} (h : IsSc k) : k + 2 < NC := by obtain ⟨i, h1, rfl⟩ := h; show _ < 131; omega
theorem IsSc.lt3 {k : Nat} (h : IsSc k) : k + 3 < NC := by obtain ⟨i, h1, rfl⟩ := h; show _ < 131; omega
theorem IsSc.kd0 {k : Nat} (h : IsSc k) : kd k = 3 := by obtain ⟨i, h1, rfl⟩ := h; exact (sc_tab i h1).1
theorem IsSc.kd1 {k : Nat} (h : IsSc k) : kd (k + 1) = 10 := by obtain ⟨i, h1, rfl⟩ := h; exact (sc_tab i h1).2.1
theorem IsSc.kd2 {k : Nat} (h : IsSc k) : kd (k + 2) = 10 := by obtain ⟨i, h1, rfl⟩ := h; exact (sc_tab i h1).2.2.1
theorem IsSc.kd3 {k : Nat} (h : IsSc k) : kd (k + 3) = 10 := by obtain ⟨i, h1, rfl⟩ := h; exact (sc_tab i h1).2.2.2.1
theorem IsSc.ln1 {k : Nat} (h : IsSc k) : ln (k + 1) = 4 := by obtain ⟨i, h1, rfl⟩ := h; exact (sc_tab i h1).2.2.2.2.1
theorem IsSc.ln2 {k : Nat} (h : IsSc k) : ln (k + 2) = 6 := by obtain ⟨i, h1, rfl⟩ := h; exact (sc_tab i h1).2.2.2.2.2.1
theorem IsSc.ln3 {k : Nat} (h : IsSc k) : ln (k + 3) = 6 := by obtain ⟨i, h1, rfl⟩ := h; exact (sc_tab i h1).2.2.2.2.2.2
theorem IsSc.rfj {k : Nat} (h : IsSc k) (j : Nat) : rf k j = k + 1 + j := by obtain ⟨i, h1, rfl⟩ := h; exact rf_hi j (by omega) (by omega)
theorem IsTa.lt {k : Nat} (h : IsTa k) : k < NC := by obtain ⟨i, h1, rfl⟩ := h; show _ < 131; omega
theorem IsTa.lt1 {k : Nat} (h : IsTa k) : k + 1 < NC := by obtain ⟨i, h1, rfl⟩ := h; show _ < 131; omega
theorem IsTa.kd0 {k : Nat} (h : IsTa k) : kd k = 5 := by obtain ⟨i, h1, rfl⟩ := h; exact (ta_tab i h1).1
theorem IsTa.kd1 {k : Nat} (h : IsTa k) : kd (k + 1) = 10 := by obtain ⟨i, h1, rfl⟩ := h; exact (ta_tab i h1).2.1
theorem IsTa.ln1 {k : Nat} (h : IsTa k) : ln (k + 1) = 4 := by obtain ⟨i, h1, rfl⟩ := h; exact (ta_tab i h1).2.2
theorem IsTa.rfj {k : Nat} (h : IsTa k) (j : Nat) : rf k j = k + 1 + j := by obtain ⟨i, h1, rfl⟩ := h; exact rf_hi j (by omega) (by omega)
theorem IsSc.a1 {k : Nat} (h : IsSc k) : IsA (k + 1) 4 := ⟨h.lt1, h.kd1, h.ln1⟩
theorem IsSc.a2 {k : Nat} (h : IsSc k) : IsA (k + 2) 6 := ⟨h.lt2, h.kd2, h.ln2⟩
theorem IsSc.a3 {k : Nat} (h : IsSc k) : IsA (k + 3) 6 := ⟨h.lt3, h.kd3, h.ln3⟩
theorem IsTa.a1 {k : Nat} (h : IsTa k) : IsA (k + 1) 4 := ⟨h.lt1, h.kd1, h.ln1⟩
/-! numbers -/
theorem tI_lt {a b : Int32} : a < b ↔ a.toInt < b.toInt := Int32.lt_iff_toInt_lt
theorem tI_le {a b : Int32} : a ≤ b ↔ a.toInt ≤ b.toInt := Int32.le_iff_toInt_le
theorem tI_eq {a b : Int32} : a = b ↔ a.toInt = b.toInt := Int32.toInt_inj.symm
theorem vin {i : Int32} {n : Nat} (h0 : 0 ≤ i.toInt) (h1 : i.toInt < n) : vp_in i n := by
  intro h
  rcases h with h | h
  · rw [tI_lt, Int32.toInt_zero] at h; omega
  · have : i.toNatClampNeg = i.toInt.toNat := rfl
    omega
theorem tn_of {i : Int32} (h0 : 0 ≤ i.toInt) : (i.toNatClampNeg : Int) = i.toInt := by
  have : i.toNatClampNeg = i.toInt.toNat := rfl
  omega
/-- an Int32 that is not negative is the nI of its number -/
theorem nI_self {i : Int32} (h0 : 0 ≤ i.toInt) : nI i.toNatClampNeg = i := by
  apply Int32.toInt_inj.mp
  have h1 := tn_of h0
  have h2 : i.toInt < 2 ^ 31 := Int32.toInt_lt i
  rw [nI_toInt (by omega)]
  exact h1
end
section
/-! ===== tasting: pure words ===== -/
def tst (p : Nat) (a c : Int32) : Int32 := if p = 3 ∧ c = 1 then a / 2 else a
def offD (l pot : Nat → Int32) (c : Int32) (p : Nat) : Int32 := tst p (pot p) c - l p
def mnS (l pot : Nat → Int32) (c : Int32) (i : Nat) (a : Int32 × Int32) : Int32 × Int32 :=
  if ab (offD l pot c i) ≤ a.1 then a else (ab (offD l pot c i), 2 * nI i + (if offD l pot c i ≤ 0 then 2 else 1))
def mienD (l : Nat → Int32) (bl : Int32) (pot : Nat → Int32) (c : Int32) : Int32 := (mnS l pot c 3 (mnS l pot c 2 (mnS l pot c 1 (mnS l pot c 0 (bl, 0))))).2
def mindD (l pot : Nat → Int32) (c : Int32) : Int32 := 0 + ab (offD l pot c 0) + ab (offD l pot c 1) + ab (offD l pot c 2) + ab (offD l pot c 3)
theorem nI_eq3 : ∀ p : Nat, p < 4 → (nI p = 3 ↔ p = 3) := by decide +kernel
set_option maxRecDepth 100000 in
theorem m_X5_offBy {S : Scr} {T : Nat} (hT : IsTa T) (p : Nat) (hp : p < 4) (a c : Int32) (σ : Sto) : Mt S yX5_offBy cX5_offBy 5 (some .int) 0 [.ref T, .int (nI p), .int a, .int c] σ (Is (some (.int (tst p a c - σ.1 (T + 1) p))) σ) := by
  refine mt_of (ls := [.ref T, .int (nI p), .int a, .int c, .null]) (by decide) rfl (Nat.le_of_ble_eq_true rfl) (by simp [Value.category]) ?_
  refine ev_iload_n_1 (pc := 0) dX5_offBy_0 ?_
  refine ev_iconst (pc := 1) (v := 3) dX5_offBy_1 (by decide) ?_
  refine ev_icmp_ne (pc := 2) (tgt := 16) dX5_offBy_2 (by decide) (fun h2 => ?_) (fun h2 => ?_)
  · skip
    refine ev_iload_n_2 (pc := 16) dX5_offBy_16 ?_
    refine ev_istore_4 (pc := 17) dX5_offBy_17 (by decide) ?_
    refine ev_iload_4 (pc := 19) dX5_offBy_19 ?_
    refine ev_aload_n_0 (pc := 21) dX5_offBy_21 ?_
    refine ev_getR (pc := 22) (r := (T + 1)) dX5_offBy_22 fl_X5_9 hT.lt hT.kd0 (by decide) (hT.rfj 0) ?_
    refine ev_iload_n_1 (pc := 25) dX5_offBy_25 ?_
    refine ev_iaload' (pc := 26) (j := p) dX5_offBy_26 hT.lt1 hT.kd1 (by rw [hT.ln1]; exact (vp_in_nI (by omega) (by decide))) (nI_clamp (by omega)) ?_
    refine ev_isub (pc := 27) dX5_offBy_27 ?_
    exact ev_ireturn (pc := 28) dX5_offBy_28 rfl rfl (⟨by simp only [nI_eq3 p hp] at h2; simp only [tst, h2, and_self, and_true, and_false, false_and, ↓reduceIte], rfl⟩)
  · skip
    refine ev_iload_n_3 (pc := 5) dX5_offBy_5 ?_
    refine ev_iconst (pc := 6) (v := 1) dX5_offBy_6 (by decide) ?_
    refine ev_icmp_ne (pc := 7) (tgt := 16) dX5_offBy_7 (by decide) (fun h7 => ?_) (fun h7 => ?_)
    · skip
      refine ev_iload_n_2 (pc := 16) dX5_offBy_16 ?_
      refine ev_istore_4 (pc := 17) dX5_offBy_17 (by decide) ?_
      refine ev_iload_4 (pc := 19) dX5_offBy_19 ?_
      refine ev_aload_n_0 (pc := 21) dX5_offBy_21 ?_
      refine ev_getR (pc := 22) (r := (T + 1)) dX5_offBy_22 fl_X5_9 hT.lt hT.kd0 (by decide) (hT.rfj 0) ?_
      refine ev_iload_n_1 (pc := 25) dX5_offBy_25 ?_
      refine ev_iaload' (pc := 26) (j := p) dX5_offBy_26 hT.lt1 hT.kd1 (by rw [hT.ln1]; exact (vp_in_nI (by omega) (by decide))) (nI_clamp (by omega)) ?_
      refine ev_isub (pc := 27) dX5_offBy_27 ?_
      exact ev_ireturn (pc := 28) dX5_offBy_28 rfl rfl (⟨by simp only [nI_eq3 p hp] at h2; simp only [tst, h2, h7, and_self, and_true, and_false, false_and, ↓reduceIte], rfl⟩)
    · skip
      refine ev_iload_n_2 (pc := 10) dX5_offBy_10 ?_
      refine ev_iconst (pc := 11) (v := 2) dX5_offBy_11 (by decide) ?_
      refine ev_idiv (pc := 12) dX5_offBy_12 (by decide) ?_
      refine ev_goto (pc := 13) (tgt := 17) dX5_offBy_13 (by decide) ?_
      refine ev_istore_4 (pc := 17) dX5_offBy_17 (by decide) ?_
      refine ev_iload_4 (pc := 19) dX5_offBy_19 ?_
      refine ev_aload_n_0 (pc := 21) dX5_offBy_21 ?_
      refine ev_getR (pc := 22) (r := (T + 1)) dX5_offBy_22 fl_X5_9 hT.lt hT.kd0 (by decide) (hT.rfj 0) ?_
      refine ev_iload_n_1 (pc := 25) dX5_offBy_25 ?_
      refine ev_iaload' (pc := 26) (j := p) dX5_offBy_26 hT.lt1 hT.kd1 (by rw [hT.ln1]; exact (vp_in_nI (by omega) (by decide))) (nI_clamp (by omega)) ?_
      refine ev_isub (pc := 27) dX5_offBy_27 ?_
      exact ev_ireturn (pc := 28) dX5_offBy_28 rfl rfl (⟨by simp only [nI_eq3 p hp] at h2; simp only [tst, h2, h7, and_self, and_true, and_false, false_and, ↓reduceIte], rfl⟩)
set_option maxRecDepth 100000 in
theorem b_X5_mien {S : Scr} {T P : Nat} (hT : IsTa T) (hP : IsA P 4) (c : Int32) (i : Nat) (hi : i < 4) (a : Int32 × Int32) (σ : Sto) {Q : Option Value → Sto → Prop} (K : Ev S RX5 cX5_mien 7 (some .int) 1 11 [.ref T, .ref P, .int c, .int (mnS (σ.1 (T + 1)) (σ.1 P) c i a).1, .int (mnS (σ.1 (T + 1)) (σ.1 P) c i a).2, .int (nI (i + 1)), .null] [] σ (Q)) : Ev S RX5 cX5_mien 7 (some .int) 1 11 [.ref T, .ref P, .int c, .int a.1, .int a.2, .int (nI i), .null] [] σ (Q) := by
  refine ev_iload_5 (pc := 11) dX5_mien_11 ?_
  refine ev_iconst (pc := 13) (v := 4) dX5_mien_13 (by decide) ?_
  refine ev_icmp_ge (pc := 14) (tgt := 68) dX5_mien_14 (by decide) (fun h14 => by exact absurd h14 (nI_ge hi (by decide))) (fun h14 => ?_)
  refine ev_aload_n_0 (pc := 17) dX5_mien_17 ?_
  refine ev_iload_5 (pc := 18) dX5_mien_18 ?_
  refine ev_aload_n_1 (pc := 20) dX5_mien_20 ?_
  refine ev_iload_5 (pc := 21) dX5_mien_21 ?_
  refine ev_iaload' (pc := 23) (j := i) dX5_mien_23 hP.1 hP.2.1 (by rw [hP.2.2]; exact (vp_in_nI (by omega) (by decide))) (nI_clamp (by omega)) ?_
  refine ev_iload_n_2 (pc := 24) dX5_mien_24 ?_
  refine ev_callV1 (pc := 25) dX5_mien_25 ml_X5_19 (m_X5_offBy hT i hi _ _ σ) hT.lt ⟨_, by rw [hT.kd0]; rfl, rfl⟩ rfl (by decide) rfl (Nat.le_of_ble_eq_true rfl) ?_
  refine ev_istore_6 (pc := 28) dX5_mien_28 (by decide) ?_
  refine ev_iload_6 (pc := 30) dX5_mien_30 ?_
  refine ev_mabs' (pc := 32) dX5_mien_32 ml_X5_23 (by decide) (Nat.le_of_ble_eq_true rfl) ?_
  refine ev_iload_n_3 (pc := 35) dX5_mien_35 ?_
  refine ev_icmp_le (pc := 36) (tgt := 62) dX5_mien_36 (by decide) (fun h36 => ?_) (fun h36 => ?_)
  · skip
    refine ev_iinc_5 (pc := 62) (v := nI (i + 1)) dX5_mien_62 (nI_inc i) (by decide) ?_
    refine ev_goto (pc := 65) (tgt := 11) dX5_mien_65 (by decide) ?_
    refine ev_null_6 ?_
    exact ev_eq (by simp only [mnS, offD, h36, ↓reduceIte]) rfl rfl K
  · skip
    refine ev_iload_6 (pc := 39) dX5_mien_39 ?_
    refine ev_mabs' (pc := 41) dX5_mien_41 ml_X5_23 (by decide) (Nat.le_of_ble_eq_true rfl) ?_
    refine ev_istore_n_3 (pc := 44) dX5_mien_44 (by decide) ?_
    refine ev_iconst (pc := 45) (v := 2) dX5_mien_45 (by decide) ?_
    refine ev_iload_5 (pc := 46) dX5_mien_46 ?_
    refine ev_imul (pc := 48) dX5_mien_48 ?_
    refine ev_iload_6 (pc := 49) dX5_mien_49 ?_
    refine ev_if_le (pc := 51) (tgt := 58) dX5_mien_51 (by decide) (fun h51 => ?_) (fun h51 => ?_)
    · skip
      refine ev_iconst (pc := 58) (v := 2) dX5_mien_58 (by decide) ?_
      refine ev_iadd (pc := 59) dX5_mien_59 ?_
      refine ev_istore_4 (pc := 60) dX5_mien_60 (by decide) ?_
      refine ev_iinc_5 (pc := 62) (v := nI (i + 1)) dX5_mien_62 (nI_inc i) (by decide) ?_
      refine ev_goto (pc := 65) (tgt := 11) dX5_mien_65 (by decide) ?_
      refine ev_null_6 ?_
      exact ev_eq (by simp only [mnS, offD, h36, h51, ↓reduceIte]) rfl rfl K
    · skip
      refine ev_iconst (pc := 54) (v := 1) dX5_mien_54 (by decide) ?_
      refine ev_goto (pc := 55) (tgt := 59) dX5_mien_55 (by decide) ?_
      refine ev_iadd (pc := 59) dX5_mien_59 ?_
      refine ev_istore_4 (pc := 60) dX5_mien_60 (by decide) ?_
      refine ev_iinc_5 (pc := 62) (v := nI (i + 1)) dX5_mien_62 (nI_inc i) (by decide) ?_
      refine ev_goto (pc := 65) (tgt := 11) dX5_mien_65 (by decide) ?_
      refine ev_null_6 ?_
      exact ev_eq (by simp only [mnS, offD, h36, h51, ↓reduceIte]) rfl rfl K
theorem m_X5_mien {S : Scr} {T P : Nat} (hT : IsTa T) (hP : IsA P 4) (c : Int32) (σ : Sto) : Mt S yX5_mien cX5_mien 7 (some .int) 1 [.ref T, .ref P, .int c] σ (Is (some (.int (mienD (σ.1 (T + 1)) (σ.1 T 1) (σ.1 P) c))) σ) := by
  refine mt_of (ls := [.ref T, .ref P, .int c, .null, .null, .null, .null]) (by decide) rfl (Nat.le_of_ble_eq_true rfl) (by simp [Value.category]) ?_
  refine ev_aload_n_0 (pc := 0) dX5_mien_0 ?_
  refine ev_getI (pc := 1) dX5_mien_1 fl_X5_15 hT.lt hT.kd0 (by decide) ?_
  refine ev_istore_n_3 (pc := 4) dX5_mien_4 (by decide) ?_
  refine ev_iconst (pc := 5) (v := 0) dX5_mien_5 (by decide) ?_
  refine ev_istore_4 (pc := 6) dX5_mien_6 (by decide) ?_
  refine ev_iconst (pc := 8) (v := 0) dX5_mien_8 (by decide) ?_
  refine ev_istore_5 (pc := 9) dX5_mien_9 (by decide) ?_
  refine b_X5_mien hT hP c 0 (by decide) (σ.1 T 1, 0) σ ?_
  refine b_X5_mien hT hP c 1 (by decide) _ σ ?_
  refine b_X5_mien hT hP c 2 (by decide) _ σ ?_
  refine b_X5_mien hT hP c 3 (by decide) _ σ ?_
  refine ev_iload_5 (pc := 11) dX5_mien_11 ?_
  refine ev_iconst (pc := 13) (v := 4) dX5_mien_13 (by decide) ?_
  refine ev_icmp_ge (pc := 14) (tgt := 68) dX5_mien_14 (by decide) (fun h14 => ?_) (fun h14 => by exact absurd (nI_le (Nat.le_refl 4) (by decide)) h14)
  refine ev_iload_4 (pc := 68) dX5_mien_68 ?_
  exact ev_ireturn (pc := 70) dX5_mien_70 rfl rfl (⟨rfl, rfl⟩)
set_option maxRecDepth 100000 in
theorem m_X5_mind {S : Scr} {T P : Nat} (hT : IsTa T) (hP : IsA P 4) (c : Int32) (σ : Sto) : Mt S yX5_mind cX5_mind 5 (some .int) 1 [.ref T, .ref P, .int c] σ (Is (some (.int (mindD (σ.1 (T + 1)) (σ.1 P) c))) σ) := by
  refine mt_of (ls := [.ref T, .ref P, .int c, .null, .null]) (by decide) rfl (Nat.le_of_ble_eq_true rfl) (by simp [Value.category]) ?_
  refine ev_iconst (pc := 0) (v := 0) dX5_mind_0 (by decide) ?_
  refine ev_istore_n_3 (pc := 1) dX5_mind_1 (by decide) ?_
  refine ev_iconst (pc := 2) (v := 0) dX5_mind_2 (by decide) ?_
  refine ev_istore_4 (pc := 3) dX5_mind_3 (by decide) ?_
  refine ev_iload_4 (pc := 5) dX5_mind_5 ?_
  refine ev_iconst (pc := 7) (v := 4) dX5_mind_7 (by decide) ?_
  refine ev_icmp_ge (pc := 8) (tgt := 34) dX5_mind_8 (by decide) (fun h8 => by exact absurd h8 (by decide)) (fun h8 => ?_)
  refine ev_iload_n_3 (pc := 11) dX5_mind_11 ?_
  refine ev_aload_n_0 (pc := 12) dX5_mind_12 ?_
  refine ev_iload_4 (pc := 13) dX5_mind_13 ?_
  refine ev_aload_n_1 (pc := 15) dX5_mind_15 ?_
  refine ev_iload_4 (pc := 16) dX5_mind_16 ?_
  refine ev_iaload' (pc := 18) (j := 0) dX5_mind_18 hP.1 hP.2.1 (by rw [hP.2.2]; exact (vin_c (by decide))) (by decide) ?_
  refine ev_iload_n_2 (pc := 19) dX5_mind_19 ?_
  refine ev_callV1 (pc := 20) dX5_mind_20 ml_X5_19 (m_X5_offBy hT 0 (by decide) _ _ σ) hT.lt ⟨_, by rw [hT.kd0]; rfl, rfl⟩ rfl (by decide) rfl (Nat.le_of_ble_eq_true rfl) ?_
  refine ev_mabs' (pc := 23) dX5_mind_23 ml_X5_23 (by decide) (Nat.le_of_ble_eq_true rfl) ?_
  refine ev_iadd (pc := 26) dX5_mind_26 ?_
  refine ev_istore_n_3 (pc := 27) dX5_mind_27 (by decide) ?_
  refine ev_iinc_4 (pc := 28) (v := 1) dX5_mind_28 (by decide) (by decide) ?_
  refine ev_goto (pc := 31) (tgt := 5) dX5_mind_31 (by decide) ?_
  refine ev_iload_4 (pc := 5) dX5_mind_5 ?_
  refine ev_iconst (pc := 7) (v := 4) dX5_mind_7 (by decide) ?_
  refine ev_icmp_ge (pc := 8) (tgt := 34) dX5_mind_8 (by decide) (fun h8 => by exact absurd h8 (by decide)) (fun h8 => ?_)
  refine ev_iload_n_3 (pc := 11) dX5_mind_11 ?_
  refine ev_aload_n_0 (pc := 12) dX5_mind_12 ?_
  refine ev_iload_4 (pc := 13) dX5_mind_13 ?_
  refine ev_aload_n_1 (pc := 15) dX5_mind_15 ?_
  refine ev_iload_4 (pc := 16) dX5_mind_16 ?_
  refine ev_iaload' (pc := 18) (j := 1) dX5_mind_18 hP.1 hP.2.1 (by rw [hP.2.2]; exact (vin_c (by decide))) (by decide) ?_
  refine ev_iload_n_2 (pc := 19) dX5_mind_19 ?_
  refine ev_callV1 (pc := 20) dX5_mind_20 ml_X5_19 (m_X5_offBy hT 1 (by decide) _ _ σ) hT.lt ⟨_, by rw [hT.kd0]; rfl, rfl⟩ rfl (by decide) rfl (Nat.le_of_ble_eq_true rfl) ?_
  refine ev_mabs' (pc := 23) dX5_mind_23 ml_X5_23 (by decide) (Nat.le_of_ble_eq_true rfl) ?_
  refine ev_iadd (pc := 26) dX5_mind_26 ?_
  refine ev_istore_n_3 (pc := 27) dX5_mind_27 (by decide) ?_
  refine ev_iinc_4 (pc := 28) (v := 2) dX5_mind_28 (by decide) (by decide) ?_
  refine ev_goto (pc := 31) (tgt := 5) dX5_mind_31 (by decide) ?_
  refine ev_iload_4 (pc := 5) dX5_mind_5 ?_
  refine ev_iconst (pc := 7) (v := 4) dX5_mind_7 (by decide) ?_
  refine ev_icmp_ge (pc := 8) (tgt := 34) dX5_mind_8 (by decide) (fun h8 => by exact absurd h8 (by decide)) (fun h8 => ?_)
  refine ev_iload_n_3 (pc := 11) dX5_mind_11 ?_
  refine ev_aload_n_0 (pc := 12) dX5_mind_12 ?_
  refine ev_iload_4 (pc := 13) dX5_mind_13 ?_
  refine ev_aload_n_1 (pc := 15) dX5_mind_15 ?_
  refine ev_iload_4 (pc := 16) dX5_mind_16 ?_
  refine ev_iaload' (pc := 18) (j := 2) dX5_mind_18 hP.1 hP.2.1 (by rw [hP.2.2]; exact (vin_c (by decide))) (by decide) ?_
  refine ev_iload_n_2 (pc := 19) dX5_mind_19 ?_
  refine ev_callV1 (pc := 20) dX5_mind_20 ml_X5_19 (m_X5_offBy hT 2 (by decide) _ _ σ) hT.lt ⟨_, by rw [hT.kd0]; rfl, rfl⟩ rfl (by decide) rfl (Nat.le_of_ble_eq_true rfl) ?_
  refine ev_mabs' (pc := 23) dX5_mind_23 ml_X5_23 (by decide) (Nat.le_of_ble_eq_true rfl) ?_
  refine ev_iadd (pc := 26) dX5_mind_26 ?_
  refine ev_istore_n_3 (pc := 27) dX5_mind_27 (by decide) ?_
  refine ev_iinc_4 (pc := 28) (v := 3) dX5_mind_28 (by decide) (by decide) ?_
  refine ev_goto (pc := 31) (tgt := 5) dX5_mind_31 (by decide) ?_
  refine ev_iload_4 (pc := 5) dX5_mind_5 ?_
  refine ev_iconst (pc := 7) (v := 4) dX5_mind_7 (by decide) ?_
  refine ev_icmp_ge (pc := 8) (tgt := 34) dX5_mind_8 (by decide) (fun h8 => by exact absurd h8 (by decide)) (fun h8 => ?_)
  refine ev_iload_n_3 (pc := 11) dX5_mind_11 ?_
  refine ev_aload_n_0 (pc := 12) dX5_mind_12 ?_
  refine ev_iload_4 (pc := 13) dX5_mind_13 ?_
  refine ev_aload_n_1 (pc := 15) dX5_mind_15 ?_
  refine ev_iload_4 (pc := 16) dX5_mind_16 ?_
  refine ev_iaload' (pc := 18) (j := 3) dX5_mind_18 hP.1 hP.2.1 (by rw [hP.2.2]; exact (vin_c (by decide))) (by decide) ?_
  refine ev_iload_n_2 (pc := 19) dX5_mind_19 ?_
  refine ev_callV1 (pc := 20) dX5_mind_20 ml_X5_19 (m_X5_offBy hT 3 (by decide) _ _ σ) hT.lt ⟨_, by rw [hT.kd0]; rfl, rfl⟩ rfl (by decide) rfl (Nat.le_of_ble_eq_true rfl) ?_
  refine ev_mabs' (pc := 23) dX5_mind_23 ml_X5_23 (by decide) (Nat.le_of_ble_eq_true rfl) ?_
  refine ev_iadd (pc := 26) dX5_mind_26 ?_
  refine ev_istore_n_3 (pc := 27) dX5_mind_27 (by decide) ?_
  refine ev_iinc_4 (pc := 28) (v := 4) dX5_mind_28 (by decide) (by decide) ?_
  refine ev_goto (pc := 31) (tgt := 5) dX5_mind_31 (by decide) ?_
  refine ev_iload_4 (pc := 5) dX5_mind_5 ?_
  refine ev_iconst (pc := 7) (v := 4) dX5_mind_7 (by decide) ?_
  refine ev_icmp_ge (pc := 8) (tgt := 34) dX5_mind_8 (by decide) (fun h8 => ?_) (fun h8 => by exact absurd h8 (by decide))
  refine ev_iload_n_3 (pc := 34) dX5_mind_34 ?_
  exact ev_ireturn (pc := 35) dX5_mind_35 rfl rfl (⟨rfl, rfl⟩)
/-! ===== the class's own helpers ===== -/
def isPt (p : Int32) : Prop := ¬ p < 0 ∧ p < 4
def isPtD (p : Int32) : Decidable (isPt p) := inferInstanceAs (Decidable (¬ p < 0 ∧ p < 4))
def bI (P : Prop) [Decidable P] : Int32 := if P then 1 else 0
set_option maxRecDepth 100000 in
theorem m_X7_isPart {S : Scr} (p : Int32) (σ : Sto) : Mt S yX7_isPart cX7_isPart 1 (some .boolean) 0 [.int p] σ (Is (some (.int (bI (¬ p < 0 ∧ p < 4)))) σ) := by
  refine mt_of (ls := [.int p]) (by decide) rfl (Nat.le_of_ble_eq_true rfl) (by simp [Value.category]) ?_
  refine ev_iload_n_0 (pc := 0) dX7_isPart_0 ?_
  refine ev_if_lt (pc := 1) (tgt := 13) dX7_isPart_1 (by decide) (fun h1 => ?_) (fun h1 => ?_)
  · skip
    refine ev_iconst (pc := 13) (v := 0) dX7_isPart_13 (by decide) ?_
    exact ev_ireturn (pc := 14) dX7_isPart_14 rfl rfl (⟨by simp [bI, h1], rfl⟩)
  · skip
    refine ev_iload_n_0 (pc := 4) dX7_isPart_4 ?_
    refine ev_iconst (pc := 5) (v := 4) dX7_isPart_5 (by decide) ?_
    refine ev_icmp_ge (pc := 6) (tgt := 13) dX7_isPart_6 (by decide) (fun h6 => ?_) (fun h6 => ?_)
    · skip
      refine ev_iconst (pc := 13) (v := 0) dX7_isPart_13 (by decide) ?_
      exact ev_ireturn (pc := 14) dX7_isPart_14 rfl rfl (⟨by simp [bI, h1, h6], rfl⟩)
    · skip
      refine ev_iconst (pc := 9) (v := 1) dX7_isPart_9 (by decide) ?_
      refine ev_goto (pc := 10) (tgt := 14) dX7_isPart_10 (by decide) ?_
      exact ev_ireturn (pc := 14) dX7_isPart_14 rfl rfl (⟨by simp [bI, h1, h6], rfl⟩)
set_option maxRecDepth 100000 in
theorem m_X7_isImage {S : Scr} (p : Int32) (σ : Sto) : Mt S yX7_isImage cX7_isImage 1 (some .boolean) 0 [.int p] σ (Is (some (.int (bI (¬ p < 0 ∧ p < 2)))) σ) := by
  refine mt_of (ls := [.int p]) (by decide) rfl (Nat.le_of_ble_eq_true rfl) (by simp [Value.category]) ?_
  refine ev_iload_n_0 (pc := 0) dX7_isImage_0 ?_
  refine ev_if_lt (pc := 1) (tgt := 13) dX7_isImage_1 (by decide) (fun h1 => ?_) (fun h1 => ?_)
  · skip
    refine ev_iconst (pc := 13) (v := 0) dX7_isImage_13 (by decide) ?_
    exact ev_ireturn (pc := 14) dX7_isImage_14 rfl rfl (⟨by simp [bI, h1], rfl⟩)
  · skip
    refine ev_iload_n_0 (pc := 4) dX7_isImage_4 ?_
    refine ev_iconst (pc := 5) (v := 2) dX7_isImage_5 (by decide) ?_
    refine ev_icmp_ge (pc := 6) (tgt := 13) dX7_isImage_6 (by decide) (fun h6 => ?_) (fun h6 => ?_)
    · skip
      refine ev_iconst (pc := 13) (v := 0) dX7_isImage_13 (by decide) ?_
      exact ev_ireturn (pc := 14) dX7_isImage_14 rfl rfl (⟨by simp [bI, h1, h6], rfl⟩)
    · skip
      refine ev_iconst (pc := 9) (v := 1) dX7_isImage_9 (by decide) ?_
      refine ev_goto (pc := 10) (tgt := 14) dX7_isImage_10 (by decide) ?_
      exact ev_ireturn (pc := 14) dX7_isImage_14 rfl rfl (⟨by simp [bI, h1, h6], rfl⟩)
set_option maxRecDepth 100000 in
theorem m_X7_total {S : Scr} {a : Nat} (ha : IsA a 4) (σ : Sto) : Mt S yX7_total cX7_total 6 (some .int) 0 [.ref a] σ (Is (some (.int (0 + σ.1 a 0 + σ.1 a 1 + σ.1 a 2 + σ.1 a 3))) σ) := by
  refine mt_of (ls := [.ref a, .null, .null, .null, .null, .null]) (by decide) rfl (Nat.le_of_ble_eq_true rfl) (by simp [Value.category]) ?_
  refine ev_iconst (pc := 0) (v := 0) dX7_total_0 (by decide) ?_
  refine ev_istore_n_1 (pc := 1) dX7_total_1 (by decide) ?_
  refine ev_aload_n_0 (pc := 2) dX7_total_2 ?_
  refine ev_astore_n_2 (pc := 3) dX7_total_3 (by decide) ?_
  refine ev_aload_n_2 (pc := 4) dX7_total_4 ?_
  refine ev_arraylength (pc := 5) (v := 4) dX7_total_5 ha.1 (c := 10) ha.2.1 (by decide) (by rw [ha.2.2]; decide) ?_
  refine ev_istore_n_3 (pc := 6) dX7_total_6 (by decide) ?_
  refine ev_iconst (pc := 7) (v := 0) dX7_total_7 (by decide) ?_
  refine ev_istore_4 (pc := 8) dX7_total_8 (by decide) ?_
  refine ev_iload_4 (pc := 10) dX7_total_10 ?_
  refine ev_iload_n_3 (pc := 12) dX7_total_12 ?_
  refine ev_icmp_ge (pc := 13) (tgt := 33) dX7_total_13 (by decide) (fun h13 => by exact absurd h13 (by decide)) (fun h13 => ?_)
  refine ev_aload_n_2 (pc := 16) dX7_total_16 ?_
  refine ev_iload_4 (pc := 17) dX7_total_17 ?_
  refine ev_iaload' (pc := 19) (j := 0) dX7_total_19 ha.1 ha.2.1 (by rw [ha.2.2]; exact (vin_c (by decide))) (by decide) ?_
  refine ev_istore_5 (pc := 20) dX7_total_20 (by decide) ?_
  refine ev_iload_n_1 (pc := 22) dX7_total_22 ?_
  refine ev_iload_5 (pc := 23) dX7_total_23 ?_
  refine ev_iadd (pc := 25) dX7_total_25 ?_
  refine ev_istore_n_1 (pc := 26) dX7_total_26 (by decide) ?_
  refine ev_iinc_4 (pc := 27) (v := 1) dX7_total_27 (by decide) (by decide) ?_
  refine ev_goto (pc := 30) (tgt := 10) dX7_total_30 (by decide) ?_
  refine ev_iload_4 (pc := 10) dX7_total_10 ?_
  refine ev_iload_n_3 (pc := 12) dX7_total_12 ?_
  refine ev_icmp_ge (pc := 13) (tgt := 33) dX7_total_13 (by decide) (fun h13 => by exact absurd h13 (by decide)) (fun h13 => ?_)
  refine ev_aload_n_2 (pc := 16) dX7_total_16 ?_
  refine ev_iload_4 (pc := 17) dX7_total_17 ?_
  refine ev_iaload' (pc := 19) (j := 1) dX7_total_19 ha.1 ha.2.1 (by rw [ha.2.2]; exact (vin_c (by decide))) (by decide) ?_
  refine ev_istore_5 (pc := 20) dX7_total_20 (by decide) ?_
  refine ev_iload_n_1 (pc := 22) dX7_total_22 ?_
  refine ev_iload_5 (pc := 23) dX7_total_23 ?_
  refine ev_iadd (pc := 25) dX7_total_25 ?_
  refine ev_istore_n_1 (pc := 26) dX7_total_26 (by decide) ?_
  refine ev_iinc_4 (pc := 27) (v := 2) dX7_total_27 (by decide) (by decide) ?_
  refine ev_goto (pc := 30) (tgt := 10) dX7_total_30 (by decide) ?_
  refine ev_iload_4 (pc := 10) dX7_total_10 ?_
  refine ev_iload_n_3 (pc := 12) dX7_total_12 ?_
  refine ev_icmp_ge (pc := 13) (tgt := 33) dX7_total_13 (by decide) (fun h13 => by exact absurd h13 (by decide)) (fun h13 => ?_)
  refine ev_aload_n_2 (pc := 16) dX7_total_16 ?_
  refine ev_iload_4 (pc := 17) dX7_total_17 ?_
  refine ev_iaload' (pc := 19) (j := 2) dX7_total_19 ha.1 ha.2.1 (by rw [ha.2.2]; exact (vin_c (by decide))) (by decide) ?_
  refine ev_istore_5 (pc := 20) dX7_total_20 (by decide) ?_
  refine ev_iload_n_1 (pc := 22) dX7_total_22 ?_
  refine ev_iload_5 (pc := 23) dX7_total_23 ?_
  refine ev_iadd (pc := 25) dX7_total_25 ?_
  refine ev_istore_n_1 (pc := 26) dX7_total_26 (by decide) ?_
  refine ev_iinc_4 (pc := 27) (v := 3) dX7_total_27 (by decide) (by decide) ?_
  refine ev_goto (pc := 30) (tgt := 10) dX7_total_30 (by decide) ?_
  refine ev_iload_4 (pc := 10) dX7_total_10 ?_
  refine ev_iload_n_3 (pc := 12) dX7_total_12 ?_
  refine ev_icmp_ge (pc := 13) (tgt := 33) dX7_total_13 (by decide) (fun h13 => by exact absurd h13 (by decide)) (fun h13 => ?_)
  refine ev_aload_n_2 (pc := 16) dX7_total_16 ?_
  refine ev_iload_4 (pc := 17) dX7_total_17 ?_
  refine ev_iaload' (pc := 19) (j := 3) dX7_total_19 ha.1 ha.2.1 (by rw [ha.2.2]; exact (vin_c (by decide))) (by decide) ?_
  refine ev_istore_5 (pc := 20) dX7_total_20 (by decide) ?_
  refine ev_iload_n_1 (pc := 22) dX7_total_22 ?_
  refine ev_iload_5 (pc := 23) dX7_total_23 ?_
  refine ev_iadd (pc := 25) dX7_total_25 ?_
  refine ev_istore_n_1 (pc := 26) dX7_total_26 (by decide) ?_
  refine ev_iinc_4 (pc := 27) (v := 4) dX7_total_27 (by decide) (by decide) ?_
  refine ev_goto (pc := 30) (tgt := 10) dX7_total_30 (by decide) ?_
  refine ev_iload_4 (pc := 10) dX7_total_10 ?_
  refine ev_iload_n_3 (pc := 12) dX7_total_12 ?_
  refine ev_icmp_ge (pc := 13) (tgt := 33) dX7_total_13 (by decide) (fun h13 => ?_) (fun h13 => by exact absurd h13 (by decide))
  refine ev_iload_n_1 (pc := 33) dX7_total_33 ?_
  exact ev_ireturn (pc := 34) dX7_total_34 rfl rfl (⟨rfl, rfl⟩)
set_option maxRecDepth 100000 in
theorem m_X7_numberOf {S : Scr} {a : Nat} (ha : IsA a 4) (σ : Sto) : Mt S yX7_numberOf cX7_numberOf 3 (some .int) 0 [.ref a] σ (Is (some (.int ((((0 * 6 + σ.1 a 0) * 6 + σ.1 a 1) * 6 + σ.1 a 2) * 6 + σ.1 a 3))) σ) := by
  refine mt_of (ls := [.ref a, .null, .null]) (by decide) rfl (Nat.le_of_ble_eq_true rfl) (by simp [Value.category]) ?_
  refine ev_iconst (pc := 0) (v := 0) dX7_numberOf_0 (by decide) ?_
  refine ev_istore_n_1 (pc := 1) dX7_numberOf_1 (by decide) ?_
  refine ev_iconst (pc := 2) (v := 0) dX7_numberOf_2 (by decide) ?_
  refine ev_istore_n_2 (pc := 3) dX7_numberOf_3 (by decide) ?_
  refine ev_iload_n_2 (pc := 4) dX7_numberOf_4 ?_
  refine ev_iconst (pc := 5) (v := 4) dX7_numberOf_5 (by decide) ?_
  refine ev_icmp_ge (pc := 6) (tgt := 24) dX7_numberOf_6 (by decide) (fun h6 => by exact absurd h6 (by decide)) (fun h6 => ?_)
  refine ev_iload_n_1 (pc := 9) dX7_numberOf_9 ?_
  refine ev_bipush (pc := 10) (v := 6) dX7_numberOf_10 (by decide) ?_
  refine ev_imul (pc := 12) dX7_numberOf_12 ?_
  refine ev_aload_n_0 (pc := 13) dX7_numberOf_13 ?_
  refine ev_iload_n_2 (pc := 14) dX7_numberOf_14 ?_
  refine ev_iaload' (pc := 15) (j := 0) dX7_numberOf_15 ha.1 ha.2.1 (by rw [ha.2.2]; exact (vin_c (by decide))) (by decide) ?_
  refine ev_iadd (pc := 16) dX7_numberOf_16 ?_
  refine ev_istore_n_1 (pc := 17) dX7_numberOf_17 (by decide) ?_
  refine ev_iinc_2 (pc := 18) (v := 1) dX7_numberOf_18 (by decide) (by decide) ?_
  refine ev_goto (pc := 21) (tgt := 4) dX7_numberOf_21 (by decide) ?_
  refine ev_iload_n_2 (pc := 4) dX7_numberOf_4 ?_
  refine ev_iconst (pc := 5) (v := 4) dX7_numberOf_5 (by decide) ?_
  refine ev_icmp_ge (pc := 6) (tgt := 24) dX7_numberOf_6 (by decide) (fun h6 => by exact absurd h6 (by decide)) (fun h6 => ?_)
  refine ev_iload_n_1 (pc := 9) dX7_numberOf_9 ?_
  refine ev_bipush (pc := 10) (v := 6) dX7_numberOf_10 (by decide) ?_
  refine ev_imul (pc := 12) dX7_numberOf_12 ?_
  refine ev_aload_n_0 (pc := 13) dX7_numberOf_13 ?_
  refine ev_iload_n_2 (pc := 14) dX7_numberOf_14 ?_
  refine ev_iaload' (pc := 15) (j := 1) dX7_numberOf_15 ha.1 ha.2.1 (by rw [ha.2.2]; exact (vin_c (by decide))) (by decide) ?_
  refine ev_iadd (pc := 16) dX7_numberOf_16 ?_
  refine ev_istore_n_1 (pc := 17) dX7_numberOf_17 (by decide) ?_
  refine ev_iinc_2 (pc := 18) (v := 2) dX7_numberOf_18 (by decide) (by decide) ?_
  refine ev_goto (pc := 21) (tgt := 4) dX7_numberOf_21 (by decide) ?_
  refine ev_iload_n_2 (pc := 4) dX7_numberOf_4 ?_
  refine ev_iconst (pc := 5) (v := 4) dX7_numberOf_5 (by decide) ?_
  refine ev_icmp_ge (pc := 6) (tgt := 24) dX7_numberOf_6 (by decide) (fun h6 => by exact absurd h6 (by decide)) (fun h6 => ?_)
  refine ev_iload_n_1 (pc := 9) dX7_numberOf_9 ?_
  refine ev_bipush (pc := 10) (v := 6) dX7_numberOf_10 (by decide) ?_
  refine ev_imul (pc := 12) dX7_numberOf_12 ?_
  refine ev_aload_n_0 (pc := 13) dX7_numberOf_13 ?_
  refine ev_iload_n_2 (pc := 14) dX7_numberOf_14 ?_
  refine ev_iaload' (pc := 15) (j := 2) dX7_numberOf_15 ha.1 ha.2.1 (by rw [ha.2.2]; exact (vin_c (by decide))) (by decide) ?_
  refine ev_iadd (pc := 16) dX7_numberOf_16 ?_
  refine ev_istore_n_1 (pc := 17) dX7_numberOf_17 (by decide) ?_
  refine ev_iinc_2 (pc := 18) (v := 3) dX7_numberOf_18 (by decide) (by decide) ?_
  refine ev_goto (pc := 21) (tgt := 4) dX7_numberOf_21 (by decide) ?_
  refine ev_iload_n_2 (pc := 4) dX7_numberOf_4 ?_
  refine ev_iconst (pc := 5) (v := 4) dX7_numberOf_5 (by decide) ?_
  refine ev_icmp_ge (pc := 6) (tgt := 24) dX7_numberOf_6 (by decide) (fun h6 => by exact absurd h6 (by decide)) (fun h6 => ?_)
  refine ev_iload_n_1 (pc := 9) dX7_numberOf_9 ?_
  refine ev_bipush (pc := 10) (v := 6) dX7_numberOf_10 (by decide) ?_
  refine ev_imul (pc := 12) dX7_numberOf_12 ?_
  refine ev_aload_n_0 (pc := 13) dX7_numberOf_13 ?_
  refine ev_iload_n_2 (pc := 14) dX7_numberOf_14 ?_
  refine ev_iaload' (pc := 15) (j := 3) dX7_numberOf_15 ha.1 ha.2.1 (by rw [ha.2.2]; exact (vin_c (by decide))) (by decide) ?_
  refine ev_iadd (pc := 16) dX7_numberOf_16 ?_
  refine ev_istore_n_1 (pc := 17) dX7_numberOf_17 (by decide) ?_
  refine ev_iinc_2 (pc := 18) (v := 4) dX7_numberOf_18 (by decide) (by decide) ?_
  refine ev_goto (pc := 21) (tgt := 4) dX7_numberOf_21 (by decide) ?_
  refine ev_iload_n_2 (pc := 4) dX7_numberOf_4 ?_
  refine ev_iconst (pc := 5) (v := 4) dX7_numberOf_5 (by decide) ?_
  refine ev_icmp_ge (pc := 6) (tgt := 24) dX7_numberOf_6 (by decide) (fun h6 => ?_) (fun h6 => by exact absurd h6 (by decide))
  refine ev_iload_n_1 (pc := 24) dX7_numberOf_24 ?_
  exact ev_ireturn (pc := 25) dX7_numberOf_25 rfl rfl (⟨rfl, rfl⟩)
def rem6 (x : Int32) : Int32 := x - x / 6 * 6
def rowW (σ : Sto) (a : Nat) (n : Int32) : Sto := wr (wr (wr (wr σ a 3 (rem6 n)) a 2 (rem6 (n / 6))) a 1 (rem6 (n / 6 / 6))) a 0 (rem6 (n / 6 / 6 / 6))
set_option maxRecDepth 100000 in
theorem m_X7_rowOf {S : Scr} {a : Nat} (ha : IsA a 4) (n : Int32) (σ : Sto) : Mt S yX7_rowOf cX7_rowOf 4 none 0 [.int n, .ref a] σ (Is none (rowW σ a n)) := by
  refine mt_of (ls := [.int n, .ref a, .null, .null]) (by decide) rfl (Nat.le_of_ble_eq_true rfl) (by simp [Value.category]) ?_
  refine ev_iload_n_0 (pc := 0) dX7_rowOf_0 ?_
  refine ev_istore_n_2 (pc := 1) dX7_rowOf_1 (by decide) ?_
  refine ev_iconst (pc := 2) (v := 3) dX7_rowOf_2 (by decide) ?_
  refine ev_istore_n_3 (pc := 3) dX7_rowOf_3 (by decide) ?_
  refine ev_iload_n_3 (pc := 4) dX7_rowOf_4 ?_
  refine ev_if_lt (pc := 5) (tgt := 26) dX7_rowOf_5 (by decide) (fun h5 => by exact absurd h5 (by decide)) (fun h5 => ?_)
  refine ev_aload_n_1 (pc := 8) dX7_rowOf_8 ?_
  refine ev_iload_n_3 (pc := 9) dX7_rowOf_9 ?_
  refine ev_iload_n_2 (pc := 10) dX7_rowOf_10 ?_
  refine ev_bipush (pc := 11) (v := 6) dX7_rowOf_11 (by decide) ?_
  refine ev_irem (pc := 13) dX7_rowOf_13 (by decide) ?_
  refine ev_iastore' (pc := 14) (j := 3) dX7_rowOf_14 ha.1 ha.2.1 (by rw [ha.2.2]; exact (vin_c (by decide))) (by decide) ?_
  refine ev_iload_n_2 (pc := 15) dX7_rowOf_15 ?_
  refine ev_bipush (pc := 16) (v := 6) dX7_rowOf_16 (by decide) ?_
  refine ev_idiv (pc := 18) dX7_rowOf_18 (by decide) ?_
  refine ev_istore_n_2 (pc := 19) dX7_rowOf_19 (by decide) ?_
  refine ev_iinc_3 (pc := 20) (v := 2) dX7_rowOf_20 (by decide) (by decide) ?_
  refine ev_goto (pc := 23) (tgt := 4) dX7_rowOf_23 (by decide) ?_
  refine ev_iload_n_3 (pc := 4) dX7_rowOf_4 ?_
  refine ev_if_lt (pc := 5) (tgt := 26) dX7_rowOf_5 (by decide) (fun h5 => by exact absurd h5 (by decide)) (fun h5 => ?_)
  refine ev_aload_n_1 (pc := 8) dX7_rowOf_8 ?_
  refine ev_iload_n_3 (pc := 9) dX7_rowOf_9 ?_
  refine ev_iload_n_2 (pc := 10) dX7_rowOf_10 ?_
  refine ev_bipush (pc := 11) (v := 6) dX7_rowOf_11 (by decide) ?_
  refine ev_irem (pc := 13) dX7_rowOf_13 (by decide) ?_
  refine ev_iastore' (pc := 14) (j := 2) dX7_rowOf_14 ha.1 ha.2.1 (by rw [ha.2.2]; exact (vin_c (by decide))) (by decide) ?_
  refine ev_iload_n_2 (pc := 15) dX7_rowOf_15 ?_
  refine ev_bipush (pc := 16) (v := 6) dX7_rowOf_16 (by decide) ?_
  refine ev_idiv (pc := 18) dX7_rowOf_18 (by decide) ?_
  refine ev_istore_n_2 (pc := 19) dX7_rowOf_19 (by decide) ?_
  refine ev_iinc_3 (pc := 20) (v := 1) dX7_rowOf_20 (by decide) (by decide) ?_
  refine ev_goto (pc := 23) (tgt := 4) dX7_rowOf_23 (by decide) ?_
  refine ev_iload_n_3 (pc := 4) dX7_rowOf_4 ?_
  refine ev_if_lt (pc := 5) (tgt := 26) dX7_rowOf_5 (by decide) (fun h5 => by exact absurd h5 (by decide)) (fun h5 => ?_)
  refine ev_aload_n_1 (pc := 8) dX7_rowOf_8 ?_
  refine ev_iload_n_3 (pc := 9) dX7_rowOf_9 ?_
  refine ev_iload_n_2 (pc := 10) dX7_rowOf_10 ?_
  refine ev_bipush (pc := 11) (v := 6) dX7_rowOf_11 (by decide) ?_
  refine ev_irem (pc := 13) dX7_rowOf_13 (by decide) ?_
  refine ev_iastore' (pc := 14) (j := 1) dX7_rowOf_14 ha.1 ha.2.1 (by rw [ha.2.2]; exact (vin_c (by decide))) (by decide) ?_
  refine ev_iload_n_2 (pc := 15) dX7_rowOf_15 ?_
  refine ev_bipush (pc := 16) (v := 6) dX7_rowOf_16 (by decide) ?_
  refine ev_idiv (pc := 18) dX7_rowOf_18 (by decide) ?_
  refine ev_istore_n_2 (pc := 19) dX7_rowOf_19 (by decide) ?_
  refine ev_iinc_3 (pc := 20) (v := 0) dX7_rowOf_20 (by decide) (by decide) ?_
  refine ev_goto (pc := 23) (tgt := 4) dX7_rowOf_23 (by decide) ?_
  refine ev_iload_n_3 (pc := 4) dX7_rowOf_4 ?_
  refine ev_if_lt (pc := 5) (tgt := 26) dX7_rowOf_5 (by decide) (fun h5 => by exact absurd h5 (by decide)) (fun h5 => ?_)
  refine ev_aload_n_1 (pc := 8) dX7_rowOf_8 ?_
  refine ev_iload_n_3 (pc := 9) dX7_rowOf_9 ?_
  refine ev_iload_n_2 (pc := 10) dX7_rowOf_10 ?_
  refine ev_bipush (pc := 11) (v := 6) dX7_rowOf_11 (by decide) ?_
  refine ev_irem (pc := 13) dX7_rowOf_13 (by decide) ?_
  refine ev_iastore' (pc := 14) (j := 0) dX7_rowOf_14 ha.1 ha.2.1 (by rw [ha.2.2]; exact (vin_c (by decide))) (by decide) ?_
  refine ev_iload_n_2 (pc := 15) dX7_rowOf_15 ?_
  refine ev_bipush (pc := 16) (v := 6) dX7_rowOf_16 (by decide) ?_
  refine ev_idiv (pc := 18) dX7_rowOf_18 (by decide) ?_
  refine ev_istore_n_2 (pc := 19) dX7_rowOf_19 (by decide) ?_
  refine ev_iinc_3 (pc := 20) (v := (-1)) dX7_rowOf_20 (by decide) (by decide) ?_
  refine ev_goto (pc := 23) (tgt := 4) dX7_rowOf_23 (by decide) ?_
  refine ev_iload_n_3 (pc := 4) dX7_rowOf_4 ?_
  refine ev_if_lt (pc := 5) (tgt := 26) dX7_rowOf_5 (by decide) (fun h5 => ?_) (fun h5 => by exact absurd h5 (by decide))
  exact ev_return (pc := 26) dX7_rowOf_26 rfl (⟨rfl, rfl⟩)
end
section
/-! ===== loops ===== -/
def itN {α : Type} (f : Nat → α → α) : Nat → α → α
  | 0, a => a
  | n + 1, a => f n (itN f n a)
theorem for_up {α : Type} (n : Nat) (Hd : Nat → α → Prop) (f : Nat → α → α) (B : ∀ i a, i < n → Hd (i + 1) (f i a) → Hd i a) (a0 : α) (he : Hd n (itN f n a0)) : Hd 0 a0 := by
  have key : ∀ k, k ≤ n → Hd (n - k) (itN f (n - k) a0) := by
    intro k
    induction k with
    | zero => intro _; exact he
    | succ k ih =>
      intro hk
      have h := ih (by omega)
      have e : n - k = (n - (k + 1)) + 1 := by omega
      rw [e] at h
      exact B (n - (k + 1)) _ (by omega) h
  have := key n (Nat.le_refl n)
  simpa [itN] using this
theorem bI0 {P : Prop} [Decidable P] : bI P = 0 ↔ ¬ P := by unfold bI; by_cases h : P <;> simp [h]
theorem bI1 {P : Prop} [Decidable P] : bI P = 1 ↔ P := by unfold bI; by_cases h : P <;> simp [h]
theorem isPt_vin {p : Int32} {n : Nat} (hn : n < 2 ^ 31) (h : ¬ p < 0 ∧ p < nI n) : vp_in p n := by
  obtain ⟨h1, h2⟩ := h
  rw [tI_lt, Int32.toInt_zero] at h1
  rw [tI_lt, nI_toInt hn] at h2
  exact vin (by omega) h2
theorem vin4 {p : Int32} (h : ¬ p < 0 ∧ p < 4) : vp_in p 4 := isPt_vin (n := 4) (by decide) h
theorem vin2 {p : Int32} (h : ¬ p < 0 ∧ p < 2) : vp_in p 2 := isPt_vin (n := 2) (by decide) h
def cp0 (σ : Sto) (k0 k1 n : Nat) : Sto := (fun a b => if a = k1 ∧ b < n then σ.1 k0 b else σ.1 a b, σ.2)
theorem ev_copy0 {S : Scr} {own : String} {cc : ByteArray} {nL : Nat} {rt : Option FieldType} {d pc : Nat} {ls st : List Value} {σ : Sto} {Q : Option Value → Sto → Prop} {idx k0 k1 n' : Nat} {n : Int32} (hd : decode cc pc = .ok (.invokestatic idx, 3)) (hM : LC own idx) (h1 : 0 < d) (h8 : (st.map fun v => v.category).sum ≤ 8) (hk0 : k0 < NC) (hk1 : k1 < NC) (hc0 : kd k0 = 10) (hc1 : kd k1 = 10)
    (n2 : ¬ n < 0) (hn : n.toNatClampNeg = n') (b0 : n' ≤ ln k0) (b1 : n' ≤ ln k1) (kk : Ev S own cc nL rt d (pc + 3) ls st (cp0 σ k0 k1 n') Q) : Ev S own cc nL rt d pc ls (.int n :: .int 0 :: .ref k1 :: .int 0 :: .ref k0 :: st) σ Q := by
  have z : (0 : Int32).toNatClampNeg = 0 := by decide
  refine ev_copy hd hM h1 h8 hk0 hk1 hc0 hc1 (by decide) (by decide) n2 (by rw [z, hn]; omega) (by rw [z, hn]; omega) ?_
  have e : cpy σ k0 (0 : Int32).toNatClampNeg k1 (0 : Int32).toNatClampNeg n.toNatClampNeg = cp0 σ k0 k1 n' := by
    rw [z, hn]
    unfold cpy cp0
    simp
  rw [e]
  exact kk
/-! ===== the pot, scenes, the past ===== -/
def watS (σ : Sto) (a p : Nat) : Sto := wr σ a p (mxI 0 (σ.1 a p - 1))
def watW (σ : Sto) (a : Nat) : Sto := watS (watS (watS (watS σ a 0) a 1) a 2) a 3
def addW (σ : Sto) (a p : Nat) : Sto := wr σ a p (mnI 5 (σ.1 a p + 1))
def chgW (σ : Sto) (a : Nat) (x : Int32) : Sto := if x = 4 then watW σ a else if ¬ x < 0 ∧ x < 4 then addW σ a x.toNatClampNeg else σ
set_option maxRecDepth 100000 in
theorem m_X7_change {S : Scr} {a : Nat} (ha : IsA a 4) (x : Int32) (σ : Sto) : Mt S yX7_change cX7_change 3 none 1 [.ref a, .int x] σ (Is none (chgW σ a x)) := by
  refine mt_of (ls := [.ref a, .int x, .null]) (by decide) rfl (Nat.le_of_ble_eq_true rfl) (by simp [Value.category]) ?_
  refine ev_iload_n_1 (pc := 0) dX7_change_0 ?_
  refine ev_iconst (pc := 1) (v := 4) dX7_change_1 (by decide) ?_
  refine ev_icmp_ne (pc := 2) (tgt := 33) dX7_change_2 (by decide) (fun h2 => ?_) (fun h2 => ?_)
  · skip
    refine ev_iload_n_1 (pc := 33) dX7_change_33 ?_
    refine ev_callS1 (pc := 34) dX7_change_34 ml_X7_77 (m_X7_isPart x σ) rfl (by decide) rfl (Nat.le_of_ble_eq_true rfl) ?_
    refine ev_if_eq (pc := 37) (tgt := 52) dX7_change_37 (by decide) (fun h37 => ?_) (fun h37 => ?_)
    · skip
      exact ev_return (pc := 52) dX7_change_52 rfl (⟨rfl, by unfold chgW; first | rw [if_pos h2]; rfl | (rw [bI0] at h37; rw [if_neg h2, if_neg h37]) | (rw [bI0] at h37; rw [if_neg h2, if_pos (Decidable.not_not.mp h37)]; rfl)⟩)
    · skip
      refine ev_aload_n_0 (pc := 40) dX7_change_40 ?_
      refine ev_iload_n_1 (pc := 41) dX7_change_41 ?_
      refine ev_iconst (pc := 42) (v := 5) dX7_change_42 (by decide) ?_
      refine ev_aload_n_0 (pc := 43) dX7_change_43 ?_
      refine ev_iload_n_1 (pc := 44) dX7_change_44 ?_
      refine ev_iaload' (pc := 45) (j := _) dX7_change_45 ha.1 ha.2.1 (by rw [ha.2.2]; exact (vin4 (by rw [bI0] at h37; exact Decidable.not_not.mp h37))) rfl ?_
      refine ev_iconst (pc := 46) (v := 1) dX7_change_46 (by decide) ?_
      refine ev_iadd (pc := 47) dX7_change_47 ?_
      refine ev_mmin' (pc := 48) dX7_change_48 ml_X7_270 (by decide) (Nat.le_of_ble_eq_true rfl) ?_
      refine ev_iastore' (pc := 51) (j := _) dX7_change_51 ha.1 ha.2.1 (by rw [ha.2.2]; exact (vin4 (by rw [bI0] at h37; exact Decidable.not_not.mp h37))) rfl ?_
      exact ev_return (pc := 52) dX7_change_52 rfl (⟨rfl, by unfold chgW; first | rw [if_pos h2]; rfl | (rw [bI0] at h37; rw [if_neg h2, if_neg h37]) | (rw [bI0] at h37; rw [if_neg h2, if_pos (Decidable.not_not.mp h37)]; rfl)⟩)
  · skip
    refine ev_iconst (pc := 5) (v := 0) dX7_change_5 (by decide) ?_
    refine ev_istore_n_2 (pc := 6) dX7_change_6 (by decide) ?_
    refine ev_iload_n_2 (pc := 7) dX7_change_7 ?_
    refine ev_iconst (pc := 8) (v := 4) dX7_change_8 (by decide) ?_
    refine ev_icmp_ge (pc := 9) (tgt := 30) dX7_change_9 (by decide) (fun h9 => by exact absurd h9 (by decide)) (fun h9 => ?_)
    refine ev_aload_n_0 (pc := 12) dX7_change_12 ?_
    refine ev_iload_n_2 (pc := 13) dX7_change_13 ?_
    refine ev_iconst (pc := 14) (v := 0) dX7_change_14 (by decide) ?_
    refine ev_aload_n_0 (pc := 15) dX7_change_15 ?_
    refine ev_iload_n_2 (pc := 16) dX7_change_16 ?_
    refine ev_iaload' (pc := 17) (j := 0) dX7_change_17 ha.1 ha.2.1 (by rw [ha.2.2]; exact (vin_c (by decide))) (by decide) ?_
    refine ev_iconst (pc := 18) (v := 1) dX7_change_18 (by decide) ?_
    refine ev_isub (pc := 19) dX7_change_19 ?_
    refine ev_mmax' (pc := 20) dX7_change_20 ml_X7_264 (by decide) (Nat.le_of_ble_eq_true rfl) ?_
    refine ev_iastore' (pc := 23) (j := 0) dX7_change_23 ha.1 ha.2.1 (by rw [ha.2.2]; exact (vin_c (by decide))) (by decide) ?_
    refine ev_iinc_2 (pc := 24) (v := 1) dX7_change_24 (by decide) (by decide) ?_
    refine ev_goto (pc := 27) (tgt := 7) dX7_change_27 (by decide) ?_
    refine ev_iload_n_2 (pc := 7) dX7_change_7 ?_
    refine ev_iconst (pc := 8) (v := 4) dX7_change_8 (by decide) ?_
    refine ev_icmp_ge (pc := 9) (tgt := 30) dX7_change_9 (by decide) (fun h9 => by exact absurd h9 (by decide)) (fun h9 => ?_)
    refine ev_aload_n_0 (pc := 12) dX7_change_12 ?_
    refine ev_iload_n_2 (pc := 13) dX7_change_13 ?_
    refine ev_iconst (pc := 14) (v := 0) dX7_change_14 (by decide) ?_
    refine ev_aload_n_0 (pc := 15) dX7_change_15 ?_
    refine ev_iload_n_2 (pc := 16) dX7_change_16 ?_
    refine ev_iaload' (pc := 17) (j := 1) dX7_change_17 ha.1 ha.2.1 (by rw [ha.2.2]; exact (vin_c (by decide))) (by decide) ?_
    refine ev_iconst (pc := 18) (v := 1) dX7_change_18 (by decide) ?_
    refine ev_isub (pc := 19) dX7_change_19 ?_
    refine ev_mmax' (pc := 20) dX7_change_20 ml_X7_264 (by decide) (Nat.le_of_ble_eq_true rfl) ?_
    refine ev_iastore' (pc := 23) (j := 1) dX7_change_23 ha.1 ha.2.1 (by rw [ha.2.2]; exact (vin_c (by decide))) (by decide) ?_
    refine ev_iinc_2 (pc := 24) (v := 2) dX7_change_24 (by decide) (by decide) ?_
    refine ev_goto (pc := 27) (tgt := 7) dX7_change_27 (by decide) ?_
    refine ev_iload_n_2 (pc := 7) dX7_change_7 ?_
    refine ev_iconst (pc := 8) (v := 4) dX7_change_8 (by decide) ?_
    refine ev_icmp_ge (pc := 9) (tgt := 30) dX7_change_9 (by decide) (fun h9 => by exact absurd h9 (by decide)) (fun h9 => ?_)
    refine ev_aload_n_0 (pc := 12) dX7_change_12 ?_
    refine ev_iload_n_2 (pc := 13) dX7_change_13 ?_
    refine ev_iconst (pc := 14) (v := 0) dX7_change_14 (by decide) ?_
    refine ev_aload_n_0 (pc := 15) dX7_change_15 ?_
    refine ev_iload_n_2 (pc := 16) dX7_change_16 ?_
    refine ev_iaload' (pc := 17) (j := 2) dX7_change_17 ha.1 ha.2.1 (by rw [ha.2.2]; exact (vin_c (by decide))) (by decide) ?_
    refine ev_iconst (pc := 18) (v := 1) dX7_change_18 (by decide) ?_
    refine ev_isub (pc := 19) dX7_change_19 ?_
    refine ev_mmax' (pc := 20) dX7_change_20 ml_X7_264 (by decide) (Nat.le_of_ble_eq_true rfl) ?_
    refine ev_iastore' (pc := 23) (j := 2) dX7_change_23 ha.1 ha.2.1 (by rw [ha.2.2]; exact (vin_c (by decide))) (by decide) ?_
    refine ev_iinc_2 (pc := 24) (v := 3) dX7_change_24 (by decide) (by decide) ?_
    refine ev_goto (pc := 27) (tgt := 7) dX7_change_27 (by decide) ?_
    refine ev_iload_n_2 (pc := 7) dX7_change_7 ?_
    refine ev_iconst (pc := 8) (v := 4) dX7_change_8 (by decide) ?_
    refine ev_icmp_ge (pc := 9) (tgt := 30) dX7_change_9 (by decide) (fun h9 => by exact absurd h9 (by decide)) (fun h9 => ?_)
    refine ev_aload_n_0 (pc := 12) dX7_change_12 ?_
    refine ev_iload_n_2 (pc := 13) dX7_change_13 ?_
    refine ev_iconst (pc := 14) (v := 0) dX7_change_14 (by decide) ?_
    refine ev_aload_n_0 (pc := 15) dX7_change_15 ?_
    refine ev_iload_n_2 (pc := 16) dX7_change_16 ?_
    refine ev_iaload' (pc := 17) (j := 3) dX7_change_17 ha.1 ha.2.1 (by rw [ha.2.2]; exact (vin_c (by decide))) (by decide) ?_
    refine ev_iconst (pc := 18) (v := 1) dX7_change_18 (by decide) ?_
    refine ev_isub (pc := 19) dX7_change_19 ?_
    refine ev_mmax' (pc := 20) dX7_change_20 ml_X7_264 (by decide) (Nat.le_of_ble_eq_true rfl) ?_
    refine ev_iastore' (pc := 23) (j := 3) dX7_change_23 ha.1 ha.2.1 (by rw [ha.2.2]; exact (vin_c (by decide))) (by decide) ?_
    refine ev_iinc_2 (pc := 24) (v := 4) dX7_change_24 (by decide) (by decide) ?_
    refine ev_goto (pc := 27) (tgt := 7) dX7_change_27 (by decide) ?_
    refine ev_iload_n_2 (pc := 7) dX7_change_7 ?_
    refine ev_iconst (pc := 8) (v := 4) dX7_change_8 (by decide) ?_
    refine ev_icmp_ge (pc := 9) (tgt := 30) dX7_change_9 (by decide) (fun h9 => ?_) (fun h9 => by exact absurd h9 (by decide))
    refine ev_goto (pc := 30) (tgt := 52) dX7_change_30 (by decide) ?_
    exact ev_return (pc := 52) dX7_change_52 rfl (⟨rfl, by unfold chgW; first | rw [if_pos h2]; rfl | (rw [bI0] at h37; rw [if_neg h2, if_neg h37]) | (rw [bI0] at h37; rw [if_neg h2, if_pos (Decidable.not_not.mp h37)]; rfl)⟩)
def becW (σ : Sto) (A B : Nat) : Sto := cp0 (cp0 (cp0 σ (B + 1) (A + 1) 4) (B + 2) (A + 2) 6) (B + 3) (A + 3) 6
set_option maxRecDepth 100000 in
theorem m_X3_become {S : Scr} {A B : Nat} (hA : IsSc A) (hB : IsSc B) (σ : Sto) : Mt S yX3_become cX3_become 2 none 1 [.ref A, .ref B] σ (Is none (becW σ A B)) := by
  refine mt_of (ls := [.ref A, .ref B]) (by decide) rfl (Nat.le_of_ble_eq_true rfl) (by simp [Value.category]) ?_
  refine ev_aload_n_1 (pc := 0) dX3_become_0 ?_
  refine ev_getR (pc := 1) (r := (B + 1)) dX3_become_1 fl_X3_9 hB.lt hB.kd0 (by decide) (hB.rfj 0) ?_
  refine ev_iconst (pc := 4) (v := 0) dX3_become_4 (by decide) ?_
  refine ev_aload_n_0 (pc := 5) dX3_become_5 ?_
  refine ev_getR (pc := 6) (r := (A + 1)) dX3_become_6 fl_X3_9 hA.lt hA.kd0 (by decide) (hA.rfj 0) ?_
  refine ev_iconst (pc := 9) (v := 0) dX3_become_9 (by decide) ?_
  refine ev_iconst (pc := 10) (v := 4) dX3_become_10 (by decide) ?_
  refine ev_copy0 (pc := 11) (n' := 4) dX3_become_11 ml_X3_21 (by decide) (Nat.le_of_ble_eq_true rfl) hB.lt1 hA.lt1 hB.kd1 hA.kd1 (by decide) (by decide) (by rw [hB.ln1]; decide) (by rw [hA.ln1]; decide) ?_
  refine ev_aload_n_1 (pc := 14) dX3_become_14 ?_
  refine ev_getR (pc := 15) (r := (B + 2)) dX3_become_15 fl_X3_15 hB.lt hB.kd0 (by decide) (hB.rfj 1) ?_
  refine ev_iconst (pc := 18) (v := 0) dX3_become_18 (by decide) ?_
  refine ev_aload_n_0 (pc := 19) dX3_become_19 ?_
  refine ev_getR (pc := 20) (r := (A + 2)) dX3_become_20 fl_X3_15 hA.lt hA.kd0 (by decide) (hA.rfj 1) ?_
  refine ev_iconst (pc := 23) (v := 0) dX3_become_23 (by decide) ?_
  refine ev_bipush (pc := 24) (v := 6) dX3_become_24 (by decide) ?_
  refine ev_copy0 (pc := 26) (n' := 6) dX3_become_26 ml_X3_21 (by decide) (Nat.le_of_ble_eq_true rfl) hB.lt2 hA.lt2 hB.kd2 hA.kd2 (by decide) (by decide) (by rw [hB.ln2]; decide) (by rw [hA.ln2]; decide) ?_
  refine ev_aload_n_1 (pc := 29) dX3_become_29 ?_
  refine ev_getR (pc := 30) (r := (B + 3)) dX3_become_30 fl_X3_18 hB.lt hB.kd0 (by decide) (hB.rfj 2) ?_
  refine ev_iconst (pc := 33) (v := 0) dX3_become_33 (by decide) ?_
  refine ev_aload_n_0 (pc := 34) dX3_become_34 ?_
  refine ev_getR (pc := 35) (r := (A + 3)) dX3_become_35 fl_X3_18 hA.lt hA.kd0 (by decide) (hA.rfj 2) ?_
  refine ev_iconst (pc := 38) (v := 0) dX3_become_38 (by decide) ?_
  refine ev_bipush (pc := 39) (v := 6) dX3_become_39 (by decide) ?_
  refine ev_copy0 (pc := 41) (n' := 6) dX3_become_41 ml_X3_21 (by decide) (Nat.le_of_ble_eq_true rfl) hB.lt3 hA.lt3 hB.kd3 hA.kd3 (by decide) (by decide) (by rw [hB.ln3]; decide) (by rw [hA.ln3]; decide) ?_
  exact ev_return (pc := 44) dX3_become_44 rfl (⟨rfl, rfl⟩)
def begS (n : Int32) (b : Nat) (σ : Sto) : Sto := wr (wr σ 41 b (if n ≤ nI b then 0 else σ.1 (95 + b) 5)) 42 b (-9)
theorem rf3 (b : Nat) : rf 3 b = 95 + b := rfl
theorem rows_lt : ∀ b, b < 6 → 95 + b < NC ∧ kd (95 + b) = 10 ∧ ln (95 + b) = 6 := by decide
theorem isA_rows {b : Nat} (h : b < 6) : IsA (95 + b) 6 := rows_lt b h
set_option maxRecDepth 100000 in
theorem b_X3_begin {S : Scr} (n : Int32) (b : Nat) (hb : b < 6) (σ : Sto) {Q : Option Value → Sto → Prop} (K : Ev S RX3 cX3_begin 5 none 1 14 [.ref 39, .ref 4, .ref 3, .int n, .int (nI (b + 1))] [] (begS n b σ) (Q)) : Ev S RX3 cX3_begin 5 none 1 14 [.ref 39, .ref 4, .ref 3, .int n, .int (nI b)] [] σ (Q) := by
  refine ev_iload_4 (pc := 14) dX3_begin_14 ?_
  refine ev_bipush (pc := 16) (v := 6) dX3_begin_16 (by decide) ?_
  refine ev_icmp_ge (pc := 18) (tgt := 59) dX3_begin_18 (by decide) (fun h18 => by exact absurd h18 (nI_ge hb (by decide))) (fun h18 => ?_)
  refine ev_aload_n_0 (pc := 21) dX3_begin_21 ?_
  refine ev_getR (pc := 22) (r := 41) dX3_begin_22 fl_X3_15 (by decide) (by decide) (by decide) (by decide) ?_
  refine ev_iload_4 (pc := 25) dX3_begin_25 ?_
  refine ev_iload_4 (pc := 27) dX3_begin_27 ?_
  refine ev_iload_n_3 (pc := 29) dX3_begin_29 ?_
  refine ev_icmp_ge (pc := 30) (tgt := 42) dX3_begin_30 (by decide) (fun h30 => ?_) (fun h30 => ?_)
  · skip
    refine ev_iconst (pc := 42) (v := 0) dX3_begin_42 (by decide) ?_
    refine ev_iastore' (pc := 43) (j := b) dX3_begin_43 (by decide) (by decide) (show vp_in _ 6 from (vp_in_nI (by omega) (by decide))) (nI_clamp (by omega)) ?_
    refine ev_aload_n_0 (pc := 44) dX3_begin_44 ?_
    refine ev_getR (pc := 45) (r := 42) dX3_begin_45 fl_X3_18 (by decide) (by decide) (by decide) (by decide) ?_
    refine ev_iload_4 (pc := 48) dX3_begin_48 ?_
    refine ev_bipush (pc := 50) (v := (-9)) dX3_begin_50 (by decide) ?_
    refine ev_iastore' (pc := 52) (j := b) dX3_begin_52 (by decide) (by decide) (show vp_in _ 6 from (vp_in_nI (by omega) (by decide))) (nI_clamp (by omega)) ?_
    refine ev_iinc_4 (pc := 53) (v := nI (b + 1)) dX3_begin_53 (nI_inc b) (by decide) ?_
    refine ev_goto (pc := 56) (tgt := 14) dX3_begin_56 (by decide) ?_
    exact ev_eq rfl rfl (by simp only [begS, h30, ↓reduceIte]) K
  · skip
    refine ev_aload_n_2 (pc := 33) dX3_begin_33 ?_
    refine ev_iload_4 (pc := 34) dX3_begin_34 ?_
    refine ev_aaload' (pc := 36) (r := (95 + b)) (j := b) dX3_begin_36 (by decide) (c := 12) (by decide) (by decide) (by decide) (show vp_in _ 6 from (vp_in_nI (by omega) (by decide))) (nI_clamp (by omega)) (rf3 b) ?_
    refine ev_iconst (pc := 37) (v := 5) dX3_begin_37 (by decide) ?_
    refine ev_iaload' (pc := 38) (j := 5) dX3_begin_38 (isA_rows hb).1 (isA_rows hb).2.1 (by rw [(isA_rows hb).2.2]; exact (vin_c (by decide))) (by decide) ?_
    refine ev_goto (pc := 39) (tgt := 43) dX3_begin_39 (by decide) ?_
    refine ev_iastore' (pc := 43) (j := b) dX3_begin_43 (by decide) (by decide) (show vp_in _ 6 from (vp_in_nI (by omega) (by decide))) (nI_clamp (by omega)) ?_
    refine ev_aload_n_0 (pc := 44) dX3_begin_44 ?_
    refine ev_getR (pc := 45) (r := 42) dX3_begin_45 fl_X3_18 (by decide) (by decide) (by decide) (by decide) ?_
    refine ev_iload_4 (pc := 48) dX3_begin_48 ?_
    refine ev_bipush (pc := 50) (v := (-9)) dX3_begin_50 (by decide) ?_
    refine ev_iastore' (pc := 52) (j := b) dX3_begin_52 (by decide) (by decide) (show vp_in _ 6 from (vp_in_nI (by omega) (by decide))) (nI_clamp (by omega)) ?_
    refine ev_iinc_4 (pc := 53) (v := nI (b + 1)) dX3_begin_53 (nI_inc b) (by decide) ?_
    refine ev_goto (pc := 56) (tgt := 14) dX3_begin_56 (by decide) ?_
    exact ev_eq rfl rfl (by simp only [begS, h30, ↓reduceIte]) K
def begW (n : Int32) (σ : Sto) : Sto := itN (begS n) 6 (cp0 σ 4 40 4)
theorem m_X3_begin {S : Scr} (n : Int32) (σ : Sto) : Mt S yX3_begin cX3_begin 5 none 1 [.ref 39, .ref 4, .ref 3, .int n] σ (Is none (begW n σ)) := by
  refine mt_of (ls := [.ref 39, .ref 4, .ref 3, .int n, .null]) (by decide) rfl (Nat.le_of_ble_eq_true rfl) (by simp [Value.category]) ?_
  refine ev_aload_n_1 (pc := 0) dX3_begin_0 ?_
  refine ev_iconst (pc := 1) (v := 0) dX3_begin_1 (by decide) ?_
  refine ev_aload_n_0 (pc := 2) dX3_begin_2 ?_
  refine ev_getR (pc := 3) (r := 40) dX3_begin_3 fl_X3_9 (by decide) (by decide) (by decide) (by decide) ?_
  refine ev_iconst (pc := 6) (v := 0) dX3_begin_6 (by decide) ?_
  refine ev_iconst (pc := 7) (v := 4) dX3_begin_7 (by decide) ?_
  refine ev_copy0 (pc := 8) (n' := 4) dX3_begin_8 ml_X3_21 (by decide) (Nat.le_of_ble_eq_true rfl) (by decide) (by decide) (by decide) (by decide) (by decide) (by decide) (by decide) (by decide) ?_
  refine ev_iconst (pc := 11) (v := 0) dX3_begin_11 (by decide) ?_
  refine ev_istore_4 (pc := 12) dX3_begin_12 (by decide) ?_
  refine for_up 6 (fun i τ => Ev S RX3 cX3_begin 5 none 1 14 [.ref 39, .ref 4, .ref 3, .int n, .int (nI i)] [] τ (Is none (begW n σ))) (begS n) (fun i τ hi K => b_X3_begin n i hi τ K) (cp0 σ 4 40 4) ?_
  refine ev_iload_4 (pc := 14) dX3_begin_14 ?_
  refine ev_bipush (pc := 16) (v := 6) dX3_begin_16 (by decide) ?_
  refine ev_icmp_ge (pc := 18) (tgt := 59) dX3_begin_18 (by decide) (fun h18 => ?_) (fun h18 => by exact absurd h18 (by decide))
  exact ev_return (pc := 59) dX3_begin_59 rfl (⟨rfl, rfl⟩)
def cldD (f : Nat → Int32) : Int32 := 0 ||| f 0 <<< ((0 : Int32) &&& 31) ||| f 1 <<< ((1 : Int32) &&& 31) ||| f 2 <<< ((2 : Int32) &&& 31) ||| f 3 <<< ((3 : Int32) &&& 31) ||| f 4 <<< ((4 : Int32) &&& 31) ||| f 5 <<< ((5 : Int32) &&& 31)
set_option maxRecDepth 100000 in
theorem m_X3_coldSet {S : Scr}  (σ : Sto) : Mt S yX3_coldSet cX3_coldSet 3 (some .int) 0 [.ref 39] σ (Is (some (.int (cldD (σ.1 41)))) σ) := by
  refine mt_of (ls := [.ref 39, .null, .null]) (by decide) rfl (Nat.le_of_ble_eq_true rfl) (by simp [Value.category]) ?_
  refine ev_iconst (pc := 0) (v := 0) dX3_coldSet_0 (by decide) ?_
  refine ev_istore_n_1 (pc := 1) dX3_coldSet_1 (by decide) ?_
  refine ev_iconst (pc := 2) (v := 0) dX3_coldSet_2 (by decide) ?_
  refine ev_istore_n_2 (pc := 3) dX3_coldSet_3 (by decide) ?_
  refine ev_iload_n_2 (pc := 4) dX3_coldSet_4 ?_
  refine ev_bipush (pc := 5) (v := 6) dX3_coldSet_5 (by decide) ?_
  refine ev_icmp_ge (pc := 7) (tgt := 27) dX3_coldSet_7 (by decide) (fun h7 => by exact absurd h7 (by decide)) (fun h7 => ?_)
  refine ev_iload_n_1 (pc := 10) dX3_coldSet_10 ?_
  refine ev_aload_n_0 (pc := 11) dX3_coldSet_11 ?_
  refine ev_getR (pc := 12) (r := 41) dX3_coldSet_12 fl_X3_15 (by decide) (by decide) (by decide) (by decide) ?_
  refine ev_iload_n_2 (pc := 15) dX3_coldSet_15 ?_
  refine ev_iaload' (pc := 16) (j := 0) dX3_coldSet_16 (by decide) (by decide) (show vp_in _ 6 from (vin_c (by decide))) (by decide) ?_
  refine ev_iload_n_2 (pc := 17) dX3_coldSet_17 ?_
  refine ev_ishl (pc := 18) dX3_coldSet_18 ?_
  refine ev_ior (pc := 19) dX3_coldSet_19 ?_
  refine ev_istore_n_1 (pc := 20) dX3_coldSet_20 (by decide) ?_
  refine ev_iinc_2 (pc := 21) (v := 1) dX3_coldSet_21 (by decide) (by decide) ?_
  refine ev_goto (pc := 24) (tgt := 4) dX3_coldSet_24 (by decide) ?_
  refine ev_iload_n_2 (pc := 4) dX3_coldSet_4 ?_
  refine ev_bipush (pc := 5) (v := 6) dX3_coldSet_5 (by decide) ?_
  refine ev_icmp_ge (pc := 7) (tgt := 27) dX3_coldSet_7 (by decide) (fun h7 => by exact absurd h7 (by decide)) (fun h7 => ?_)
  refine ev_iload_n_1 (pc := 10) dX3_coldSet_10 ?_
  refine ev_aload_n_0 (pc := 11) dX3_coldSet_11 ?_
  refine ev_getR (pc := 12) (r := 41) dX3_coldSet_12 fl_X3_15 (by decide) (by decide) (by decide) (by decide) ?_
  refine ev_iload_n_2 (pc := 15) dX3_coldSet_15 ?_
  refine ev_iaload' (pc := 16) (j := 1) dX3_coldSet_16 (by decide) (by decide) (show vp_in _ 6 from (vin_c (by decide))) (by decide) ?_
  refine ev_iload_n_2 (pc := 17) dX3_coldSet_17 ?_
  refine ev_ishl (pc := 18) dX3_coldSet_18 ?_
  refine ev_ior (pc := 19) dX3_coldSet_19 ?_
  refine ev_istore_n_1 (pc := 20) dX3_coldSet_20 (by decide) ?_
  refine ev_iinc_2 (pc := 21) (v := 2) dX3_coldSet_21 (by decide) (by decide) ?_
  refine ev_goto (pc := 24) (tgt := 4) dX3_coldSet_24 (by decide) ?_
  refine ev_iload_n_2 (pc := 4) dX3_coldSet_4 ?_
  refine ev_bipush (pc := 5) (v := 6) dX3_coldSet_5 (by decide) ?_
  refine ev_icmp_ge (pc := 7) (tgt := 27) dX3_coldSet_7 (by decide) (fun h7 => by exact absurd h7 (by decide)) (fun h7 => ?_)
  refine ev_iload_n_1 (pc := 10) dX3_coldSet_10 ?_
  refine ev_aload_n_0 (pc := 11) dX3_coldSet_11 ?_
  refine ev_getR (pc := 12) (r := 41) dX3_coldSet_12 fl_X3_15 (by decide) (by decide) (by decide) (by decide) ?_
  refine ev_iload_n_2 (pc := 15) dX3_coldSet_15 ?_
  refine ev_iaload' (pc := 16) (j := 2) dX3_coldSet_16 (by decide) (by decide) (show vp_in _ 6 from (vin_c (by decide))) (by decide) ?_
  refine ev_iload_n_2 (pc := 17) dX3_coldSet_17 ?_
  refine ev_ishl (pc := 18) dX3_coldSet_18 ?_
  refine ev_ior (pc := 19) dX3_coldSet_19 ?_
  refine ev_istore_n_1 (pc := 20) dX3_coldSet_20 (by decide) ?_
  refine ev_iinc_2 (pc := 21) (v := 3) dX3_coldSet_21 (by decide) (by decide) ?_
  refine ev_goto (pc := 24) (tgt := 4) dX3_coldSet_24 (by decide) ?_
  refine ev_iload_n_2 (pc := 4) dX3_coldSet_4 ?_
  refine ev_bipush (pc := 5) (v := 6) dX3_coldSet_5 (by decide) ?_
  refine ev_icmp_ge (pc := 7) (tgt := 27) dX3_coldSet_7 (by decide) (fun h7 => by exact absurd h7 (by decide)) (fun h7 => ?_)
  refine ev_iload_n_1 (pc := 10) dX3_coldSet_10 ?_
  refine ev_aload_n_0 (pc := 11) dX3_coldSet_11 ?_
  refine ev_getR (pc := 12) (r := 41) dX3_coldSet_12 fl_X3_15 (by decide) (by decide) (by decide) (by decide) ?_
  refine ev_iload_n_2 (pc := 15) dX3_coldSet_15 ?_
  refine ev_iaload' (pc := 16) (j := 3) dX3_coldSet_16 (by decide) (by decide) (show vp_in _ 6 from (vin_c (by decide))) (by decide) ?_
  refine ev_iload_n_2 (pc := 17) dX3_coldSet_17 ?_
  refine ev_ishl (pc := 18) dX3_coldSet_18 ?_
  refine ev_ior (pc := 19) dX3_coldSet_19 ?_
  refine ev_istore_n_1 (pc := 20) dX3_coldSet_20 (by decide) ?_
  refine ev_iinc_2 (pc := 21) (v := 4) dX3_coldSet_21 (by decide) (by decide) ?_
  refine ev_goto (pc := 24) (tgt := 4) dX3_coldSet_24 (by decide) ?_
  refine ev_iload_n_2 (pc := 4) dX3_coldSet_4 ?_
  refine ev_bipush (pc := 5) (v := 6) dX3_coldSet_5 (by decide) ?_
  refine ev_icmp_ge (pc := 7) (tgt := 27) dX3_coldSet_7 (by decide) (fun h7 => by exact absurd h7 (by decide)) (fun h7 => ?_)
  refine ev_iload_n_1 (pc := 10) dX3_coldSet_10 ?_
  refine ev_aload_n_0 (pc := 11) dX3_coldSet_11 ?_
  refine ev_getR (pc := 12) (r := 41) dX3_coldSet_12 fl_X3_15 (by decide) (by decide) (by decide) (by decide) ?_
  refine ev_iload_n_2 (pc := 15) dX3_coldSet_15 ?_
  refine ev_iaload' (pc := 16) (j := 4) dX3_coldSet_16 (by decide) (by decide) (show vp_in _ 6 from (vin_c (by decide))) (by decide) ?_
  refine ev_iload_n_2 (pc := 17) dX3_coldSet_17 ?_
  refine ev_ishl (pc := 18) dX3_coldSet_18 ?_
  refine ev_ior (pc := 19) dX3_coldSet_19 ?_
  refine ev_istore_n_1 (pc := 20) dX3_coldSet_20 (by decide) ?_
  refine ev_iinc_2 (pc := 21) (v := 5) dX3_coldSet_21 (by decide) (by decide) ?_
  refine ev_goto (pc := 24) (tgt := 4) dX3_coldSet_24 (by decide) ?_
  refine ev_iload_n_2 (pc := 4) dX3_coldSet_4 ?_
  refine ev_bipush (pc := 5) (v := 6) dX3_coldSet_5 (by decide) ?_
  refine ev_icmp_ge (pc := 7) (tgt := 27) dX3_coldSet_7 (by decide) (fun h7 => by exact absurd h7 (by decide)) (fun h7 => ?_)
  refine ev_iload_n_1 (pc := 10) dX3_coldSet_10 ?_
  refine ev_aload_n_0 (pc := 11) dX3_coldSet_11 ?_
  refine ev_getR (pc := 12) (r := 41) dX3_coldSet_12 fl_X3_15 (by decide) (by decide) (by decide) (by decide) ?_
  refine ev_iload_n_2 (pc := 15) dX3_coldSet_15 ?_
  refine ev_iaload' (pc := 16) (j := 5) dX3_coldSet_16 (by decide) (by decide) (show vp_in _ 6 from (vin_c (by decide))) (by decide) ?_
  refine ev_iload_n_2 (pc := 17) dX3_coldSet_17 ?_
  refine ev_ishl (pc := 18) dX3_coldSet_18 ?_
  refine ev_ior (pc := 19) dX3_coldSet_19 ?_
  refine ev_istore_n_1 (pc := 20) dX3_coldSet_20 (by decide) ?_
  refine ev_iinc_2 (pc := 21) (v := 6) dX3_coldSet_21 (by decide) (by decide) ?_
  refine ev_goto (pc := 24) (tgt := 4) dX3_coldSet_24 (by decide) ?_
  refine ev_iload_n_2 (pc := 4) dX3_coldSet_4 ?_
  refine ev_bipush (pc := 5) (v := 6) dX3_coldSet_5 (by decide) ?_
  refine ev_icmp_ge (pc := 7) (tgt := 27) dX3_coldSet_7 (by decide) (fun h7 => ?_) (fun h7 => by exact absurd h7 (by decide))
  refine ev_iload_n_1 (pc := 27) dX3_coldSet_27 ?_
  exact ev_ireturn (pc := 28) dX3_coldSet_28 rfl rfl (⟨rfl, rfl⟩)
def nxt (i : Nat) : Nat := if i + 1 < 10 then i + 1 else 0
def prv (i : Nat) : Nat := if 0 < i then i - 1 else 9
def remW (σ : Sto) (i : Nat) : Sto := wr (wr (becW σ (55 + 4 * i) 39) 9 1 (nI (nxt i))) 9 2 (mnI 10 (σ.1 9 2 + 1))
def bbW (σ : Sto) (i : Nat) : Sto := becW (wr (wr σ 9 1 (nI (prv i))) 9 2 (σ.1 9 2 - 1)) 39 (55 + 4 * prv i)
theorem nxt_i : ∀ i, i < 10 → (10 ≤ nI i + 1 → (0 : Int32) = nI (nxt i)) ∧ (¬ 10 ≤ nI i + 1 → nI i + 1 = nI (nxt i)) := by decide +kernel
theorem prv_i : ∀ i, i < 10 → (nI i ≤ 0 → (9 : Int32) = nI (prv i)) ∧ (¬ nI i ≤ 0 → nI i - 1 = nI (prv i)) ∧ prv i < 10 := by decide +kernel
theorem isSc_past {i : Nat} (h : i < 10) : IsSc (55 + 4 * i) := ⟨4 + i, by omega, by omega⟩
theorem isSc_img {i : Nat} (h : i < 2) : IsSc (47 + 4 * i) := ⟨2 + i, by omega, by omega⟩
theorem isSc_39 : IsSc 39 := ⟨0, by decide, rfl⟩
theorem isSc_43 : IsSc 43 := ⟨1, by decide, rfl⟩
theorem rf10 (i : Nat) : rf 10 i = 55 + 4 * i := rfl
theorem rf11 (i : Nat) : rf 11 i = 47 + 4 * i := rfl
theorem rf6 (i : Nat) : rf 6 i = 25 + 2 * i := rfl
theorem isTa_of {b : Nat} (h : b < 6) : IsTa (25 + 2 * b) := ⟨b, by omega, rfl⟩
theorem becW_9 {σ : Sto} {A B i : Nat} (hA : 39 ≤ A) : (becW σ A B).1 9 i = σ.1 9 i := by
  unfold becW cp0
  simp [show ¬ 9 = A + 1 by omega, show ¬ 9 = A + 2 by omega, show ¬ 9 = A + 3 by omega]
set_option maxRecDepth 100000 in
theorem m_X1_remember {S : Scr} (i : Nat) (hi : i < 10) (σ : Sto) (hn : σ.1 9 1 = nI i) : Mt S yX1_remember cX1_remember 2 none 2 [.ref 9, .ref 39] σ (Is none (remW σ i)) := by
  refine mt_of (ls := [.ref 9, .ref 39]) (by decide) rfl (Nat.le_of_ble_eq_true rfl) (by simp [Value.category]) ?_
  refine ev_aload_n_0 (pc := 0) dX1_remember_0 ?_
  refine ev_getR (pc := 1) (r := 10) dX1_remember_1 fl_X1_11 (by decide) (by decide) (by decide) (by decide) ?_
  refine ev_aload_n_0 (pc := 4) dX1_remember_4 ?_
  refine ev_getI (pc := 5) dX1_remember_5 fl_X1_18 (by decide) (by decide) (by decide) ?_
  refine ev_aaload' (pc := 8) (r := (55 + 4 * i)) (j := i) dX1_remember_8 (by decide) (c := 13) (by decide) (by decide) (by decide) (show vp_in _ 10 from (by rw [hn]; exact vp_in_nI hi (by decide))) (by rw [hn]; exact nI_clamp (by omega)) (rf10 i) ?_
  refine ev_aload_n_1 (pc := 9) dX1_remember_9 ?_
  refine ev_callV0 (pc := 10) dX1_remember_10 ml_X1_22 (m_X3_become (isSc_past hi) isSc_39 σ) (isSc_past hi).lt ⟨_, by rw [(isSc_past hi).kd0]; rfl, rfl⟩ rfl (by decide) rfl (Nat.le_of_ble_eq_true rfl) ?_
  have g : ∀ j, (becW σ (55 + 4 * i) 39).1 9 j = σ.1 9 j := fun j => becW_9 (by omega)
  refine ev_aload_n_0 (pc := 13) dX1_remember_13 ?_
  refine ev_aload_n_0 (pc := 14) dX1_remember_14 ?_
  refine ev_getI (pc := 15) dX1_remember_15 fl_X1_18 (by decide) (by decide) (by decide) ?_
  refine ev_iconst (pc := 18) (v := 1) dX1_remember_18 (by decide) ?_
  refine ev_iadd (pc := 19) dX1_remember_19 ?_
  refine ev_bipush (pc := 20) (v := 10) dX1_remember_20 (by decide) ?_
  refine ev_icmp_ge (pc := 22) (tgt := 34) dX1_remember_22 (by decide) (fun h22 => ?_) (fun h22 => ?_)
  · skip
    refine ev_iconst (pc := 34) (v := 0) dX1_remember_34 (by decide) ?_
    rw [g, hn] at h22
    refine ev_eq (st' := [.int (nI (nxt i)), .ref 9]) rfl (by (try rw [g, hn]); first | rw [(nxt_i i hi).1 h22] | rw [(nxt_i i hi).2 h22]) rfl ?_
    refine ev_putI (pc := 35) dX1_remember_35 fl_X1_18 (by decide) (by decide) (by decide) ?_
    refine ev_aload_n_0 (pc := 38) dX1_remember_38 ?_
    refine ev_bipush (pc := 39) (v := 10) dX1_remember_39 (by decide) ?_
    refine ev_aload_n_0 (pc := 41) dX1_remember_41 ?_
    refine ev_getI (pc := 42) dX1_remember_42 fl_X1_26 (by decide) (by decide) (by decide) ?_
    refine ev_iconst (pc := 45) (v := 1) dX1_remember_45 (by decide) ?_
    refine ev_iadd (pc := 46) dX1_remember_46 ?_
    refine ev_mmin' (pc := 47) dX1_remember_47 ml_X1_29 (by decide) (Nat.le_of_ble_eq_true rfl) ?_
    refine ev_putI (pc := 50) dX1_remember_50 fl_X1_26 (by decide) (by decide) (by decide) ?_
    exact ev_return (pc := 53) dX1_remember_53 rfl (⟨rfl, by unfold remW; rw [show (wr (becW σ (55 + 4 * i) 39) 9 1 (nI (nxt i))).1 9 2 = σ.1 9 2 from (by rw [← g 2]; simp [wr])]⟩)
  · skip
    refine ev_aload_n_0 (pc := 25) dX1_remember_25 ?_
    refine ev_getI (pc := 26) dX1_remember_26 fl_X1_18 (by decide) (by decide) (by decide) ?_
    refine ev_iconst (pc := 29) (v := 1) dX1_remember_29 (by decide) ?_
    refine ev_iadd (pc := 30) dX1_remember_30 ?_
    refine ev_goto (pc := 31) (tgt := 35) dX1_remember_31 (by decide) ?_
    rw [g, hn] at h22
    refine ev_eq (st' := [.int (nI (nxt i)), .ref 9]) rfl (by (try rw [g, hn]); first | rw [(nxt_i i hi).1 h22] | rw [(nxt_i i hi).2 h22]) rfl ?_
    refine ev_putI (pc := 35) dX1_remember_35 fl_X1_18 (by decide) (by decide) (by decide) ?_
    refine ev_aload_n_0 (pc := 38) dX1_remember_38 ?_
    refine ev_bipush (pc := 39) (v := 10) dX1_remember_39 (by decide) ?_
    refine ev_aload_n_0 (pc := 41) dX1_remember_41 ?_
    refine ev_getI (pc := 42) dX1_remember_42 fl_X1_26 (by decide) (by decide) (by decide) ?_
    refine ev_iconst (pc := 45) (v := 1) dX1_remember_45 (by decide) ?_
    refine ev_iadd (pc := 46) dX1_remember_46 ?_
    refine ev_mmin' (pc := 47) dX1_remember_47 ml_X1_29 (by decide) (Nat.le_of_ble_eq_true rfl) ?_
    refine ev_putI (pc := 50) dX1_remember_50 fl_X1_26 (by decide) (by decide) (by decide) ?_
    exact ev_return (pc := 53) dX1_remember_53 rfl (⟨rfl, by unfold remW; rw [show (wr (becW σ (55 + 4 * i) 39) 9 1 (nI (nxt i))).1 9 2 = σ.1 9 2 from (by rw [← g 2]; simp [wr])]⟩)
set_option maxRecDepth 100000 in
theorem m_X1_bringBack {S : Scr} (i : Nat) (hi : i < 10) (σ : Sto) (hn : σ.1 9 1 = nI i) : Mt S yX1_bringBack cX1_bringBack 2 (some .int) 2 [.ref 9, .ref 39] σ (Is (some (.int (σ.1 9 2 - 1))) (bbW σ i)) := by
  refine mt_of (ls := [.ref 9, .ref 39]) (by decide) rfl (Nat.le_of_ble_eq_true rfl) (by simp [Value.category]) ?_
  have hj := (prv_i i hi).2.2
  refine ev_aload_n_0 (pc := 0) dX1_bringBack_0 ?_
  refine ev_aload_n_0 (pc := 1) dX1_bringBack_1 ?_
  refine ev_getI (pc := 2) dX1_bringBack_2 fl_X1_18 (by decide) (by decide) (by decide) ?_
  refine ev_if_le (pc := 5) (tgt := 17) dX1_bringBack_5 (by decide) (fun h5 => ?_) (fun h5 => ?_)
  · skip
    refine ev_bipush (pc := 17) (v := 9) dX1_bringBack_17 (by decide) ?_
    rw [hn] at h5
    refine ev_eq (st' := [.int (nI (prv i)), .ref 9]) rfl (by (try rw [hn]); first | rw [(prv_i i hi).1 h5] | rw [(prv_i i hi).2.1 h5]) rfl ?_
    refine ev_putI (pc := 19) dX1_bringBack_19 fl_X1_18 (by decide) (by decide) (by decide) ?_
    refine ev_aload_n_0 (pc := 22) dX1_bringBack_22 ?_
    refine ev_dup (pc := 23) dX1_bringBack_23 rfl ?_
    refine ev_getI (pc := 24) dX1_bringBack_24 fl_X1_26 (by decide) (by decide) (by decide) ?_
    refine ev_iconst (pc := 27) (v := 1) dX1_bringBack_27 (by decide) ?_
    refine ev_isub (pc := 28) dX1_bringBack_28 ?_
    refine ev_putI (pc := 29) dX1_bringBack_29 fl_X1_26 (by decide) (by decide) (by decide) ?_
    rw [show (wr σ 9 1 (nI (prv i))).1 9 2 = σ.1 9 2 from (by simp [wr])]
    have q : (wr (wr σ 9 1 (nI (prv i))) 9 2 (σ.1 9 2 - 1)).1 9 1 = nI (prv i) := by simp [wr]
    refine ev_aload_n_1 (pc := 32) dX1_bringBack_32 ?_
    refine ev_aload_n_0 (pc := 33) dX1_bringBack_33 ?_
    refine ev_getR (pc := 34) (r := 10) dX1_bringBack_34 fl_X1_11 (by decide) (by decide) (by decide) (by decide) ?_
    refine ev_aload_n_0 (pc := 37) dX1_bringBack_37 ?_
    refine ev_getI (pc := 38) dX1_bringBack_38 fl_X1_18 (by decide) (by decide) (by decide) ?_
    refine ev_aaload' (pc := 41) (r := (55 + 4 * prv i)) (j := (prv i)) dX1_bringBack_41 (by decide) (c := 13) (by decide) (by decide) (by decide) (show vp_in _ 10 from (by rw [q]; exact vp_in_nI hj (by decide))) (by rw [q]; exact nI_clamp (by omega)) (rf10 _) ?_
    refine ev_callV0 (pc := 42) dX1_bringBack_42 ml_X1_22 (m_X3_become isSc_39 (isSc_past hj) _) (by decide) ⟨_, rfl, rfl⟩ rfl (by decide) rfl (Nat.le_of_ble_eq_true rfl) ?_
    refine ev_aload_n_0 (pc := 45) dX1_bringBack_45 ?_
    refine ev_getI (pc := 46) dX1_bringBack_46 fl_X1_26 (by decide) (by decide) (by decide) ?_
    exact ev_ireturn (pc := 49) dX1_bringBack_49 rfl rfl (⟨by rw [becW_9 (by omega)]; simp [wr], rfl⟩)
  · skip
    refine ev_aload_n_0 (pc := 8) dX1_bringBack_8 ?_
    refine ev_getI (pc := 9) dX1_bringBack_9 fl_X1_18 (by decide) (by decide) (by decide) ?_
    refine ev_iconst (pc := 12) (v := 1) dX1_bringBack_12 (by decide) ?_
    refine ev_isub (pc := 13) dX1_bringBack_13 ?_
    refine ev_goto (pc := 14) (tgt := 19) dX1_bringBack_14 (by decide) ?_
    rw [hn] at h5
    refine ev_eq (st' := [.int (nI (prv i)), .ref 9]) rfl (by (try rw [hn]); first | rw [(prv_i i hi).1 h5] | rw [(prv_i i hi).2.1 h5]) rfl ?_
    refine ev_putI (pc := 19) dX1_bringBack_19 fl_X1_18 (by decide) (by decide) (by decide) ?_
    refine ev_aload_n_0 (pc := 22) dX1_bringBack_22 ?_
    refine ev_dup (pc := 23) dX1_bringBack_23 rfl ?_
    refine ev_getI (pc := 24) dX1_bringBack_24 fl_X1_26 (by decide) (by decide) (by decide) ?_
    refine ev_iconst (pc := 27) (v := 1) dX1_bringBack_27 (by decide) ?_
    refine ev_isub (pc := 28) dX1_bringBack_28 ?_
    refine ev_putI (pc := 29) dX1_bringBack_29 fl_X1_26 (by decide) (by decide) (by decide) ?_
    rw [show (wr σ 9 1 (nI (prv i))).1 9 2 = σ.1 9 2 from (by simp [wr])]
    have q : (wr (wr σ 9 1 (nI (prv i))) 9 2 (σ.1 9 2 - 1)).1 9 1 = nI (prv i) := by simp [wr]
    refine ev_aload_n_1 (pc := 32) dX1_bringBack_32 ?_
    refine ev_aload_n_0 (pc := 33) dX1_bringBack_33 ?_
    refine ev_getR (pc := 34) (r := 10) dX1_bringBack_34 fl_X1_11 (by decide) (by decide) (by decide) (by decide) ?_
    refine ev_aload_n_0 (pc := 37) dX1_bringBack_37 ?_
    refine ev_getI (pc := 38) dX1_bringBack_38 fl_X1_18 (by decide) (by decide) (by decide) ?_
    refine ev_aaload' (pc := 41) (r := (55 + 4 * prv i)) (j := (prv i)) dX1_bringBack_41 (by decide) (c := 13) (by decide) (by decide) (by decide) (show vp_in _ 10 from (by rw [q]; exact vp_in_nI hj (by decide))) (by rw [q]; exact nI_clamp (by omega)) (rf10 _) ?_
    refine ev_callV0 (pc := 42) dX1_bringBack_42 ml_X1_22 (m_X3_become isSc_39 (isSc_past hj) _) (by decide) ⟨_, rfl, rfl⟩ rfl (by decide) rfl (Nat.le_of_ble_eq_true rfl) ?_
    refine ev_aload_n_0 (pc := 45) dX1_bringBack_45 ?_
    refine ev_getI (pc := 46) dX1_bringBack_46 fl_X1_26 (by decide) (by decide) (by decide) ?_
    exact ev_ireturn (pc := 49) dX1_bringBack_49 rfl rfl (⟨by rw [becW_9 (by omega)]; simp [wr], rfl⟩)
end
section
/-! ===== JDK: bitCount, fill ===== -/
def us (x y : Int32) : Int32 := (x.toUInt32 >>> (y.toUInt32 &&& Int32.toUInt32 31)).toInt32
def bc1 (x : Int32) : Int32 := x - (us x 1 &&& 1431655765)
def bc2 (x : Int32) : Int32 := (x &&& 858993459) + (us x 2 &&& 858993459)
def bc3 (x : Int32) : Int32 := (x + us x 4) &&& 252645135
def bc4 (x : Int32) : Int32 := x + us x 8
def bc5 (x : Int32) : Int32 := x + us x 16
def bcD (x : Int32) : Int32 := bc5 (bc4 (bc3 (bc2 (bc1 x)))) &&& 63
set_option maxRecDepth 100000 in
theorem m_J_bitCount {S : Scr} (x : Int32) (σ : Sto) : Mt S yJ6_bitCount_0f7a4 cJ6_bitCount_0f7a4 1 (some .int) 0 [.int x] σ (Is (some (.int (bcD x))) σ) := by
  refine mt_of (ls := [.int x]) (by decide) rfl (Nat.le_of_ble_eq_true rfl) (by simp [Value.category]) ?_
  refine ev_iload_n_0 (pc := 0) dJ6_bitCount_0f7a4_0 ?_
  refine ev_iload_n_0 (pc := 1) dJ6_bitCount_0f7a4_1 ?_
  refine ev_iconst (pc := 2) (v := 1) dJ6_bitCount_0f7a4_2 (by decide) ?_
  refine ev_iushr (pc := 3) dJ6_bitCount_0f7a4_3 rfl ?_
  refine ev_ldcw (pc := 4) dJ6_bitCount_0f7a4_4 k_J6_265 ?_
  refine ev_iand (pc := 7) dJ6_bitCount_0f7a4_7 ?_
  refine ev_isub (pc := 8) dJ6_bitCount_0f7a4_8 ?_
  refine ev_istore_n_0 (pc := 9) dJ6_bitCount_0f7a4_9 (by decide) ?_
  refine ev_iload_n_0 (pc := 10) dJ6_bitCount_0f7a4_10 ?_
  refine ev_ldcw (pc := 11) dJ6_bitCount_0f7a4_11 k_J6_266 ?_
  refine ev_iand (pc := 14) dJ6_bitCount_0f7a4_14 ?_
  refine ev_iload_n_0 (pc := 15) dJ6_bitCount_0f7a4_15 ?_
  refine ev_iconst (pc := 16) (v := 2) dJ6_bitCount_0f7a4_16 (by decide) ?_
  refine ev_iushr (pc := 17) dJ6_bitCount_0f7a4_17 rfl ?_
  refine ev_ldcw (pc := 18) dJ6_bitCount_0f7a4_18 k_J6_266 ?_
  refine ev_iand (pc := 21) dJ6_bitCount_0f7a4_21 ?_
  refine ev_iadd (pc := 22) dJ6_bitCount_0f7a4_22 ?_
  refine ev_istore_n_0 (pc := 23) dJ6_bitCount_0f7a4_23 (by decide) ?_
  refine ev_iload_n_0 (pc := 24) dJ6_bitCount_0f7a4_24 ?_
  refine ev_iload_n_0 (pc := 25) dJ6_bitCount_0f7a4_25 ?_
  refine ev_iconst (pc := 26) (v := 4) dJ6_bitCount_0f7a4_26 (by decide) ?_
  refine ev_iushr (pc := 27) dJ6_bitCount_0f7a4_27 rfl ?_
  refine ev_iadd (pc := 28) dJ6_bitCount_0f7a4_28 ?_
  refine ev_ldcw (pc := 29) dJ6_bitCount_0f7a4_29 k_J6_267 ?_
  refine ev_iand (pc := 32) dJ6_bitCount_0f7a4_32 ?_
  refine ev_istore_n_0 (pc := 33) dJ6_bitCount_0f7a4_33 (by decide) ?_
  refine ev_iload_n_0 (pc := 34) dJ6_bitCount_0f7a4_34 ?_
  refine ev_iload_n_0 (pc := 35) dJ6_bitCount_0f7a4_35 ?_
  refine ev_bipush (pc := 36) (v := 8) dJ6_bitCount_0f7a4_36 (by decide) ?_
  refine ev_iushr (pc := 38) dJ6_bitCount_0f7a4_38 rfl ?_
  refine ev_iadd (pc := 39) dJ6_bitCount_0f7a4_39 ?_
  refine ev_istore_n_0 (pc := 40) dJ6_bitCount_0f7a4_40 (by decide) ?_
  refine ev_iload_n_0 (pc := 41) dJ6_bitCount_0f7a4_41 ?_
  refine ev_iload_n_0 (pc := 42) dJ6_bitCount_0f7a4_42 ?_
  refine ev_bipush (pc := 43) (v := 16) dJ6_bitCount_0f7a4_43 (by decide) ?_
  refine ev_iushr (pc := 45) dJ6_bitCount_0f7a4_45 rfl ?_
  refine ev_iadd (pc := 46) dJ6_bitCount_0f7a4_46 ?_
  refine ev_istore_n_0 (pc := 47) dJ6_bitCount_0f7a4_47 (by decide) ?_
  refine ev_iload_n_0 (pc := 48) dJ6_bitCount_0f7a4_48 ?_
  refine ev_bipush (pc := 49) (v := 63) dJ6_bitCount_0f7a4_49 (by decide) ?_
  refine ev_iand (pc := 51) dJ6_bitCount_0f7a4_51 ?_
  exact ev_ireturn (pc := 52) dJ6_bitCount_0f7a4_52 rfl rfl (⟨rfl, rfl⟩)
def flW (σ : Sto) (a : Nat) (v : Int32) (n : Nat) : Sto := (fun k b => if k = a ∧ b < n then v else σ.1 k b, σ.2)
theorem flW_0 (σ : Sto) (a : Nat) (v : Int32) : flW σ a v 0 = σ := by unfold flW; simp
theorem flW_s (σ : Sto) (a : Nat) (v : Int32) (n : Nat) : wr (flW σ a v n) a n v = flW σ a v (n + 1) := by
  unfold wr flW
  refine Prod.ext (funext fun k => funext fun b => ?_) rfl
  show (if k = a ∧ b = n then v else if k = a ∧ b < n then v else σ.1 k b) = if k = a ∧ b < n + 1 then v else σ.1 k b
  by_cases h : k = a
  · by_cases h2 : b = n
    · simp [h, h2]
    · have e : (b < n + 1) = (b < n) := propext ⟨fun h => by omega, fun h => by omega⟩
      simp [h, h2, e]
  · simp [h]
set_option maxRecDepth 100000 in
theorem b_J_fill {S : Scr} {a n : Nat} (ha : IsA a n) (hn : n < 2000) (v : Int32) (i : Nat) (hi : i < n) (σ : Sto) {Q : Option Value → Sto → Prop} (K : Ev S RJ7 cJ7_fill_53178 4 none 0 5 [.ref a, .int v, .int (nI (i + 1)), .int (nI n)] [] (wr σ a i v) (Q)) : Ev S RJ7 cJ7_fill_53178 4 none 0 5 [.ref a, .int v, .int (nI i), .int (nI n)] [] σ (Q) := by
  refine ev_iload_n_2 (pc := 5) dJ7_fill_53178_5 ?_
  refine ev_iload_n_3 (pc := 6) dJ7_fill_53178_6 ?_
  refine ev_icmp_ge (pc := 7) (tgt := 20) dJ7_fill_53178_7 (by decide) (fun h7 => by exact absurd h7 (nI_ge hi (by omega))) (fun h7 => ?_)
  refine ev_aload_n_0 (pc := 10) dJ7_fill_53178_10 ?_
  refine ev_iload_n_2 (pc := 11) dJ7_fill_53178_11 ?_
  refine ev_iload_n_1 (pc := 12) dJ7_fill_53178_12 ?_
  refine ev_iastore' (pc := 13) (j := i) dJ7_fill_53178_13 ha.1 ha.2.1 (by rw [ha.2.2]; exact (vp_in_nI hi (by omega))) (nI_clamp (by omega)) ?_
  refine ev_iinc_2 (pc := 14) (v := nI (i + 1)) dJ7_fill_53178_14 (nI_inc i) (by decide) ?_
  refine ev_goto (pc := 17) (tgt := 5) dJ7_fill_53178_17 (by decide) ?_
  exact K
theorem l_J_fill {S : Scr} {a n : Nat} (ha : IsA a n) (hn : n < 2000) (v : Int32) (σ : Sto) : Ev S RJ7 cJ7_fill_53178 4 none 0 5 [.ref a, .int v, .int (nI 0), .int (nI n)] [] (flW σ a v 0) (Is none (flW σ a v n)) := by
  refine for_up n (fun i (_ : Unit) => Ev S RJ7 cJ7_fill_53178 4 none 0 5 [.ref a, .int v, .int (nI i), .int (nI n)] [] (flW σ a v i) (Is none (flW σ a v n))) (fun _ u => u) (fun i _ hi K => b_J_fill ha hn v i hi _ (by rw [flW_s]; exact K)) () ?_
  refine ev_iload_n_2 (pc := 5) dJ7_fill_53178_5 ?_
  refine ev_iload_n_3 (pc := 6) dJ7_fill_53178_6 ?_
  refine ev_icmp_ge (pc := 7) (tgt := 20) dJ7_fill_53178_7 (by decide) (fun h7 => ?_) (fun h7 => by exact absurd (nI_le (Nat.le_refl n) (by omega)) h7)
  exact ev_return (pc := 20) dJ7_fill_53178_20 rfl (⟨rfl, rfl⟩)
theorem m_J_fill {S : Scr} {a n : Nat} (ha : IsA a n) (hn : n < 2000) (v : Int32) (σ : Sto) : Mt S yJ7_fill_53178 cJ7_fill_53178 4 none 0 [.ref a, .int v] σ (Is none (flW σ a v n)) := by
  refine mt_of (ls := [.ref a, .int v, .null, .null]) (by decide) rfl (Nat.le_of_ble_eq_true rfl) (by simp [Value.category]) ?_
  refine ev_iconst (pc := 0) (v := 0) dJ7_fill_53178_0 (by decide) ?_
  refine ev_istore_n_2 (pc := 1) dJ7_fill_53178_1 (by decide) ?_
  refine ev_aload_n_0 (pc := 2) dJ7_fill_53178_2 ?_
  refine ev_arraylength (pc := 3) (v := nI n) dJ7_fill_53178_3 ha.1 (c := 10) ha.2.1 (by decide) (by rw [ha.2.2]; rfl) ?_
  refine ev_istore_n_3 (pc := 4) dJ7_fill_53178_4 (by decide) ?_
  have h := l_J_fill (S := S) ha hn v σ
  rw [flW_0] at h
  exact h
/-! ===== the brothers ===== -/
abbrev bit (s : Int32) (b : Nat) : Prop := s >>> (nI b &&& 31) &&& 1 = 1
abbrev mienB (σ : Sto) (S b : Nat) : Int32 := mienD (σ.1 (25 + 2 * b + 1)) (σ.1 (25 + 2 * b) 1) (σ.1 (S + 1)) (σ.1 (S + 2) b)
abbrev mindB (σ : Sto) (S b : Nat) : Int32 := mindD (σ.1 (25 + 2 * b + 1)) (σ.1 (S + 1)) (σ.1 (S + 2) b)
abbrev evry (n : Int32) : Int32 := 1 <<< (n &&& 31) - 1
set_option maxRecDepth 100000 in
theorem m_X0_has {S : Scr} (b : Int32) (σ : Sto) : Mt S yX0_has cX0_has 2 (some .boolean) 0 [.ref 5, .int b] σ (Is (some (.int (bI (¬ b < 0 ∧ b < σ.1 5 1)))) σ) := by
  refine mt_of (ls := [.ref 5, .int b]) (by decide) rfl (Nat.le_of_ble_eq_true rfl) (by simp [Value.category]) ?_
  refine ev_iload_n_1 (pc := 0) dX0_has_0 ?_
  refine ev_if_lt (pc := 1) (tgt := 16) dX0_has_1 (by decide) (fun h1 => ?_) (fun h1 => ?_)
  · skip
    refine ev_iconst (pc := 16) (v := 0) dX0_has_16 (by decide) ?_
    exact ev_ireturn (pc := 17) dX0_has_17 rfl rfl (⟨by simp [bI, h1], rfl⟩)
  · skip
    refine ev_iload_n_1 (pc := 4) dX0_has_4 ?_
    refine ev_aload_n_0 (pc := 5) dX0_has_5 ?_
    refine ev_getI (pc := 6) dX0_has_6 fl_X0_31 (by decide) (by decide) (by decide) ?_
    refine ev_icmp_ge (pc := 9) (tgt := 16) dX0_has_9 (by decide) (fun h9 => ?_) (fun h9 => ?_)
    · skip
      refine ev_iconst (pc := 16) (v := 0) dX0_has_16 (by decide) ?_
      exact ev_ireturn (pc := 17) dX0_has_17 rfl rfl (⟨by simp [bI, h1, h9], rfl⟩)
    · skip
      refine ev_iconst (pc := 12) (v := 1) dX0_has_12 (by decide) ?_
      refine ev_goto (pc := 13) (tgt := 17) dX0_has_13 (by decide) ?_
      exact ev_ireturn (pc := 17) dX0_has_17 rfl rfl (⟨by simp [bI, h1, h9], rfl⟩)
set_option maxRecDepth 100000 in
theorem m_X0_everyone {S : Scr}  (σ : Sto) : Mt S yX0_everyone cX0_everyone 1 (some .int) 0 [.ref 5] σ (Is (some (.int (evry (σ.1 5 1)))) σ) := by
  refine mt_of (ls := [.ref 5]) (by decide) rfl (Nat.le_of_ble_eq_true rfl) (by simp [Value.category]) ?_
  refine ev_iconst (pc := 0) (v := 1) dX0_everyone_0 (by decide) ?_
  refine ev_aload_n_0 (pc := 1) dX0_everyone_1 ?_
  refine ev_getI (pc := 2) dX0_everyone_2 fl_X0_31 (by decide) (by decide) (by decide) ?_
  refine ev_ishl (pc := 5) dX0_everyone_5 ?_
  refine ev_iconst (pc := 6) (v := 1) dX0_everyone_6 (by decide) ?_
  refine ev_isub (pc := 7) dX0_everyone_7 ?_
  exact ev_ireturn (pc := 8) dX0_everyone_8 rfl rfl (⟨rfl, rfl⟩)
set_option maxRecDepth 100000 in
theorem m_X0_mienOf {S : Scr} {C : Nat} (hC : IsSc C) (b : Nat) (hb : b < 6) (σ : Sto) : Mt S yX0_mienOf cX0_mienOf 3 (some .int) 2 [.ref 5, .int (nI b), .ref C] σ (Is (some (.int (mienB σ C b))) σ) := by
  refine mt_of (ls := [.ref 5, .int (nI b), .ref C]) (by decide) rfl (Nat.le_of_ble_eq_true rfl) (by simp [Value.category]) ?_
  refine ev_aload_n_0 (pc := 0) dX0_mienOf_0 ?_
  refine ev_getR (pc := 1) (r := 6) dX0_mienOf_1 fl_X0_11 (by decide) (by decide) (by decide) (by decide) ?_
  refine ev_iload_n_1 (pc := 4) dX0_mienOf_4 ?_
  refine ev_aaload' (pc := 5) (r := (25 + 2 * b)) (j := b) dX0_mienOf_5 (by decide) (c := 14) (by decide) (by decide) (by decide) (show vp_in _ 6 from (vp_in_nI (by omega) (by decide))) (nI_clamp (by omega)) (rf6 b) ?_
  refine ev_aload_n_2 (pc := 6) dX0_mienOf_6 ?_
  refine ev_getR (pc := 7) (r := (C + 1)) dX0_mienOf_7 fl_X0_47 hC.lt hC.kd0 (by decide) (hC.rfj 0) ?_
  refine ev_aload_n_2 (pc := 10) dX0_mienOf_10 ?_
  refine ev_getR (pc := 11) (r := (C + 2)) dX0_mienOf_11 fl_X0_52 hC.lt hC.kd0 (by decide) (hC.rfj 1) ?_
  refine ev_iload_n_1 (pc := 14) dX0_mienOf_14 ?_
  refine ev_iaload' (pc := 15) (j := b) dX0_mienOf_15 hC.lt2 hC.kd2 (by rw [hC.ln2]; exact (vp_in_nI (by omega) (by decide))) (nI_clamp (by omega)) ?_
  refine ev_callV1 (pc := 16) dX0_mienOf_16 ml_X0_55 (m_X5_mien (isTa_of hb) hC.a1 _ σ) (isTa_of hb).lt ⟨_, by rw [(isTa_of hb).kd0]; rfl, rfl⟩ rfl (by decide) rfl (Nat.le_of_ble_eq_true rfl) ?_
  exact ev_ireturn (pc := 19) dX0_mienOf_19 rfl rfl (⟨rfl, rfl⟩)
set_option maxRecDepth 100000 in
theorem m_X0_mindOf {S : Scr} {C : Nat} (hC : IsSc C) (b : Nat) (hb : b < 6) (σ : Sto) : Mt S yX0_mindOf cX0_mindOf 3 (some .int) 2 [.ref 5, .int (nI b), .ref C] σ (Is (some (.int (mindB σ C b))) σ) := by
  refine mt_of (ls := [.ref 5, .int (nI b), .ref C]) (by decide) rfl (Nat.le_of_ble_eq_true rfl) (by simp [Value.category]) ?_
  refine ev_aload_n_0 (pc := 0) dX0_mindOf_0 ?_
  refine ev_getR (pc := 1) (r := 6) dX0_mindOf_1 fl_X0_11 (by decide) (by decide) (by decide) (by decide) ?_
  refine ev_iload_n_1 (pc := 4) dX0_mindOf_4 ?_
  refine ev_aaload' (pc := 5) (r := (25 + 2 * b)) (j := b) dX0_mindOf_5 (by decide) (c := 14) (by decide) (by decide) (by decide) (show vp_in _ 6 from (vp_in_nI (by omega) (by decide))) (nI_clamp (by omega)) (rf6 b) ?_
  refine ev_aload_n_2 (pc := 6) dX0_mindOf_6 ?_
  refine ev_getR (pc := 7) (r := (C + 1)) dX0_mindOf_7 fl_X0_47 hC.lt hC.kd0 (by decide) (hC.rfj 0) ?_
  refine ev_aload_n_2 (pc := 10) dX0_mindOf_10 ?_
  refine ev_getR (pc := 11) (r := (C + 2)) dX0_mindOf_11 fl_X0_52 hC.lt hC.kd0 (by decide) (hC.rfj 1) ?_
  refine ev_iload_n_1 (pc := 14) dX0_mindOf_14 ?_
  refine ev_iaload' (pc := 15) (j := b) dX0_mindOf_15 hC.lt2 hC.kd2 (by rw [hC.ln2]; exact (vp_in_nI (by omega) (by decide))) (nI_clamp (by omega)) ?_
  refine ev_callV1 (pc := 16) dX0_mindOf_16 ml_X0_59 (m_X5_mind (isTa_of hb) hC.a1 _ σ) (isTa_of hb).lt ⟨_, by rw [(isTa_of hb).kd0]; rfl, rfl⟩ rfl (by decide) rfl (Nat.le_of_ble_eq_true rfl) ?_
  exact ev_ireturn (pc := 19) dX0_mindOf_19 rfl rfl (⟨rfl, rfl⟩)
set_option maxRecDepth 100000 in
theorem b_X0_mindOfAll {S : Scr} {C : Nat} (hC : IsSc C) (n : Nat) (hn : n ≤ 6) (b : Nat) (hb : b < n) (a : Int32) (σ : Sto) (hm : σ.1 5 1 = nI n) {Q : Option Value → Sto → Prop} (K : Ev S RX0 cX0_mindOfAll 4 (some .int) 3 4 [.ref 5, .ref C, .int ((fun b a => a + mindB σ C b) b a), .int (nI (b + 1))] [] σ (Q)) : Ev S RX0 cX0_mindOfAll 4 (some .int) 3 4 [.ref 5, .ref C, .int a, .int (nI b)] [] σ (Q) := by
  have hb6 : b < 6 := by omega
  refine ev_iload_n_3 (pc := 4) dX0_mindOfAll_4 ?_
  refine ev_aload_n_0 (pc := 5) dX0_mindOfAll_5 ?_
  refine ev_getI (pc := 6) dX0_mindOfAll_6 fl_X0_31 (by decide) (by decide) (by decide) ?_
  refine ev_icmp_ge (pc := 9) (tgt := 27) dX0_mindOfAll_9 (by decide) (fun h9 => by exact absurd h9 (by rw [hm]; exact nI_ge hb (by omega))) (fun h9 => ?_)
  refine ev_iload_n_2 (pc := 12) dX0_mindOfAll_12 ?_
  refine ev_aload_n_0 (pc := 13) dX0_mindOfAll_13 ?_
  refine ev_iload_n_3 (pc := 14) dX0_mindOfAll_14 ?_
  refine ev_aload_n_1 (pc := 15) dX0_mindOfAll_15 ?_
  refine ev_callV1 (pc := 16) dX0_mindOfAll_16 ml_X0_62 (m_X0_mindOf hC b hb6 σ) (by decide) ⟨_, rfl, rfl⟩ rfl (by decide) rfl (Nat.le_of_ble_eq_true rfl) ?_
  refine ev_iadd (pc := 19) dX0_mindOfAll_19 ?_
  refine ev_istore_n_2 (pc := 20) dX0_mindOfAll_20 (by decide) ?_
  refine ev_iinc_3 (pc := 21) (v := nI (b + 1)) dX0_mindOfAll_21 (nI_inc b) (by decide) ?_
  refine ev_goto (pc := 24) (tgt := 4) dX0_mindOfAll_24 (by decide) ?_
  exact K
theorem m_X0_mindOfAll {S : Scr} {C : Nat} (hC : IsSc C) (n : Nat) (hn : n ≤ 6) (σ : Sto) (hm : σ.1 5 1 = nI n) : Mt S yX0_mindOfAll cX0_mindOfAll 4 (some .int) 3 [.ref 5, .ref C] σ (Is (some (.int (itN (fun b a => a + mindB σ C b) n 0))) σ) := by
  refine mt_of (ls := [.ref 5, .ref C, .null, .null]) (by decide) rfl (Nat.le_of_ble_eq_true rfl) (by simp [Value.category]) ?_
  refine ev_iconst (pc := 0) (v := 0) dX0_mindOfAll_0 (by decide) ?_
  refine ev_istore_n_2 (pc := 1) dX0_mindOfAll_1 (by decide) ?_
  refine ev_iconst (pc := 2) (v := 0) dX0_mindOfAll_2 (by decide) ?_
  refine ev_istore_n_3 (pc := 3) dX0_mindOfAll_3 (by decide) ?_
  refine for_up n (fun i a => Ev S RX0 cX0_mindOfAll 4 (some .int) 3 4 [.ref 5, .ref C, .int a, .int (nI i)] [] σ (Is (some (.int (itN (fun b a => a + mindB σ C b) n 0))) σ)) (fun b a => a + mindB σ C b) (fun i a hi K => b_X0_mindOfAll hC n hn i hi a σ hm K) 0 ?_
  refine ev_iload_n_3 (pc := 4) dX0_mindOfAll_4 ?_
  refine ev_aload_n_0 (pc := 5) dX0_mindOfAll_5 ?_
  refine ev_getI (pc := 6) dX0_mindOfAll_6 fl_X0_31 (by decide) (by decide) (by decide) ?_
  refine ev_icmp_ge (pc := 9) (tgt := 27) dX0_mindOfAll_9 (by decide) (fun h9 => ?_) (fun h9 => by exact absurd (by rw [hm]; exact nI_le (Nat.le_refl n) (by omega)) h9)
  refine ev_iload_n_2 (pc := 27) dX0_mindOfAll_27 ?_
  exact ev_ireturn (pc := 28) dX0_mindOfAll_28 rfl rfl (⟨rfl, rfl⟩)
set_option maxRecDepth 100000 in
theorem b_X0_calmSet {S : Scr} {C : Nat} (hC : IsSc C) (n : Nat) (hn : n ≤ 6) (b : Nat) (hb : b < n) (a : Int32) (σ : Sto) (hm : σ.1 5 1 = nI n) {Q : Option Value → Sto → Prop} (K : Ev S RX0 cX0_calmSet 4 (some .int) 3 4 [.ref 5, .ref C, .int ((fun b a => if mienB σ C b = 0 then a ||| 1 <<< (nI b &&& 31) else a) b a), .int (nI (b + 1))] [] σ (Q)) : Ev S RX0 cX0_calmSet 4 (some .int) 3 4 [.ref 5, .ref C, .int a, .int (nI b)] [] σ (Q) := by
  have hb6 : b < 6 := by omega
  refine ev_iload_n_3 (pc := 4) dX0_calmSet_4 ?_
  refine ev_aload_n_0 (pc := 5) dX0_calmSet_5 ?_
  refine ev_getI (pc := 6) dX0_calmSet_6 fl_X0_31 (by decide) (by decide) (by decide) ?_
  refine ev_icmp_ge (pc := 9) (tgt := 33) dX0_calmSet_9 (by decide) (fun h9 => by exact absurd h9 (by rw [hm]; exact nI_ge hb (by omega))) (fun h9 => ?_)
  refine ev_aload_n_0 (pc := 12) dX0_calmSet_12 ?_
  refine ev_iload_n_3 (pc := 13) dX0_calmSet_13 ?_
  refine ev_aload_n_1 (pc := 14) dX0_calmSet_14 ?_
  refine ev_callV1 (pc := 15) dX0_calmSet_15 ml_X0_66 (m_X0_mienOf hC b hb6 σ) (by decide) ⟨_, rfl, rfl⟩ rfl (by decide) rfl (Nat.le_of_ble_eq_true rfl) ?_
  refine ev_if_ne (pc := 18) (tgt := 27) dX0_calmSet_18 (by decide) (fun h18 => ?_) (fun h18 => ?_)
  · skip
    refine ev_iinc_3 (pc := 27) (v := nI (b + 1)) dX0_calmSet_27 (nI_inc b) (by decide) ?_
    refine ev_goto (pc := 30) (tgt := 4) dX0_calmSet_30 (by decide) ?_
    exact ev_eq (by simp only [h18, ↓reduceIte]) rfl rfl K
  · skip
    refine ev_iload_n_2 (pc := 21) dX0_calmSet_21 ?_
    refine ev_iconst (pc := 22) (v := 1) dX0_calmSet_22 (by decide) ?_
    refine ev_iload_n_3 (pc := 23) dX0_calmSet_23 ?_
    refine ev_ishl (pc := 24) dX0_calmSet_24 ?_
    refine ev_ior (pc := 25) dX0_calmSet_25 ?_
    refine ev_istore_n_2 (pc := 26) dX0_calmSet_26 (by decide) ?_
    refine ev_iinc_3 (pc := 27) (v := nI (b + 1)) dX0_calmSet_27 (nI_inc b) (by decide) ?_
    refine ev_goto (pc := 30) (tgt := 4) dX0_calmSet_30 (by decide) ?_
    exact ev_eq (by simp only [h18, ↓reduceIte]) rfl rfl K
theorem m_X0_calmSet {S : Scr} {C : Nat} (hC : IsSc C) (n : Nat) (hn : n ≤ 6) (σ : Sto) (hm : σ.1 5 1 = nI n) : Mt S yX0_calmSet cX0_calmSet 4 (some .int) 3 [.ref 5, .ref C] σ (Is (some (.int (itN (fun b a => if mienB σ C b = 0 then a ||| 1 <<< (nI b &&& 31) else a) n 0))) σ) := by
  refine mt_of (ls := [.ref 5, .ref C, .null, .null]) (by decide) rfl (Nat.le_of_ble_eq_true rfl) (by simp [Value.category]) ?_
  refine ev_iconst (pc := 0) (v := 0) dX0_calmSet_0 (by decide) ?_
  refine ev_istore_n_2 (pc := 1) dX0_calmSet_1 (by decide) ?_
  refine ev_iconst (pc := 2) (v := 0) dX0_calmSet_2 (by decide) ?_
  refine ev_istore_n_3 (pc := 3) dX0_calmSet_3 (by decide) ?_
  refine for_up n (fun i a => Ev S RX0 cX0_calmSet 4 (some .int) 3 4 [.ref 5, .ref C, .int a, .int (nI i)] [] σ (Is (some (.int (itN (fun b a => if mienB σ C b = 0 then a ||| 1 <<< (nI b &&& 31) else a) n 0))) σ)) (fun b a => if mienB σ C b = 0 then a ||| 1 <<< (nI b &&& 31) else a) (fun i a hi K => b_X0_calmSet hC n hn i hi a σ hm K) 0 ?_
  refine ev_iload_n_3 (pc := 4) dX0_calmSet_4 ?_
  refine ev_aload_n_0 (pc := 5) dX0_calmSet_5 ?_
  refine ev_getI (pc := 6) dX0_calmSet_6 fl_X0_31 (by decide) (by decide) (by decide) ?_
  refine ev_icmp_ge (pc := 9) (tgt := 33) dX0_calmSet_9 (by decide) (fun h9 => ?_) (fun h9 => by exact absurd (by rw [hm]; exact nI_le (Nat.le_refl n) (by omega)) h9)
  refine ev_iload_n_2 (pc := 33) dX0_calmSet_33 ?_
  exact ev_ireturn (pc := 34) dX0_calmSet_34 rfl rfl (⟨rfl, rfl⟩)
abbrev calmB (σ : Sto) (C n : Nat) : Int32 := itN (fun b a => if mienB σ C b = 0 then a ||| 1 <<< (nI b &&& 31) else a) n 0
set_option maxRecDepth 100000 in
theorem m_X0_howManyCalm {S : Scr} {C : Nat} (hC : IsSc C) (n : Nat) (hn : n ≤ 6) (σ : Sto) (hm : σ.1 5 1 = nI n) : Mt S yX0_howManyCalm cX0_howManyCalm 2 (some .int) 4 [.ref 5, .ref C] σ (Is (some (.int (bcD (calmB σ C n)))) σ) := by
  refine mt_of (ls := [.ref 5, .ref C]) (by decide) rfl (Nat.le_of_ble_eq_true rfl) (by simp [Value.category]) ?_
  refine ev_aload_n_0 (pc := 0) dX0_howManyCalm_0 ?_
  refine ev_aload_n_1 (pc := 1) dX0_howManyCalm_1 ?_
  refine ev_callV1 (pc := 2) dX0_howManyCalm_2 ml_X0_69 (m_X0_calmSet hC n hn σ hm) (by decide) ⟨_, rfl, rfl⟩ rfl (by decide) rfl (Nat.le_of_ble_eq_true rfl) ?_
  refine ev_callS1 (pc := 5) dX0_howManyCalm_5 ml_X0_73 (m_J_bitCount _ σ) rfl (by decide) rfl (Nat.le_of_ble_eq_true rfl) ?_
  exact ev_ireturn (pc := 8) dX0_howManyCalm_8 rfl rfl (⟨rfl, rfl⟩)
abbrev allCalm (σ : Sto) (C n : Nat) (s : Int32) : Prop := ∀ b, b < n → bit s b → mienB σ C b = 0
set_option maxRecDepth 100000 in
theorem b_X0_areCalm {S : Scr} {C : Nat} (hC : IsSc C) (n : Nat) (hn : n ≤ 6) (s : Int32) (b : Nat) (hb : b < n) (σ : Sto) (hm : σ.1 5 1 = nI n) {Q : Option Value → Sto → Prop} (K : Ev S RX0 cX0_areCalm 4 (some .boolean) 3 2 [.ref 5, .int s, .ref C, .int (nI (b + 1))] [] σ (Q)) (hN : bit s b → ¬ mienB σ C b = 0 → Q (some (.int 0)) σ) : Ev S RX0 cX0_areCalm 4 (some .boolean) 3 2 [.ref 5, .int s, .ref C, .int (nI b)] [] σ (Q) := by
  have hb6 : b < 6 := by omega
  refine ev_iload_n_3 (pc := 2) dX0_areCalm_2 ?_
  refine ev_aload_n_0 (pc := 3) dX0_areCalm_3 ?_
  refine ev_getI (pc := 4) dX0_areCalm_4 fl_X0_31 (by decide) (by decide) (by decide) ?_
  refine ev_icmp_ge (pc := 7) (tgt := 36) dX0_areCalm_7 (by decide) (fun h7 => by exact absurd h7 (by rw [hm]; exact nI_ge hb (by omega))) (fun h7 => ?_)
  refine ev_iload_n_1 (pc := 10) dX0_areCalm_10 ?_
  refine ev_iload_n_3 (pc := 11) dX0_areCalm_11 ?_
  refine ev_ishr (pc := 12) dX0_areCalm_12 ?_
  refine ev_iconst (pc := 13) (v := 1) dX0_areCalm_13 (by decide) ?_
  refine ev_iand (pc := 14) dX0_areCalm_14 ?_
  refine ev_iconst (pc := 15) (v := 1) dX0_areCalm_15 (by decide) ?_
  refine ev_icmp_ne (pc := 16) (tgt := 30) dX0_areCalm_16 (by decide) (fun h16 => ?_) (fun h16 => ?_)
  · skip
    refine ev_iinc_3 (pc := 30) (v := nI (b + 1)) dX0_areCalm_30 (nI_inc b) (by decide) ?_
    refine ev_goto (pc := 33) (tgt := 2) dX0_areCalm_33 (by decide) ?_
    exact K
  · skip
    refine ev_aload_n_0 (pc := 19) dX0_areCalm_19 ?_
    refine ev_iload_n_3 (pc := 20) dX0_areCalm_20 ?_
    refine ev_aload_n_2 (pc := 21) dX0_areCalm_21 ?_
    refine ev_callV1 (pc := 22) dX0_areCalm_22 ml_X0_66 (m_X0_mienOf hC b hb6 σ) (by decide) ⟨_, rfl, rfl⟩ rfl (by decide) rfl (Nat.le_of_ble_eq_true rfl) ?_
    refine ev_if_eq (pc := 25) (tgt := 30) dX0_areCalm_25 (by decide) (fun h25 => ?_) (fun h25 => ?_)
    · skip
      refine ev_iinc_3 (pc := 30) (v := nI (b + 1)) dX0_areCalm_30 (nI_inc b) (by decide) ?_
      refine ev_goto (pc := 33) (tgt := 2) dX0_areCalm_33 (by decide) ?_
      exact K
    · skip
      refine ev_iconst (pc := 28) (v := 0) dX0_areCalm_28 (by decide) ?_
      exact ev_ireturn (pc := 29) dX0_areCalm_29 rfl rfl (hN h16 h25)
set_option maxRecDepth 100000 in
theorem b_X0_areCalm0 {S : Scr} {C : Nat} (hC : IsSc C) (n : Nat) (hn : n ≤ 6) (s : Int32) (b : Nat) (hb : b < n) (σ : Sto) (hm : σ.1 5 1 = nI n) (hok : ¬ (bit s b → mienB σ C b = 0)) : Ev S RX0 cX0_areCalm 4 (some .boolean) 3 2 [.ref 5, .int s, .ref C, .int (nI b)] [] σ (Is (some (.int 0)) σ) := by
  have hb6 : b < 6 := by omega
  refine ev_iload_n_3 (pc := 2) dX0_areCalm_2 ?_
  refine ev_aload_n_0 (pc := 3) dX0_areCalm_3 ?_
  refine ev_getI (pc := 4) dX0_areCalm_4 fl_X0_31 (by decide) (by decide) (by decide) ?_
  refine ev_icmp_ge (pc := 7) (tgt := 36) dX0_areCalm_7 (by decide) (fun h7 => by exact absurd h7 (by rw [hm]; exact nI_ge hb (by omega))) (fun h7 => ?_)
  refine ev_iload_n_1 (pc := 10) dX0_areCalm_10 ?_
  refine ev_iload_n_3 (pc := 11) dX0_areCalm_11 ?_
  refine ev_ishr (pc := 12) dX0_areCalm_12 ?_
  refine ev_iconst (pc := 13) (v := 1) dX0_areCalm_13 (by decide) ?_
  refine ev_iand (pc := 14) dX0_areCalm_14 ?_
  refine ev_iconst (pc := 15) (v := 1) dX0_areCalm_15 (by decide) ?_
  refine ev_icmp_ne (pc := 16) (tgt := 30) dX0_areCalm_16 (by decide) (fun h16 => by exact absurd (fun q => absurd q h16) hok) (fun h16 => ?_)
  refine ev_aload_n_0 (pc := 19) dX0_areCalm_19 ?_
  refine ev_iload_n_3 (pc := 20) dX0_areCalm_20 ?_
  refine ev_aload_n_2 (pc := 21) dX0_areCalm_21 ?_
  refine ev_callV1 (pc := 22) dX0_areCalm_22 ml_X0_66 (m_X0_mienOf hC b hb6 σ) (by decide) ⟨_, rfl, rfl⟩ rfl (by decide) rfl (Nat.le_of_ble_eq_true rfl) ?_
  refine ev_if_eq (pc := 25) (tgt := 30) dX0_areCalm_25 (by decide) (fun h25 => by exact absurd (fun _ => h25) hok) (fun h25 => ?_)
  refine ev_iconst (pc := 28) (v := 0) dX0_areCalm_28 (by decide) ?_
  exact ev_ireturn (pc := 29) dX0_areCalm_29 rfl rfl (⟨rfl, rfl⟩)
theorem m_X0_areCalm {S : Scr} {C : Nat} (hC : IsSc C) (n : Nat) (hn : n ≤ 6) (s : Int32) (σ : Sto) (hm : σ.1 5 1 = nI n) : Mt S yX0_areCalm cX0_areCalm 4 (some .boolean) 3 [.ref 5, .int s, .ref C] σ (Is (some (.int (bI (allCalm σ C n s)))) σ) := by
  refine mt_of (ls := [.ref 5, .int s, .ref C, .null]) (by decide) rfl (Nat.le_of_ble_eq_true rfl) (by simp [Value.category]) ?_
  refine ev_iconst (pc := 0) (v := 0) dX0_areCalm_0 (by decide) ?_
  refine ev_istore_n_3 (pc := 1) dX0_areCalm_1 (by decide) ?_
  have key : ∀ k i, i + k = n → (∀ b, b < i → bit s b → mienB σ C b = 0) → Ev S RX0 cX0_areCalm 4 (some .boolean) 3 2 [.ref 5, .int s, .ref C, .int (nI i)] [] σ (Is (some (.int (bI (allCalm σ C n s)))) σ) := by
    intro k
    induction k with
    | zero =>
      intro i hi hall
      obtain rfl : i = n := by omega
      have e : bI (allCalm σ C i s) = 1 := bI1.mpr hall
      rw [e]
      refine ev_iload_n_3 (pc := 2) dX0_areCalm_2 ?_
      refine ev_aload_n_0 (pc := 3) dX0_areCalm_3 ?_
      refine ev_getI (pc := 4) dX0_areCalm_4 fl_X0_31 (by decide) (by decide) (by decide) ?_
      refine ev_icmp_ge (pc := 7) (tgt := 36) dX0_areCalm_7 (by decide) (fun h7 => ?_) (fun h7 => by exact absurd (by rw [hm]; exact nI_le (Nat.le_refl i) (by omega)) h7)
      refine ev_iconst (pc := 36) (v := 1) dX0_areCalm_36 (by decide) ?_
      exact ev_ireturn (pc := 37) dX0_areCalm_37 rfl rfl (⟨rfl, rfl⟩)
    | succ k ih =>
      intro i hi hall
      by_cases hok : bit s i → mienB σ C i = 0
      · exact b_X0_areCalm hC n hn s i (by omega) σ hm (ih (i + 1) (by omega) (fun b hb h => by
          rcases Nat.lt_or_ge b i with q | q
          · exact hall b q h
          · obtain rfl : b = i := by omega
            exact hok h)) (fun h1 h2 => absurd (hok h1) h2)
      · have e : bI (allCalm σ C n s) = 0 := bI0.mpr (fun h => hok (h i (by omega)))
        rw [e]
        exact b_X0_areCalm0 hC n hn s i (by omega) σ hm hok
  exact key n 0 (by omega) (fun b hb => absurd hb (Nat.not_lt_zero b))
abbrev mpS (σ : Sto) (C : Nat) (s : Int32) (p : Nat) (m : Int32) : Nat → Int32 → Int32 := fun b a => if bit s b then a + ab (tst p m (σ.1 C b) - σ.1 (25 + 2 * b + 1) p) else a
abbrev mpB (σ : Sto) (C n : Nat) (s : Int32) (p : Nat) (m : Int32) : Int32 := itN (mpS σ C s p m) n 0
set_option maxRecDepth 100000 in
theorem b_X0_mindPart {S : Scr} {C : Nat} (hC : IsA C 6) (n : Nat) (hn : n ≤ 6) (s : Int32) (p : Nat) (hp : p < 4) (m : Int32) (b : Nat) (hb : b < n) (a : Int32) (σ : Sto) (hm : σ.1 5 1 = nI n) {Q : Option Value → Sto → Prop} (K : Ev S RX0 cX0_mindPart 7 (some .int) 1 6 [.ref 5, .int s, .int (nI p), .int m, .ref C, .int ((mpS σ C s p m) b a), .int (nI (b + 1))] [] σ (Q)) : Ev S RX0 cX0_mindPart 7 (some .int) 1 6 [.ref 5, .int s, .int (nI p), .int m, .ref C, .int a, .int (nI b)] [] σ (Q) := by
  have hb6 : b < 6 := by omega
  refine ev_iload_6 (pc := 6) dX0_mindPart_6 ?_
  refine ev_aload_n_0 (pc := 8) dX0_mindPart_8 ?_
  refine ev_getI (pc := 9) dX0_mindPart_9 fl_X0_31 (by decide) (by decide) (by decide) ?_
  refine ev_icmp_ge (pc := 12) (tgt := 56) dX0_mindPart_12 (by decide) (fun h12 => by exact absurd h12 (by rw [hm]; exact nI_ge hb (by omega))) (fun h12 => ?_)
  refine ev_iload_n_1 (pc := 15) dX0_mindPart_15 ?_
  refine ev_iload_6 (pc := 16) dX0_mindPart_16 ?_
  refine ev_ishr (pc := 18) dX0_mindPart_18 ?_
  refine ev_iconst (pc := 19) (v := 1) dX0_mindPart_19 (by decide) ?_
  refine ev_iand (pc := 20) dX0_mindPart_20 ?_
  refine ev_iconst (pc := 21) (v := 1) dX0_mindPart_21 (by decide) ?_
  refine ev_icmp_ne (pc := 22) (tgt := 50) dX0_mindPart_22 (by decide) (fun h22 => ?_) (fun h22 => ?_)
  · skip
    refine ev_iinc_6 (pc := 50) (v := nI (b + 1)) dX0_mindPart_50 (nI_inc b) (by decide) ?_
    refine ev_goto (pc := 53) (tgt := 6) dX0_mindPart_53 (by decide) ?_
    exact ev_eq (by simp only [mpS, bit, h22, ↓reduceIte]) rfl rfl K
  · skip
    refine ev_iload_5 (pc := 25) dX0_mindPart_25 ?_
    refine ev_aload_n_0 (pc := 27) dX0_mindPart_27 ?_
    refine ev_getR (pc := 28) (r := 6) dX0_mindPart_28 fl_X0_11 (by decide) (by decide) (by decide) (by decide) ?_
    refine ev_iload_6 (pc := 31) dX0_mindPart_31 ?_
    refine ev_aaload' (pc := 33) (r := (25 + 2 * b)) (j := b) dX0_mindPart_33 (by decide) (c := 14) (by decide) (by decide) (by decide) (show vp_in _ 6 from (vp_in_nI (by omega) (by decide))) (nI_clamp (by omega)) (rf6 b) ?_
    refine ev_iload_n_2 (pc := 34) dX0_mindPart_34 ?_
    refine ev_iload_n_3 (pc := 35) dX0_mindPart_35 ?_
    refine ev_aload_4 (pc := 36) dX0_mindPart_36 ?_
    refine ev_iload_6 (pc := 38) dX0_mindPart_38 ?_
    refine ev_iaload' (pc := 40) (j := b) dX0_mindPart_40 hC.1 hC.2.1 (by rw [hC.2.2]; exact (vp_in_nI (by omega) (by decide))) (nI_clamp (by omega)) ?_
    refine ev_callV1 (pc := 41) dX0_mindPart_41 ml_X0_79 (m_X5_offBy (isTa_of hb6) p hp _ _ σ) (isTa_of hb6).lt ⟨_, by rw [(isTa_of hb6).kd0]; rfl, rfl⟩ rfl (by decide) rfl (Nat.le_of_ble_eq_true rfl) ?_
    refine ev_mabs' (pc := 44) dX0_mindPart_44 ml_X0_83 (by decide) (Nat.le_of_ble_eq_true rfl) ?_
    refine ev_iadd (pc := 47) dX0_mindPart_47 ?_
    refine ev_istore_5 (pc := 48) dX0_mindPart_48 (by decide) ?_
    refine ev_iinc_6 (pc := 50) (v := nI (b + 1)) dX0_mindPart_50 (nI_inc b) (by decide) ?_
    refine ev_goto (pc := 53) (tgt := 6) dX0_mindPart_53 (by decide) ?_
    exact ev_eq (by simp only [mpS, bit, h22, ↓reduceIte]) rfl rfl K
theorem m_X0_mindPart {S : Scr} {C : Nat} (hC : IsA C 6) (n : Nat) (hn : n ≤ 6) (s : Int32) (p : Nat) (hp : p < 4) (m : Int32) (σ : Sto) (hm : σ.1 5 1 = nI n) : Mt S yX0_mindPart cX0_mindPart 7 (some .int) 1 [.ref 5, .int s, .int (nI p), .int m, .ref C] σ (Is (some (.int (mpB σ C n s p m))) σ) := by
  refine mt_of (ls := [.ref 5, .int s, .int (nI p), .int m, .ref C, .null, .null]) (by decide) rfl (Nat.le_of_ble_eq_true rfl) (by simp [Value.category]) ?_
  refine ev_iconst (pc := 0) (v := 0) dX0_mindPart_0 (by decide) ?_
  refine ev_istore_5 (pc := 1) dX0_mindPart_1 (by decide) ?_
  refine ev_iconst (pc := 3) (v := 0) dX0_mindPart_3 (by decide) ?_
  refine ev_istore_6 (pc := 4) dX0_mindPart_4 (by decide) ?_
  refine for_up n (fun i a => Ev S RX0 cX0_mindPart 7 (some .int) 1 6 [.ref 5, .int s, .int (nI p), .int m, .ref C, .int a, .int (nI i)] [] σ (Is (some (.int (mpB σ C n s p m))) σ)) (mpS σ C s p m) (fun i a hi K => b_X0_mindPart hC n hn s p hp m i hi a σ hm K) 0 ?_
  refine ev_iload_6 (pc := 6) dX0_mindPart_6 ?_
  refine ev_aload_n_0 (pc := 8) dX0_mindPart_8 ?_
  refine ev_getI (pc := 9) dX0_mindPart_9 fl_X0_31 (by decide) (by decide) (by decide) ?_
  refine ev_icmp_ge (pc := 12) (tgt := 56) dX0_mindPart_12 (by decide) (fun h12 => ?_) (fun h12 => by exact absurd (by rw [hm]; exact nI_le (Nat.le_refl n) (by omega)) h12)
  refine ev_iload_5 (pc := 56) dX0_mindPart_56 ?_
  exact ev_ireturn (pc := 58) dX0_mindPart_58 rfl rfl (⟨rfl, rfl⟩)
abbrev baS (σ : Sto) (C n : Nat) (s : Int32) (p i : Nat) (a : Int32 × Int32) : Int32 × Int32 := if a.2 ≤ mpB σ C n s p (nI i) then a else (nI i, mpB σ C n s p (nI i))
abbrev baB (σ : Sto) (C n : Nat) (s : Int32) (p : Nat) : Int32 := (baS σ C n s p 5 (baS σ C n s p 4 (baS σ C n s p 3 (baS σ C n s p 2 (baS σ C n s p 1 (0, mpB σ C n s p 0)))))).1
set_option maxRecDepth 100000 in
theorem b_X0_bestAmount {S : Scr} {C : Nat} (hC : IsA C 6) (n : Nat) (hn : n ≤ 6) (s : Int32) (p : Nat) (hp : p < 4) (i : Nat) (hi : i < 6) (a : Int32 × Int32) (σ : Sto) (hm : σ.1 5 1 = nI n) {Q : Option Value → Sto → Prop} (K : Ev S RX0 cX0_bestAmount 8 (some .int) 2 16 [.ref 5, .int s, .int (nI p), .ref C, .int (baS σ C n s p i a).1, .int (baS σ C n s p i a).2, .int (nI (i + 1)), .null] [] σ (Q)) : Ev S RX0 cX0_bestAmount 8 (some .int) 2 16 [.ref 5, .int s, .int (nI p), .ref C, .int a.1, .int a.2, .int (nI i), .null] [] σ (Q) := by
  refine ev_iload_6 (pc := 16) dX0_bestAmount_16 ?_
  refine ev_iconst (pc := 18) (v := 5) dX0_bestAmount_18 (by decide) ?_
  refine ev_icmp_gt (pc := 19) (tgt := 54) dX0_bestAmount_19 (by decide) (fun h19 => by exact absurd h19 (nI_nlt (a := 5) (b := i) (by omega) (by decide))) (fun h19 => ?_)
  refine ev_aload_n_0 (pc := 22) dX0_bestAmount_22 ?_
  refine ev_iload_n_1 (pc := 23) dX0_bestAmount_23 ?_
  refine ev_iload_n_2 (pc := 24) dX0_bestAmount_24 ?_
  refine ev_iload_6 (pc := 25) dX0_bestAmount_25 ?_
  refine ev_aload_n_3 (pc := 27) dX0_bestAmount_27 ?_
  refine ev_callV1 (pc := 28) dX0_bestAmount_28 ml_X0_86 (m_X0_mindPart hC n hn s p hp (nI i) σ hm) (by decide) ⟨_, rfl, rfl⟩ rfl (by decide) rfl (Nat.le_of_ble_eq_true rfl) ?_
  refine ev_istore_7 (pc := 31) dX0_bestAmount_31 (by decide) ?_
  refine ev_iload_7 (pc := 33) dX0_bestAmount_33 ?_
  refine ev_iload_5 (pc := 35) dX0_bestAmount_35 ?_
  refine ev_icmp_ge (pc := 37) (tgt := 48) dX0_bestAmount_37 (by decide) (fun h37 => ?_) (fun h37 => ?_)
  · skip
    refine ev_iinc_6 (pc := 48) (v := nI (i + 1)) dX0_bestAmount_48 (nI_inc i) (by decide) ?_
    refine ev_goto (pc := 51) (tgt := 16) dX0_bestAmount_51 (by decide) ?_
    refine ev_null_7 ?_
    exact ev_eq (by simp only [baS, h37, ↓reduceIte]) rfl rfl K
  · skip
    refine ev_iload_7 (pc := 40) dX0_bestAmount_40 ?_
    refine ev_istore_5 (pc := 42) dX0_bestAmount_42 (by decide) ?_
    refine ev_iload_6 (pc := 44) dX0_bestAmount_44 ?_
    refine ev_istore_4 (pc := 46) dX0_bestAmount_46 (by decide) ?_
    refine ev_iinc_6 (pc := 48) (v := nI (i + 1)) dX0_bestAmount_48 (nI_inc i) (by decide) ?_
    refine ev_goto (pc := 51) (tgt := 16) dX0_bestAmount_51 (by decide) ?_
    refine ev_null_7 ?_
    exact ev_eq (by simp only [baS, h37, ↓reduceIte]) rfl rfl K
theorem m_X0_bestAmount {S : Scr} {C : Nat} (hC : IsA C 6) (n : Nat) (hn : n ≤ 6) (s : Int32) (p : Nat) (hp : p < 4) (σ : Sto) (hm : σ.1 5 1 = nI n) : Mt S yX0_bestAmount cX0_bestAmount 8 (some .int) 2 [.ref 5, .int s, .int (nI p), .ref C] σ (Is (some (.int (baB σ C n s p))) σ) := by
  refine mt_of (ls := [.ref 5, .int s, .int (nI p), .ref C, .null, .null, .null, .null]) (by decide) rfl (Nat.le_of_ble_eq_true rfl) (by simp [Value.category]) ?_
  refine ev_iconst (pc := 0) (v := 0) dX0_bestAmount_0 (by decide) ?_
  refine ev_istore_4 (pc := 1) dX0_bestAmount_1 (by decide) ?_
  refine ev_aload_n_0 (pc := 3) dX0_bestAmount_3 ?_
  refine ev_iload_n_1 (pc := 4) dX0_bestAmount_4 ?_
  refine ev_iload_n_2 (pc := 5) dX0_bestAmount_5 ?_
  refine ev_iconst (pc := 6) (v := 0) dX0_bestAmount_6 (by decide) ?_
  refine ev_aload_n_3 (pc := 7) dX0_bestAmount_7 ?_
  refine ev_callV1 (pc := 8) dX0_bestAmount_8 ml_X0_86 (m_X0_mindPart hC n hn s p hp 0 σ hm) (by decide) ⟨_, rfl, rfl⟩ rfl (by decide) rfl (Nat.le_of_ble_eq_true rfl) ?_
  refine ev_istore_5 (pc := 11) dX0_bestAmount_11 (by decide) ?_
  refine ev_iconst (pc := 13) (v := 1) dX0_bestAmount_13 (by decide) ?_
  refine ev_istore_6 (pc := 14) dX0_bestAmount_14 (by decide) ?_
  refine b_X0_bestAmount hC n hn s p hp 1 (by decide) (0, mpB σ C n s p 0) σ hm ?_
  refine b_X0_bestAmount hC n hn s p hp 2 (by decide) _ σ hm ?_
  refine b_X0_bestAmount hC n hn s p hp 3 (by decide) _ σ hm ?_
  refine b_X0_bestAmount hC n hn s p hp 4 (by decide) _ σ hm ?_
  refine b_X0_bestAmount hC n hn s p hp 5 (by decide) _ σ hm ?_
  refine ev_iload_6 (pc := 16) dX0_bestAmount_16 ?_
  refine ev_iconst (pc := 18) (v := 5) dX0_bestAmount_18 (by decide) ?_
  refine ev_icmp_gt (pc := 19) (tgt := 54) dX0_bestAmount_19 (by decide) (fun h19 => ?_) (fun h19 => by exact absurd h19 (by decide))
  refine ev_iload_4 (pc := 54) dX0_bestAmount_54 ?_
  exact ev_ireturn (pc := 56) dX0_bestAmount_56 rfl rfl (⟨rfl, rfl⟩)
abbrev lmB (σ : Sto) (C n : Nat) (s : Int32) : Int32 := 0 + mpB σ C n s 0 (baB σ C n s 0) + mpB σ C n s 1 (baB σ C n s 1) + mpB σ C n s 2 (baB σ C n s 2) + mpB σ C n s 3 (baB σ C n s 3)
set_option maxRecDepth 100000 in
theorem m_X0_leastMind {S : Scr} {C : Nat} (hC : IsA C 6) (n : Nat) (hn : n ≤ 6) (s : Int32) (σ : Sto) (hm : σ.1 5 1 = nI n) : Mt S yX0_leastMind cX0_leastMind 5 (some .int) 3 [.ref 5, .int s, .ref C] σ (Is (some (.int (lmB σ C n s))) σ) := by
  refine mt_of (ls := [.ref 5, .int s, .ref C, .null, .null]) (by decide) rfl (Nat.le_of_ble_eq_true rfl) (by simp [Value.category]) ?_
  refine ev_iconst (pc := 0) (v := 0) dX0_leastMind_0 (by decide) ?_
  refine ev_istore_n_3 (pc := 1) dX0_leastMind_1 (by decide) ?_
  refine ev_iconst (pc := 2) (v := 0) dX0_leastMind_2 (by decide) ?_
  refine ev_istore_4 (pc := 3) dX0_leastMind_3 (by decide) ?_
  refine ev_iload_4 (pc := 5) dX0_leastMind_5 ?_
  refine ev_iconst (pc := 7) (v := 4) dX0_leastMind_7 (by decide) ?_
  refine ev_icmp_ge (pc := 8) (tgt := 36) dX0_leastMind_8 (by decide) (fun h8 => by exact absurd h8 (by decide)) (fun h8 => ?_)
  refine ev_iload_n_3 (pc := 11) dX0_leastMind_11 ?_
  refine ev_aload_n_0 (pc := 12) dX0_leastMind_12 ?_
  refine ev_iload_n_1 (pc := 13) dX0_leastMind_13 ?_
  refine ev_iload_4 (pc := 14) dX0_leastMind_14 ?_
  refine ev_aload_n_0 (pc := 16) dX0_leastMind_16 ?_
  refine ev_iload_n_1 (pc := 17) dX0_leastMind_17 ?_
  refine ev_iload_4 (pc := 18) dX0_leastMind_18 ?_
  refine ev_aload_n_2 (pc := 20) dX0_leastMind_20 ?_
  refine ev_callV1 (pc := 21) dX0_leastMind_21 ml_X0_90 (m_X0_bestAmount hC n hn s 0 (by decide) σ hm) (by decide) ⟨_, rfl, rfl⟩ rfl (by decide) rfl (Nat.le_of_ble_eq_true rfl) ?_
  refine ev_aload_n_2 (pc := 24) dX0_leastMind_24 ?_
  refine ev_callV1 (pc := 25) dX0_leastMind_25 ml_X0_86 (m_X0_mindPart hC n hn s 0 (by decide) _ σ hm) (by decide) ⟨_, rfl, rfl⟩ rfl (by decide) rfl (Nat.le_of_ble_eq_true rfl) ?_
  refine ev_iadd (pc := 28) dX0_leastMind_28 ?_
  refine ev_istore_n_3 (pc := 29) dX0_leastMind_29 (by decide) ?_
  refine ev_iinc_4 (pc := 30) (v := 1) dX0_leastMind_30 (by decide) (by decide) ?_
  refine ev_goto (pc := 33) (tgt := 5) dX0_leastMind_33 (by decide) ?_
  refine ev_iload_4 (pc := 5) dX0_leastMind_5 ?_
  refine ev_iconst (pc := 7) (v := 4) dX0_leastMind_7 (by decide) ?_
  refine ev_icmp_ge (pc := 8) (tgt := 36) dX0_leastMind_8 (by decide) (fun h8 => by exact absurd h8 (by decide)) (fun h8 => ?_)
  refine ev_iload_n_3 (pc := 11) dX0_leastMind_11 ?_
  refine ev_aload_n_0 (pc := 12) dX0_leastMind_12 ?_
  refine ev_iload_n_1 (pc := 13) dX0_leastMind_13 ?_
  refine ev_iload_4 (pc := 14) dX0_leastMind_14 ?_
  refine ev_aload_n_0 (pc := 16) dX0_leastMind_16 ?_
  refine ev_iload_n_1 (pc := 17) dX0_leastMind_17 ?_
  refine ev_iload_4 (pc := 18) dX0_leastMind_18 ?_
  refine ev_aload_n_2 (pc := 20) dX0_leastMind_20 ?_
  refine ev_callV1 (pc := 21) dX0_leastMind_21 ml_X0_90 (m_X0_bestAmount hC n hn s 1 (by decide) σ hm) (by decide) ⟨_, rfl, rfl⟩ rfl (by decide) rfl (Nat.le_of_ble_eq_true rfl) ?_
  refine ev_aload_n_2 (pc := 24) dX0_leastMind_24 ?_
  refine ev_callV1 (pc := 25) dX0_leastMind_25 ml_X0_86 (m_X0_mindPart hC n hn s 1 (by decide) _ σ hm) (by decide) ⟨_, rfl, rfl⟩ rfl (by decide) rfl (Nat.le_of_ble_eq_true rfl) ?_
  refine ev_iadd (pc := 28) dX0_leastMind_28 ?_
  refine ev_istore_n_3 (pc := 29) dX0_leastMind_29 (by decide) ?_
  refine ev_iinc_4 (pc := 30) (v := 2) dX0_leastMind_30 (by decide) (by decide) ?_
  refine ev_goto (pc := 33) (tgt := 5) dX0_leastMind_33 (by decide) ?_
  refine ev_iload_4 (pc := 5) dX0_leastMind_5 ?_
  refine ev_iconst (pc := 7) (v := 4) dX0_leastMind_7 (by decide) ?_
  refine ev_icmp_ge (pc := 8) (tgt := 36) dX0_leastMind_8 (by decide) (fun h8 => by exact absurd h8 (by decide)) (fun h8 => ?_)
  refine ev_iload_n_3 (pc := 11) dX0_leastMind_11 ?_
  refine ev_aload_n_0 (pc := 12) dX0_leastMind_12 ?_
  refine ev_iload_n_1 (pc := 13) dX0_leastMind_13 ?_
  refine ev_iload_4 (pc := 14) dX0_leastMind_14 ?_
  refine ev_aload_n_0 (pc := 16) dX0_leastMind_16 ?_
  refine ev_iload_n_1 (pc := 17) dX0_leastMind_17 ?_
  refine ev_iload_4 (pc := 18) dX0_leastMind_18 ?_
  refine ev_aload_n_2 (pc := 20) dX0_leastMind_20 ?_
  refine ev_callV1 (pc := 21) dX0_leastMind_21 ml_X0_90 (m_X0_bestAmount hC n hn s 2 (by decide) σ hm) (by decide) ⟨_, rfl, rfl⟩ rfl (by decide) rfl (Nat.le_of_ble_eq_true rfl) ?_
  refine ev_aload_n_2 (pc := 24) dX0_leastMind_24 ?_
  refine ev_callV1 (pc := 25) dX0_leastMind_25 ml_X0_86 (m_X0_mindPart hC n hn s 2 (by decide) _ σ hm) (by decide) ⟨_, rfl, rfl⟩ rfl (by decide) rfl (Nat.le_of_ble_eq_true rfl) ?_
  refine ev_iadd (pc := 28) dX0_leastMind_28 ?_
  refine ev_istore_n_3 (pc := 29) dX0_leastMind_29 (by decide) ?_
  refine ev_iinc_4 (pc := 30) (v := 3) dX0_leastMind_30 (by decide) (by decide) ?_
  refine ev_goto (pc := 33) (tgt := 5) dX0_leastMind_33 (by decide) ?_
  refine ev_iload_4 (pc := 5) dX0_leastMind_5 ?_
  refine ev_iconst (pc := 7) (v := 4) dX0_leastMind_7 (by decide) ?_
  refine ev_icmp_ge (pc := 8) (tgt := 36) dX0_leastMind_8 (by decide) (fun h8 => by exact absurd h8 (by decide)) (fun h8 => ?_)
  refine ev_iload_n_3 (pc := 11) dX0_leastMind_11 ?_
  refine ev_aload_n_0 (pc := 12) dX0_leastMind_12 ?_
  refine ev_iload_n_1 (pc := 13) dX0_leastMind_13 ?_
  refine ev_iload_4 (pc := 14) dX0_leastMind_14 ?_
  refine ev_aload_n_0 (pc := 16) dX0_leastMind_16 ?_
  refine ev_iload_n_1 (pc := 17) dX0_leastMind_17 ?_
  refine ev_iload_4 (pc := 18) dX0_leastMind_18 ?_
  refine ev_aload_n_2 (pc := 20) dX0_leastMind_20 ?_
  refine ev_callV1 (pc := 21) dX0_leastMind_21 ml_X0_90 (m_X0_bestAmount hC n hn s 3 (by decide) σ hm) (by decide) ⟨_, rfl, rfl⟩ rfl (by decide) rfl (Nat.le_of_ble_eq_true rfl) ?_
  refine ev_aload_n_2 (pc := 24) dX0_leastMind_24 ?_
  refine ev_callV1 (pc := 25) dX0_leastMind_25 ml_X0_86 (m_X0_mindPart hC n hn s 3 (by decide) _ σ hm) (by decide) ⟨_, rfl, rfl⟩ rfl (by decide) rfl (Nat.le_of_ble_eq_true rfl) ?_
  refine ev_iadd (pc := 28) dX0_leastMind_28 ?_
  refine ev_istore_n_3 (pc := 29) dX0_leastMind_29 (by decide) ?_
  refine ev_iinc_4 (pc := 30) (v := 4) dX0_leastMind_30 (by decide) (by decide) ?_
  refine ev_goto (pc := 33) (tgt := 5) dX0_leastMind_33 (by decide) ?_
  refine ev_iload_4 (pc := 5) dX0_leastMind_5 ?_
  refine ev_iconst (pc := 7) (v := 4) dX0_leastMind_7 (by decide) ?_
  refine ev_icmp_ge (pc := 8) (tgt := 36) dX0_leastMind_8 (by decide) (fun h8 => ?_) (fun h8 => by exact absurd h8 (by decide))
  refine ev_iload_n_3 (pc := 36) dX0_leastMind_36 ?_
  exact ev_ireturn (pc := 37) dX0_leastMind_37 rfl rfl (⟨rfl, rfl⟩)
end
section
theorem for_up2 {α : Type} (n : Nat) (Hd : Nat → α → Prop) (f : Nat → α → α) (a0 : α) (B : ∀ i, i < n → Hd (i + 1) (f i (itN f i a0)) → Hd i (itN f i a0)) (he : Hd n (itN f n a0)) : Hd 0 a0 := by
  have key : ∀ k, k ≤ n → Hd (n - k) (itN f (n - k) a0) := by
    intro k
    induction k with
    | zero => intro _; exact he
    | succ k ih =>
      intro hk
      have h := ih (by omega)
      have e : n - k = (n - (k + 1)) + 1 := by omega
      rw [e] at h
      exact B (n - (k + 1)) (by omega) h
  have := key n (Nat.le_refl n)
  simpa [itN] using this
def bcmS (b : Nat) (τ : Sto) : Sto := wr (cp0 τ (95 + b) (25 + 2 * b + 1) 4) (25 + 2 * b) 1 (τ.1 (95 + b) 4)
theorem mn6 : ∀ n, n ≤ 6 → mnI (nI n) 6 = nI n := by decide +kernel
theorem bcmS_5 {b : Nat} (hb : b < 6) (τ : Sto) (j : Nat) : (bcmS b τ).1 5 j = τ.1 5 j := by
  unfold bcmS wr cp0
  simp [show ¬ 5 = 25 + 2 * b by omega, show ¬ 5 = 25 + 2 * b + 1 by omega]
set_option maxRecDepth 100000 in
theorem b_X0_become {S : Scr} (n : Nat) (hn : n ≤ 6) (b : Nat) (hb : b < n) (σ : Sto) (hm : σ.1 5 1 = nI n) {Q : Option Value → Sto → Prop} (K : Ev S RX0 cX0_become 4 none 1 12 [.ref 5, .ref 3, .int (nI n), .int (nI (b + 1))] [] (bcmS b σ) (Q)) : Ev S RX0 cX0_become 4 none 1 12 [.ref 5, .ref 3, .int (nI n), .int (nI b)] [] σ (Q) := by
  have hb6 : b < 6 := by omega
  refine ev_iload_n_3 (pc := 12) dX0_become_12 ?_
  refine ev_aload_n_0 (pc := 13) dX0_become_13 ?_
  refine ev_getI (pc := 14) dX0_become_14 fl_X0_31 (by decide) (by decide) (by decide) ?_
  refine ev_icmp_ge (pc := 17) (tgt := 58) dX0_become_17 (by decide) (fun h17 => by exact absurd h17 (by rw [hm]; exact nI_ge hb (by omega))) (fun h17 => ?_)
  refine ev_aload_n_1 (pc := 20) dX0_become_20 ?_
  refine ev_iload_n_3 (pc := 21) dX0_become_21 ?_
  refine ev_aaload' (pc := 22) (r := (95 + b)) (j := b) dX0_become_22 (by decide) (c := 12) (by decide) (by decide) (by decide) (show vp_in _ 6 from (vp_in_nI (by omega) (by decide))) (nI_clamp (by omega)) (rf3 b) ?_
  refine ev_iconst (pc := 23) (v := 0) dX0_become_23 (by decide) ?_
  refine ev_aload_n_0 (pc := 24) dX0_become_24 ?_
  refine ev_getR (pc := 25) (r := 6) dX0_become_25 fl_X0_11 (by decide) (by decide) (by decide) (by decide) ?_
  refine ev_iload_n_3 (pc := 28) dX0_become_28 ?_
  refine ev_aaload' (pc := 29) (r := (25 + 2 * b)) (j := b) dX0_become_29 (by decide) (c := 14) (by decide) (by decide) (by decide) (show vp_in _ 6 from (vp_in_nI (by omega) (by decide))) (nI_clamp (by omega)) (rf6 b) ?_
  refine ev_getR (pc := 30) (r := ((25 + 2 * b) + 1)) dX0_become_30 fl_X0_35 (isTa_of hb6).lt (isTa_of hb6).kd0 (by decide) ((isTa_of hb6).rfj 0) ?_
  refine ev_iconst (pc := 33) (v := 0) dX0_become_33 (by decide) ?_
  refine ev_iconst (pc := 34) (v := 4) dX0_become_34 (by decide) ?_
  refine ev_copy0 (pc := 35) (n' := 4) dX0_become_35 ml_X0_38 (by decide) (Nat.le_of_ble_eq_true rfl) (isA_rows hb6).1 (isTa_of hb6).lt1 (isA_rows hb6).2.1 (isTa_of hb6).kd1 (by decide) (by decide) (by rw [(isA_rows hb6).2.2]; decide) (by rw [(isTa_of hb6).ln1]; decide) ?_
  refine ev_aload_n_0 (pc := 38) dX0_become_38 ?_
  refine ev_getR (pc := 39) (r := 6) dX0_become_39 fl_X0_11 (by decide) (by decide) (by decide) (by decide) ?_
  refine ev_iload_n_3 (pc := 42) dX0_become_42 ?_
  refine ev_aaload' (pc := 43) (r := (25 + 2 * b)) (j := b) dX0_become_43 (by decide) (c := 14) (by decide) (by decide) (by decide) (show vp_in _ 6 from (vp_in_nI (by omega) (by decide))) (nI_clamp (by omega)) (rf6 b) ?_
  refine ev_aload_n_1 (pc := 44) dX0_become_44 ?_
  refine ev_iload_n_3 (pc := 45) dX0_become_45 ?_
  refine ev_aaload' (pc := 46) (r := (95 + b)) (j := b) dX0_become_46 (by decide) (c := 12) (by decide) (by decide) (by decide) (show vp_in _ 6 from (vp_in_nI (by omega) (by decide))) (nI_clamp (by omega)) (rf3 b) ?_
  refine ev_iconst (pc := 47) (v := 4) dX0_become_47 (by decide) ?_
  refine ev_iaload' (pc := 48) (j := 4) dX0_become_48 (isA_rows hb6).1 (isA_rows hb6).2.1 (by rw [(isA_rows hb6).2.2]; exact (vin_c (by decide))) (by decide) ?_
  refine ev_putI (pc := 49) dX0_become_49 fl_X0_44 (isTa_of hb6).lt (isTa_of hb6).kd0 (by decide) ?_
  refine ev_iinc_3 (pc := 52) (v := nI (b + 1)) dX0_become_52 (nI_inc b) (by decide) ?_
  refine ev_goto (pc := 55) (tgt := 12) dX0_become_55 (by decide) ?_
  exact ev_eq rfl rfl (by unfold bcmS; rw [show (cp0 σ (95 + b) (25 + 2 * b + 1) 4).1 (95 + b) 4 = σ.1 (95 + b) 4 from (by unfold cp0; simp)]) K
def bcmW (n : Nat) (σ : Sto) : Sto := itN bcmS n (wr σ 5 1 (nI n))
theorem m_X0_become {S : Scr} (n : Nat) (hn : n ≤ 6) (σ : Sto) : Mt S yX0_become cX0_become 4 none 1 [.ref 5, .ref 3, .int (nI n)] σ (Is none (bcmW n σ)) := by
  refine mt_of (ls := [.ref 5, .ref 3, .int (nI n), .null]) (by decide) rfl (Nat.le_of_ble_eq_true rfl) (by simp [Value.category]) ?_
  refine ev_aload_n_0 (pc := 0) dX0_become_0 ?_
  refine ev_iload_n_2 (pc := 1) dX0_become_1 ?_
  refine ev_bipush (pc := 2) (v := 6) dX0_become_2 (by decide) ?_
  refine ev_mmin' (pc := 4) dX0_become_4 ml_X0_25 (by decide) (Nat.le_of_ble_eq_true rfl) ?_
  refine ev_putI (pc := 7) dX0_become_7 fl_X0_31 (by decide) (by decide) (by decide) ?_
  rw [mn6 n hn]
  refine ev_iconst (pc := 10) (v := 0) dX0_become_10 (by decide) ?_
  refine ev_istore_n_3 (pc := 11) dX0_become_11 (by decide) ?_
  have hx : ∀ k, k ≤ n → (itN bcmS k (wr σ 5 1 (nI n))).1 5 1 = nI n := by
    intro k
    induction k with
    | zero => intro _; simp [itN, wr]
    | succ k ih => intro h; rw [itN, bcmS_5 (by omega)]; exact ih (by omega)
  refine for_up2 n (fun i τ => Ev S RX0 cX0_become 4 none 1 12 [.ref 5, .ref 3, .int (nI n), .int (nI i)] [] τ (Is none (bcmW n σ))) bcmS (wr σ 5 1 (nI n)) (fun i hi K => b_X0_become n hn i hi _ (hx i (by omega)) K) ?_
  have hm := hx n (Nat.le_refl n)
  refine ev_iload_n_3 (pc := 12) dX0_become_12 ?_
  refine ev_aload_n_0 (pc := 13) dX0_become_13 ?_
  refine ev_getI (pc := 14) dX0_become_14 fl_X0_31 (by decide) (by decide) (by decide) ?_
  refine ev_icmp_ge (pc := 17) (tgt := 58) dX0_become_17 (by decide) (fun h17 => ?_) (fun h17 => by exact absurd (by rw [hm]; exact nI_le (Nat.le_refl n) (by omega)) h17)
  exact ev_return (pc := 58) dX0_become_58 rfl (⟨rfl, rfl⟩)
theorem evry_n : ∀ n, n ≤ 6 → evry (nI n) = nI (2 ^ n - 1) ∧ 2 ^ n ≤ 64 ∧ 0 < 2 ^ n := by decide +kernel
def lmW (σ : Sto) (f : Nat → Int32) (i : Nat) : Sto := (fun k b => if k = 7 ∧ b < i then f b else σ.1 k b, σ.2)
theorem lmW_0 (σ : Sto) (f : Nat → Int32) : lmW σ f 0 = σ := by unfold lmW; simp
theorem lmW_s (σ : Sto) (f : Nat → Int32) (i : Nat) : wr (lmW σ f i) 7 i (f i) = lmW σ f (i + 1) := by
  unfold wr lmW
  refine Prod.ext (funext fun k => funext fun b => ?_) rfl
  show (if k = 7 ∧ b = i then f i else if k = 7 ∧ b < i then f b else σ.1 k b) = if k = 7 ∧ b < i + 1 then f b else σ.1 k b
  by_cases h : k = 7
  · by_cases h2 : b = i
    · simp [h, h2]
    · have e : (b < i + 1) = (b < i) := propext ⟨fun h => by omega, fun h => by omega⟩
      simp [h, h2, e]
  · simp [h]
theorem lmW_ne {σ : Sto} {f : Nat → Int32} {i k : Nat} (h : k ≠ 7) : (lmW σ f i).1 k = σ.1 k := by funext b; unfold lmW; simp [h]
theorem lmB_lmW (σ : Sto) (f : Nat → Int32) (i C n : Nat) (s : Int32) (hC : C ≠ 7) (hn : n ≤ 6) : lmB (lmW σ f i) C n s = lmB σ C n s := by
  have hp : ∀ p m, mpB (lmW σ f i) C n s p m = mpB σ C n s p m := by
    intro p m
    unfold mpB
    congr 1
    funext b a
    unfold mpS
    rw [lmW_ne hC, lmW_ne (show 25 + 2 * b + 1 ≠ 7 by omega)]
  have hb : ∀ p, baB (lmW σ f i) C n s p = baB σ C n s p := by
    intro p
    unfold baB baS
    simp only [hp]
  unfold lmB
  simp only [hp, hb]
abbrev pmB (n : Nat) (f : Nat → Int32) (i : Nat) : Int32 := f i + f (2 ^ n - 1 - i)
theorem nI_sub {a b : Nat} (h : b ≤ a) (ha : a < 2 ^ 31) : nI a - nI b = nI (a - b) := by
  have e : nI a = nI (a - b) + nI b := by
    show Int32.ofNat a = Int32.ofNat (a - b) + Int32.ofNat b
    rw [← Int32.ofNat_add]
    congr 1
    omega
  rw [e, Int32.add_sub_cancel]
set_option maxRecDepth 100000 in
theorem m_X0_partedMind {S : Scr} (n : Nat) (hn : n ≤ 6) (i : Nat) (hi : i < 2 ^ n) (σ : Sto) (hm : σ.1 5 1 = nI n) : Mt S yX0_partedMind cX0_partedMind 2 (some .int) 1 [.ref 5, .int (nI i)] σ (Is (some (.int (pmB n (σ.1 7) i))) σ) := by
  refine mt_of (ls := [.ref 5, .int (nI i)]) (by decide) rfl (Nat.le_of_ble_eq_true rfl) (by simp [Value.category]) ?_
  have h64 := (evry_n n hn).2.1
  refine ev_aload_n_0 (pc := 0) dX0_partedMind_0 ?_
  refine ev_getR (pc := 1) (r := 7) dX0_partedMind_1 fl_X0_17 (by decide) (by decide) (by decide) (by decide) ?_
  refine ev_iload_n_1 (pc := 4) dX0_partedMind_4 ?_
  refine ev_iaload' (pc := 5) (j := i) dX0_partedMind_5 (by decide) (by decide) (show vp_in _ 64 from (vp_in_nI (by omega) (by decide))) (nI_clamp (by omega)) ?_
  refine ev_aload_n_0 (pc := 6) dX0_partedMind_6 ?_
  refine ev_getR (pc := 7) (r := 7) dX0_partedMind_7 fl_X0_17 (by decide) (by decide) (by decide) (by decide) ?_
  refine ev_aload_n_0 (pc := 10) dX0_partedMind_10 ?_
  refine ev_callV1 (pc := 11) dX0_partedMind_11 ml_X0_94 (m_X0_everyone σ) (by decide) ⟨_, rfl, rfl⟩ rfl (by decide) rfl (Nat.le_of_ble_eq_true rfl) ?_
  refine ev_iload_n_1 (pc := 14) dX0_partedMind_14 ?_
  refine ev_isub (pc := 15) dX0_partedMind_15 ?_
  rw [hm, (evry_n n hn).1, nI_sub (by omega) (by omega)]
  refine ev_iaload' (pc := 16) (j := (2 ^ n - 1 - i)) dX0_partedMind_16 (by decide) (by decide) (show vp_in _ 64 from (vp_in_nI (by omega) (by decide))) (nI_clamp (by omega)) ?_
  refine ev_iadd (pc := 17) dX0_partedMind_17 ?_
  exact ev_ireturn (pc := 18) dX0_partedMind_18 rfl rfl (⟨rfl, rfl⟩)
set_option maxRecDepth 100000 in
theorem b1_X0_bestParting {S : Scr} {C : Nat} (hC : IsA C 6) (hC7 : C ≠ 7) (n : Nat) (hn : n ≤ 6) (i : Nat) (hi : i < 2 ^ n) (σ : Sto) (hm : σ.1 5 1 = nI n) {Q : Option Value → Sto → Prop} (K : Ev S RX0 cX0_bestParting 5 (some .int) 4 7 [.ref 5, .ref C, .int (nI (2 ^ n - 1)), .int (nI (i + 1)), .null] [] (wr σ 7 i (lmB σ C n (nI i))) (Q)) : Ev S RX0 cX0_bestParting 5 (some .int) 4 7 [.ref 5, .ref C, .int (nI (2 ^ n - 1)), .int (nI i), .null] [] σ (Q) := by
  have h64 := (evry_n n hn).2.1
  refine ev_iload_n_3 (pc := 7) dX0_bestParting_7 ?_
  refine ev_iload_n_2 (pc := 8) dX0_bestParting_8 ?_
  refine ev_icmp_gt (pc := 9) (tgt := 30) dX0_bestParting_9 (by decide) (fun h9 => by exact absurd h9 (nI_nlt (by omega) (by omega))) (fun h9 => ?_)
  refine ev_aload_n_0 (pc := 12) dX0_bestParting_12 ?_
  refine ev_getR (pc := 13) (r := 7) dX0_bestParting_13 fl_X0_17 (by decide) (by decide) (by decide) (by decide) ?_
  refine ev_iload_n_3 (pc := 16) dX0_bestParting_16 ?_
  refine ev_aload_n_0 (pc := 17) dX0_bestParting_17 ?_
  refine ev_iload_n_3 (pc := 18) dX0_bestParting_18 ?_
  refine ev_aload_n_1 (pc := 19) dX0_bestParting_19 ?_
  refine ev_callV1 (pc := 20) dX0_bestParting_20 ml_X0_98 (m_X0_leastMind hC n hn (nI i) σ hm) (by decide) ⟨_, rfl, rfl⟩ rfl (by decide) rfl (Nat.le_of_ble_eq_true rfl) ?_
  refine ev_iastore' (pc := 23) (j := i) dX0_bestParting_23 (by decide) (by decide) (show vp_in _ 64 from (vp_in_nI (by omega) (by decide))) (nI_clamp (by omega)) ?_
  refine ev_iinc_3 (pc := 24) (v := nI (i + 1)) dX0_bestParting_24 (nI_inc i) (by decide) ?_
  refine ev_goto (pc := 27) (tgt := 7) dX0_bestParting_27 (by decide) ?_
  exact K
abbrev bpS (n : Nat) (f : Nat → Int32) (i a : Nat) : Nat := if pmB n f a ≤ pmB n f (i + 1) then a else i + 1
set_option maxRecDepth 100000 in
theorem b2_X0_bestParting {S : Scr} {C : Nat} (hC : IsA C 6) (hC7 : C ≠ 7) (n : Nat) (hn : n ≤ 6) (i : Nat) (hi : i < 2 ^ n - 1) (a : Nat) (ha : a < 2 ^ n) (σ : Sto) (hm : σ.1 5 1 = nI n) {Q : Option Value → Sto → Prop} (K : Ev S RX0 cX0_bestParting 5 (some .int) 4 35 [.ref 5, .ref C, .int (nI (2 ^ n - 1)), .int (nI (bpS n (σ.1 7) i a)), .int (nI (i + 1 + 1))] [] σ (Q)) : Ev S RX0 cX0_bestParting 5 (some .int) 4 35 [.ref 5, .ref C, .int (nI (2 ^ n - 1)), .int (nI a), .int (nI (i + 1))] [] σ (Q) := by
  have h64 := (evry_n n hn).2.1
  refine ev_iload_4 (pc := 35) dX0_bestParting_35 ?_
  refine ev_iload_n_2 (pc := 37) dX0_bestParting_37 ?_
  refine ev_icmp_gt (pc := 38) (tgt := 64) dX0_bestParting_38 (by decide) (fun h38 => by exact absurd h38 (nI_nlt (by omega) (by omega))) (fun h38 => ?_)
  refine ev_aload_n_0 (pc := 41) dX0_bestParting_41 ?_
  refine ev_iload_4 (pc := 42) dX0_bestParting_42 ?_
  refine ev_callV1 (pc := 44) dX0_bestParting_44 ml_X0_102 (m_X0_partedMind n hn (i + 1) (by omega) σ hm) (by decide) ⟨_, rfl, rfl⟩ rfl (by decide) rfl (Nat.le_of_ble_eq_true rfl) ?_
  refine ev_aload_n_0 (pc := 47) dX0_bestParting_47 ?_
  refine ev_iload_n_3 (pc := 48) dX0_bestParting_48 ?_
  refine ev_callV1 (pc := 49) dX0_bestParting_49 ml_X0_102 (m_X0_partedMind n hn a ha σ hm) (by decide) ⟨_, rfl, rfl⟩ rfl (by decide) rfl (Nat.le_of_ble_eq_true rfl) ?_
  refine ev_icmp_ge (pc := 52) (tgt := 58) dX0_bestParting_52 (by decide) (fun h52 => ?_) (fun h52 => ?_)
  · skip
    refine ev_iinc_4 (pc := 58) (v := nI ((i + 1) + 1)) dX0_bestParting_58 (nI_inc (i + 1)) (by decide) ?_
    refine ev_goto (pc := 61) (tgt := 35) dX0_bestParting_61 (by decide) ?_
    exact ev_eq (by simp only [bpS, h52, ↓reduceIte]) rfl rfl K
  · skip
    refine ev_iload_4 (pc := 55) dX0_bestParting_55 ?_
    refine ev_istore_n_3 (pc := 57) dX0_bestParting_57 (by decide) ?_
    refine ev_iinc_4 (pc := 58) (v := nI ((i + 1) + 1)) dX0_bestParting_58 (nI_inc (i + 1)) (by decide) ?_
    refine ev_goto (pc := 61) (tgt := 35) dX0_bestParting_61 (by decide) ?_
    exact ev_eq (by simp only [bpS, h52, ↓reduceIte]) rfl rfl K
abbrev lmF (σ : Sto) (C n : Nat) : Nat → Int32 := fun i => lmB σ C n (nI i)
def bpB (σ : Sto) (C n : Nat) : Nat := itN (bpS n (lmW σ (lmF σ C n) (2 ^ n) |>.1 7)) (2 ^ n - 1) 0
theorem bpS_lt {n : Nat} {f : Nat → Int32} {i a : Nat} (hi : i < 2 ^ n - 1) (ha : a < 2 ^ n) : bpS n f i a < 2 ^ n := by unfold bpS; split <;> omega
theorem bpI_lt {n : Nat} {f : Nat → Int32} (h0 : 0 < 2 ^ n) : ∀ k, k ≤ 2 ^ n - 1 → itN (bpS n f) k 0 < 2 ^ n := by
  intro k
  induction k with
  | zero => intro _; exact h0
  | succ k ih => intro h; exact bpS_lt (by omega) (ih (by omega))
theorem m_X0_bestParting {S : Scr} {C : Nat} (hC : IsA C 6) (hC7 : C ≠ 7) (n : Nat) (hn : n ≤ 6) (σ : Sto) (hm : σ.1 5 1 = nI n) : Mt S yX0_bestParting cX0_bestParting 5 (some .int) 4 [.ref 5, .ref C] σ (Is (some (.int (nI (bpB σ C n)))) (lmW σ (lmF σ C n) (2 ^ n))) := by
  refine mt_of (ls := [.ref 5, .ref C, .null, .null, .null]) (by decide) rfl (Nat.le_of_ble_eq_true rfl) (by simp [Value.category]) ?_
  have h64 := (evry_n n hn).2.1
  have h00 := (evry_n n hn).2.2
  refine ev_aload_n_0 (pc := 0) dX0_bestParting_0 ?_
  refine ev_callV1 (pc := 1) dX0_bestParting_1 ml_X0_94 (m_X0_everyone σ) (by decide) ⟨_, rfl, rfl⟩ rfl (by decide) rfl (Nat.le_of_ble_eq_true rfl) ?_
  rw [hm, (evry_n n hn).1]
  refine ev_istore_n_2 (pc := 4) dX0_bestParting_4 (by decide) ?_
  refine ev_iconst (pc := 5) (v := 0) dX0_bestParting_5 (by decide) ?_
  refine ev_istore_n_3 (pc := 6) dX0_bestParting_6 (by decide) ?_
  refine ev_eq (σ' := lmW σ (lmF σ C n) 0) rfl rfl (lmW_0 _ _).symm ?_
  refine for_up (2 ^ n) (fun i (_ : Unit) => Ev S RX0 cX0_bestParting 5 (some .int) 4 7 [.ref 5, .ref C, .int (nI (2 ^ n - 1)), .int (nI i), .null] [] (lmW σ (lmF σ C n) i) (Is (some (.int (nI (bpB σ C n)))) (lmW σ (lmF σ C n) (2 ^ n)))) (fun _ u => u) (fun i _ hi K => b1_X0_bestParting hC hC7 n hn i hi _ (by rw [lmW_ne (by decide)]; exact hm) (by rw [lmB_lmW _ _ _ _ _ _ hC7 hn, lmW_s]; exact K)) () ?_
  refine ev_iload_n_3 (pc := 7) dX0_bestParting_7 ?_
  refine ev_iload_n_2 (pc := 8) dX0_bestParting_8 ?_
  refine ev_icmp_gt (pc := 9) (tgt := 30) dX0_bestParting_9 (by decide) (fun h9 => ?_) (fun h9 => by exact absurd (nI_lt (by omega) (by omega)) h9)
  refine ev_iconst (pc := 30) (v := 0) dX0_bestParting_30 (by decide) ?_
  refine ev_istore_n_3 (pc := 31) dX0_bestParting_31 (by decide) ?_
  refine ev_iconst (pc := 32) (v := 1) dX0_bestParting_32 (by decide) ?_
  refine ev_istore_4 (pc := 33) dX0_bestParting_33 (by decide) ?_
  have hm2 : (lmW σ (lmF σ C n) (2 ^ n)).1 5 1 = nI n := by rw [lmW_ne (by decide)]; exact hm
  refine for_up2 (2 ^ n - 1) (fun i a => Ev S RX0 cX0_bestParting 5 (some .int) 4 35 [.ref 5, .ref C, .int (nI (2 ^ n - 1)), .int (nI a), .int (nI (i + 1))] [] (lmW σ (lmF σ C n) (2 ^ n)) (Is (some (.int (nI (bpB σ C n)))) (lmW σ (lmF σ C n) (2 ^ n)))) (bpS n ((lmW σ (lmF σ C n) (2 ^ n)).1 7)) 0 (fun i hi K => b2_X0_bestParting hC hC7 n hn i hi _ (bpI_lt h00 i (by omega)) _ hm2 K) ?_
  rw [show 2 ^ n - 1 + 1 = 2 ^ n by omega]
  refine ev_iload_4 (pc := 35) dX0_bestParting_35 ?_
  refine ev_iload_n_2 (pc := 37) dX0_bestParting_37 ?_
  refine ev_icmp_gt (pc := 38) (tgt := 64) dX0_bestParting_38 (by decide) (fun h38 => ?_) (fun h38 => by exact absurd (nI_lt (by omega) (by omega)) h38)
  refine ev_iload_n_3 (pc := 64) dX0_bestParting_64 ?_
  exact ev_ireturn (pc := 65) dX0_bestParting_65 rfl rfl (⟨rfl, rfl⟩)
end
section
/-! ===== odds ===== -/
def rowSet (σ : Sto) (a : Nat) (w : Nat → Int32) : Sto := (fun k j => if k = a then w j else σ.1 k j, σ.2)
theorem rowSet_ne {σ : Sto} {a k : Nat} {w : Nat → Int32} (h : k ≠ a) : (rowSet σ a w).1 k = σ.1 k := by funext j; unfold rowSet; simp [h]
theorem rowSet_at {σ : Sto} {a : Nat} {w : Nat → Int32} : (rowSet σ a w).1 a = w := by funext j; unfold rowSet; simp
abbrev calmC (l : Nat → Int32) (bl : Int32) (pot : Nat → Int32) (x : Int32) : Int32 := (if mienD l bl pot 1 = 0 then x else 0) + (if mienD l bl pot 0 = 0 then 10 - x else 0)
def cwStep (c : Int32) (b : Nat) (w : Nat → Int32) : Nat → Int32 := fun j => if j = 0 then w 0 * (10 - c) else if j ≤ b + 1 then w j * (10 - c) + w (j - 1) * c else w j
abbrev calmA (σ : Sto) (x : Int32) (b : Nat) : Int32 := calmC (σ.1 (25 + 2 * b + 1)) (σ.1 (25 + 2 * b) 1) (σ.1 40) x
def cwF (σ : Sto) (x : Int32) (n : Nat) : Nat → Int32 := itN (fun b w => cwStep (calmA σ x b) b w) n (fun j => if j = 0 then 1 else if j < 7 then 0 else σ.1 8 j)
set_option maxRecDepth 100000 in
theorem b1_X0_countWays {S : Scr} (n : Nat) (hn : n ≤ 6) (x : Int32) (b : Nat) (hb : b < n) (σ : Sto) (hm : σ.1 5 1 = nI n) {Q : Option Value → Sto → Prop} (K : Ev S RX0 cX0_countWays 6 none 2 73 [.ref 5, .ref 40, .int x, .int (nI b), .int (calmA σ x b), .null] [] σ (Q)) : Ev S RX0 cX0_countWays 6 none 2 17 [.ref 5, .ref 40, .int x, .int (nI b), .null, .null] [] σ (Q) := by
  have hb6 : b < 6 := by omega
  refine ev_iload_n_3 (pc := 17) dX0_countWays_17 ?_
  refine ev_aload_n_0 (pc := 18) dX0_countWays_18 ?_
  refine ev_getI (pc := 19) dX0_countWays_19 fl_X0_31 (by decide) (by decide) (by decide) ?_
  refine ev_icmp_ge (pc := 22) (tgt := 142) dX0_countWays_22 (by decide) (fun h22 => by exact absurd h22 (by rw [hm]; exact nI_ge hb (by omega))) (fun h22 => ?_)
  refine ev_aload_n_0 (pc := 25) dX0_countWays_25 ?_
  refine ev_getR (pc := 26) (r := 6) dX0_countWays_26 fl_X0_11 (by decide) (by decide) (by decide) (by decide) ?_
  refine ev_iload_n_3 (pc := 29) dX0_countWays_29 ?_
  refine ev_aaload' (pc := 30) (r := (25 + 2 * b)) (j := b) dX0_countWays_30 (by decide) (c := 14) (by decide) (by decide) (by decide) (show vp_in _ 6 from (vp_in_nI (by omega) (by decide))) (nI_clamp (by omega)) (rf6 b) ?_
  refine ev_aload_n_1 (pc := 31) dX0_countWays_31 ?_
  refine ev_iconst (pc := 32) (v := 1) dX0_countWays_32 (by decide) ?_
  refine ev_callV1 (pc := 33) dX0_countWays_33 ml_X0_55 (m_X5_mien (isTa_of hb6) ⟨by decide, by decide, by decide⟩ 1 σ) (isTa_of hb6).lt ⟨_, by rw [(isTa_of hb6).kd0]; rfl, rfl⟩ rfl (by decide) rfl (Nat.le_of_ble_eq_true rfl) ?_
  refine ev_if_ne (pc := 36) (tgt := 43) dX0_countWays_36 (by decide) (fun h36 => ?_) (fun h36 => ?_)
  · skip
    refine ev_iconst (pc := 43) (v := 0) dX0_countWays_43 (by decide) ?_
    refine ev_istore_4 (pc := 44) dX0_countWays_44 (by decide) ?_
    refine ev_iload_4 (pc := 46) dX0_countWays_46 ?_
    refine ev_aload_n_0 (pc := 48) dX0_countWays_48 ?_
    refine ev_getR (pc := 49) (r := 6) dX0_countWays_49 fl_X0_11 (by decide) (by decide) (by decide) (by decide) ?_
    refine ev_iload_n_3 (pc := 52) dX0_countWays_52 ?_
    refine ev_aaload' (pc := 53) (r := (25 + 2 * b)) (j := b) dX0_countWays_53 (by decide) (c := 14) (by decide) (by decide) (by decide) (show vp_in _ 6 from (vp_in_nI (by omega) (by decide))) (nI_clamp (by omega)) (rf6 b) ?_
    refine ev_aload_n_1 (pc := 54) dX0_countWays_54 ?_
    refine ev_iconst (pc := 55) (v := 0) dX0_countWays_55 (by decide) ?_
    refine ev_callV1 (pc := 56) dX0_countWays_56 ml_X0_55 (m_X5_mien (isTa_of hb6) ⟨by decide, by decide, by decide⟩ 0 σ) (isTa_of hb6).lt ⟨_, by rw [(isTa_of hb6).kd0]; rfl, rfl⟩ rfl (by decide) rfl (Nat.le_of_ble_eq_true rfl) ?_
    refine ev_if_ne (pc := 59) (tgt := 69) dX0_countWays_59 (by decide) (fun h59 => ?_) (fun h59 => ?_)
    · skip
      refine ev_iconst (pc := 69) (v := 0) dX0_countWays_69 (by decide) ?_
      refine ev_iaddc (pc := 70) (v := 0) dX0_countWays_70 (by decide) ?_
      refine ev_istore_4 (pc := 71) dX0_countWays_71 (by decide) ?_
      exact ev_eq (by simp only [calmA, calmC, h36, h59, ↓reduceIte]; try rfl) rfl rfl K
    · skip
      refine ev_bipush (pc := 62) (v := 10) dX0_countWays_62 (by decide) ?_
      refine ev_iload_n_2 (pc := 64) dX0_countWays_64 ?_
      refine ev_isub (pc := 65) dX0_countWays_65 ?_
      refine ev_goto (pc := 66) (tgt := 70) dX0_countWays_66 (by decide) ?_
      refine ev_iadd (pc := 70) dX0_countWays_70 ?_
      refine ev_istore_4 (pc := 71) dX0_countWays_71 (by decide) ?_
      exact ev_eq (by simp only [calmA, calmC, h36, h59, ↓reduceIte]; try rfl) rfl rfl K
  · skip
    refine ev_iload_n_2 (pc := 39) dX0_countWays_39 ?_
    refine ev_goto (pc := 40) (tgt := 44) dX0_countWays_40 (by decide) ?_
    refine ev_istore_4 (pc := 44) dX0_countWays_44 (by decide) ?_
    refine ev_iload_4 (pc := 46) dX0_countWays_46 ?_
    refine ev_aload_n_0 (pc := 48) dX0_countWays_48 ?_
    refine ev_getR (pc := 49) (r := 6) dX0_countWays_49 fl_X0_11 (by decide) (by decide) (by decide) (by decide) ?_
    refine ev_iload_n_3 (pc := 52) dX0_countWays_52 ?_
    refine ev_aaload' (pc := 53) (r := (25 + 2 * b)) (j := b) dX0_countWays_53 (by decide) (c := 14) (by decide) (by decide) (by decide) (show vp_in _ 6 from (vp_in_nI (by omega) (by decide))) (nI_clamp (by omega)) (rf6 b) ?_
    refine ev_aload_n_1 (pc := 54) dX0_countWays_54 ?_
    refine ev_iconst (pc := 55) (v := 0) dX0_countWays_55 (by decide) ?_
    refine ev_callV1 (pc := 56) dX0_countWays_56 ml_X0_55 (m_X5_mien (isTa_of hb6) ⟨by decide, by decide, by decide⟩ 0 σ) (isTa_of hb6).lt ⟨_, by rw [(isTa_of hb6).kd0]; rfl, rfl⟩ rfl (by decide) rfl (Nat.le_of_ble_eq_true rfl) ?_
    refine ev_if_ne (pc := 59) (tgt := 69) dX0_countWays_59 (by decide) (fun h59 => ?_) (fun h59 => ?_)
    · skip
      refine ev_iconst (pc := 69) (v := 0) dX0_countWays_69 (by decide) ?_
      refine ev_iadd (pc := 70) dX0_countWays_70 ?_
      refine ev_istore_4 (pc := 71) dX0_countWays_71 (by decide) ?_
      exact ev_eq (by simp only [calmA, calmC, h36, h59, ↓reduceIte]; try rfl) rfl rfl K
    · skip
      refine ev_bipush (pc := 62) (v := 10) dX0_countWays_62 (by decide) ?_
      refine ev_iload_n_2 (pc := 64) dX0_countWays_64 ?_
      refine ev_isub (pc := 65) dX0_countWays_65 ?_
      refine ev_goto (pc := 66) (tgt := 70) dX0_countWays_66 (by decide) ?_
      refine ev_iadd (pc := 70) dX0_countWays_70 ?_
      refine ev_istore_4 (pc := 71) dX0_countWays_71 (by decide) ?_
      exact ev_eq (by simp only [calmA, calmC, h36, h59, ↓reduceIte]; try rfl) rfl rfl K
set_option maxRecDepth 100000 in
theorem b2_X0_countWays_0 {S : Scr} (x c : Int32) (w : Nat → Int32) (σ : Sto) {Q : Option Value → Sto → Prop} (K : Ev S RX0 cX0_countWays 6 none 2 17 [.ref 5, .ref 40, .int x, .int (nI 1), .null, .null] [] (rowSet σ 8 (cwStep c 0 w)) (Q)) : Ev S RX0 cX0_countWays 6 none 2 73 [.ref 5, .ref 40, .int x, .int 0, .int c, .null] [] (rowSet σ 8 w) (Q) := by
  refine ev_iload_n_3 (pc := 73) dX0_countWays_73 ?_
  refine ev_iconst (pc := 74) (v := 1) dX0_countWays_74 (by decide) ?_
  refine ev_iaddc (pc := 75) (v := 1) dX0_countWays_75 (by decide) ?_
  refine ev_istore_5 (pc := 76) dX0_countWays_76 (by decide) ?_
  refine ev_iload_5 (pc := 78) dX0_countWays_78 ?_
  refine ev_if_le (pc := 80) (tgt := 122) dX0_countWays_80 (by decide) (fun h80 => by exact absurd h80 (by decide)) (fun h80 => ?_)
  refine ev_aload_n_0 (pc := 83) dX0_countWays_83 ?_
  refine ev_getR (pc := 84) (r := 8) dX0_countWays_84 fl_X0_21 (by decide) (by decide) (by decide) (by decide) ?_
  refine ev_iload_5 (pc := 87) dX0_countWays_87 ?_
  refine ev_aload_n_0 (pc := 89) dX0_countWays_89 ?_
  refine ev_getR (pc := 90) (r := 8) dX0_countWays_90 fl_X0_21 (by decide) (by decide) (by decide) (by decide) ?_
  refine ev_iload_5 (pc := 93) dX0_countWays_93 ?_
  refine ev_iaload' (pc := 95) (j := 1) dX0_countWays_95 (by decide) (by decide) (show vp_in _ 7 from (vin_c (by decide))) (by decide) ?_
  refine ev_bipush (pc := 96) (v := 10) dX0_countWays_96 (by decide) ?_
  refine ev_iload_4 (pc := 98) dX0_countWays_98 ?_
  refine ev_isub (pc := 100) dX0_countWays_100 ?_
  refine ev_imul (pc := 101) dX0_countWays_101 ?_
  refine ev_aload_n_0 (pc := 102) dX0_countWays_102 ?_
  refine ev_getR (pc := 103) (r := 8) dX0_countWays_103 fl_X0_21 (by decide) (by decide) (by decide) (by decide) ?_
  refine ev_iload_5 (pc := 106) dX0_countWays_106 ?_
  refine ev_iconst (pc := 108) (v := 1) dX0_countWays_108 (by decide) ?_
  refine ev_isubc (pc := 109) (v := 0) dX0_countWays_109 (by decide) ?_
  refine ev_iaload' (pc := 110) (j := 0) dX0_countWays_110 (by decide) (by decide) (show vp_in _ 7 from (vin_c (by decide))) (by decide) ?_
  refine ev_iload_4 (pc := 111) dX0_countWays_111 ?_
  refine ev_imul (pc := 113) dX0_countWays_113 ?_
  refine ev_iadd (pc := 114) dX0_countWays_114 ?_
  refine ev_iastore' (pc := 115) (j := 1) dX0_countWays_115 (by decide) (by decide) (show vp_in _ 7 from (vin_c (by decide))) (by decide) ?_
  refine ev_iinc_5 (pc := 116) (v := 0) dX0_countWays_116 (by decide) (by decide) ?_
  refine ev_goto (pc := 119) (tgt := 78) dX0_countWays_119 (by decide) ?_
  refine ev_iload_5 (pc := 78) dX0_countWays_78 ?_
  refine ev_if_le (pc := 80) (tgt := 122) dX0_countWays_80 (by decide) (fun h80 => ?_) (fun h80 => by exact absurd h80 (by decide))
  refine ev_aload_n_0 (pc := 122) dX0_countWays_122 ?_
  refine ev_getR (pc := 123) (r := 8) dX0_countWays_123 fl_X0_21 (by decide) (by decide) (by decide) (by decide) ?_
  refine ev_iconst (pc := 126) (v := 0) dX0_countWays_126 (by decide) ?_
  refine ev_dup2 (pc := 127) dX0_countWays_127 rfl rfl ?_
  refine ev_iaload' (pc := 128) (j := 0) dX0_countWays_128 (by decide) (by decide) (show vp_in _ 7 from (vin_c (by decide))) (by decide) ?_
  refine ev_bipush (pc := 129) (v := 10) dX0_countWays_129 (by decide) ?_
  refine ev_iload_4 (pc := 131) dX0_countWays_131 ?_
  refine ev_isub (pc := 133) dX0_countWays_133 ?_
  refine ev_imul (pc := 134) dX0_countWays_134 ?_
  refine ev_iastore' (pc := 135) (j := 0) dX0_countWays_135 (by decide) (by decide) (show vp_in _ 7 from (vin_c (by decide))) (by decide) ?_
  refine ev_iinc_3 (pc := 136) (v := 1) dX0_countWays_136 (by decide) (by decide) ?_
  refine ev_goto (pc := 139) (tgt := 17) dX0_countWays_139 (by decide) ?_
  refine ev_null_4 (ev_null_5 ?_)
  refine ev_eq rfl rfl ?_ K
  refine Prod.ext (funext fun k => funext fun j => ?_) rfl
  by_cases hk : k = 8
  · subst hk
    rcases j with _ | _ | _ | _ | _ | _ | _ | j <;> simp [wr, rowSet, cwStep]
  · simp [wr, rowSet, hk]
set_option maxRecDepth 100000 in
theorem b2_X0_countWays_1 {S : Scr} (x c : Int32) (w : Nat → Int32) (σ : Sto) {Q : Option Value → Sto → Prop} (K : Ev S RX0 cX0_countWays 6 none 2 17 [.ref 5, .ref 40, .int x, .int (nI 2), .null, .null] [] (rowSet σ 8 (cwStep c 1 w)) (Q)) : Ev S RX0 cX0_countWays 6 none 2 73 [.ref 5, .ref 40, .int x, .int 1, .int c, .null] [] (rowSet σ 8 w) (Q) := by
  refine ev_iload_n_3 (pc := 73) dX0_countWays_73 ?_
  refine ev_iconst (pc := 74) (v := 1) dX0_countWays_74 (by decide) ?_
  refine ev_iaddc (pc := 75) (v := 2) dX0_countWays_75 (by decide) ?_
  refine ev_istore_5 (pc := 76) dX0_countWays_76 (by decide) ?_
  refine ev_iload_5 (pc := 78) dX0_countWays_78 ?_
  refine ev_if_le (pc := 80) (tgt := 122) dX0_countWays_80 (by decide) (fun h80 => by exact absurd h80 (by decide)) (fun h80 => ?_)
  refine ev_aload_n_0 (pc := 83) dX0_countWays_83 ?_
  refine ev_getR (pc := 84) (r := 8) dX0_countWays_84 fl_X0_21 (by decide) (by decide) (by decide) (by decide) ?_
  refine ev_iload_5 (pc := 87) dX0_countWays_87 ?_
  refine ev_aload_n_0 (pc := 89) dX0_countWays_89 ?_
  refine ev_getR (pc := 90) (r := 8) dX0_countWays_90 fl_X0_21 (by decide) (by decide) (by decide) (by decide) ?_
  refine ev_iload_5 (pc := 93) dX0_countWays_93 ?_
  refine ev_iaload' (pc := 95) (j := 2) dX0_countWays_95 (by decide) (by decide) (show vp_in _ 7 from (vin_c (by decide))) (by decide) ?_
  refine ev_bipush (pc := 96) (v := 10) dX0_countWays_96 (by decide) ?_
  refine ev_iload_4 (pc := 98) dX0_countWays_98 ?_
  refine ev_isub (pc := 100) dX0_countWays_100 ?_
  refine ev_imul (pc := 101) dX0_countWays_101 ?_
  refine ev_aload_n_0 (pc := 102) dX0_countWays_102 ?_
  refine ev_getR (pc := 103) (r := 8) dX0_countWays_103 fl_X0_21 (by decide) (by decide) (by decide) (by decide) ?_
  refine ev_iload_5 (pc := 106) dX0_countWays_106 ?_
  refine ev_iconst (pc := 108) (v := 1) dX0_countWays_108 (by decide) ?_
  refine ev_isubc (pc := 109) (v := 1) dX0_countWays_109 (by decide) ?_
  refine ev_iaload' (pc := 110) (j := 1) dX0_countWays_110 (by decide) (by decide) (show vp_in _ 7 from (vin_c (by decide))) (by decide) ?_
  refine ev_iload_4 (pc := 111) dX0_countWays_111 ?_
  refine ev_imul (pc := 113) dX0_countWays_113 ?_
  refine ev_iadd (pc := 114) dX0_countWays_114 ?_
  refine ev_iastore' (pc := 115) (j := 2) dX0_countWays_115 (by decide) (by decide) (show vp_in _ 7 from (vin_c (by decide))) (by decide) ?_
  refine ev_iinc_5 (pc := 116) (v := 1) dX0_countWays_116 (by decide) (by decide) ?_
  refine ev_goto (pc := 119) (tgt := 78) dX0_countWays_119 (by decide) ?_
  refine ev_iload_5 (pc := 78) dX0_countWays_78 ?_
  refine ev_if_le (pc := 80) (tgt := 122) dX0_countWays_80 (by decide) (fun h80 => by exact absurd h80 (by decide)) (fun h80 => ?_)
  refine ev_aload_n_0 (pc := 83) dX0_countWays_83 ?_
  refine ev_getR (pc := 84) (r := 8) dX0_countWays_84 fl_X0_21 (by decide) (by decide) (by decide) (by decide) ?_
  refine ev_iload_5 (pc := 87) dX0_countWays_87 ?_
  refine ev_aload_n_0 (pc := 89) dX0_countWays_89 ?_
  refine ev_getR (pc := 90) (r := 8) dX0_countWays_90 fl_X0_21 (by decide) (by decide) (by decide) (by decide) ?_
  refine ev_iload_5 (pc := 93) dX0_countWays_93 ?_
  refine ev_iaload' (pc := 95) (j := 1) dX0_countWays_95 (by decide) (by decide) (show vp_in _ 7 from (vin_c (by decide))) (by decide) ?_
  refine ev_bipush (pc := 96) (v := 10) dX0_countWays_96 (by decide) ?_
  refine ev_iload_4 (pc := 98) dX0_countWays_98 ?_
  refine ev_isub (pc := 100) dX0_countWays_100 ?_
  refine ev_imul (pc := 101) dX0_countWays_101 ?_
  refine ev_aload_n_0 (pc := 102) dX0_countWays_102 ?_
  refine ev_getR (pc := 103) (r := 8) dX0_countWays_103 fl_X0_21 (by decide) (by decide) (by decide) (by decide) ?_
  refine ev_iload_5 (pc := 106) dX0_countWays_106 ?_
  refine ev_iconst (pc := 108) (v := 1) dX0_countWays_108 (by decide) ?_
  refine ev_isubc (pc := 109) (v := 0) dX0_countWays_109 (by decide) ?_
  refine ev_iaload' (pc := 110) (j := 0) dX0_countWays_110 (by decide) (by decide) (show vp_in _ 7 from (vin_c (by decide))) (by decide) ?_
  refine ev_iload_4 (pc := 111) dX0_countWays_111 ?_
  refine ev_imul (pc := 113) dX0_countWays_113 ?_
  refine ev_iadd (pc := 114) dX0_countWays_114 ?_
  refine ev_iastore' (pc := 115) (j := 1) dX0_countWays_115 (by decide) (by decide) (show vp_in _ 7 from (vin_c (by decide))) (by decide) ?_
  refine ev_iinc_5 (pc := 116) (v := 0) dX0_countWays_116 (by decide) (by decide) ?_
  refine ev_goto (pc := 119) (tgt := 78) dX0_countWays_119 (by decide) ?_
  refine ev_iload_5 (pc := 78) dX0_countWays_78 ?_
  refine ev_if_le (pc := 80) (tgt := 122) dX0_countWays_80 (by decide) (fun h80 => ?_) (fun h80 => by exact absurd h80 (by decide))
  refine ev_aload_n_0 (pc := 122) dX0_countWays_122 ?_
  refine ev_getR (pc := 123) (r := 8) dX0_countWays_123 fl_X0_21 (by decide) (by decide) (by decide) (by decide) ?_
  refine ev_iconst (pc := 126) (v := 0) dX0_countWays_126 (by decide) ?_
  refine ev_dup2 (pc := 127) dX0_countWays_127 rfl rfl ?_
  refine ev_iaload' (pc := 128) (j := 0) dX0_countWays_128 (by decide) (by decide) (show vp_in _ 7 from (vin_c (by decide))) (by decide) ?_
  refine ev_bipush (pc := 129) (v := 10) dX0_countWays_129 (by decide) ?_
  refine ev_iload_4 (pc := 131) dX0_countWays_131 ?_
  refine ev_isub (pc := 133) dX0_countWays_133 ?_
  refine ev_imul (pc := 134) dX0_countWays_134 ?_
  refine ev_iastore' (pc := 135) (j := 0) dX0_countWays_135 (by decide) (by decide) (show vp_in _ 7 from (vin_c (by decide))) (by decide) ?_
  refine ev_iinc_3 (pc := 136) (v := 2) dX0_countWays_136 (by decide) (by decide) ?_
  refine ev_goto (pc := 139) (tgt := 17) dX0_countWays_139 (by decide) ?_
  refine ev_null_4 (ev_null_5 ?_)
  refine ev_eq rfl rfl ?_ K
  refine Prod.ext (funext fun k => funext fun j => ?_) rfl
  by_cases hk : k = 8
  · subst hk
    rcases j with _ | _ | _ | _ | _ | _ | _ | j <;> simp [wr, rowSet, cwStep]
  · simp [wr, rowSet, hk]
set_option maxRecDepth 100000 in
theorem b2_X0_countWays_2 {S : Scr} (x c : Int32) (w : Nat → Int32) (σ : Sto) {Q : Option Value → Sto → Prop} (K : Ev S RX0 cX0_countWays 6 none 2 17 [.ref 5, .ref 40, .int x, .int (nI 3), .null, .null] [] (rowSet σ 8 (cwStep c 2 w)) (Q)) : Ev S RX0 cX0_countWays 6 none 2 73 [.ref 5, .ref 40, .int x, .int 2, .int c, .null] [] (rowSet σ 8 w) (Q) := by
  refine ev_iload_n_3 (pc := 73) dX0_countWays_73 ?_
  refine ev_iconst (pc := 74) (v := 1) dX0_countWays_74 (by decide) ?_
  refine ev_iaddc (pc := 75) (v := 3) dX0_countWays_75 (by decide) ?_
  refine ev_istore_5 (pc := 76) dX0_countWays_76 (by decide) ?_
  refine ev_iload_5 (pc := 78) dX0_countWays_78 ?_
  refine ev_if_le (pc := 80) (tgt := 122) dX0_countWays_80 (by decide) (fun h80 => by exact absurd h80 (by decide)) (fun h80 => ?_)
  refine ev_aload_n_0 (pc := 83) dX0_countWays_83 ?_
  refine ev_getR (pc := 84) (r := 8) dX0_countWays_84 fl_X0_21 (by decide) (by decide) (by decide) (by decide) ?_
  refine ev_iload_5 (pc := 87) dX0_countWays_87 ?_
  refine ev_aload_n_0 (pc := 89) dX0_countWays_89 ?_
  refine ev_getR (pc := 90) (r := 8) dX0_countWays_90 fl_X0_21 (by decide) (by decide) (by decide) (by decide) ?_
  refine ev_iload_5 (pc := 93) dX0_countWays_93 ?_
  refine ev_iaload' (pc := 95) (j := 3) dX0_countWays_95 (by decide) (by decide) (show vp_in _ 7 from (vin_c (by decide))) (by decide) ?_
  refine ev_bipush (pc := 96) (v := 10) dX0_countWays_96 (by decide) ?_
  refine ev_iload_4 (pc := 98) dX0_countWays_98 ?_
  refine ev_isub (pc := 100) dX0_countWays_100 ?_
  refine ev_imul (pc := 101) dX0_countWays_101 ?_
  refine ev_aload_n_0 (pc := 102) dX0_countWays_102 ?_
  refine ev_getR (pc := 103) (r := 8) dX0_countWays_103 fl_X0_21 (by decide) (by decide) (by decide) (by decide) ?_
  refine ev_iload_5 (pc := 106) dX0_countWays_106 ?_
  refine ev_iconst (pc := 108) (v := 1) dX0_countWays_108 (by decide) ?_
  refine ev_isubc (pc := 109) (v := 2) dX0_countWays_109 (by decide) ?_
  refine ev_iaload' (pc := 110) (j := 2) dX0_countWays_110 (by decide) (by decide) (show vp_in _ 7 from (vin_c (by decide))) (by decide) ?_
  refine ev_iload_4 (pc := 111) dX0_countWays_111 ?_
  refine ev_imul (pc := 113) dX0_countWays_113 ?_
  refine ev_iadd (pc := 114) dX0_countWays_114 ?_
  refine ev_iastore' (pc := 115) (j := 3) dX0_countWays_115 (by decide) (by decide) (show vp_in _ 7 from (vin_c (by decide))) (by decide) ?_
  refine ev_iinc_5 (pc := 116) (v := 2) dX0_countWays_116 (by decide) (by decide) ?_
  refine ev_goto (pc := 119) (tgt := 78) dX0_countWays_119 (by decide) ?_
  refine ev_iload_5 (pc := 78) dX0_countWays_78 ?_
  refine ev_if_le (pc := 80) (tgt := 122) dX0_countWays_80 (by decide) (fun h80 => by exact absurd h80 (by decide)) (fun h80 => ?_)
  refine ev_aload_n_0 (pc := 83) dX0_countWays_83 ?_
  refine ev_getR (pc := 84) (r := 8) dX0_countWays_84 fl_X0_21 (by decide) (by decide) (by decide) (by decide) ?_
  refine ev_iload_5 (pc := 87) dX0_countWays_87 ?_
  refine ev_aload_n_0 (pc := 89) dX0_countWays_89 ?_
  refine ev_getR (pc := 90) (r := 8) dX0_countWays_90 fl_X0_21 (by decide) (by decide) (by decide) (by decide) ?_
  refine ev_iload_5 (pc := 93) dX0_countWays_93 ?_
  refine ev_iaload' (pc := 95) (j := 2) dX0_countWays_95 (by decide) (by decide) (show vp_in _ 7 from (vin_c (by decide))) (by decide) ?_
  refine ev_bipush (pc := 96) (v := 10) dX0_countWays_96 (by decide) ?_
  refine ev_iload_4 (pc := 98) dX0_countWays_98 ?_
  refine ev_isub (pc := 100) dX0_countWays_100 ?_
  refine ev_imul (pc := 101) dX0_countWays_101 ?_
  refine ev_aload_n_0 (pc := 102) dX0_countWays_102 ?_
  refine ev_getR (pc := 103) (r := 8) dX0_countWays_103 fl_X0_21 (by decide) (by decide) (by decide) (by decide) ?_
  refine ev_iload_5 (pc := 106) dX0_countWays_106 ?_
  refine ev_iconst (pc := 108) (v := 1) dX0_countWays_108 (by decide) ?_
  refine ev_isubc (pc := 109) (v := 1) dX0_countWays_109 (by decide) ?_
  refine ev_iaload' (pc := 110) (j := 1) dX0_countWays_110 (by decide) (by decide) (show vp_in _ 7 from (vin_c (by decide))) (by decide) ?_
  refine ev_iload_4 (pc := 111) dX0_countWays_111 ?_
  refine ev_imul (pc := 113) dX0_countWays_113 ?_
  refine ev_iadd (pc := 114) dX0_countWays_114 ?_
  refine ev_iastore' (pc := 115) (j := 2) dX0_countWays_115 (by decide) (by decide) (show vp_in _ 7 from (vin_c (by decide))) (by decide) ?_
  refine ev_iinc_5 (pc := 116) (v := 1) dX0_countWays_116 (by decide) (by decide) ?_
  refine ev_goto (pc := 119) (tgt := 78) dX0_countWays_119 (by decide) ?_
  refine ev_iload_5 (pc := 78) dX0_countWays_78 ?_
  refine ev_if_le (pc := 80) (tgt := 122) dX0_countWays_80 (by decide) (fun h80 => by exact absurd h80 (by decide)) (fun h80 => ?_)
  refine ev_aload_n_0 (pc := 83) dX0_countWays_83 ?_
  refine ev_getR (pc := 84) (r := 8) dX0_countWays_84 fl_X0_21 (by decide) (by decide) (by decide) (by decide) ?_
  refine ev_iload_5 (pc := 87) dX0_countWays_87 ?_
  refine ev_aload_n_0 (pc := 89) dX0_countWays_89 ?_
  refine ev_getR (pc := 90) (r := 8) dX0_countWays_90 fl_X0_21 (by decide) (by decide) (by decide) (by decide) ?_
  refine ev_iload_5 (pc := 93) dX0_countWays_93 ?_
  refine ev_iaload' (pc := 95) (j := 1) dX0_countWays_95 (by decide) (by decide) (show vp_in _ 7 from (vin_c (by decide))) (by decide) ?_
  refine ev_bipush (pc := 96) (v := 10) dX0_countWays_96 (by decide) ?_
  refine ev_iload_4 (pc := 98) dX0_countWays_98 ?_
  refine ev_isub (pc := 100) dX0_countWays_100 ?_
  refine ev_imul (pc := 101) dX0_countWays_101 ?_
  refine ev_aload_n_0 (pc := 102) dX0_countWays_102 ?_
  refine ev_getR (pc := 103) (r := 8) dX0_countWays_103 fl_X0_21 (by decide) (by decide) (by decide) (by decide) ?_
  refine ev_iload_5 (pc := 106) dX0_countWays_106 ?_
  refine ev_iconst (pc := 108) (v := 1) dX0_countWays_108 (by decide) ?_
  refine ev_isubc (pc := 109) (v := 0) dX0_countWays_109 (by decide) ?_
  refine ev_iaload' (pc := 110) (j := 0) dX0_countWays_110 (by decide) (by decide) (show vp_in _ 7 from (vin_c (by decide))) (by decide) ?_
  refine ev_iload_4 (pc := 111) dX0_countWays_111 ?_
  refine ev_imul (pc := 113) dX0_countWays_113 ?_
  refine ev_iadd (pc := 114) dX0_countWays_114 ?_
  refine ev_iastore' (pc := 115) (j := 1) dX0_countWays_115 (by decide) (by decide) (show vp_in _ 7 from (vin_c (by decide))) (by decide) ?_
  refine ev_iinc_5 (pc := 116) (v := 0) dX0_countWays_116 (by decide) (by decide) ?_
  refine ev_goto (pc := 119) (tgt := 78) dX0_countWays_119 (by decide) ?_
  refine ev_iload_5 (pc := 78) dX0_countWays_78 ?_
  refine ev_if_le (pc := 80) (tgt := 122) dX0_countWays_80 (by decide) (fun h80 => ?_) (fun h80 => by exact absurd h80 (by decide))
  refine ev_aload_n_0 (pc := 122) dX0_countWays_122 ?_
  refine ev_getR (pc := 123) (r := 8) dX0_countWays_123 fl_X0_21 (by decide) (by decide) (by decide) (by decide) ?_
  refine ev_iconst (pc := 126) (v := 0) dX0_countWays_126 (by decide) ?_
  refine ev_dup2 (pc := 127) dX0_countWays_127 rfl rfl ?_
  refine ev_iaload' (pc := 128) (j := 0) dX0_countWays_128 (by decide) (by decide) (show vp_in _ 7 from (vin_c (by decide))) (by decide) ?_
  refine ev_bipush (pc := 129) (v := 10) dX0_countWays_129 (by decide) ?_
  refine ev_iload_4 (pc := 131) dX0_countWays_131 ?_
  refine ev_isub (pc := 133) dX0_countWays_133 ?_
  refine ev_imul (pc := 134) dX0_countWays_134 ?_
  refine ev_iastore' (pc := 135) (j := 0) dX0_countWays_135 (by decide) (by decide) (show vp_in _ 7 from (vin_c (by decide))) (by decide) ?_
  refine ev_iinc_3 (pc := 136) (v := 3) dX0_countWays_136 (by decide) (by decide) ?_
  refine ev_goto (pc := 139) (tgt := 17) dX0_countWays_139 (by decide) ?_
  refine ev_null_4 (ev_null_5 ?_)
  refine ev_eq rfl rfl ?_ K
  refine Prod.ext (funext fun k => funext fun j => ?_) rfl
  by_cases hk : k = 8
  · subst hk
    rcases j with _ | _ | _ | _ | _ | _ | _ | j <;> simp [wr, rowSet, cwStep]
  · simp [wr, rowSet, hk]
set_option maxRecDepth 100000 in
theorem b2_X0_countWays_3 {S : Scr} (x c : Int32) (w : Nat → Int32) (σ : Sto) {Q : Option Value → Sto → Prop} (K : Ev S RX0 cX0_countWays 6 none 2 17 [.ref 5, .ref 40, .int x, .int (nI 4), .null, .null] [] (rowSet σ 8 (cwStep c 3 w)) (Q)) : Ev S RX0 cX0_countWays 6 none 2 73 [.ref 5, .ref 40, .int x, .int 3, .int c, .null] [] (rowSet σ 8 w) (Q) := by
  refine ev_iload_n_3 (pc := 73) dX0_countWays_73 ?_
  refine ev_iconst (pc := 74) (v := 1) dX0_countWays_74 (by decide) ?_
  refine ev_iaddc (pc := 75) (v := 4) dX0_countWays_75 (by decide) ?_
  refine ev_istore_5 (pc := 76) dX0_countWays_76 (by decide) ?_
  refine ev_iload_5 (pc := 78) dX0_countWays_78 ?_
  refine ev_if_le (pc := 80) (tgt := 122) dX0_countWays_80 (by decide) (fun h80 => by exact absurd h80 (by decide)) (fun h80 => ?_)
  refine ev_aload_n_0 (pc := 83) dX0_countWays_83 ?_
  refine ev_getR (pc := 84) (r := 8) dX0_countWays_84 fl_X0_21 (by decide) (by decide) (by decide) (by decide) ?_
  refine ev_iload_5 (pc := 87) dX0_countWays_87 ?_
  refine ev_aload_n_0 (pc := 89) dX0_countWays_89 ?_
  refine ev_getR (pc := 90) (r := 8) dX0_countWays_90 fl_X0_21 (by decide) (by decide) (by decide) (by decide) ?_
  refine ev_iload_5 (pc := 93) dX0_countWays_93 ?_
  refine ev_iaload' (pc := 95) (j := 4) dX0_countWays_95 (by decide) (by decide) (show vp_in _ 7 from (vin_c (by decide))) (by decide) ?_
  refine ev_bipush (pc := 96) (v := 10) dX0_countWays_96 (by decide) ?_
  refine ev_iload_4 (pc := 98) dX0_countWays_98 ?_
  refine ev_isub (pc := 100) dX0_countWays_100 ?_
  refine ev_imul (pc := 101) dX0_countWays_101 ?_
  refine ev_aload_n_0 (pc := 102) dX0_countWays_102 ?_
  refine ev_getR (pc := 103) (r := 8) dX0_countWays_103 fl_X0_21 (by decide) (by decide) (by decide) (by decide) ?_
  refine ev_iload_5 (pc := 106) dX0_countWays_106 ?_
  refine ev_iconst (pc := 108) (v := 1) dX0_countWays_108 (by decide) ?_
  refine ev_isubc (pc := 109) (v := 3) dX0_countWays_109 (by decide) ?_
  refine ev_iaload' (pc := 110) (j := 3) dX0_countWays_110 (by decide) (by decide) (show vp_in _ 7 from (vin_c (by decide))) (by decide) ?_
  refine ev_iload_4 (pc := 111) dX0_countWays_111 ?_
  refine ev_imul (pc := 113) dX0_countWays_113 ?_
  refine ev_iadd (pc := 114) dX0_countWays_114 ?_
  refine ev_iastore' (pc := 115) (j := 4) dX0_countWays_115 (by decide) (by decide) (show vp_in _ 7 from (vin_c (by decide))) (by decide) ?_
  refine ev_iinc_5 (pc := 116) (v := 3) dX0_countWays_116 (by decide) (by decide) ?_
  refine ev_goto (pc := 119) (tgt := 78) dX0_countWays_119 (by decide) ?_
  refine ev_iload_5 (pc := 78) dX0_countWays_78 ?_
  refine ev_if_le (pc := 80) (tgt := 122) dX0_countWays_80 (by decide) (fun h80 => by exact absurd h80 (by decide)) (fun h80 => ?_)
  refine ev_aload_n_0 (pc := 83) dX0_countWays_83 ?_
  refine ev_getR (pc := 84) (r := 8) dX0_countWays_84 fl_X0_21 (by decide) (by decide) (by decide) (by decide) ?_
  refine ev_iload_5 (pc := 87) dX0_countWays_87 ?_
  refine ev_aload_n_0 (pc := 89) dX0_countWays_89 ?_
  refine ev_getR (pc := 90) (r := 8) dX0_countWays_90 fl_X0_21 (by decide) (by decide) (by decide) (by decide) ?_
  refine ev_iload_5 (pc := 93) dX0_countWays_93 ?_
  refine ev_iaload' (pc := 95) (j := 3) dX0_countWays_95 (by decide) (by decide) (show vp_in _ 7 from (vin_c (by decide))) (by decide) ?_
  refine ev_bipush (pc := 96) (v := 10) dX0_countWays_96 (by decide) ?_
  refine ev_iload_4 (pc := 98) dX0_countWays_98 ?_
  refine ev_isub (pc := 100) dX0_countWays_100 ?_
  refine ev_imul (pc := 101) dX0_countWays_101 ?_
  refine ev_aload_n_0 (pc := 102) dX0_countWays_102 ?_
  refine ev_getR (pc := 103) (r := 8) dX0_countWays_103 fl_X0_21 (by decide) (by decide) (by decide) (by decide) ?_
  refine ev_iload_5 (pc := 106) dX0_countWays_106 ?_
  refine ev_iconst (pc := 108) (v := 1) dX0_countWays_108 (by decide) ?_
  refine ev_isubc (pc := 109) (v := 2) dX0_countWays_109 (by decide) ?_
  refine ev_iaload' (pc := 110) (j := 2) dX0_countWays_110 (by decide) (by decide) (show vp_in _ 7 from (vin_c (by decide))) (by decide) ?_
  refine ev_iload_4 (pc := 111) dX0_countWays_111 ?_
  refine ev_imul (pc := 113) dX0_countWays_113 ?_
  refine ev_iadd (pc := 114) dX0_countWays_114 ?_
  refine ev_iastore' (pc := 115) (j := 3) dX0_countWays_115 (by decide) (by decide) (show vp_in _ 7 from (vin_c (by decide))) (by decide) ?_
  refine ev_iinc_5 (pc := 116) (v := 2) dX0_countWays_116 (by decide) (by decide) ?_
  refine ev_goto (pc := 119) (tgt := 78) dX0_countWays_119 (by decide) ?_
  refine ev_iload_5 (pc := 78) dX0_countWays_78 ?_
  refine ev_if_le (pc := 80) (tgt := 122) dX0_countWays_80 (by decide) (fun h80 => by exact absurd h80 (by decide)) (fun h80 => ?_)
  refine ev_aload_n_0 (pc := 83) dX0_countWays_83 ?_
  refine ev_getR (pc := 84) (r := 8) dX0_countWays_84 fl_X0_21 (by decide) (by decide) (by decide) (by decide) ?_
  refine ev_iload_5 (pc := 87) dX0_countWays_87 ?_
  refine ev_aload_n_0 (pc := 89) dX0_countWays_89 ?_
  refine ev_getR (pc := 90) (r := 8) dX0_countWays_90 fl_X0_21 (by decide) (by decide) (by decide) (by decide) ?_
  refine ev_iload_5 (pc := 93) dX0_countWays_93 ?_
  refine ev_iaload' (pc := 95) (j := 2) dX0_countWays_95 (by decide) (by decide) (show vp_in _ 7 from (vin_c (by decide))) (by decide) ?_
  refine ev_bipush (pc := 96) (v := 10) dX0_countWays_96 (by decide) ?_
  refine ev_iload_4 (pc := 98) dX0_countWays_98 ?_
  refine ev_isub (pc := 100) dX0_countWays_100 ?_
  refine ev_imul (pc := 101) dX0_countWays_101 ?_
  refine ev_aload_n_0 (pc := 102) dX0_countWays_102 ?_
  refine ev_getR (pc := 103) (r := 8) dX0_countWays_103 fl_X0_21 (by decide) (by decide) (by decide) (by decide) ?_
  refine ev_iload_5 (pc := 106) dX0_countWays_106 ?_
  refine ev_iconst (pc := 108) (v := 1) dX0_countWays_108 (by decide) ?_
  refine ev_isubc (pc := 109) (v := 1) dX0_countWays_109 (by decide) ?_
  refine ev_iaload' (pc := 110) (j := 1) dX0_countWays_110 (by decide) (by decide) (show vp_in _ 7 from (vin_c (by decide))) (by decide) ?_
  refine ev_iload_4 (pc := 111) dX0_countWays_111 ?_
  refine ev_imul (pc := 113) dX0_countWays_113 ?_
  refine ev_iadd (pc := 114) dX0_countWays_114 ?_
  refine ev_iastore' (pc := 115) (j := 2) dX0_countWays_115 (by decide) (by decide) (show vp_in _ 7 from (vin_c (by decide))) (by decide) ?_
  refine ev_iinc_5 (pc := 116) (v := 1) dX0_countWays_116 (by decide) (by decide) ?_
  refine ev_goto (pc := 119) (tgt := 78) dX0_countWays_119 (by decide) ?_
  refine ev_iload_5 (pc := 78) dX0_countWays_78 ?_
  refine ev_if_le (pc := 80) (tgt := 122) dX0_countWays_80 (by decide) (fun h80 => by exact absurd h80 (by decide)) (fun h80 => ?_)
  refine ev_aload_n_0 (pc := 83) dX0_countWays_83 ?_
  refine ev_getR (pc := 84) (r := 8) dX0_countWays_84 fl_X0_21 (by decide) (by decide) (by decide) (by decide) ?_
  refine ev_iload_5 (pc := 87) dX0_countWays_87 ?_
  refine ev_aload_n_0 (pc := 89) dX0_countWays_89 ?_
  refine ev_getR (pc := 90) (r := 8) dX0_countWays_90 fl_X0_21 (by decide) (by decide) (by decide) (by decide) ?_
  refine ev_iload_5 (pc := 93) dX0_countWays_93 ?_
  refine ev_iaload' (pc := 95) (j := 1) dX0_countWays_95 (by decide) (by decide) (show vp_in _ 7 from (vin_c (by decide))) (by decide) ?_
  refine ev_bipush (pc := 96) (v := 10) dX0_countWays_96 (by decide) ?_
  refine ev_iload_4 (pc := 98) dX0_countWays_98 ?_
  refine ev_isub (pc := 100) dX0_countWays_100 ?_
  refine ev_imul (pc := 101) dX0_countWays_101 ?_
  refine ev_aload_n_0 (pc := 102) dX0_countWays_102 ?_
  refine ev_getR (pc := 103) (r := 8) dX0_countWays_103 fl_X0_21 (by decide) (by decide) (by decide) (by decide) ?_
  refine ev_iload_5 (pc := 106) dX0_countWays_106 ?_
  refine ev_iconst (pc := 108) (v := 1) dX0_countWays_108 (by decide) ?_
  refine ev_isubc (pc := 109) (v := 0) dX0_countWays_109 (by decide) ?_
  refine ev_iaload' (pc := 110) (j := 0) dX0_countWays_110 (by decide) (by decide) (show vp_in _ 7 from (vin_c (by decide))) (by decide) ?_
  refine ev_iload_4 (pc := 111) dX0_countWays_111 ?_
  refine ev_imul (pc := 113) dX0_countWays_113 ?_
  refine ev_iadd (pc := 114) dX0_countWays_114 ?_
  refine ev_iastore' (pc := 115) (j := 1) dX0_countWays_115 (by decide) (by decide) (show vp_in _ 7 from (vin_c (by decide))) (by decide) ?_
  refine ev_iinc_5 (pc := 116) (v := 0) dX0_countWays_116 (by decide) (by decide) ?_
  refine ev_goto (pc := 119) (tgt := 78) dX0_countWays_119 (by decide) ?_
  refine ev_iload_5 (pc := 78) dX0_countWays_78 ?_
  refine ev_if_le (pc := 80) (tgt := 122) dX0_countWays_80 (by decide) (fun h80 => ?_) (fun h80 => by exact absurd h80 (by decide))
  refine ev_aload_n_0 (pc := 122) dX0_countWays_122 ?_
  refine ev_getR (pc := 123) (r := 8) dX0_countWays_123 fl_X0_21 (by decide) (by decide) (by decide) (by decide) ?_
  refine ev_iconst (pc := 126) (v := 0) dX0_countWays_126 (by decide) ?_
  refine ev_dup2 (pc := 127) dX0_countWays_127 rfl rfl ?_
  refine ev_iaload' (pc := 128) (j := 0) dX0_countWays_128 (by decide) (by decide) (show vp_in _ 7 from (vin_c (by decide))) (by decide) ?_
  refine ev_bipush (pc := 129) (v := 10) dX0_countWays_129 (by decide) ?_
  refine ev_iload_4 (pc := 131) dX0_countWays_131 ?_
  refine ev_isub (pc := 133) dX0_countWays_133 ?_
  refine ev_imul (pc := 134) dX0_countWays_134 ?_
  refine ev_iastore' (pc := 135) (j := 0) dX0_countWays_135 (by decide) (by decide) (show vp_in _ 7 from (vin_c (by decide))) (by decide) ?_
  refine ev_iinc_3 (pc := 136) (v := 4) dX0_countWays_136 (by decide) (by decide) ?_
  refine ev_goto (pc := 139) (tgt := 17) dX0_countWays_139 (by decide) ?_
  refine ev_null_4 (ev_null_5 ?_)
  refine ev_eq rfl rfl ?_ K
  refine Prod.ext (funext fun k => funext fun j => ?_) rfl
  by_cases hk : k = 8
  · subst hk
    rcases j with _ | _ | _ | _ | _ | _ | _ | j <;> simp [wr, rowSet, cwStep]
  · simp [wr, rowSet, hk]
set_option maxRecDepth 100000 in
theorem b2_X0_countWays_4 {S : Scr} (x c : Int32) (w : Nat → Int32) (σ : Sto) {Q : Option Value → Sto → Prop} (K : Ev S RX0 cX0_countWays 6 none 2 17 [.ref 5, .ref 40, .int x, .int (nI 5), .null, .null] [] (rowSet σ 8 (cwStep c 4 w)) (Q)) : Ev S RX0 cX0_countWays 6 none 2 73 [.ref 5, .ref 40, .int x, .int 4, .int c, .null] [] (rowSet σ 8 w) (Q) := by
  refine ev_iload_n_3 (pc := 73) dX0_countWays_73 ?_
  refine ev_iconst (pc := 74) (v := 1) dX0_countWays_74 (by decide) ?_
  refine ev_iaddc (pc := 75) (v := 5) dX0_countWays_75 (by decide) ?_
  refine ev_istore_5 (pc := 76) dX0_countWays_76 (by decide) ?_
  refine ev_iload_5 (pc := 78) dX0_countWays_78 ?_
  refine ev_if_le (pc := 80) (tgt := 122) dX0_countWays_80 (by decide) (fun h80 => by exact absurd h80 (by decide)) (fun h80 => ?_)
  refine ev_aload_n_0 (pc := 83) dX0_countWays_83 ?_
  refine ev_getR (pc := 84) (r := 8) dX0_countWays_84 fl_X0_21 (by decide) (by decide) (by decide) (by decide) ?_
  refine ev_iload_5 (pc := 87) dX0_countWays_87 ?_
  refine ev_aload_n_0 (pc := 89) dX0_countWays_89 ?_
  refine ev_getR (pc := 90) (r := 8) dX0_countWays_90 fl_X0_21 (by decide) (by decide) (by decide) (by decide) ?_
  refine ev_iload_5 (pc := 93) dX0_countWays_93 ?_
  refine ev_iaload' (pc := 95) (j := 5) dX0_countWays_95 (by decide) (by decide) (show vp_in _ 7 from (vin_c (by decide))) (by decide) ?_
  refine ev_bipush (pc := 96) (v := 10) dX0_countWays_96 (by decide) ?_
  refine ev_iload_4 (pc := 98) dX0_countWays_98 ?_
  refine ev_isub (pc := 100) dX0_countWays_100 ?_
  refine ev_imul (pc := 101) dX0_countWays_101 ?_
  refine ev_aload_n_0 (pc := 102) dX0_countWays_102 ?_
  refine ev_getR (pc := 103) (r := 8) dX0_countWays_103 fl_X0_21 (by decide) (by decide) (by decide) (by decide) ?_
  refine ev_iload_5 (pc := 106) dX0_countWays_106 ?_
  refine ev_iconst (pc := 108) (v := 1) dX0_countWays_108 (by decide) ?_
  refine ev_isubc (pc := 109) (v := 4) dX0_countWays_109 (by decide) ?_
  refine ev_iaload' (pc := 110) (j := 4) dX0_countWays_110 (by decide) (by decide) (show vp_in _ 7 from (vin_c (by decide))) (by decide) ?_
  refine ev_iload_4 (pc := 111) dX0_countWays_111 ?_
  refine ev_imul (pc := 113) dX0_countWays_113 ?_
  refine ev_iadd (pc := 114) dX0_countWays_114 ?_
  refine ev_iastore' (pc := 115) (j := 5) dX0_countWays_115 (by decide) (by decide) (show vp_in _ 7 from (vin_c (by decide))) (by decide) ?_
  refine ev_iinc_5 (pc := 116) (v := 4) dX0_countWays_116 (by decide) (by decide) ?_
  refine ev_goto (pc := 119) (tgt := 78) dX0_countWays_119 (by decide) ?_
  refine ev_iload_5 (pc := 78) dX0_countWays_78 ?_
  refine ev_if_le (pc := 80) (tgt := 122) dX0_countWays_80 (by decide) (fun h80 => by exact absurd h80 (by decide)) (fun h80 => ?_)
  refine ev_aload_n_0 (pc := 83) dX0_countWays_83 ?_
  refine ev_getR (pc := 84) (r := 8) dX0_countWays_84 fl_X0_21 (by decide) (by decide) (by decide) (by decide) ?_
  refine ev_iload_5 (pc := 87) dX0_countWays_87 ?_
  refine ev_aload_n_0 (pc := 89) dX0_countWays_89 ?_
  refine ev_getR (pc := 90) (r := 8) dX0_countWays_90 fl_X0_21 (by decide) (by decide) (by decide) (by decide) ?_
  refine ev_iload_5 (pc := 93) dX0_countWays_93 ?_
  refine ev_iaload' (pc := 95) (j := 4) dX0_countWays_95 (by decide) (by decide) (show vp_in _ 7 from (vin_c (by decide))) (by decide) ?_
  refine ev_bipush (pc := 96) (v := 10) dX0_countWays_96 (by decide) ?_
  refine ev_iload_4 (pc := 98) dX0_countWays_98 ?_
  refine ev_isub (pc := 100) dX0_countWays_100 ?_
  refine ev_imul (pc := 101) dX0_countWays_101 ?_
  refine ev_aload_n_0 (pc := 102) dX0_countWays_102 ?_
  refine ev_getR (pc := 103) (r := 8) dX0_countWays_103 fl_X0_21 (by decide) (by decide) (by decide) (by decide) ?_
  refine ev_iload_5 (pc := 106) dX0_countWays_106 ?_
  refine ev_iconst (pc := 108) (v := 1) dX0_countWays_108 (by decide) ?_
  refine ev_isubc (pc := 109) (v := 3) dX0_countWays_109 (by decide) ?_
  refine ev_iaload' (pc := 110) (j := 3) dX0_countWays_110 (by decide) (by decide) (show vp_in _ 7 from (vin_c (by decide))) (by decide) ?_
  refine ev_iload_4 (pc := 111) dX0_countWays_111 ?_
  refine ev_imul (pc := 113) dX0_countWays_113 ?_
  refine ev_iadd (pc := 114) dX0_countWays_114 ?_
  refine ev_iastore' (pc := 115) (j := 4) dX0_countWays_115 (by decide) (by decide) (show vp_in _ 7 from (vin_c (by decide))) (by decide) ?_
  refine ev_iinc_5 (pc := 116) (v := 3) dX0_countWays_116 (by decide) (by decide) ?_
  refine ev_goto (pc := 119) (tgt := 78) dX0_countWays_119 (by decide) ?_
  refine ev_iload_5 (pc := 78) dX0_countWays_78 ?_
  refine ev_if_le (pc := 80) (tgt := 122) dX0_countWays_80 (by decide) (fun h80 => by exact absurd h80 (by decide)) (fun h80 => ?_)
  refine ev_aload_n_0 (pc := 83) dX0_countWays_83 ?_
  refine ev_getR (pc := 84) (r := 8) dX0_countWays_84 fl_X0_21 (by decide) (by decide) (by decide) (by decide) ?_
  refine ev_iload_5 (pc := 87) dX0_countWays_87 ?_
  refine ev_aload_n_0 (pc := 89) dX0_countWays_89 ?_
  refine ev_getR (pc := 90) (r := 8) dX0_countWays_90 fl_X0_21 (by decide) (by decide) (by decide) (by decide) ?_
  refine ev_iload_5 (pc := 93) dX0_countWays_93 ?_
  refine ev_iaload' (pc := 95) (j := 3) dX0_countWays_95 (by decide) (by decide) (show vp_in _ 7 from (vin_c (by decide))) (by decide) ?_
  refine ev_bipush (pc := 96) (v := 10) dX0_countWays_96 (by decide) ?_
  refine ev_iload_4 (pc := 98) dX0_countWays_98 ?_
  refine ev_isub (pc := 100) dX0_countWays_100 ?_
  refine ev_imul (pc := 101) dX0_countWays_101 ?_
  refine ev_aload_n_0 (pc := 102) dX0_countWays_102 ?_
  refine ev_getR (pc := 103) (r := 8) dX0_countWays_103 fl_X0_21 (by decide) (by decide) (by decide) (by decide) ?_
  refine ev_iload_5 (pc := 106) dX0_countWays_106 ?_
  refine ev_iconst (pc := 108) (v := 1) dX0_countWays_108 (by decide) ?_
  refine ev_isubc (pc := 109) (v := 2) dX0_countWays_109 (by decide) ?_
  refine ev_iaload' (pc := 110) (j := 2) dX0_countWays_110 (by decide) (by decide) (show vp_in _ 7 from (vin_c (by decide))) (by decide) ?_
  refine ev_iload_4 (pc := 111) dX0_countWays_111 ?_
  refine ev_imul (pc := 113) dX0_countWays_113 ?_
  refine ev_iadd (pc := 114) dX0_countWays_114 ?_
  refine ev_iastore' (pc := 115) (j := 3) dX0_countWays_115 (by decide) (by decide) (show vp_in _ 7 from (vin_c (by decide))) (by decide) ?_
  refine ev_iinc_5 (pc := 116) (v := 2) dX0_countWays_116 (by decide) (by decide) ?_
  refine ev_goto (pc := 119) (tgt := 78) dX0_countWays_119 (by decide) ?_
  refine ev_iload_5 (pc := 78) dX0_countWays_78 ?_
  refine ev_if_le (pc := 80) (tgt := 122) dX0_countWays_80 (by decide) (fun h80 => by exact absurd h80 (by decide)) (fun h80 => ?_)
  refine ev_aload_n_0 (pc := 83) dX0_countWays_83 ?_
  refine ev_getR (pc := 84) (r := 8) dX0_countWays_84 fl_X0_21 (by decide) (by decide) (by decide) (by decide) ?_
  refine ev_iload_5 (pc := 87) dX0_countWays_87 ?_
  refine ev_aload_n_0 (pc := 89) dX0_countWays_89 ?_
  refine ev_getR (pc := 90) (r := 8) dX0_countWays_90 fl_X0_21 (by decide) (by decide) (by decide) (by decide) ?_
  refine ev_iload_5 (pc := 93) dX0_countWays_93 ?_
  refine ev_iaload' (pc := 95) (j := 2) dX0_countWays_95 (by decide) (by decide) (show vp_in _ 7 from (vin_c (by decide))) (by decide) ?_
  refine ev_bipush (pc := 96) (v := 10) dX0_countWays_96 (by decide) ?_
  refine ev_iload_4 (pc := 98) dX0_countWays_98 ?_
  refine ev_isub (pc := 100) dX0_countWays_100 ?_
  refine ev_imul (pc := 101) dX0_countWays_101 ?_
  refine ev_aload_n_0 (pc := 102) dX0_countWays_102 ?_
  refine ev_getR (pc := 103) (r := 8) dX0_countWays_103 fl_X0_21 (by decide) (by decide) (by decide) (by decide) ?_
  refine ev_iload_5 (pc := 106) dX0_countWays_106 ?_
  refine ev_iconst (pc := 108) (v := 1) dX0_countWays_108 (by decide) ?_
  refine ev_isubc (pc := 109) (v := 1) dX0_countWays_109 (by decide) ?_
  refine ev_iaload' (pc := 110) (j := 1) dX0_countWays_110 (by decide) (by decide) (show vp_in _ 7 from (vin_c (by decide))) (by decide) ?_
  refine ev_iload_4 (pc := 111) dX0_countWays_111 ?_
  refine ev_imul (pc := 113) dX0_countWays_113 ?_
  refine ev_iadd (pc := 114) dX0_countWays_114 ?_
  refine ev_iastore' (pc := 115) (j := 2) dX0_countWays_115 (by decide) (by decide) (show vp_in _ 7 from (vin_c (by decide))) (by decide) ?_
  refine ev_iinc_5 (pc := 116) (v := 1) dX0_countWays_116 (by decide) (by decide) ?_
  refine ev_goto (pc := 119) (tgt := 78) dX0_countWays_119 (by decide) ?_
  refine ev_iload_5 (pc := 78) dX0_countWays_78 ?_
  refine ev_if_le (pc := 80) (tgt := 122) dX0_countWays_80 (by decide) (fun h80 => by exact absurd h80 (by decide)) (fun h80 => ?_)
  refine ev_aload_n_0 (pc := 83) dX0_countWays_83 ?_
  refine ev_getR (pc := 84) (r := 8) dX0_countWays_84 fl_X0_21 (by decide) (by decide) (by decide) (by decide) ?_
  refine ev_iload_5 (pc := 87) dX0_countWays_87 ?_
  refine ev_aload_n_0 (pc := 89) dX0_countWays_89 ?_
  refine ev_getR (pc := 90) (r := 8) dX0_countWays_90 fl_X0_21 (by decide) (by decide) (by decide) (by decide) ?_
  refine ev_iload_5 (pc := 93) dX0_countWays_93 ?_
  refine ev_iaload' (pc := 95) (j := 1) dX0_countWays_95 (by decide) (by decide) (show vp_in _ 7 from (vin_c (by decide))) (by decide) ?_
  refine ev_bipush (pc := 96) (v := 10) dX0_countWays_96 (by decide) ?_
  refine ev_iload_4 (pc := 98) dX0_countWays_98 ?_
  refine ev_isub (pc := 100) dX0_countWays_100 ?_
  refine ev_imul (pc := 101) dX0_countWays_101 ?_
  refine ev_aload_n_0 (pc := 102) dX0_countWays_102 ?_
  refine ev_getR (pc := 103) (r := 8) dX0_countWays_103 fl_X0_21 (by decide) (by decide) (by decide) (by decide) ?_
  refine ev_iload_5 (pc := 106) dX0_countWays_106 ?_
  refine ev_iconst (pc := 108) (v := 1) dX0_countWays_108 (by decide) ?_
  refine ev_isubc (pc := 109) (v := 0) dX0_countWays_109 (by decide) ?_
  refine ev_iaload' (pc := 110) (j := 0) dX0_countWays_110 (by decide) (by decide) (show vp_in _ 7 from (vin_c (by decide))) (by decide) ?_
  refine ev_iload_4 (pc := 111) dX0_countWays_111 ?_
  refine ev_imul (pc := 113) dX0_countWays_113 ?_
  refine ev_iadd (pc := 114) dX0_countWays_114 ?_
  refine ev_iastore' (pc := 115) (j := 1) dX0_countWays_115 (by decide) (by decide) (show vp_in _ 7 from (vin_c (by decide))) (by decide) ?_
  refine ev_iinc_5 (pc := 116) (v := 0) dX0_countWays_116 (by decide) (by decide) ?_
  refine ev_goto (pc := 119) (tgt := 78) dX0_countWays_119 (by decide) ?_
  refine ev_iload_5 (pc := 78) dX0_countWays_78 ?_
  refine ev_if_le (pc := 80) (tgt := 122) dX0_countWays_80 (by decide) (fun h80 => ?_) (fun h80 => by exact absurd h80 (by decide))
  refine ev_aload_n_0 (pc := 122) dX0_countWays_122 ?_
  refine ev_getR (pc := 123) (r := 8) dX0_countWays_123 fl_X0_21 (by decide) (by decide) (by decide) (by decide) ?_
  refine ev_iconst (pc := 126) (v := 0) dX0_countWays_126 (by decide) ?_
  refine ev_dup2 (pc := 127) dX0_countWays_127 rfl rfl ?_
  refine ev_iaload' (pc := 128) (j := 0) dX0_countWays_128 (by decide) (by decide) (show vp_in _ 7 from (vin_c (by decide))) (by decide) ?_
  refine ev_bipush (pc := 129) (v := 10) dX0_countWays_129 (by decide) ?_
  refine ev_iload_4 (pc := 131) dX0_countWays_131 ?_
  refine ev_isub (pc := 133) dX0_countWays_133 ?_
  refine ev_imul (pc := 134) dX0_countWays_134 ?_
  refine ev_iastore' (pc := 135) (j := 0) dX0_countWays_135 (by decide) (by decide) (show vp_in _ 7 from (vin_c (by decide))) (by decide) ?_
  refine ev_iinc_3 (pc := 136) (v := 5) dX0_countWays_136 (by decide) (by decide) ?_
  refine ev_goto (pc := 139) (tgt := 17) dX0_countWays_139 (by decide) ?_
  refine ev_null_4 (ev_null_5 ?_)
  refine ev_eq rfl rfl ?_ K
  refine Prod.ext (funext fun k => funext fun j => ?_) rfl
  by_cases hk : k = 8
  · subst hk
    rcases j with _ | _ | _ | _ | _ | _ | _ | j <;> simp [wr, rowSet, cwStep]
  · simp [wr, rowSet, hk]
set_option maxRecDepth 100000 in
theorem b2_X0_countWays_5 {S : Scr} (x c : Int32) (w : Nat → Int32) (σ : Sto) {Q : Option Value → Sto → Prop} (K : Ev S RX0 cX0_countWays 6 none 2 17 [.ref 5, .ref 40, .int x, .int (nI 6), .null, .null] [] (rowSet σ 8 (cwStep c 5 w)) (Q)) : Ev S RX0 cX0_countWays 6 none 2 73 [.ref 5, .ref 40, .int x, .int 5, .int c, .null] [] (rowSet σ 8 w) (Q) := by
  refine ev_iload_n_3 (pc := 73) dX0_countWays_73 ?_
  refine ev_iconst (pc := 74) (v := 1) dX0_countWays_74 (by decide) ?_
  refine ev_iaddc (pc := 75) (v := 6) dX0_countWays_75 (by decide) ?_
  refine ev_istore_5 (pc := 76) dX0_countWays_76 (by decide) ?_
  refine ev_iload_5 (pc := 78) dX0_countWays_78 ?_
  refine ev_if_le (pc := 80) (tgt := 122) dX0_countWays_80 (by decide) (fun h80 => by exact absurd h80 (by decide)) (fun h80 => ?_)
  refine ev_aload_n_0 (pc := 83) dX0_countWays_83 ?_
  refine ev_getR (pc := 84) (r := 8) dX0_countWays_84 fl_X0_21 (by decide) (by decide) (by decide) (by decide) ?_
  refine ev_iload_5 (pc := 87) dX0_countWays_87 ?_
  refine ev_aload_n_0 (pc := 89) dX0_countWays_89 ?_
  refine ev_getR (pc := 90) (r := 8) dX0_countWays_90 fl_X0_21 (by decide) (by decide) (by decide) (by decide) ?_
  refine ev_iload_5 (pc := 93) dX0_countWays_93 ?_
  refine ev_iaload' (pc := 95) (j := 6) dX0_countWays_95 (by decide) (by decide) (show vp_in _ 7 from (vin_c (by decide))) (by decide) ?_
  refine ev_bipush (pc := 96) (v := 10) dX0_countWays_96 (by decide) ?_
  refine ev_iload_4 (pc := 98) dX0_countWays_98 ?_
  refine ev_isub (pc := 100) dX0_countWays_100 ?_
  refine ev_imul (pc := 101) dX0_countWays_101 ?_
  refine ev_aload_n_0 (pc := 102) dX0_countWays_102 ?_
  refine ev_getR (pc := 103) (r := 8) dX0_countWays_103 fl_X0_21 (by decide) (by decide) (by decide) (by decide) ?_
  refine ev_iload_5 (pc := 106) dX0_countWays_106 ?_
  refine ev_iconst (pc := 108) (v := 1) dX0_countWays_108 (by decide) ?_
  refine ev_isubc (pc := 109) (v := 5) dX0_countWays_109 (by decide) ?_
  refine ev_iaload' (pc := 110) (j := 5) dX0_countWays_110 (by decide) (by decide) (show vp_in _ 7 from (vin_c (by decide))) (by decide) ?_
  refine ev_iload_4 (pc := 111) dX0_countWays_111 ?_
  refine ev_imul (pc := 113) dX0_countWays_113 ?_
  refine ev_iadd (pc := 114) dX0_countWays_114 ?_
  refine ev_iastore' (pc := 115) (j := 6) dX0_countWays_115 (by decide) (by decide) (show vp_in _ 7 from (vin_c (by decide))) (by decide) ?_
  refine ev_iinc_5 (pc := 116) (v := 5) dX0_countWays_116 (by decide) (by decide) ?_
  refine ev_goto (pc := 119) (tgt := 78) dX0_countWays_119 (by decide) ?_
  refine ev_iload_5 (pc := 78) dX0_countWays_78 ?_
  refine ev_if_le (pc := 80) (tgt := 122) dX0_countWays_80 (by decide) (fun h80 => by exact absurd h80 (by decide)) (fun h80 => ?_)
  refine ev_aload_n_0 (pc := 83) dX0_countWays_83 ?_
  refine ev_getR (pc := 84) (r := 8) dX0_countWays_84 fl_X0_21 (by decide) (by decide) (by decide) (by decide) ?_
  refine ev_iload_5 (pc := 87) dX0_countWays_87 ?_
  refine ev_aload_n_0 (pc := 89) dX0_countWays_89 ?_
  refine ev_getR (pc := 90) (r := 8) dX0_countWays_90 fl_X0_21 (by decide) (by decide) (by decide) (by decide) ?_
  refine ev_iload_5 (pc := 93) dX0_countWays_93 ?_
  refine ev_iaload' (pc := 95) (j := 5) dX0_countWays_95 (by decide) (by decide) (show vp_in _ 7 from (vin_c (by decide))) (by decide) ?_
  refine ev_bipush (pc := 96) (v := 10) dX0_countWays_96 (by decide) ?_
  refine ev_iload_4 (pc := 98) dX0_countWays_98 ?_
  refine ev_isub (pc := 100) dX0_countWays_100 ?_
  refine ev_imul (pc := 101) dX0_countWays_101 ?_
  refine ev_aload_n_0 (pc := 102) dX0_countWays_102 ?_
  refine ev_getR (pc := 103) (r := 8) dX0_countWays_103 fl_X0_21 (by decide) (by decide) (by decide) (by decide) ?_
  refine ev_iload_5 (pc := 106) dX0_countWays_106 ?_
  refine ev_iconst (pc := 108) (v := 1) dX0_countWays_108 (by decide) ?_
  refine ev_isubc (pc := 109) (v := 4) dX0_countWays_109 (by decide) ?_
  refine ev_iaload' (pc := 110) (j := 4) dX0_countWays_110 (by decide) (by decide) (show vp_in _ 7 from (vin_c (by decide))) (by decide) ?_
  refine ev_iload_4 (pc := 111) dX0_countWays_111 ?_
  refine ev_imul (pc := 113) dX0_countWays_113 ?_
  refine ev_iadd (pc := 114) dX0_countWays_114 ?_
  refine ev_iastore' (pc := 115) (j := 5) dX0_countWays_115 (by decide) (by decide) (show vp_in _ 7 from (vin_c (by decide))) (by decide) ?_
  refine ev_iinc_5 (pc := 116) (v := 4) dX0_countWays_116 (by decide) (by decide) ?_
  refine ev_goto (pc := 119) (tgt := 78) dX0_countWays_119 (by decide) ?_
  refine ev_iload_5 (pc := 78) dX0_countWays_78 ?_
  refine ev_if_le (pc := 80) (tgt := 122) dX0_countWays_80 (by decide) (fun h80 => by exact absurd h80 (by decide)) (fun h80 => ?_)
  refine ev_aload_n_0 (pc := 83) dX0_countWays_83 ?_
  refine ev_getR (pc := 84) (r := 8) dX0_countWays_84 fl_X0_21 (by decide) (by decide) (by decide) (by decide) ?_
  refine ev_iload_5 (pc := 87) dX0_countWays_87 ?_
  refine ev_aload_n_0 (pc := 89) dX0_countWays_89 ?_
  refine ev_getR (pc := 90) (r := 8) dX0_countWays_90 fl_X0_21 (by decide) (by decide) (by decide) (by decide) ?_
  refine ev_iload_5 (pc := 93) dX0_countWays_93 ?_
  refine ev_iaload' (pc := 95) (j := 4) dX0_countWays_95 (by decide) (by decide) (show vp_in _ 7 from (vin_c (by decide))) (by decide) ?_
  refine ev_bipush (pc := 96) (v := 10) dX0_countWays_96 (by decide) ?_
  refine ev_iload_4 (pc := 98) dX0_countWays_98 ?_
  refine ev_isub (pc := 100) dX0_countWays_100 ?_
  refine ev_imul (pc := 101) dX0_countWays_101 ?_
  refine ev_aload_n_0 (pc := 102) dX0_countWays_102 ?_
  refine ev_getR (pc := 103) (r := 8) dX0_countWays_103 fl_X0_21 (by decide) (by decide) (by decide) (by decide) ?_
  refine ev_iload_5 (pc := 106) dX0_countWays_106 ?_
  refine ev_iconst (pc := 108) (v := 1) dX0_countWays_108 (by decide) ?_
  refine ev_isubc (pc := 109) (v := 3) dX0_countWays_109 (by decide) ?_
  refine ev_iaload' (pc := 110) (j := 3) dX0_countWays_110 (by decide) (by decide) (show vp_in _ 7 from (vin_c (by decide))) (by decide) ?_
  refine ev_iload_4 (pc := 111) dX0_countWays_111 ?_
  refine ev_imul (pc := 113) dX0_countWays_113 ?_
  refine ev_iadd (pc := 114) dX0_countWays_114 ?_
  refine ev_iastore' (pc := 115) (j := 4) dX0_countWays_115 (by decide) (by decide) (show vp_in _ 7 from (vin_c (by decide))) (by decide) ?_
  refine ev_iinc_5 (pc := 116) (v := 3) dX0_countWays_116 (by decide) (by decide) ?_
  refine ev_goto (pc := 119) (tgt := 78) dX0_countWays_119 (by decide) ?_
  refine ev_iload_5 (pc := 78) dX0_countWays_78 ?_
  refine ev_if_le (pc := 80) (tgt := 122) dX0_countWays_80 (by decide) (fun h80 => by exact absurd h80 (by decide)) (fun h80 => ?_)
  refine ev_aload_n_0 (pc := 83) dX0_countWays_83 ?_
  refine ev_getR (pc := 84) (r := 8) dX0_countWays_84 fl_X0_21 (by decide) (by decide) (by decide) (by decide) ?_
  refine ev_iload_5 (pc := 87) dX0_countWays_87 ?_
  refine ev_aload_n_0 (pc := 89) dX0_countWays_89 ?_
  refine ev_getR (pc := 90) (r := 8) dX0_countWays_90 fl_X0_21 (by decide) (by decide) (by decide) (by decide) ?_
  refine ev_iload_5 (pc := 93) dX0_countWays_93 ?_
  refine ev_iaload' (pc := 95) (j := 3) dX0_countWays_95 (by decide) (by decide) (show vp_in _ 7 from (vin_c (by decide))) (by decide) ?_
  refine ev_bipush (pc := 96) (v := 10) dX0_countWays_96 (by decide) ?_
  refine ev_iload_4 (pc := 98) dX0_countWays_98 ?_
  refine ev_isub (pc := 100) dX0_countWays_100 ?_
  refine ev_imul (pc := 101) dX0_countWays_101 ?_
  refine ev_aload_n_0 (pc := 102) dX0_countWays_102 ?_
  refine ev_getR (pc := 103) (r := 8) dX0_countWays_103 fl_X0_21 (by decide) (by decide) (by decide) (by decide) ?_
  refine ev_iload_5 (pc := 106) dX0_countWays_106 ?_
  refine ev_iconst (pc := 108) (v := 1) dX0_countWays_108 (by decide) ?_
  refine ev_isubc (pc := 109) (v := 2) dX0_countWays_109 (by decide) ?_
  refine ev_iaload' (pc := 110) (j := 2) dX0_countWays_110 (by decide) (by decide) (show vp_in _ 7 from (vin_c (by decide))) (by decide) ?_
  refine ev_iload_4 (pc := 111) dX0_countWays_111 ?_
  refine ev_imul (pc := 113) dX0_countWays_113 ?_
  refine ev_iadd (pc := 114) dX0_countWays_114 ?_
  refine ev_iastore' (pc := 115) (j := 3) dX0_countWays_115 (by decide) (by decide) (show vp_in _ 7 from (vin_c (by decide))) (by decide) ?_
  refine ev_iinc_5 (pc := 116) (v := 2) dX0_countWays_116 (by decide) (by decide) ?_
  refine ev_goto (pc := 119) (tgt := 78) dX0_countWays_119 (by decide) ?_
  refine ev_iload_5 (pc := 78) dX0_countWays_78 ?_
  refine ev_if_le (pc := 80) (tgt := 122) dX0_countWays_80 (by decide) (fun h80 => by exact absurd h80 (by decide)) (fun h80 => ?_)
  refine ev_aload_n_0 (pc := 83) dX0_countWays_83 ?_
  refine ev_getR (pc := 84) (r := 8) dX0_countWays_84 fl_X0_21 (by decide) (by decide) (by decide) (by decide) ?_
  refine ev_iload_5 (pc := 87) dX0_countWays_87 ?_
  refine ev_aload_n_0 (pc := 89) dX0_countWays_89 ?_
  refine ev_getR (pc := 90) (r := 8) dX0_countWays_90 fl_X0_21 (by decide) (by decide) (by decide) (by decide) ?_
  refine ev_iload_5 (pc := 93) dX0_countWays_93 ?_
  refine ev_iaload' (pc := 95) (j := 2) dX0_countWays_95 (by decide) (by decide) (show vp_in _ 7 from (vin_c (by decide))) (by decide) ?_
  refine ev_bipush (pc := 96) (v := 10) dX0_countWays_96 (by decide) ?_
  refine ev_iload_4 (pc := 98) dX0_countWays_98 ?_
  refine ev_isub (pc := 100) dX0_countWays_100 ?_
  refine ev_imul (pc := 101) dX0_countWays_101 ?_
  refine ev_aload_n_0 (pc := 102) dX0_countWays_102 ?_
  refine ev_getR (pc := 103) (r := 8) dX0_countWays_103 fl_X0_21 (by decide) (by decide) (by decide) (by decide) ?_
  refine ev_iload_5 (pc := 106) dX0_countWays_106 ?_
  refine ev_iconst (pc := 108) (v := 1) dX0_countWays_108 (by decide) ?_
  refine ev_isubc (pc := 109) (v := 1) dX0_countWays_109 (by decide) ?_
  refine ev_iaload' (pc := 110) (j := 1) dX0_countWays_110 (by decide) (by decide) (show vp_in _ 7 from (vin_c (by decide))) (by decide) ?_
  refine ev_iload_4 (pc := 111) dX0_countWays_111 ?_
  refine ev_imul (pc := 113) dX0_countWays_113 ?_
  refine ev_iadd (pc := 114) dX0_countWays_114 ?_
  refine ev_iastore' (pc := 115) (j := 2) dX0_countWays_115 (by decide) (by decide) (show vp_in _ 7 from (vin_c (by decide))) (by decide) ?_
  refine ev_iinc_5 (pc := 116) (v := 1) dX0_countWays_116 (by decide) (by decide) ?_
  refine ev_goto (pc := 119) (tgt := 78) dX0_countWays_119 (by decide) ?_
  refine ev_iload_5 (pc := 78) dX0_countWays_78 ?_
  refine ev_if_le (pc := 80) (tgt := 122) dX0_countWays_80 (by decide) (fun h80 => by exact absurd h80 (by decide)) (fun h80 => ?_)
  refine ev_aload_n_0 (pc := 83) dX0_countWays_83 ?_
  refine ev_getR (pc := 84) (r := 8) dX0_countWays_84 fl_X0_21 (by decide) (by decide) (by decide) (by decide) ?_
  refine ev_iload_5 (pc := 87) dX0_countWays_87 ?_
  refine ev_aload_n_0 (pc := 89) dX0_countWays_89 ?_
  refine ev_getR (pc := 90) (r := 8) dX0_countWays_90 fl_X0_21 (by decide) (by decide) (by decide) (by decide) ?_
  refine ev_iload_5 (pc := 93) dX0_countWays_93 ?_
  refine ev_iaload' (pc := 95) (j := 1) dX0_countWays_95 (by decide) (by decide) (show vp_in _ 7 from (vin_c (by decide))) (by decide) ?_
  refine ev_bipush (pc := 96) (v := 10) dX0_countWays_96 (by decide) ?_
  refine ev_iload_4 (pc := 98) dX0_countWays_98 ?_
  refine ev_isub (pc := 100) dX0_countWays_100 ?_
  refine ev_imul (pc := 101) dX0_countWays_101 ?_
  refine ev_aload_n_0 (pc := 102) dX0_countWays_102 ?_
  refine ev_getR (pc := 103) (r := 8) dX0_countWays_103 fl_X0_21 (by decide) (by decide) (by decide) (by decide) ?_
  refine ev_iload_5 (pc := 106) dX0_countWays_106 ?_
  refine ev_iconst (pc := 108) (v := 1) dX0_countWays_108 (by decide) ?_
  refine ev_isubc (pc := 109) (v := 0) dX0_countWays_109 (by decide) ?_
  refine ev_iaload' (pc := 110) (j := 0) dX0_countWays_110 (by decide) (by decide) (show vp_in _ 7 from (vin_c (by decide))) (by decide) ?_
  refine ev_iload_4 (pc := 111) dX0_countWays_111 ?_
  refine ev_imul (pc := 113) dX0_countWays_113 ?_
  refine ev_iadd (pc := 114) dX0_countWays_114 ?_
  refine ev_iastore' (pc := 115) (j := 1) dX0_countWays_115 (by decide) (by decide) (show vp_in _ 7 from (vin_c (by decide))) (by decide) ?_
  refine ev_iinc_5 (pc := 116) (v := 0) dX0_countWays_116 (by decide) (by decide) ?_
  refine ev_goto (pc := 119) (tgt := 78) dX0_countWays_119 (by decide) ?_
  refine ev_iload_5 (pc := 78) dX0_countWays_78 ?_
  refine ev_if_le (pc := 80) (tgt := 122) dX0_countWays_80 (by decide) (fun h80 => ?_) (fun h80 => by exact absurd h80 (by decide))
  refine ev_aload_n_0 (pc := 122) dX0_countWays_122 ?_
  refine ev_getR (pc := 123) (r := 8) dX0_countWays_123 fl_X0_21 (by decide) (by decide) (by decide) (by decide) ?_
  refine ev_iconst (pc := 126) (v := 0) dX0_countWays_126 (by decide) ?_
  refine ev_dup2 (pc := 127) dX0_countWays_127 rfl rfl ?_
  refine ev_iaload' (pc := 128) (j := 0) dX0_countWays_128 (by decide) (by decide) (show vp_in _ 7 from (vin_c (by decide))) (by decide) ?_
  refine ev_bipush (pc := 129) (v := 10) dX0_countWays_129 (by decide) ?_
  refine ev_iload_4 (pc := 131) dX0_countWays_131 ?_
  refine ev_isub (pc := 133) dX0_countWays_133 ?_
  refine ev_imul (pc := 134) dX0_countWays_134 ?_
  refine ev_iastore' (pc := 135) (j := 0) dX0_countWays_135 (by decide) (by decide) (show vp_in _ 7 from (vin_c (by decide))) (by decide) ?_
  refine ev_iinc_3 (pc := 136) (v := 6) dX0_countWays_136 (by decide) (by decide) ?_
  refine ev_goto (pc := 139) (tgt := 17) dX0_countWays_139 (by decide) ?_
  refine ev_null_4 (ev_null_5 ?_)
  refine ev_eq rfl rfl ?_ K
  refine Prod.ext (funext fun k => funext fun j => ?_) rfl
  by_cases hk : k = 8
  · subst hk
    rcases j with _ | _ | _ | _ | _ | _ | _ | j <;> simp [wr, rowSet, cwStep]
  · simp [wr, rowSet, hk]
theorem b2_X0_countWays {S : Scr} (x c : Int32) (b : Nat) (hb : b < 6) (w : Nat → Int32) (σ : Sto) {Q : Option Value → Sto → Prop} (K : Ev S RX0 cX0_countWays 6 none 2 17 [.ref 5, .ref 40, .int x, .int (nI (b + 1)), .null, .null] [] (rowSet σ 8 (cwStep c b w)) (Q)) : Ev S RX0 cX0_countWays 6 none 2 73 [.ref 5, .ref 40, .int x, .int (nI b), .int c, .null] [] (rowSet σ 8 w) (Q) := by
  match b, hb with
  | 0, _ => exact b2_X0_countWays_0 x c w σ K
  | 1, _ => exact b2_X0_countWays_1 x c w σ K
  | 2, _ => exact b2_X0_countWays_2 x c w σ K
  | 3, _ => exact b2_X0_countWays_3 x c w σ K
  | 4, _ => exact b2_X0_countWays_4 x c w σ K
  | 5, _ => exact b2_X0_countWays_5 x c w σ K
theorem m_X0_countWays {S : Scr} (n : Nat) (hn : n ≤ 6) (x : Int32) (σ : Sto) (hm : σ.1 5 1 = nI n) : Mt S yX0_countWays cX0_countWays 6 none 2 [.ref 5, .ref 40, .int x] σ (Is none (rowSet σ 8 (cwF σ x n))) := by
  refine mt_of (ls := [.ref 5, .ref 40, .int x, .null, .null, .null]) (by decide) rfl (Nat.le_of_ble_eq_true rfl) (by simp [Value.category]) ?_
  refine ev_aload_n_0 (pc := 0) dX0_countWays_0 ?_
  refine ev_getR (pc := 1) (r := 8) dX0_countWays_1 fl_X0_21 (by decide) (by decide) (by decide) (by decide) ?_
  refine ev_iconst (pc := 4) (v := 0) dX0_countWays_4 (by decide) ?_
  refine ev_callS0 (pc := 5) dX0_countWays_5 ml_X0_105 (m_J_fill (n := 7) ⟨by decide, by decide, by decide⟩ (by decide) 0 σ) rfl (by decide) rfl (Nat.le_of_ble_eq_true rfl) ?_
  refine ev_aload_n_0 (pc := 8) dX0_countWays_8 ?_
  refine ev_getR (pc := 9) (r := 8) dX0_countWays_9 fl_X0_21 (by decide) (by decide) (by decide) (by decide) ?_
  refine ev_iconst (pc := 12) (v := 0) dX0_countWays_12 (by decide) ?_
  refine ev_iconst (pc := 13) (v := 1) dX0_countWays_13 (by decide) ?_
  refine ev_iastore' (pc := 14) (j := 0) dX0_countWays_14 (by decide) (by decide) (show vp_in _ 7 from (vin_c (by decide))) (by decide) ?_
  refine ev_iconst (pc := 15) (v := 0) dX0_countWays_15 (by decide) ?_
  refine ev_istore_n_3 (pc := 16) dX0_countWays_16 (by decide) ?_
  refine ev_eq (σ' := rowSet σ 8 (fun j => if j = 0 then 1 else if j < 7 then 0 else σ.1 8 j)) rfl rfl (by
    refine Prod.ext (funext fun k => funext fun j => ?_) rfl
    by_cases hk : k = 8
    · subst hk
      by_cases hj : j = 0 <;> simp [wr, flW, rowSet, hj]
    · simp [wr, flW, rowSet, hk]) ?_
  have hc : ∀ (w : Nat → Int32) (b : Nat), b < 6 → calmA (rowSet σ 8 w) x b = calmA σ x b := by
    intro w b hb
    unfold calmA
    rw [rowSet_ne (by omega), rowSet_ne (by omega), rowSet_ne (by omega)]
  refine for_up n (fun i w => Ev S RX0 cX0_countWays 6 none 2 17 [.ref 5, .ref 40, .int x, .int (nI i), .null, .null] [] (rowSet σ 8 w) (Is none (rowSet σ 8 (cwF σ x n)))) (fun b w => cwStep (calmA σ x b) b w) (fun i w hi K => b1_X0_countWays n hn x i hi _ (by rw [rowSet_ne (by decide)]; exact hm) (by rw [hc w i (by omega)]; exact b2_X0_countWays x _ i (by omega) w σ K)) _ ?_
  have hm : ∀ w, (rowSet σ 8 w).1 5 1 = nI n := fun w => by rw [rowSet_ne (by decide)]; exact hm
  refine ev_iload_n_3 (pc := 17) dX0_countWays_17 ?_
  refine ev_aload_n_0 (pc := 18) dX0_countWays_18 ?_
  refine ev_getI (pc := 19) dX0_countWays_19 fl_X0_31 (by decide) (by decide) (by decide) ?_
  refine ev_icmp_ge (pc := 22) (tgt := 142) dX0_countWays_22 (by decide) (fun h22 => ?_) (fun h22 => by exact absurd (by rw [hm]; exact nI_le (Nat.le_refl n) (by omega)) h22)
  exact ev_return (pc := 142) dX0_countWays_142 rfl (⟨rfl, rfl⟩)
def wfD (f : Nat → Int32) (k : Nat) : Int32 := itN (fun i a => a + f (k + i)) (7 - k) 0
set_option maxRecDepth 100000 in
theorem m_X0_waysFrom_0 {S : Scr}  (σ : Sto) : Mt S yX0_waysFrom cX0_waysFrom 4 (some .int) 0 [.ref 5, .int 0] σ (Is (some (.int (wfD (σ.1 8) 0))) σ) := by
  refine mt_of (ls := [.ref 5, .int 0, .null, .null]) (by decide) rfl (Nat.le_of_ble_eq_true rfl) (by simp [Value.category]) ?_
  refine ev_iconst (pc := 0) (v := 0) dX0_waysFrom_0 (by decide) ?_
  refine ev_istore_n_2 (pc := 1) dX0_waysFrom_1 (by decide) ?_
  refine ev_iload_n_1 (pc := 2) dX0_waysFrom_2 ?_
  refine ev_istore_n_3 (pc := 3) dX0_waysFrom_3 (by decide) ?_
  refine ev_iload_n_3 (pc := 4) dX0_waysFrom_4 ?_
  refine ev_bipush (pc := 5) (v := 6) dX0_waysFrom_5 (by decide) ?_
  refine ev_icmp_gt (pc := 7) (tgt := 25) dX0_waysFrom_7 (by decide) (fun h7 => by exact absurd h7 (by decide)) (fun h7 => ?_)
  refine ev_iload_n_2 (pc := 10) dX0_waysFrom_10 ?_
  refine ev_aload_n_0 (pc := 11) dX0_waysFrom_11 ?_
  refine ev_getR (pc := 12) (r := 8) dX0_waysFrom_12 fl_X0_21 (by decide) (by decide) (by decide) (by decide) ?_
  refine ev_iload_n_3 (pc := 15) dX0_waysFrom_15 ?_
  refine ev_iaload' (pc := 16) (j := 0) dX0_waysFrom_16 (by decide) (by decide) (show vp_in _ 7 from (vin_c (by decide))) (by decide) ?_
  refine ev_iadd (pc := 17) dX0_waysFrom_17 ?_
  refine ev_istore_n_2 (pc := 18) dX0_waysFrom_18 (by decide) ?_
  refine ev_iinc_3 (pc := 19) (v := 1) dX0_waysFrom_19 (by decide) (by decide) ?_
  refine ev_goto (pc := 22) (tgt := 4) dX0_waysFrom_22 (by decide) ?_
  refine ev_iload_n_3 (pc := 4) dX0_waysFrom_4 ?_
  refine ev_bipush (pc := 5) (v := 6) dX0_waysFrom_5 (by decide) ?_
  refine ev_icmp_gt (pc := 7) (tgt := 25) dX0_waysFrom_7 (by decide) (fun h7 => by exact absurd h7 (by decide)) (fun h7 => ?_)
  refine ev_iload_n_2 (pc := 10) dX0_waysFrom_10 ?_
  refine ev_aload_n_0 (pc := 11) dX0_waysFrom_11 ?_
  refine ev_getR (pc := 12) (r := 8) dX0_waysFrom_12 fl_X0_21 (by decide) (by decide) (by decide) (by decide) ?_
  refine ev_iload_n_3 (pc := 15) dX0_waysFrom_15 ?_
  refine ev_iaload' (pc := 16) (j := 1) dX0_waysFrom_16 (by decide) (by decide) (show vp_in _ 7 from (vin_c (by decide))) (by decide) ?_
  refine ev_iadd (pc := 17) dX0_waysFrom_17 ?_
  refine ev_istore_n_2 (pc := 18) dX0_waysFrom_18 (by decide) ?_
  refine ev_iinc_3 (pc := 19) (v := 2) dX0_waysFrom_19 (by decide) (by decide) ?_
  refine ev_goto (pc := 22) (tgt := 4) dX0_waysFrom_22 (by decide) ?_
  refine ev_iload_n_3 (pc := 4) dX0_waysFrom_4 ?_
  refine ev_bipush (pc := 5) (v := 6) dX0_waysFrom_5 (by decide) ?_
  refine ev_icmp_gt (pc := 7) (tgt := 25) dX0_waysFrom_7 (by decide) (fun h7 => by exact absurd h7 (by decide)) (fun h7 => ?_)
  refine ev_iload_n_2 (pc := 10) dX0_waysFrom_10 ?_
  refine ev_aload_n_0 (pc := 11) dX0_waysFrom_11 ?_
  refine ev_getR (pc := 12) (r := 8) dX0_waysFrom_12 fl_X0_21 (by decide) (by decide) (by decide) (by decide) ?_
  refine ev_iload_n_3 (pc := 15) dX0_waysFrom_15 ?_
  refine ev_iaload' (pc := 16) (j := 2) dX0_waysFrom_16 (by decide) (by decide) (show vp_in _ 7 from (vin_c (by decide))) (by decide) ?_
  refine ev_iadd (pc := 17) dX0_waysFrom_17 ?_
  refine ev_istore_n_2 (pc := 18) dX0_waysFrom_18 (by decide) ?_
  refine ev_iinc_3 (pc := 19) (v := 3) dX0_waysFrom_19 (by decide) (by decide) ?_
  refine ev_goto (pc := 22) (tgt := 4) dX0_waysFrom_22 (by decide) ?_
  refine ev_iload_n_3 (pc := 4) dX0_waysFrom_4 ?_
  refine ev_bipush (pc := 5) (v := 6) dX0_waysFrom_5 (by decide) ?_
  refine ev_icmp_gt (pc := 7) (tgt := 25) dX0_waysFrom_7 (by decide) (fun h7 => by exact absurd h7 (by decide)) (fun h7 => ?_)
  refine ev_iload_n_2 (pc := 10) dX0_waysFrom_10 ?_
  refine ev_aload_n_0 (pc := 11) dX0_waysFrom_11 ?_
  refine ev_getR (pc := 12) (r := 8) dX0_waysFrom_12 fl_X0_21 (by decide) (by decide) (by decide) (by decide) ?_
  refine ev_iload_n_3 (pc := 15) dX0_waysFrom_15 ?_
  refine ev_iaload' (pc := 16) (j := 3) dX0_waysFrom_16 (by decide) (by decide) (show vp_in _ 7 from (vin_c (by decide))) (by decide) ?_
  refine ev_iadd (pc := 17) dX0_waysFrom_17 ?_
  refine ev_istore_n_2 (pc := 18) dX0_waysFrom_18 (by decide) ?_
  refine ev_iinc_3 (pc := 19) (v := 4) dX0_waysFrom_19 (by decide) (by decide) ?_
  refine ev_goto (pc := 22) (tgt := 4) dX0_waysFrom_22 (by decide) ?_
  refine ev_iload_n_3 (pc := 4) dX0_waysFrom_4 ?_
  refine ev_bipush (pc := 5) (v := 6) dX0_waysFrom_5 (by decide) ?_
  refine ev_icmp_gt (pc := 7) (tgt := 25) dX0_waysFrom_7 (by decide) (fun h7 => by exact absurd h7 (by decide)) (fun h7 => ?_)
  refine ev_iload_n_2 (pc := 10) dX0_waysFrom_10 ?_
  refine ev_aload_n_0 (pc := 11) dX0_waysFrom_11 ?_
  refine ev_getR (pc := 12) (r := 8) dX0_waysFrom_12 fl_X0_21 (by decide) (by decide) (by decide) (by decide) ?_
  refine ev_iload_n_3 (pc := 15) dX0_waysFrom_15 ?_
  refine ev_iaload' (pc := 16) (j := 4) dX0_waysFrom_16 (by decide) (by decide) (show vp_in _ 7 from (vin_c (by decide))) (by decide) ?_
  refine ev_iadd (pc := 17) dX0_waysFrom_17 ?_
  refine ev_istore_n_2 (pc := 18) dX0_waysFrom_18 (by decide) ?_
  refine ev_iinc_3 (pc := 19) (v := 5) dX0_waysFrom_19 (by decide) (by decide) ?_
  refine ev_goto (pc := 22) (tgt := 4) dX0_waysFrom_22 (by decide) ?_
  refine ev_iload_n_3 (pc := 4) dX0_waysFrom_4 ?_
  refine ev_bipush (pc := 5) (v := 6) dX0_waysFrom_5 (by decide) ?_
  refine ev_icmp_gt (pc := 7) (tgt := 25) dX0_waysFrom_7 (by decide) (fun h7 => by exact absurd h7 (by decide)) (fun h7 => ?_)
  refine ev_iload_n_2 (pc := 10) dX0_waysFrom_10 ?_
  refine ev_aload_n_0 (pc := 11) dX0_waysFrom_11 ?_
  refine ev_getR (pc := 12) (r := 8) dX0_waysFrom_12 fl_X0_21 (by decide) (by decide) (by decide) (by decide) ?_
  refine ev_iload_n_3 (pc := 15) dX0_waysFrom_15 ?_
  refine ev_iaload' (pc := 16) (j := 5) dX0_waysFrom_16 (by decide) (by decide) (show vp_in _ 7 from (vin_c (by decide))) (by decide) ?_
  refine ev_iadd (pc := 17) dX0_waysFrom_17 ?_
  refine ev_istore_n_2 (pc := 18) dX0_waysFrom_18 (by decide) ?_
  refine ev_iinc_3 (pc := 19) (v := 6) dX0_waysFrom_19 (by decide) (by decide) ?_
  refine ev_goto (pc := 22) (tgt := 4) dX0_waysFrom_22 (by decide) ?_
  refine ev_iload_n_3 (pc := 4) dX0_waysFrom_4 ?_
  refine ev_bipush (pc := 5) (v := 6) dX0_waysFrom_5 (by decide) ?_
  refine ev_icmp_gt (pc := 7) (tgt := 25) dX0_waysFrom_7 (by decide) (fun h7 => by exact absurd h7 (by decide)) (fun h7 => ?_)
  refine ev_iload_n_2 (pc := 10) dX0_waysFrom_10 ?_
  refine ev_aload_n_0 (pc := 11) dX0_waysFrom_11 ?_
  refine ev_getR (pc := 12) (r := 8) dX0_waysFrom_12 fl_X0_21 (by decide) (by decide) (by decide) (by decide) ?_
  refine ev_iload_n_3 (pc := 15) dX0_waysFrom_15 ?_
  refine ev_iaload' (pc := 16) (j := 6) dX0_waysFrom_16 (by decide) (by decide) (show vp_in _ 7 from (vin_c (by decide))) (by decide) ?_
  refine ev_iadd (pc := 17) dX0_waysFrom_17 ?_
  refine ev_istore_n_2 (pc := 18) dX0_waysFrom_18 (by decide) ?_
  refine ev_iinc_3 (pc := 19) (v := 7) dX0_waysFrom_19 (by decide) (by decide) ?_
  refine ev_goto (pc := 22) (tgt := 4) dX0_waysFrom_22 (by decide) ?_
  refine ev_iload_n_3 (pc := 4) dX0_waysFrom_4 ?_
  refine ev_bipush (pc := 5) (v := 6) dX0_waysFrom_5 (by decide) ?_
  refine ev_icmp_gt (pc := 7) (tgt := 25) dX0_waysFrom_7 (by decide) (fun h7 => ?_) (fun h7 => by exact absurd h7 (by decide))
  refine ev_iload_n_2 (pc := 25) dX0_waysFrom_25 ?_
  exact ev_ireturn (pc := 26) dX0_waysFrom_26 rfl rfl (⟨rfl, rfl⟩)
set_option maxRecDepth 100000 in
theorem m_X0_waysFrom_1 {S : Scr}  (σ : Sto) : Mt S yX0_waysFrom cX0_waysFrom 4 (some .int) 0 [.ref 5, .int 1] σ (Is (some (.int (wfD (σ.1 8) 1))) σ) := by
  refine mt_of (ls := [.ref 5, .int 1, .null, .null]) (by decide) rfl (Nat.le_of_ble_eq_true rfl) (by simp [Value.category]) ?_
  refine ev_iconst (pc := 0) (v := 0) dX0_waysFrom_0 (by decide) ?_
  refine ev_istore_n_2 (pc := 1) dX0_waysFrom_1 (by decide) ?_
  refine ev_iload_n_1 (pc := 2) dX0_waysFrom_2 ?_
  refine ev_istore_n_3 (pc := 3) dX0_waysFrom_3 (by decide) ?_
  refine ev_iload_n_3 (pc := 4) dX0_waysFrom_4 ?_
  refine ev_bipush (pc := 5) (v := 6) dX0_waysFrom_5 (by decide) ?_
  refine ev_icmp_gt (pc := 7) (tgt := 25) dX0_waysFrom_7 (by decide) (fun h7 => by exact absurd h7 (by decide)) (fun h7 => ?_)
  refine ev_iload_n_2 (pc := 10) dX0_waysFrom_10 ?_
  refine ev_aload_n_0 (pc := 11) dX0_waysFrom_11 ?_
  refine ev_getR (pc := 12) (r := 8) dX0_waysFrom_12 fl_X0_21 (by decide) (by decide) (by decide) (by decide) ?_
  refine ev_iload_n_3 (pc := 15) dX0_waysFrom_15 ?_
  refine ev_iaload' (pc := 16) (j := 1) dX0_waysFrom_16 (by decide) (by decide) (show vp_in _ 7 from (vin_c (by decide))) (by decide) ?_
  refine ev_iadd (pc := 17) dX0_waysFrom_17 ?_
  refine ev_istore_n_2 (pc := 18) dX0_waysFrom_18 (by decide) ?_
  refine ev_iinc_3 (pc := 19) (v := 2) dX0_waysFrom_19 (by decide) (by decide) ?_
  refine ev_goto (pc := 22) (tgt := 4) dX0_waysFrom_22 (by decide) ?_
  refine ev_iload_n_3 (pc := 4) dX0_waysFrom_4 ?_
  refine ev_bipush (pc := 5) (v := 6) dX0_waysFrom_5 (by decide) ?_
  refine ev_icmp_gt (pc := 7) (tgt := 25) dX0_waysFrom_7 (by decide) (fun h7 => by exact absurd h7 (by decide)) (fun h7 => ?_)
  refine ev_iload_n_2 (pc := 10) dX0_waysFrom_10 ?_
  refine ev_aload_n_0 (pc := 11) dX0_waysFrom_11 ?_
  refine ev_getR (pc := 12) (r := 8) dX0_waysFrom_12 fl_X0_21 (by decide) (by decide) (by decide) (by decide) ?_
  refine ev_iload_n_3 (pc := 15) dX0_waysFrom_15 ?_
  refine ev_iaload' (pc := 16) (j := 2) dX0_waysFrom_16 (by decide) (by decide) (show vp_in _ 7 from (vin_c (by decide))) (by decide) ?_
  refine ev_iadd (pc := 17) dX0_waysFrom_17 ?_
  refine ev_istore_n_2 (pc := 18) dX0_waysFrom_18 (by decide) ?_
  refine ev_iinc_3 (pc := 19) (v := 3) dX0_waysFrom_19 (by decide) (by decide) ?_
  refine ev_goto (pc := 22) (tgt := 4) dX0_waysFrom_22 (by decide) ?_
  refine ev_iload_n_3 (pc := 4) dX0_waysFrom_4 ?_
  refine ev_bipush (pc := 5) (v := 6) dX0_waysFrom_5 (by decide) ?_
  refine ev_icmp_gt (pc := 7) (tgt := 25) dX0_waysFrom_7 (by decide) (fun h7 => by exact absurd h7 (by decide)) (fun h7 => ?_)
  refine ev_iload_n_2 (pc := 10) dX0_waysFrom_10 ?_
  refine ev_aload_n_0 (pc := 11) dX0_waysFrom_11 ?_
  refine ev_getR (pc := 12) (r := 8) dX0_waysFrom_12 fl_X0_21 (by decide) (by decide) (by decide) (by decide) ?_
  refine ev_iload_n_3 (pc := 15) dX0_waysFrom_15 ?_
  refine ev_iaload' (pc := 16) (j := 3) dX0_waysFrom_16 (by decide) (by decide) (show vp_in _ 7 from (vin_c (by decide))) (by decide) ?_
  refine ev_iadd (pc := 17) dX0_waysFrom_17 ?_
  refine ev_istore_n_2 (pc := 18) dX0_waysFrom_18 (by decide) ?_
  refine ev_iinc_3 (pc := 19) (v := 4) dX0_waysFrom_19 (by decide) (by decide) ?_
  refine ev_goto (pc := 22) (tgt := 4) dX0_waysFrom_22 (by decide) ?_
  refine ev_iload_n_3 (pc := 4) dX0_waysFrom_4 ?_
  refine ev_bipush (pc := 5) (v := 6) dX0_waysFrom_5 (by decide) ?_
  refine ev_icmp_gt (pc := 7) (tgt := 25) dX0_waysFrom_7 (by decide) (fun h7 => by exact absurd h7 (by decide)) (fun h7 => ?_)
  refine ev_iload_n_2 (pc := 10) dX0_waysFrom_10 ?_
  refine ev_aload_n_0 (pc := 11) dX0_waysFrom_11 ?_
  refine ev_getR (pc := 12) (r := 8) dX0_waysFrom_12 fl_X0_21 (by decide) (by decide) (by decide) (by decide) ?_
  refine ev_iload_n_3 (pc := 15) dX0_waysFrom_15 ?_
  refine ev_iaload' (pc := 16) (j := 4) dX0_waysFrom_16 (by decide) (by decide) (show vp_in _ 7 from (vin_c (by decide))) (by decide) ?_
  refine ev_iadd (pc := 17) dX0_waysFrom_17 ?_
  refine ev_istore_n_2 (pc := 18) dX0_waysFrom_18 (by decide) ?_
  refine ev_iinc_3 (pc := 19) (v := 5) dX0_waysFrom_19 (by decide) (by decide) ?_
  refine ev_goto (pc := 22) (tgt := 4) dX0_waysFrom_22 (by decide) ?_
  refine ev_iload_n_3 (pc := 4) dX0_waysFrom_4 ?_
  refine ev_bipush (pc := 5) (v := 6) dX0_waysFrom_5 (by decide) ?_
  refine ev_icmp_gt (pc := 7) (tgt := 25) dX0_waysFrom_7 (by decide) (fun h7 => by exact absurd h7 (by decide)) (fun h7 => ?_)
  refine ev_iload_n_2 (pc := 10) dX0_waysFrom_10 ?_
  refine ev_aload_n_0 (pc := 11) dX0_waysFrom_11 ?_
  refine ev_getR (pc := 12) (r := 8) dX0_waysFrom_12 fl_X0_21 (by decide) (by decide) (by decide) (by decide) ?_
  refine ev_iload_n_3 (pc := 15) dX0_waysFrom_15 ?_
  refine ev_iaload' (pc := 16) (j := 5) dX0_waysFrom_16 (by decide) (by decide) (show vp_in _ 7 from (vin_c (by decide))) (by decide) ?_
  refine ev_iadd (pc := 17) dX0_waysFrom_17 ?_
  refine ev_istore_n_2 (pc := 18) dX0_waysFrom_18 (by decide) ?_
  refine ev_iinc_3 (pc := 19) (v := 6) dX0_waysFrom_19 (by decide) (by decide) ?_
  refine ev_goto (pc := 22) (tgt := 4) dX0_waysFrom_22 (by decide) ?_
  refine ev_iload_n_3 (pc := 4) dX0_waysFrom_4 ?_
  refine ev_bipush (pc := 5) (v := 6) dX0_waysFrom_5 (by decide) ?_
  refine ev_icmp_gt (pc := 7) (tgt := 25) dX0_waysFrom_7 (by decide) (fun h7 => by exact absurd h7 (by decide)) (fun h7 => ?_)
  refine ev_iload_n_2 (pc := 10) dX0_waysFrom_10 ?_
  refine ev_aload_n_0 (pc := 11) dX0_waysFrom_11 ?_
  refine ev_getR (pc := 12) (r := 8) dX0_waysFrom_12 fl_X0_21 (by decide) (by decide) (by decide) (by decide) ?_
  refine ev_iload_n_3 (pc := 15) dX0_waysFrom_15 ?_
  refine ev_iaload' (pc := 16) (j := 6) dX0_waysFrom_16 (by decide) (by decide) (show vp_in _ 7 from (vin_c (by decide))) (by decide) ?_
  refine ev_iadd (pc := 17) dX0_waysFrom_17 ?_
  refine ev_istore_n_2 (pc := 18) dX0_waysFrom_18 (by decide) ?_
  refine ev_iinc_3 (pc := 19) (v := 7) dX0_waysFrom_19 (by decide) (by decide) ?_
  refine ev_goto (pc := 22) (tgt := 4) dX0_waysFrom_22 (by decide) ?_
  refine ev_iload_n_3 (pc := 4) dX0_waysFrom_4 ?_
  refine ev_bipush (pc := 5) (v := 6) dX0_waysFrom_5 (by decide) ?_
  refine ev_icmp_gt (pc := 7) (tgt := 25) dX0_waysFrom_7 (by decide) (fun h7 => ?_) (fun h7 => by exact absurd h7 (by decide))
  refine ev_iload_n_2 (pc := 25) dX0_waysFrom_25 ?_
  exact ev_ireturn (pc := 26) dX0_waysFrom_26 rfl rfl (⟨rfl, rfl⟩)
set_option maxRecDepth 100000 in
theorem m_X0_waysFrom_2 {S : Scr}  (σ : Sto) : Mt S yX0_waysFrom cX0_waysFrom 4 (some .int) 0 [.ref 5, .int 2] σ (Is (some (.int (wfD (σ.1 8) 2))) σ) := by
  refine mt_of (ls := [.ref 5, .int 2, .null, .null]) (by decide) rfl (Nat.le_of_ble_eq_true rfl) (by simp [Value.category]) ?_
  refine ev_iconst (pc := 0) (v := 0) dX0_waysFrom_0 (by decide) ?_
  refine ev_istore_n_2 (pc := 1) dX0_waysFrom_1 (by decide) ?_
  refine ev_iload_n_1 (pc := 2) dX0_waysFrom_2 ?_
  refine ev_istore_n_3 (pc := 3) dX0_waysFrom_3 (by decide) ?_
  refine ev_iload_n_3 (pc := 4) dX0_waysFrom_4 ?_
  refine ev_bipush (pc := 5) (v := 6) dX0_waysFrom_5 (by decide) ?_
  refine ev_icmp_gt (pc := 7) (tgt := 25) dX0_waysFrom_7 (by decide) (fun h7 => by exact absurd h7 (by decide)) (fun h7 => ?_)
  refine ev_iload_n_2 (pc := 10) dX0_waysFrom_10 ?_
  refine ev_aload_n_0 (pc := 11) dX0_waysFrom_11 ?_
  refine ev_getR (pc := 12) (r := 8) dX0_waysFrom_12 fl_X0_21 (by decide) (by decide) (by decide) (by decide) ?_
  refine ev_iload_n_3 (pc := 15) dX0_waysFrom_15 ?_
  refine ev_iaload' (pc := 16) (j := 2) dX0_waysFrom_16 (by decide) (by decide) (show vp_in _ 7 from (vin_c (by decide))) (by decide) ?_
  refine ev_iadd (pc := 17) dX0_waysFrom_17 ?_
  refine ev_istore_n_2 (pc := 18) dX0_waysFrom_18 (by decide) ?_
  refine ev_iinc_3 (pc := 19) (v := 3) dX0_waysFrom_19 (by decide) (by decide) ?_
  refine ev_goto (pc := 22) (tgt := 4) dX0_waysFrom_22 (by decide) ?_
  refine ev_iload_n_3 (pc := 4) dX0_waysFrom_4 ?_
  refine ev_bipush (pc := 5) (v := 6) dX0_waysFrom_5 (by decide) ?_
  refine ev_icmp_gt (pc := 7) (tgt := 25) dX0_waysFrom_7 (by decide) (fun h7 => by exact absurd h7 (by decide)) (fun h7 => ?_)
  refine ev_iload_n_2 (pc := 10) dX0_waysFrom_10 ?_
  refine ev_aload_n_0 (pc := 11) dX0_waysFrom_11 ?_
  refine ev_getR (pc := 12) (r := 8) dX0_waysFrom_12 fl_X0_21 (by decide) (by decide) (by decide) (by decide) ?_
  refine ev_iload_n_3 (pc := 15) dX0_waysFrom_15 ?_
  refine ev_iaload' (pc := 16) (j := 3) dX0_waysFrom_16 (by decide) (by decide) (show vp_in _ 7 from (vin_c (by decide))) (by decide) ?_
  refine ev_iadd (pc := 17) dX0_waysFrom_17 ?_
  refine ev_istore_n_2 (pc := 18) dX0_waysFrom_18 (by decide) ?_
  refine ev_iinc_3 (pc := 19) (v := 4) dX0_waysFrom_19 (by decide) (by decide) ?_
  refine ev_goto (pc := 22) (tgt := 4) dX0_waysFrom_22 (by decide) ?_
  refine ev_iload_n_3 (pc := 4) dX0_waysFrom_4 ?_
  refine ev_bipush (pc := 5) (v := 6) dX0_waysFrom_5 (by decide) ?_
  refine ev_icmp_gt (pc := 7) (tgt := 25) dX0_waysFrom_7 (by decide) (fun h7 => by exact absurd h7 (by decide)) (fun h7 => ?_)
  refine ev_iload_n_2 (pc := 10) dX0_waysFrom_10 ?_
  refine ev_aload_n_0 (pc := 11) dX0_waysFrom_11 ?_
  refine ev_getR (pc := 12) (r := 8) dX0_waysFrom_12 fl_X0_21 (by decide) (by decide) (by decide) (by decide) ?_
  refine ev_iload_n_3 (pc := 15) dX0_waysFrom_15 ?_
  refine ev_iaload' (pc := 16) (j := 4) dX0_waysFrom_16 (by decide) (by decide) (show vp_in _ 7 from (vin_c (by decide))) (by decide) ?_
  refine ev_iadd (pc := 17) dX0_waysFrom_17 ?_
  refine ev_istore_n_2 (pc := 18) dX0_waysFrom_18 (by decide) ?_
  refine ev_iinc_3 (pc := 19) (v := 5) dX0_waysFrom_19 (by decide) (by decide) ?_
  refine ev_goto (pc := 22) (tgt := 4) dX0_waysFrom_22 (by decide) ?_
  refine ev_iload_n_3 (pc := 4) dX0_waysFrom_4 ?_
  refine ev_bipush (pc := 5) (v := 6) dX0_waysFrom_5 (by decide) ?_
  refine ev_icmp_gt (pc := 7) (tgt := 25) dX0_waysFrom_7 (by decide) (fun h7 => by exact absurd h7 (by decide)) (fun h7 => ?_)
  refine ev_iload_n_2 (pc := 10) dX0_waysFrom_10 ?_
  refine ev_aload_n_0 (pc := 11) dX0_waysFrom_11 ?_
  refine ev_getR (pc := 12) (r := 8) dX0_waysFrom_12 fl_X0_21 (by decide) (by decide) (by decide) (by decide) ?_
  refine ev_iload_n_3 (pc := 15) dX0_waysFrom_15 ?_
  refine ev_iaload' (pc := 16) (j := 5) dX0_waysFrom_16 (by decide) (by decide) (show vp_in _ 7 from (vin_c (by decide))) (by decide) ?_
  refine ev_iadd (pc := 17) dX0_waysFrom_17 ?_
  refine ev_istore_n_2 (pc := 18) dX0_waysFrom_18 (by decide) ?_
  refine ev_iinc_3 (pc := 19) (v := 6) dX0_waysFrom_19 (by decide) (by decide) ?_
  refine ev_goto (pc := 22) (tgt := 4) dX0_waysFrom_22 (by decide) ?_
  refine ev_iload_n_3 (pc := 4) dX0_waysFrom_4 ?_
  refine ev_bipush (pc := 5) (v := 6) dX0_waysFrom_5 (by decide) ?_
  refine ev_icmp_gt (pc := 7) (tgt := 25) dX0_waysFrom_7 (by decide) (fun h7 => by exact absurd h7 (by decide)) (fun h7 => ?_)
  refine ev_iload_n_2 (pc := 10) dX0_waysFrom_10 ?_
  refine ev_aload_n_0 (pc := 11) dX0_waysFrom_11 ?_
  refine ev_getR (pc := 12) (r := 8) dX0_waysFrom_12 fl_X0_21 (by decide) (by decide) (by decide) (by decide) ?_
  refine ev_iload_n_3 (pc := 15) dX0_waysFrom_15 ?_
  refine ev_iaload' (pc := 16) (j := 6) dX0_waysFrom_16 (by decide) (by decide) (show vp_in _ 7 from (vin_c (by decide))) (by decide) ?_
  refine ev_iadd (pc := 17) dX0_waysFrom_17 ?_
  refine ev_istore_n_2 (pc := 18) dX0_waysFrom_18 (by decide) ?_
  refine ev_iinc_3 (pc := 19) (v := 7) dX0_waysFrom_19 (by decide) (by decide) ?_
  refine ev_goto (pc := 22) (tgt := 4) dX0_waysFrom_22 (by decide) ?_
  refine ev_iload_n_3 (pc := 4) dX0_waysFrom_4 ?_
  refine ev_bipush (pc := 5) (v := 6) dX0_waysFrom_5 (by decide) ?_
  refine ev_icmp_gt (pc := 7) (tgt := 25) dX0_waysFrom_7 (by decide) (fun h7 => ?_) (fun h7 => by exact absurd h7 (by decide))
  refine ev_iload_n_2 (pc := 25) dX0_waysFrom_25 ?_
  exact ev_ireturn (pc := 26) dX0_waysFrom_26 rfl rfl (⟨rfl, rfl⟩)
set_option maxRecDepth 100000 in
theorem m_X0_waysFrom_3 {S : Scr}  (σ : Sto) : Mt S yX0_waysFrom cX0_waysFrom 4 (some .int) 0 [.ref 5, .int 3] σ (Is (some (.int (wfD (σ.1 8) 3))) σ) := by
  refine mt_of (ls := [.ref 5, .int 3, .null, .null]) (by decide) rfl (Nat.le_of_ble_eq_true rfl) (by simp [Value.category]) ?_
  refine ev_iconst (pc := 0) (v := 0) dX0_waysFrom_0 (by decide) ?_
  refine ev_istore_n_2 (pc := 1) dX0_waysFrom_1 (by decide) ?_
  refine ev_iload_n_1 (pc := 2) dX0_waysFrom_2 ?_
  refine ev_istore_n_3 (pc := 3) dX0_waysFrom_3 (by decide) ?_
  refine ev_iload_n_3 (pc := 4) dX0_waysFrom_4 ?_
  refine ev_bipush (pc := 5) (v := 6) dX0_waysFrom_5 (by decide) ?_
  refine ev_icmp_gt (pc := 7) (tgt := 25) dX0_waysFrom_7 (by decide) (fun h7 => by exact absurd h7 (by decide)) (fun h7 => ?_)
  refine ev_iload_n_2 (pc := 10) dX0_waysFrom_10 ?_
  refine ev_aload_n_0 (pc := 11) dX0_waysFrom_11 ?_
  refine ev_getR (pc := 12) (r := 8) dX0_waysFrom_12 fl_X0_21 (by decide) (by decide) (by decide) (by decide) ?_
  refine ev_iload_n_3 (pc := 15) dX0_waysFrom_15 ?_
  refine ev_iaload' (pc := 16) (j := 3) dX0_waysFrom_16 (by decide) (by decide) (show vp_in _ 7 from (vin_c (by decide))) (by decide) ?_
  refine ev_iadd (pc := 17) dX0_waysFrom_17 ?_
  refine ev_istore_n_2 (pc := 18) dX0_waysFrom_18 (by decide) ?_
  refine ev_iinc_3 (pc := 19) (v := 4) dX0_waysFrom_19 (by decide) (by decide) ?_
  refine ev_goto (pc := 22) (tgt := 4) dX0_waysFrom_22 (by decide) ?_
  refine ev_iload_n_3 (pc := 4) dX0_waysFrom_4 ?_
  refine ev_bipush (pc := 5) (v := 6) dX0_waysFrom_5 (by decide) ?_
  refine ev_icmp_gt (pc := 7) (tgt := 25) dX0_waysFrom_7 (by decide) (fun h7 => by exact absurd h7 (by decide)) (fun h7 => ?_)
  refine ev_iload_n_2 (pc := 10) dX0_waysFrom_10 ?_
  refine ev_aload_n_0 (pc := 11) dX0_waysFrom_11 ?_
  refine ev_getR (pc := 12) (r := 8) dX0_waysFrom_12 fl_X0_21 (by decide) (by decide) (by decide) (by decide) ?_
  refine ev_iload_n_3 (pc := 15) dX0_waysFrom_15 ?_
  refine ev_iaload' (pc := 16) (j := 4) dX0_waysFrom_16 (by decide) (by decide) (show vp_in _ 7 from (vin_c (by decide))) (by decide) ?_
  refine ev_iadd (pc := 17) dX0_waysFrom_17 ?_
  refine ev_istore_n_2 (pc := 18) dX0_waysFrom_18 (by decide) ?_
  refine ev_iinc_3 (pc := 19) (v := 5) dX0_waysFrom_19 (by decide) (by decide) ?_
  refine ev_goto (pc := 22) (tgt := 4) dX0_waysFrom_22 (by decide) ?_
  refine ev_iload_n_3 (pc := 4) dX0_waysFrom_4 ?_
  refine ev_bipush (pc := 5) (v := 6) dX0_waysFrom_5 (by decide) ?_
  refine ev_icmp_gt (pc := 7) (tgt := 25) dX0_waysFrom_7 (by decide) (fun h7 => by exact absurd h7 (by decide)) (fun h7 => ?_)
  refine ev_iload_n_2 (pc := 10) dX0_waysFrom_10 ?_
  refine ev_aload_n_0 (pc := 11) dX0_waysFrom_11 ?_
  refine ev_getR (pc := 12) (r := 8) dX0_waysFrom_12 fl_X0_21 (by decide) (by decide) (by decide) (by decide) ?_
  refine ev_iload_n_3 (pc := 15) dX0_waysFrom_15 ?_
  refine ev_iaload' (pc := 16) (j := 5) dX0_waysFrom_16 (by decide) (by decide) (show vp_in _ 7 from (vin_c (by decide))) (by decide) ?_
  refine ev_iadd (pc := 17) dX0_waysFrom_17 ?_
  refine ev_istore_n_2 (pc := 18) dX0_waysFrom_18 (by decide) ?_
  refine ev_iinc_3 (pc := 19) (v := 6) dX0_waysFrom_19 (by decide) (by decide) ?_
  refine ev_goto (pc := 22) (tgt := 4) dX0_waysFrom_22 (by decide) ?_
  refine ev_iload_n_3 (pc := 4) dX0_waysFrom_4 ?_
  refine ev_bipush (pc := 5) (v := 6) dX0_waysFrom_5 (by decide) ?_
  refine ev_icmp_gt (pc := 7) (tgt := 25) dX0_waysFrom_7 (by decide) (fun h7 => by exact absurd h7 (by decide)) (fun h7 => ?_)
  refine ev_iload_n_2 (pc := 10) dX0_waysFrom_10 ?_
  refine ev_aload_n_0 (pc := 11) dX0_waysFrom_11 ?_
  refine ev_getR (pc := 12) (r := 8) dX0_waysFrom_12 fl_X0_21 (by decide) (by decide) (by decide) (by decide) ?_
  refine ev_iload_n_3 (pc := 15) dX0_waysFrom_15 ?_
  refine ev_iaload' (pc := 16) (j := 6) dX0_waysFrom_16 (by decide) (by decide) (show vp_in _ 7 from (vin_c (by decide))) (by decide) ?_
  refine ev_iadd (pc := 17) dX0_waysFrom_17 ?_
  refine ev_istore_n_2 (pc := 18) dX0_waysFrom_18 (by decide) ?_
  refine ev_iinc_3 (pc := 19) (v := 7) dX0_waysFrom_19 (by decide) (by decide) ?_
  refine ev_goto (pc := 22) (tgt := 4) dX0_waysFrom_22 (by decide) ?_
  refine ev_iload_n_3 (pc := 4) dX0_waysFrom_4 ?_
  refine ev_bipush (pc := 5) (v := 6) dX0_waysFrom_5 (by decide) ?_
  refine ev_icmp_gt (pc := 7) (tgt := 25) dX0_waysFrom_7 (by decide) (fun h7 => ?_) (fun h7 => by exact absurd h7 (by decide))
  refine ev_iload_n_2 (pc := 25) dX0_waysFrom_25 ?_
  exact ev_ireturn (pc := 26) dX0_waysFrom_26 rfl rfl (⟨rfl, rfl⟩)
set_option maxRecDepth 100000 in
theorem m_X0_waysFrom_4 {S : Scr}  (σ : Sto) : Mt S yX0_waysFrom cX0_waysFrom 4 (some .int) 0 [.ref 5, .int 4] σ (Is (some (.int (wfD (σ.1 8) 4))) σ) := by
  refine mt_of (ls := [.ref 5, .int 4, .null, .null]) (by decide) rfl (Nat.le_of_ble_eq_true rfl) (by simp [Value.category]) ?_
  refine ev_iconst (pc := 0) (v := 0) dX0_waysFrom_0 (by decide) ?_
  refine ev_istore_n_2 (pc := 1) dX0_waysFrom_1 (by decide) ?_
  refine ev_iload_n_1 (pc := 2) dX0_waysFrom_2 ?_
  refine ev_istore_n_3 (pc := 3) dX0_waysFrom_3 (by decide) ?_
  refine ev_iload_n_3 (pc := 4) dX0_waysFrom_4 ?_
  refine ev_bipush (pc := 5) (v := 6) dX0_waysFrom_5 (by decide) ?_
  refine ev_icmp_gt (pc := 7) (tgt := 25) dX0_waysFrom_7 (by decide) (fun h7 => by exact absurd h7 (by decide)) (fun h7 => ?_)
  refine ev_iload_n_2 (pc := 10) dX0_waysFrom_10 ?_
  refine ev_aload_n_0 (pc := 11) dX0_waysFrom_11 ?_
  refine ev_getR (pc := 12) (r := 8) dX0_waysFrom_12 fl_X0_21 (by decide) (by decide) (by decide) (by decide) ?_
  refine ev_iload_n_3 (pc := 15) dX0_waysFrom_15 ?_
  refine ev_iaload' (pc := 16) (j := 4) dX0_waysFrom_16 (by decide) (by decide) (show vp_in _ 7 from (vin_c (by decide))) (by decide) ?_
  refine ev_iadd (pc := 17) dX0_waysFrom_17 ?_
  refine ev_istore_n_2 (pc := 18) dX0_waysFrom_18 (by decide) ?_
  refine ev_iinc_3 (pc := 19) (v := 5) dX0_waysFrom_19 (by decide) (by decide) ?_
  refine ev_goto (pc := 22) (tgt := 4) dX0_waysFrom_22 (by decide) ?_
  refine ev_iload_n_3 (pc := 4) dX0_waysFrom_4 ?_
  refine ev_bipush (pc := 5) (v := 6) dX0_waysFrom_5 (by decide) ?_
  refine ev_icmp_gt (pc := 7) (tgt := 25) dX0_waysFrom_7 (by decide) (fun h7 => by exact absurd h7 (by decide)) (fun h7 => ?_)
  refine ev_iload_n_2 (pc := 10) dX0_waysFrom_10 ?_
  refine ev_aload_n_0 (pc := 11) dX0_waysFrom_11 ?_
  refine ev_getR (pc := 12) (r := 8) dX0_waysFrom_12 fl_X0_21 (by decide) (by decide) (by decide) (by decide) ?_
  refine ev_iload_n_3 (pc := 15) dX0_waysFrom_15 ?_
  refine ev_iaload' (pc := 16) (j := 5) dX0_waysFrom_16 (by decide) (by decide) (show vp_in _ 7 from (vin_c (by decide))) (by decide) ?_
  refine ev_iadd (pc := 17) dX0_waysFrom_17 ?_
  refine ev_istore_n_2 (pc := 18) dX0_waysFrom_18 (by decide) ?_
  refine ev_iinc_3 (pc := 19) (v := 6) dX0_waysFrom_19 (by decide) (by decide) ?_
  refine ev_goto (pc := 22) (tgt := 4) dX0_waysFrom_22 (by decide) ?_
  refine ev_iload_n_3 (pc := 4) dX0_waysFrom_4 ?_
  refine ev_bipush (pc := 5) (v := 6) dX0_waysFrom_5 (by decide) ?_
  refine ev_icmp_gt (pc := 7) (tgt := 25) dX0_waysFrom_7 (by decide) (fun h7 => by exact absurd h7 (by decide)) (fun h7 => ?_)
  refine ev_iload_n_2 (pc := 10) dX0_waysFrom_10 ?_
  refine ev_aload_n_0 (pc := 11) dX0_waysFrom_11 ?_
  refine ev_getR (pc := 12) (r := 8) dX0_waysFrom_12 fl_X0_21 (by decide) (by decide) (by decide) (by decide) ?_
  refine ev_iload_n_3 (pc := 15) dX0_waysFrom_15 ?_
  refine ev_iaload' (pc := 16) (j := 6) dX0_waysFrom_16 (by decide) (by decide) (show vp_in _ 7 from (vin_c (by decide))) (by decide) ?_
  refine ev_iadd (pc := 17) dX0_waysFrom_17 ?_
  refine ev_istore_n_2 (pc := 18) dX0_waysFrom_18 (by decide) ?_
  refine ev_iinc_3 (pc := 19) (v := 7) dX0_waysFrom_19 (by decide) (by decide) ?_
  refine ev_goto (pc := 22) (tgt := 4) dX0_waysFrom_22 (by decide) ?_
  refine ev_iload_n_3 (pc := 4) dX0_waysFrom_4 ?_
  refine ev_bipush (pc := 5) (v := 6) dX0_waysFrom_5 (by decide) ?_
  refine ev_icmp_gt (pc := 7) (tgt := 25) dX0_waysFrom_7 (by decide) (fun h7 => ?_) (fun h7 => by exact absurd h7 (by decide))
  refine ev_iload_n_2 (pc := 25) dX0_waysFrom_25 ?_
  exact ev_ireturn (pc := 26) dX0_waysFrom_26 rfl rfl (⟨rfl, rfl⟩)
set_option maxRecDepth 100000 in
theorem m_X0_waysFrom_5 {S : Scr}  (σ : Sto) : Mt S yX0_waysFrom cX0_waysFrom 4 (some .int) 0 [.ref 5, .int 5] σ (Is (some (.int (wfD (σ.1 8) 5))) σ) := by
  refine mt_of (ls := [.ref 5, .int 5, .null, .null]) (by decide) rfl (Nat.le_of_ble_eq_true rfl) (by simp [Value.category]) ?_
  refine ev_iconst (pc := 0) (v := 0) dX0_waysFrom_0 (by decide) ?_
  refine ev_istore_n_2 (pc := 1) dX0_waysFrom_1 (by decide) ?_
  refine ev_iload_n_1 (pc := 2) dX0_waysFrom_2 ?_
  refine ev_istore_n_3 (pc := 3) dX0_waysFrom_3 (by decide) ?_
  refine ev_iload_n_3 (pc := 4) dX0_waysFrom_4 ?_
  refine ev_bipush (pc := 5) (v := 6) dX0_waysFrom_5 (by decide) ?_
  refine ev_icmp_gt (pc := 7) (tgt := 25) dX0_waysFrom_7 (by decide) (fun h7 => by exact absurd h7 (by decide)) (fun h7 => ?_)
  refine ev_iload_n_2 (pc := 10) dX0_waysFrom_10 ?_
  refine ev_aload_n_0 (pc := 11) dX0_waysFrom_11 ?_
  refine ev_getR (pc := 12) (r := 8) dX0_waysFrom_12 fl_X0_21 (by decide) (by decide) (by decide) (by decide) ?_
  refine ev_iload_n_3 (pc := 15) dX0_waysFrom_15 ?_
  refine ev_iaload' (pc := 16) (j := 5) dX0_waysFrom_16 (by decide) (by decide) (show vp_in _ 7 from (vin_c (by decide))) (by decide) ?_
  refine ev_iadd (pc := 17) dX0_waysFrom_17 ?_
  refine ev_istore_n_2 (pc := 18) dX0_waysFrom_18 (by decide) ?_
  refine ev_iinc_3 (pc := 19) (v := 6) dX0_waysFrom_19 (by decide) (by decide) ?_
  refine ev_goto (pc := 22) (tgt := 4) dX0_waysFrom_22 (by decide) ?_
  refine ev_iload_n_3 (pc := 4) dX0_waysFrom_4 ?_
  refine ev_bipush (pc := 5) (v := 6) dX0_waysFrom_5 (by decide) ?_
  refine ev_icmp_gt (pc := 7) (tgt := 25) dX0_waysFrom_7 (by decide) (fun h7 => by exact absurd h7 (by decide)) (fun h7 => ?_)
  refine ev_iload_n_2 (pc := 10) dX0_waysFrom_10 ?_
  refine ev_aload_n_0 (pc := 11) dX0_waysFrom_11 ?_
  refine ev_getR (pc := 12) (r := 8) dX0_waysFrom_12 fl_X0_21 (by decide) (by decide) (by decide) (by decide) ?_
  refine ev_iload_n_3 (pc := 15) dX0_waysFrom_15 ?_
  refine ev_iaload' (pc := 16) (j := 6) dX0_waysFrom_16 (by decide) (by decide) (show vp_in _ 7 from (vin_c (by decide))) (by decide) ?_
  refine ev_iadd (pc := 17) dX0_waysFrom_17 ?_
  refine ev_istore_n_2 (pc := 18) dX0_waysFrom_18 (by decide) ?_
  refine ev_iinc_3 (pc := 19) (v := 7) dX0_waysFrom_19 (by decide) (by decide) ?_
  refine ev_goto (pc := 22) (tgt := 4) dX0_waysFrom_22 (by decide) ?_
  refine ev_iload_n_3 (pc := 4) dX0_waysFrom_4 ?_
  refine ev_bipush (pc := 5) (v := 6) dX0_waysFrom_5 (by decide) ?_
  refine ev_icmp_gt (pc := 7) (tgt := 25) dX0_waysFrom_7 (by decide) (fun h7 => ?_) (fun h7 => by exact absurd h7 (by decide))
  refine ev_iload_n_2 (pc := 25) dX0_waysFrom_25 ?_
  exact ev_ireturn (pc := 26) dX0_waysFrom_26 rfl rfl (⟨rfl, rfl⟩)
set_option maxRecDepth 100000 in
theorem m_X0_waysFrom_6 {S : Scr}  (σ : Sto) : Mt S yX0_waysFrom cX0_waysFrom 4 (some .int) 0 [.ref 5, .int 6] σ (Is (some (.int (wfD (σ.1 8) 6))) σ) := by
  refine mt_of (ls := [.ref 5, .int 6, .null, .null]) (by decide) rfl (Nat.le_of_ble_eq_true rfl) (by simp [Value.category]) ?_
  refine ev_iconst (pc := 0) (v := 0) dX0_waysFrom_0 (by decide) ?_
  refine ev_istore_n_2 (pc := 1) dX0_waysFrom_1 (by decide) ?_
  refine ev_iload_n_1 (pc := 2) dX0_waysFrom_2 ?_
  refine ev_istore_n_3 (pc := 3) dX0_waysFrom_3 (by decide) ?_
  refine ev_iload_n_3 (pc := 4) dX0_waysFrom_4 ?_
  refine ev_bipush (pc := 5) (v := 6) dX0_waysFrom_5 (by decide) ?_
  refine ev_icmp_gt (pc := 7) (tgt := 25) dX0_waysFrom_7 (by decide) (fun h7 => by exact absurd h7 (by decide)) (fun h7 => ?_)
  refine ev_iload_n_2 (pc := 10) dX0_waysFrom_10 ?_
  refine ev_aload_n_0 (pc := 11) dX0_waysFrom_11 ?_
  refine ev_getR (pc := 12) (r := 8) dX0_waysFrom_12 fl_X0_21 (by decide) (by decide) (by decide) (by decide) ?_
  refine ev_iload_n_3 (pc := 15) dX0_waysFrom_15 ?_
  refine ev_iaload' (pc := 16) (j := 6) dX0_waysFrom_16 (by decide) (by decide) (show vp_in _ 7 from (vin_c (by decide))) (by decide) ?_
  refine ev_iadd (pc := 17) dX0_waysFrom_17 ?_
  refine ev_istore_n_2 (pc := 18) dX0_waysFrom_18 (by decide) ?_
  refine ev_iinc_3 (pc := 19) (v := 7) dX0_waysFrom_19 (by decide) (by decide) ?_
  refine ev_goto (pc := 22) (tgt := 4) dX0_waysFrom_22 (by decide) ?_
  refine ev_iload_n_3 (pc := 4) dX0_waysFrom_4 ?_
  refine ev_bipush (pc := 5) (v := 6) dX0_waysFrom_5 (by decide) ?_
  refine ev_icmp_gt (pc := 7) (tgt := 25) dX0_waysFrom_7 (by decide) (fun h7 => ?_) (fun h7 => by exact absurd h7 (by decide))
  refine ev_iload_n_2 (pc := 25) dX0_waysFrom_25 ?_
  exact ev_ireturn (pc := 26) dX0_waysFrom_26 rfl rfl (⟨rfl, rfl⟩)
theorem m_X0_waysFrom {S : Scr} (k : Nat) (hk : k < 7) (σ : Sto) : Mt S yX0_waysFrom cX0_waysFrom 4 (some .int) 0 [.ref 5, .int (nI k)] σ (Is (some (.int (wfD (σ.1 8) k))) σ) := by
  match k, hk with
  | 0, _ => exact m_X0_waysFrom_0 σ
  | 1, _ => exact m_X0_waysFrom_1 σ
  | 2, _ => exact m_X0_waysFrom_2 σ
  | 3, _ => exact m_X0_waysFrom_3 σ
  | 4, _ => exact m_X0_waysFrom_4 σ
  | 5, _ => exact m_X0_waysFrom_5 σ
  | 6, _ => exact m_X0_waysFrom_6 σ
def rm (x p : Int32) : Int32 := x - x / p * p
def redI (p : Int32) : Nat → Int32 × Int32 → Int32 × Int32
  | 0, a => a
  | k + 1, a => if rm a.1 p = 0 ∧ rm a.2 p = 0 then redI p k (a.1 / p, a.2 / p) else a
def iltD (u l w : Int32) : Int32 := if w = 0 then (redI 5 6 (redI 2 6 (u, l))).1 else (redI 5 6 (redI 2 6 (u, l))).2
set_option maxRecDepth 100000 in
theorem b_inLeast2 {S : Scr} (u l w : Int32) (t : Nat) (ht : t < 6) (a : Int32 × Int32) (σ : Sto) {Q : Option Value → Sto → Prop} (K1 : rm a.1 2 = 0 ∧ rm a.2 2 = 0 → Ev S RX7 cX7_inLeastTerms 6 (some .int) 0 8 [.int u, .int l, .int w, .int ((a.1 / 2, a.2 / 2) : Int32 × Int32).1, .int ((a.1 / 2, a.2 / 2) : Int32 × Int32).2, .int (nI (t + 1))] [] σ (Q)) (K2 : ¬ (rm a.1 2 = 0 ∧ rm a.2 2 = 0) → Ev S RX7 cX7_inLeastTerms 6 (some .int) 0 44 [.int u, .int l, .int w, .int a.1, .int a.2, .null] [] σ (Q)) : Ev S RX7 cX7_inLeastTerms 6 (some .int) 0 8 [.int u, .int l, .int w, .int a.1, .int a.2, .int (nI t)] [] σ (Q) := by
  refine ev_iload_5 (pc := 8) dX7_inLeastTerms_8 ?_
  refine ev_bipush (pc := 10) (v := 6) dX7_inLeastTerms_10 (by decide) ?_
  refine ev_icmp_ge (pc := 12) (tgt := 44) dX7_inLeastTerms_12 (by decide) (fun h12 => by exact absurd h12 (nI_ge ht (by decide))) (fun h12 => ?_)
  refine ev_iload_n_3 (pc := 15) dX7_inLeastTerms_15 ?_
  refine ev_iconst (pc := 16) (v := 2) dX7_inLeastTerms_16 (by decide) ?_
  refine ev_irem (pc := 17) dX7_inLeastTerms_17 (by decide) ?_
  refine ev_if_ne (pc := 18) (tgt := 44) dX7_inLeastTerms_18 (by decide) (fun h18 => ?_) (fun h18 => ?_)
  · skip
    refine ev_null_5 ?_
    exact K2 (fun q => h18 q.1)
  · skip
    refine ev_iload_4 (pc := 21) dX7_inLeastTerms_21 ?_
    refine ev_iconst (pc := 23) (v := 2) dX7_inLeastTerms_23 (by decide) ?_
    refine ev_irem (pc := 24) dX7_inLeastTerms_24 (by decide) ?_
    refine ev_if_ne (pc := 25) (tgt := 44) dX7_inLeastTerms_25 (by decide) (fun h25 => ?_) (fun h25 => ?_)
    · skip
      refine ev_null_5 ?_
      exact K2 (fun q => h25 q.2)
    · skip
      refine ev_iload_n_3 (pc := 28) dX7_inLeastTerms_28 ?_
      refine ev_iconst (pc := 29) (v := 2) dX7_inLeastTerms_29 (by decide) ?_
      refine ev_idiv (pc := 30) dX7_inLeastTerms_30 (by decide) ?_
      refine ev_istore_n_3 (pc := 31) dX7_inLeastTerms_31 (by decide) ?_
      refine ev_iload_4 (pc := 32) dX7_inLeastTerms_32 ?_
      refine ev_iconst (pc := 34) (v := 2) dX7_inLeastTerms_34 (by decide) ?_
      refine ev_idiv (pc := 35) dX7_inLeastTerms_35 (by decide) ?_
      refine ev_istore_4 (pc := 36) dX7_inLeastTerms_36 (by decide) ?_
      refine ev_iinc_5 (pc := 38) (v := nI (t + 1)) dX7_inLeastTerms_38 (nI_inc t) (by decide) ?_
      refine ev_goto (pc := 41) (tgt := 8) dX7_inLeastTerms_41 (by decide) ?_
      exact K1 ⟨h18, h25⟩
theorem l_inLeast2 {S : Scr} (u l w : Int32) (σ : Sto) {Q : Option Value → Sto → Prop} : ∀ (k t : Nat) (a : Int32 × Int32), t + k = 6 → Ev S RX7 cX7_inLeastTerms 6 (some .int) 0 44 [.int u, .int l, .int w, .int (redI 2 k a).1, .int (redI 2 k a).2, .null] [] σ (Q) → Ev S RX7 cX7_inLeastTerms 6 (some .int) 0 8 [.int u, .int l, .int w, .int a.1, .int a.2, .int (nI t)] [] σ (Q) := by
  intro k
  induction k with
  | zero =>
    intro t a ht K
    obtain rfl : t = 6 := by omega
    refine ev_iload_5 (pc := 8) dX7_inLeastTerms_8 ?_
    refine ev_bipush (pc := 10) (v := 6) dX7_inLeastTerms_10 (by decide) ?_
    refine ev_icmp_ge (pc := 12) (tgt := 44) dX7_inLeastTerms_12 (by decide) (fun h12 => ?_) (fun h12 => by exact absurd (by decide) h12)
    refine ev_null_5 ?_
    exact K
  | succ k ih =>
    intro t a ht K
    refine b_inLeast2 u l w t (by omega) a σ (fun hq => ih (t + 1) _ (by omega) ?_) (fun hq => ?_)
    · rw [redI, if_pos hq] at K; exact K
    · rw [redI, if_neg hq] at K; exact K
set_option maxRecDepth 100000 in
theorem b_inLeast5 {S : Scr} (u l w : Int32) (t : Nat) (ht : t < 6) (a : Int32 × Int32) (σ : Sto) {Q : Option Value → Sto → Prop} (K1 : rm a.1 5 = 0 ∧ rm a.2 5 = 0 → Ev S RX7 cX7_inLeastTerms 6 (some .int) 0 47 [.int u, .int l, .int w, .int ((a.1 / 5, a.2 / 5) : Int32 × Int32).1, .int ((a.1 / 5, a.2 / 5) : Int32 × Int32).2, .int (nI (t + 1))] [] σ (Q)) (K2 : ¬ (rm a.1 5 = 0 ∧ rm a.2 5 = 0) → Ev S RX7 cX7_inLeastTerms 6 (some .int) 0 83 [.int u, .int l, .int w, .int a.1, .int a.2, .null] [] σ (Q)) : Ev S RX7 cX7_inLeastTerms 6 (some .int) 0 47 [.int u, .int l, .int w, .int a.1, .int a.2, .int (nI t)] [] σ (Q) := by
  refine ev_iload_5 (pc := 47) dX7_inLeastTerms_47 ?_
  refine ev_bipush (pc := 49) (v := 6) dX7_inLeastTerms_49 (by decide) ?_
  refine ev_icmp_ge (pc := 51) (tgt := 83) dX7_inLeastTerms_51 (by decide) (fun h51 => by exact absurd h51 (nI_ge ht (by decide))) (fun h51 => ?_)
  refine ev_iload_n_3 (pc := 54) dX7_inLeastTerms_54 ?_
  refine ev_iconst (pc := 55) (v := 5) dX7_inLeastTerms_55 (by decide) ?_
  refine ev_irem (pc := 56) dX7_inLeastTerms_56 (by decide) ?_
  refine ev_if_ne (pc := 57) (tgt := 83) dX7_inLeastTerms_57 (by decide) (fun h57 => ?_) (fun h57 => ?_)
  · skip
    refine ev_null_5 ?_
    exact K2 (fun q => h57 q.1)
  · skip
    refine ev_iload_4 (pc := 60) dX7_inLeastTerms_60 ?_
    refine ev_iconst (pc := 62) (v := 5) dX7_inLeastTerms_62 (by decide) ?_
    refine ev_irem (pc := 63) dX7_inLeastTerms_63 (by decide) ?_
    refine ev_if_ne (pc := 64) (tgt := 83) dX7_inLeastTerms_64 (by decide) (fun h64 => ?_) (fun h64 => ?_)
    · skip
      refine ev_null_5 ?_
      exact K2 (fun q => h64 q.2)
    · skip
      refine ev_iload_n_3 (pc := 67) dX7_inLeastTerms_67 ?_
      refine ev_iconst (pc := 68) (v := 5) dX7_inLeastTerms_68 (by decide) ?_
      refine ev_idiv (pc := 69) dX7_inLeastTerms_69 (by decide) ?_
      refine ev_istore_n_3 (pc := 70) dX7_inLeastTerms_70 (by decide) ?_
      refine ev_iload_4 (pc := 71) dX7_inLeastTerms_71 ?_
      refine ev_iconst (pc := 73) (v := 5) dX7_inLeastTerms_73 (by decide) ?_
      refine ev_idiv (pc := 74) dX7_inLeastTerms_74 (by decide) ?_
      refine ev_istore_4 (pc := 75) dX7_inLeastTerms_75 (by decide) ?_
      refine ev_iinc_5 (pc := 77) (v := nI (t + 1)) dX7_inLeastTerms_77 (nI_inc t) (by decide) ?_
      refine ev_goto (pc := 80) (tgt := 47) dX7_inLeastTerms_80 (by decide) ?_
      exact K1 ⟨h57, h64⟩
theorem l_inLeast5 {S : Scr} (u l w : Int32) (σ : Sto) {Q : Option Value → Sto → Prop} : ∀ (k t : Nat) (a : Int32 × Int32), t + k = 6 → Ev S RX7 cX7_inLeastTerms 6 (some .int) 0 83 [.int u, .int l, .int w, .int (redI 5 k a).1, .int (redI 5 k a).2, .null] [] σ (Q) → Ev S RX7 cX7_inLeastTerms 6 (some .int) 0 47 [.int u, .int l, .int w, .int a.1, .int a.2, .int (nI t)] [] σ (Q) := by
  intro k
  induction k with
  | zero =>
    intro t a ht K
    obtain rfl : t = 6 := by omega
    refine ev_iload_5 (pc := 47) dX7_inLeastTerms_47 ?_
    refine ev_bipush (pc := 49) (v := 6) dX7_inLeastTerms_49 (by decide) ?_
    refine ev_icmp_ge (pc := 51) (tgt := 83) dX7_inLeastTerms_51 (by decide) (fun h51 => ?_) (fun h51 => by exact absurd (by decide) h51)
    refine ev_null_5 ?_
    exact K
  | succ k ih =>
    intro t a ht K
    refine b_inLeast5 u l w t (by omega) a σ (fun hq => ih (t + 1) _ (by omega) ?_) (fun hq => ?_)
    · rw [redI, if_pos hq] at K; exact K
    · rw [redI, if_neg hq] at K; exact K
theorem m_X7_inLeastTerms {S : Scr} (u l w : Int32) (σ : Sto) : Mt S yX7_inLeastTerms cX7_inLeastTerms 6 (some .int) 0 [.int u, .int l, .int w] σ (Is (some (.int (iltD u l w))) σ) := by
  refine mt_of (ls := [.int u, .int l, .int w, .null, .null, .null]) (by decide) rfl (Nat.le_of_ble_eq_true rfl) (by simp [Value.category]) ?_
  refine ev_iload_n_0 (pc := 0) dX7_inLeastTerms_0 ?_
  refine ev_istore_n_3 (pc := 1) dX7_inLeastTerms_1 (by decide) ?_
  refine ev_iload_n_1 (pc := 2) dX7_inLeastTerms_2 ?_
  refine ev_istore_4 (pc := 3) dX7_inLeastTerms_3 (by decide) ?_
  refine ev_iconst (pc := 5) (v := 0) dX7_inLeastTerms_5 (by decide) ?_
  refine ev_istore_5 (pc := 6) dX7_inLeastTerms_6 (by decide) ?_
  refine l_inLeast2 u l w σ 6 0 (u, l) rfl ?_
  refine ev_iconst (pc := 44) (v := 0) dX7_inLeastTerms_44 (by decide) ?_
  refine ev_istore_5 (pc := 45) dX7_inLeastTerms_45 (by decide) ?_
  refine l_inLeast5 u l w σ 6 0 _ rfl ?_
  refine ev_iload_n_2 (pc := 83) dX7_inLeastTerms_83 ?_
  refine ev_if_ne (pc := 84) (tgt := 91) dX7_inLeastTerms_84 (by decide) (fun h84 => ?_) (fun h84 => ?_)
  · skip
    refine ev_iload_4 (pc := 91) dX7_inLeastTerms_91 ?_
    exact ev_ireturn (pc := 93) dX7_inLeastTerms_93 rfl rfl (⟨by simp only [iltD, h84, ↓reduceIte], rfl⟩)
  · skip
    refine ev_iload_n_3 (pc := 87) dX7_inLeastTerms_87 ?_
    refine ev_goto (pc := 88) (tgt := 93) dX7_inLeastTerms_88 (by decide) ?_
    exact ev_ireturn (pc := 93) dX7_inLeastTerms_93 rfl rfl (⟨by simp only [iltD, h84, ↓reduceIte], rfl⟩)
end
section
/-! ===== the stranger ===== -/
theorem rf15 (i : Nat) : rf 15 i = 101 + i := rfl
theorem rf16 (i : Nat) : rf 16 i = 105 + i := rfl
theorem rf17 (i : Nat) : rf 17 i = 111 + i := rfl
theorem pots_t : ∀ i, i < 4 → 101 + i < NC ∧ kd (101 + i) = 10 ∧ ln (101 + i) = 4 := by decide
theorem aft_t : ∀ i, i < 6 → 105 + i < NC ∧ kd (105 + i) = 10 ∧ ln (105 + i) = 4 := by decide
theorem tal_t : ∀ i, i < 6 → 111 + i < NC ∧ kd (111 + i) = 10 ∧ ln (111 + i) = 9 := by decide
theorem isA_pots {i : Nat} (h : i < 4) : IsA (101 + i) 4 := pots_t i h
theorem isA_aft {i : Nat} (h : i < 6) : IsA (105 + i) 4 := aft_t i h
theorem isA_tal {i : Nat} (h : i < 6) : IsA (111 + i) 9 := tal_t i h
theorem isA_38 : IsA 38 4 := ⟨by decide, by decide, by decide⟩
theorem isTa_37 : IsTa 37 := ⟨6, by decide, rfl⟩
def ntW (σ : Sto) (k : Nat) (m : Int32) : Sto := wr (wr (cp0 σ 40 (101 + k) 4) 14 k m) 13 2 (nI (k + 1))
theorem nI_s1 (k : Nat) : nI k + 1 = nI (k + 1) := (nI_succ k).symm
theorem cp0_ne {σ : Sto} {a b n k : Nat} (h : k ≠ b) : (cp0 σ a b n).1 k = σ.1 k := by funext j; unfold cp0; simp [h]
theorem wr_ne {σ : Sto} {a i k : Nat} {x : Int32} (h : k ≠ a) : (wr σ a i x).1 k = σ.1 k := by funext j; unfold wr; simp [h]
theorem wr_at {σ : Sto} {a i : Nat} {x : Int32} : (wr σ a i x).1 a i = x := by unfold wr; simp
theorem wr_nj {σ : Sto} {a i k j : Nat} {x : Int32} (h : j ≠ i) : (wr σ a i x).1 k j = σ.1 k j := by unfold wr; simp [h]
set_option maxRecDepth 100000 in
theorem m_X4_notice {S : Scr} (k : Nat) (hk : k < 4) (m : Int32) (σ : Sto) (hs : σ.1 13 2 = nI k) : Mt S yX4_notice cX4_notice 3 (some .int) 1 [.ref 13, .ref 40, .int m] σ (Is (some (.int (nI (k + 1)))) (ntW σ k m)) := by
  refine mt_of (ls := [.ref 13, .ref 40, .int m]) (by decide) rfl (Nat.le_of_ble_eq_true rfl) (by simp [Value.category]) ?_
  have e1 : (cp0 σ 40 (101 + k) 4).1 13 2 = nI k := by rw [cp0_ne (by omega)]; exact hs
  have e2 : (wr (cp0 σ 40 (101 + k) 4) 14 k m).1 13 2 = nI k := by rw [wr_ne (by decide)]; exact e1
  refine ev_aload_n_0 (pc := 0) dX4_notice_0 ?_
  refine ev_getI (pc := 1) dX4_notice_1 fl_X4_33 (by decide) (by decide) (by decide) ?_
  refine ev_iconst (pc := 4) (v := 4) dX4_notice_4 (by decide) ?_
  refine ev_icmp_ge (pc := 5) (tgt := 44) dX4_notice_5 (by decide) (fun h5 => by exact absurd h5 (by rw [hs]; exact nI_ge (a := k) (b := 4) hk (by decide))) (fun h5 => ?_)
  refine ev_aload_n_1 (pc := 8) dX4_notice_8 ?_
  refine ev_iconst (pc := 9) (v := 0) dX4_notice_9 (by decide) ?_
  refine ev_aload_n_0 (pc := 10) dX4_notice_10 ?_
  refine ev_getR (pc := 11) (r := 15) dX4_notice_11 fl_X4_17 (by decide) (by decide) (by decide) (by decide) ?_
  refine ev_aload_n_0 (pc := 14) dX4_notice_14 ?_
  refine ev_getI (pc := 15) dX4_notice_15 fl_X4_33 (by decide) (by decide) (by decide) ?_
  rw [hs]
  refine ev_aaload' (pc := 18) (r := (101 + k)) (j := k) dX4_notice_18 (by decide) (c := 12) (by decide) (by decide) (by decide) (show vp_in _ 4 from (vp_in_nI hk (by decide))) (nI_clamp (by omega)) (rf15 k) ?_
  refine ev_iconst (pc := 19) (v := 0) dX4_notice_19 (by decide) ?_
  refine ev_iconst (pc := 20) (v := 4) dX4_notice_20 (by decide) ?_
  refine ev_copy0 (pc := 21) (n' := 4) dX4_notice_21 ml_X4_37 (by decide) (Nat.le_of_ble_eq_true rfl) (by decide) (isA_pots hk).1 (by decide) (isA_pots hk).2.1 (by decide) (by decide) (by decide) (by rw [(isA_pots hk).2.2]; decide) ?_
  refine ev_aload_n_0 (pc := 24) dX4_notice_24 ?_
  
  refine ev_getR (pc := 25) (r := 14) dX4_notice_25 fl_X4_9 (by decide) (by decide) (by decide) (by decide) ?_
  refine ev_aload_n_0 (pc := 28) dX4_notice_28 ?_
  refine ev_getI (pc := 29) dX4_notice_29 fl_X4_33 (by decide) (by decide) (by decide) ?_
  refine ev_iload_n_2 (pc := 32) dX4_notice_32 ?_
  rw [e1]
  refine ev_iastore' (pc := 33) (j := k) dX4_notice_33 (by decide) (by decide) (show vp_in _ 4 from (vp_in_nI hk (by decide))) (nI_clamp (by omega)) ?_
  refine ev_aload_n_0 (pc := 34) dX4_notice_34 ?_
  refine ev_dup (pc := 35) dX4_notice_35 rfl ?_
  refine ev_getI (pc := 36) dX4_notice_36 fl_X4_33 (by decide) (by decide) (by decide) ?_
  refine ev_iconst (pc := 39) (v := 1) dX4_notice_39 (by decide) ?_
  refine ev_iadd (pc := 40) dX4_notice_40 ?_
  rw [e2, nI_s1]
  refine ev_putI (pc := 41) dX4_notice_41 fl_X4_33 (by decide) (by decide) (by decide) ?_
  refine ev_aload_n_0 (pc := 44) dX4_notice_44 ?_
  refine ev_getI (pc := 45) dX4_notice_45 fl_X4_33 (by decide) (by decide) (by decide) ?_
  exact ev_ireturn (pc := 48) dX4_notice_48 rfl rfl (⟨by rw [wr_at], rfl⟩)
def dg (r p : Nat) : Int32 := nI (if p = 0 then r / 216 else if p = 1 then r / 36 % 6 else if p = 2 then r / 6 % 6 else r % 6)
def digW (σ : Sto) (a r : Nat) : Sto := (fun k j => if k = a ∧ j < 4 then dg r j else σ.1 k j, σ.2)
theorem dig_t : ∀ r, r < 1296 → rem6 (nI r) = dg r 3 ∧ rem6 (nI r / 6) = dg r 2 ∧ rem6 (nI r / 6 / 6) = dg r 1 ∧ rem6 (nI r / 6 / 6 / 6) = dg r 0 := by decide +kernel
theorem rowW_dig {σ : Sto} {a r : Nat} (h : r < 1296) : rowW σ a (nI r) = digW σ a r := by
  obtain ⟨h3, h2, h1, h0⟩ := dig_t r h
  unfold rowW
  rw [h3, h2, h1, h0]
  refine Prod.ext (funext fun k => funext fun j => ?_) rfl
  by_cases hk : k = a
  · subst hk
    rcases j with _ | _ | _ | _ | j <;> first | (simp [wr, digW]; done) | (simp [wr, digW]; intro h; omega)
  · simp [wr, digW, hk]
theorem digW_ne {σ : Sto} {a r k : Nat} (h : k ≠ a) : (digW σ a r).1 k = σ.1 k := by funext j; unfold digW; simp [h]
theorem mienD_congr {l l' pot pot' : Nat → Int32} {bl c : Int32} (h : ∀ p, p < 4 → l p = l' p) (h2 : ∀ p, p < 4 → pot p = pot' p) : mienD l bl pot c = mienD l' bl pot' c := by
  have hs : ∀ i, i < 4 → ∀ a, mnS l pot c i a = mnS l' pot' c i a := fun i hi a => by unfold mnS offD; rw [h i hi, h2 i hi]
  unfold mienD
  rw [hs 0 (by decide), hs 1 (by decide), hs 2 (by decide), hs 3 (by decide)]
theorem mienD_dig {σ : Sto} {r : Nat} {bl c : Int32} {pot : Nat → Int32} : mienD ((digW σ 38 r).1 38) bl pot c = mienD (dg r) bl pot c := mienD_congr (fun p hp => by unfold digW; simp [hp]) (fun _ _ => rfl)
abbrev fitP (σ : Sto) (k r : Nat) : Prop := ∀ i, i < k → mienD (dg r) 0 (σ.1 (101 + i)) 0 = σ.1 14 i
set_option maxRecDepth 100000 in
theorem b_X4_fits {S : Scr} (k : Nat) (hk : k ≤ 4) (r i : Nat) (hi : i < k) (σ : Sto) (hs : σ.1 13 2 = nI k) (hb0 : σ.1 37 1 = 0) {Q : Option Value → Sto → Prop} (K : mienD (dg r) 0 (σ.1 (101 + i)) 0 = σ.1 14 i → Ev S RX4 cX4_fits 3 (some .boolean) 2 13 [.ref 13, .int (nI r), .int (nI (i + 1))] [] (digW σ 38 r) (Q)) (hN : ¬ mienD (dg r) 0 (σ.1 (101 + i)) 0 = σ.1 14 i → Q (some (.int 0)) (digW σ 38 r)) : Ev S RX4 cX4_fits 3 (some .boolean) 2 13 [.ref 13, .int (nI r), .int (nI i)] [] (digW σ 38 r) (Q) := by
  have hi4 : i < 4 := by omega
  refine ev_iload_n_2 (pc := 13) dX4_fits_13 ?_
  refine ev_aload_n_0 (pc := 14) dX4_fits_14 ?_
  refine ev_getI (pc := 15) dX4_fits_15 fl_X4_33 (by decide) (by decide) (by decide) ?_
  refine ev_icmp_ge (pc := 18) (tgt := 57) dX4_fits_18 (by decide) (fun h18 => by exact absurd h18 (by rw [digW_ne (by decide), hs]; exact nI_ge hi (by omega))) (fun h18 => ?_)
  refine ev_iload_n_2 (pc := 21) dX4_fits_21 ?_
  refine ev_iconst (pc := 22) (v := 4) dX4_fits_22 (by decide) ?_
  refine ev_icmp_ge (pc := 23) (tgt := 57) dX4_fits_23 (by decide) (fun h23 => by exact absurd h23 (nI_ge (a := i) (b := 4) hi4 (by decide))) (fun h23 => ?_)
  refine ev_aload_n_0 (pc := 26) dX4_fits_26 ?_
  refine ev_getR (pc := 27) (r := 37) dX4_fits_27 fl_X4_23 (by decide) (by decide) (by decide) (by decide) ?_
  refine ev_aload_n_0 (pc := 30) dX4_fits_30 ?_
  refine ev_getR (pc := 31) (r := 15) dX4_fits_31 fl_X4_17 (by decide) (by decide) (by decide) (by decide) ?_
  refine ev_iload_n_2 (pc := 34) dX4_fits_34 ?_
  refine ev_aaload' (pc := 35) (r := (101 + i)) (j := i) dX4_fits_35 (by decide) (c := 12) (by decide) (by decide) (by decide) (show vp_in _ 4 from (vp_in_nI (by omega) (by decide))) (nI_clamp (by omega)) (rf15 i) ?_
  refine ev_iconst (pc := 36) (v := 0) dX4_fits_36 (by decide) ?_
  refine ev_callV1 (pc := 37) dX4_fits_37 ml_X4_50 (m_X5_mien isTa_37 (isA_pots hi4) 0 _) (by decide) ⟨_, rfl, rfl⟩ rfl (by decide) rfl (Nat.le_of_ble_eq_true rfl) ?_
  rw [digW_ne (show 37 ≠ 38 by decide), digW_ne (show 101 + i ≠ 38 by omega), mienD_dig, hb0]
  refine ev_aload_n_0 (pc := 40) dX4_fits_40 ?_
  refine ev_getR (pc := 41) (r := 14) dX4_fits_41 fl_X4_9 (by decide) (by decide) (by decide) (by decide) ?_
  refine ev_iload_n_2 (pc := 44) dX4_fits_44 ?_
  refine ev_iaload' (pc := 45) (j := i) dX4_fits_45 (by decide) (by decide) (show vp_in _ 4 from (vp_in_nI (by omega) (by decide))) (nI_clamp (by omega)) ?_
  rw [digW_ne (show 14 ≠ 38 by decide)]
  refine ev_icmp_eq (pc := 46) (tgt := 51) dX4_fits_46 (by decide) (fun h46 => ?_) (fun h46 => ?_)
  · skip
    refine ev_iinc_2 (pc := 51) (v := nI (i + 1)) dX4_fits_51 (nI_inc i) (by decide) ?_
    refine ev_goto (pc := 54) (tgt := 13) dX4_fits_54 (by decide) ?_
    exact K h46
  · skip
    refine ev_iconst (pc := 49) (v := 0) dX4_fits_49 (by decide) ?_
    exact ev_ireturn (pc := 50) dX4_fits_50 rfl rfl (hN h46)
theorem m_X4_fits {S : Scr} (k : Nat) (hk : k ≤ 4) (r : Nat) (hr : r < 1296) (σ : Sto) (hs : σ.1 13 2 = nI k) (hb0 : σ.1 37 1 = 0) : Mt S yX4_fits cX4_fits 3 (some .boolean) 2 [.ref 13, .int (nI r)] σ (Is (some (.int (bI (fitP σ k r)))) (digW σ 38 r)) := by
  refine mt_of (ls := [.ref 13, .int (nI r), .null]) (by decide) rfl (Nat.le_of_ble_eq_true rfl) (by simp [Value.category]) ?_
  refine ev_iload_n_1 (pc := 0) dX4_fits_0 ?_
  refine ev_aload_n_0 (pc := 1) dX4_fits_1 ?_
  refine ev_getR (pc := 2) (r := 37) dX4_fits_2 fl_X4_23 (by decide) (by decide) (by decide) (by decide) ?_
  refine ev_getR (pc := 5) (r := 38) dX4_fits_5 fl_X4_43 (by decide) (by decide) (by decide) (by decide) ?_
  refine ev_callN0 (pc := 8) dX4_fits_8 mn_X4_46 (m_X7_rowOf isA_38 _ σ) rfl (by decide) rfl (Nat.le_of_ble_eq_true rfl) ?_
  rw [rowW_dig hr]
  refine ev_iconst (pc := 11) (v := 0) dX4_fits_11 (by decide) ?_
  refine ev_istore_n_2 (pc := 12) dX4_fits_12 (by decide) ?_
  have key : ∀ q i, i + q = k → (∀ b, b < i → mienD (dg r) 0 (σ.1 (101 + b)) 0 = σ.1 14 b) → Ev S RX4 cX4_fits 3 (some .boolean) 2 13 [.ref 13, .int (nI r), .int (nI i)] [] (digW σ 38 r) (Is (some (.int (bI (fitP σ k r)))) (digW σ 38 r)) := by
    intro q
    induction q with
    | zero =>
      intro i hi hall
      obtain rfl : i = k := by omega
      have e : bI (fitP σ i r) = 1 := bI1.mpr hall
      rw [e]
      refine ev_iload_n_2 (pc := 13) dX4_fits_13 ?_
      refine ev_aload_n_0 (pc := 14) dX4_fits_14 ?_
      refine ev_getI (pc := 15) dX4_fits_15 fl_X4_33 (by decide) (by decide) (by decide) ?_
      refine ev_icmp_ge (pc := 18) (tgt := 57) dX4_fits_18 (by decide) (fun h18 => ?_) (fun h18 => by exact absurd (by rw [digW_ne (by decide), hs]; exact nI_le (Nat.le_refl i) (by omega)) h18)
      refine ev_iconst (pc := 57) (v := 1) dX4_fits_57 (by decide) ?_
      exact ev_ireturn (pc := 58) dX4_fits_58 rfl rfl (⟨rfl, rfl⟩)
    | succ q ih =>
      intro i hi hall
      refine b_X4_fits k hk r i (by omega) σ hs hb0 (fun hok => ih (i + 1) (by omega) (fun b hb => by
          rcases Nat.lt_or_ge b i with z | z
          · exact hall b z
          · obtain rfl : b = i := by omega
            exact hok)) (fun hno => ⟨?_, rfl⟩)
      have e : bI (fitP σ k r) = 0 := bI0.mpr (fun h => hno (h i (by omega)))
      rw [e]
  exact key k 0 (by omega) (fun b hb => absurd hb (Nat.not_lt_zero b))
/-- the stranger's own numbers, and his guessed likes -/
def gaW (σ : Sto) (a : (Nat → Int32) × Int32 × Int32 × Int32) : Sto := (fun k j => if k = 13 ∧ j = 4 then a.2.1 else if k = 13 ∧ j = 5 then a.2.2.1 else if k = 13 ∧ j = 6 then a.2.2.2 else if k = 38 then a.1 j else σ.1 k j, σ.2)
def gaS (σ : Sto) (k p r : Nat) (a : (Nat → Int32) × Int32 × Int32 × Int32) : (Nat → Int32) × Int32 × Int32 × Int32 :=
  if fitP σ k r then (fun j => if j < 4 then dg r j else a.1 j, a.2.1 + 1, mnI a.2.2.1 (dg r p), mxI a.2.2.2 (dg r p)) else (fun j => if j < 4 then dg r j else a.1 j, a.2)
theorem gaW_fit (σ : Sto) (a : (Nat → Int32) × Int32 × Int32 × Int32) (k r : Nat) (hk : k ≤ 4) : fitP (gaW σ a) k r ↔ fitP σ k r := by
  have h1 : ∀ i, i < 4 → (gaW σ a).1 (101 + i) = σ.1 (101 + i) := fun i hi => by funext j; unfold gaW; simp [show ¬ 101 + i = 13 by omega, show ¬ 101 + i = 38 by omega]
  have h2 : (gaW σ a).1 14 = σ.1 14 := by funext j; unfold gaW; simp
  constructor
  · intro h i hi; have := h i hi; rw [h1 i (by omega), h2] at this; exact this
  · intro h i hi; rw [h1 i (by omega), h2]; exact h i hi
theorem gaW_dig (σ : Sto) (a : (Nat → Int32) × Int32 × Int32 × Int32) (r : Nat) : digW (gaW σ a) 38 r = gaW σ (fun j => if j < 4 then dg r j else a.1 j, a.2) := by
  refine Prod.ext (funext fun k => funext fun j => ?_) rfl
  by_cases h1 : k = 38
  · subst h1
    by_cases h2 : j < 4 <;> simp [digW, gaW, h2]
  · simp [digW, gaW, h1]
theorem bI_iff {P Q : Prop} [Decidable P] [Decidable Q] (h : P ↔ Q) : bI P = bI Q := by
  unfold bI
  by_cases hp : P
  · rw [if_pos hp, if_pos (h.mp hp)]
  · rw [if_neg hp, if_neg (fun z => hp (h.mpr z))]
set_option maxRecDepth 100000 in
theorem b_X4_gather {S : Scr} (k : Nat) (hk : k ≤ 4) (p : Nat) (hp : p < 4) (r : Nat) (hr : r < 1296) (a : (Nat → Int32) × Int32 × Int32 × Int32) (σ : Sto) (hs : σ.1 13 2 = nI k) (hb0 : σ.1 37 1 = 0) {Q : Option Value → Sto → Prop} (K : Ev S RX4 cX4_gather 3 none 3 17 [.ref 13, .int (nI p), .int (nI (r + 1))] [] (gaW σ (gaS σ k p r a)) (Q)) : Ev S RX4 cX4_gather 3 none 3 17 [.ref 13, .int (nI p), .int (nI r)] [] (gaW σ a) (Q) := by
  refine ev_iload_n_2 (pc := 17) dX4_gather_17 ?_
  refine ev_sipush (pc := 18) (v := 1296) dX4_gather_18 (by decide) ?_
  refine ev_icmp_ge (pc := 21) (tgt := 88) dX4_gather_21 (by decide) (fun h21 => by exact absurd h21 (nI_ge (a := r) (b := 1296) hr (by decide))) (fun h21 => ?_)
  refine ev_aload_n_0 (pc := 24) dX4_gather_24 ?_
  refine ev_iload_n_2 (pc := 25) dX4_gather_25 ?_
  refine ev_callV1 (pc := 26) dX4_gather_26 ml_X4_63 (m_X4_fits k hk r hr _ (by unfold gaW; simpa using hs) (by unfold gaW; simpa using hb0)) (by decide) ⟨_, rfl, rfl⟩ rfl (by decide) rfl (Nat.le_of_ble_eq_true rfl) ?_
  rw [gaW_dig, bI_iff (gaW_fit σ a k r hk)]
  refine ev_if_eq (pc := 29) (tgt := 82) dX4_gather_29 (by decide) (fun h29 => ?_) (fun h29 => ?_)
  · skip
    refine ev_iinc_2 (pc := 82) (v := nI (r + 1)) dX4_gather_82 (nI_inc r) (by decide) ?_
    refine ev_goto (pc := 85) (tgt := 17) dX4_gather_85 (by decide) ?_
    refine ev_eq rfl rfl ?_ K
    rw [bI0] at h29
    unfold gaS
    rw [if_neg h29]
  · skip
    refine ev_aload_n_0 (pc := 32) dX4_gather_32 ?_
    refine ev_dup (pc := 33) dX4_gather_33 rfl ?_
    refine ev_getI (pc := 34) dX4_gather_34 fl_X4_54 (by decide) (by decide) (by decide) ?_
    refine ev_iconst (pc := 37) (v := 1) dX4_gather_37 (by decide) ?_
    refine ev_iadd (pc := 38) dX4_gather_38 ?_
    refine ev_putI (pc := 39) dX4_gather_39 fl_X4_54 (by decide) (by decide) (by decide) ?_
    refine ev_aload_n_0 (pc := 42) dX4_gather_42 ?_
    refine ev_aload_n_0 (pc := 43) dX4_gather_43 ?_
    refine ev_getI (pc := 44) dX4_gather_44 fl_X4_57 (by decide) (by decide) (by decide) ?_
    refine ev_aload_n_0 (pc := 47) dX4_gather_47 ?_
    refine ev_getR (pc := 48) (r := 37) dX4_gather_48 fl_X4_23 (by decide) (by decide) (by decide) (by decide) ?_
    refine ev_getR (pc := 51) (r := 38) dX4_gather_51 fl_X4_43 (by decide) (by decide) (by decide) (by decide) ?_
    refine ev_iload_n_1 (pc := 54) dX4_gather_54 ?_
    refine ev_iaload' (pc := 55) (j := p) dX4_gather_55 (by decide) (by decide) (show vp_in _ 4 from (vp_in_nI hp (by decide))) (nI_clamp (by omega)) ?_
    refine ev_mmin' (pc := 56) dX4_gather_56 ml_X4_67 (by decide) (Nat.le_of_ble_eq_true rfl) ?_
    refine ev_putI (pc := 59) dX4_gather_59 fl_X4_57 (by decide) (by decide) (by decide) ?_
    refine ev_aload_n_0 (pc := 62) dX4_gather_62 ?_
    refine ev_aload_n_0 (pc := 63) dX4_gather_63 ?_
    refine ev_getI (pc := 64) dX4_gather_64 fl_X4_60 (by decide) (by decide) (by decide) ?_
    refine ev_aload_n_0 (pc := 67) dX4_gather_67 ?_
    refine ev_getR (pc := 68) (r := 37) dX4_gather_68 fl_X4_23 (by decide) (by decide) (by decide) (by decide) ?_
    refine ev_getR (pc := 71) (r := 38) dX4_gather_71 fl_X4_43 (by decide) (by decide) (by decide) (by decide) ?_
    refine ev_iload_n_1 (pc := 74) dX4_gather_74 ?_
    refine ev_iaload' (pc := 75) (j := p) dX4_gather_75 (by decide) (by decide) (show vp_in _ 4 from (vp_in_nI hp (by decide))) (nI_clamp (by omega)) ?_
    refine ev_mmax' (pc := 76) dX4_gather_76 ml_X4_73 (by decide) (Nat.le_of_ble_eq_true rfl) ?_
    refine ev_putI (pc := 79) dX4_gather_79 fl_X4_60 (by decide) (by decide) (by decide) ?_
    refine ev_iinc_2 (pc := 82) (v := nI (r + 1)) dX4_gather_82 (nI_inc r) (by decide) ?_
    refine ev_goto (pc := 85) (tgt := 17) dX4_gather_85 (by decide) ?_
    refine ev_eq rfl rfl ?_ K
    rw [bI0] at h29
    unfold gaS
    rw [if_pos (Decidable.not_not.mp h29)]
    refine Prod.ext (funext fun k => funext fun j => ?_) rfl
    by_cases h1 : k = 13
    · subst h1
      by_cases h4 : j = 4
      · subst h4; simp [wr, gaW]
      · by_cases h5 : j = 5
        · subst h5; simp [wr, gaW, hp]
        · by_cases h6 : j = 6
          · subst h6; simp [wr, gaW, hp]
          · simp [wr, gaW, h4, h5, h6]
    · simp [wr, gaW, h1]
abbrev gaB (σ : Sto) (k p : Nat) : (Nat → Int32) × Int32 × Int32 × Int32 := itN (gaS σ k p) 1296 (σ.1 38, 0, 5, 0)
theorem m_X4_gather {S : Scr} (k : Nat) (hk : k ≤ 4) (p : Nat) (hp : p < 4) (σ : Sto) (hs : σ.1 13 2 = nI k) (hb0 : σ.1 37 1 = 0) : Mt S yX4_gather cX4_gather 3 none 3 [.ref 13, .int (nI p)] σ (Is none (gaW σ (gaB σ k p))) := by
  refine mt_of (ls := [.ref 13, .int (nI p), .null]) (by decide) rfl (Nat.le_of_ble_eq_true rfl) (by simp [Value.category]) ?_
  refine ev_aload_n_0 (pc := 0) dX4_gather_0 ?_
  refine ev_iconst (pc := 1) (v := 0) dX4_gather_1 (by decide) ?_
  refine ev_putI (pc := 2) dX4_gather_2 fl_X4_54 (by decide) (by decide) (by decide) ?_
  refine ev_aload_n_0 (pc := 5) dX4_gather_5 ?_
  refine ev_iconst (pc := 6) (v := 5) dX4_gather_6 (by decide) ?_
  refine ev_putI (pc := 7) dX4_gather_7 fl_X4_57 (by decide) (by decide) (by decide) ?_
  refine ev_aload_n_0 (pc := 10) dX4_gather_10 ?_
  refine ev_iconst (pc := 11) (v := 0) dX4_gather_11 (by decide) ?_
  refine ev_putI (pc := 12) dX4_gather_12 fl_X4_60 (by decide) (by decide) (by decide) ?_
  refine ev_iconst (pc := 15) (v := 0) dX4_gather_15 (by decide) ?_
  refine ev_istore_n_2 (pc := 16) dX4_gather_16 (by decide) ?_
  refine ev_eq (σ' := gaW σ (σ.1 38, 0, 5, 0)) rfl rfl (by
    refine Prod.ext (funext fun k => funext fun j => ?_) rfl
    by_cases h1 : k = 13
    · subst h1
      by_cases h4 : j = 4
      · subst h4; simp [wr, gaW]
      · by_cases h5 : j = 5
        · subst h5; simp [wr, gaW]
        · by_cases h6 : j = 6
          · subst h6; simp [wr, gaW]
          · simp [wr, gaW, h4, h5, h6]
    · by_cases h2 : k = 38
      · subst h2; simp [wr, gaW]
      · simp [wr, gaW, h1, h2]) ?_
  refine for_up 1296 (fun i a => Ev S RX4 cX4_gather 3 none 3 17 [.ref 13, .int (nI p), .int (nI i)] [] (gaW σ a) (Is none (gaW σ (gaB σ k p)))) (gaS σ k p) (fun i a hi K => b_X4_gather k hk p hp i hi a σ hs hb0 K) _ ?_
  refine ev_iload_n_2 (pc := 17) dX4_gather_17 ?_
  refine ev_sipush (pc := 18) (v := 1296) dX4_gather_18 (by decide) ?_
  refine ev_icmp_ge (pc := 21) (tgt := 88) dX4_gather_21 (by decide) (fun h21 => ?_) (fun h21 => by exact absurd (by decide) h21)
  exact ev_return (pc := 88) dX4_gather_88 rfl (⟨rfl, rfl⟩)
end
