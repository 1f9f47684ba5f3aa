section
-- ===== PART A: goes FIRST, ahead of the names: the tables' words, and 'selects' of the private methods out of them =====
/-- a private method of a class that the tables say can be made, by its rows of tables_1 -/
def lw_okq (q : MethodName × Nat) : Prop := (q.1.cls ≠ "java/lang/invoke/MethodHandle" ∧ q.1.cls ≠ "java/lang/invoke/VarHandle") ∧ Cond.instantiable q.1.cls q.2 ∈ tables_1 ∧ Cond.privateMethod q.1 ∈ tables_1 ∧ Cond.instanceMethod q.1 ∈ tables_1
theorem lw_p0 : lw_okq (⟨"StormPurses$Text", "stepBehind", "(LStormPurses$Step;I)LStormPurses$Step;"⟩, 2) := ⟨⟨by decide +kernel, by decide +kernel⟩, List.mem_of_getElem? (i := 112) (by decide +kernel), List.mem_of_getElem? (i := 164) (by decide +kernel), List.mem_of_getElem? (i := 165) (by decide +kernel)⟩
theorem lw_p1 : lw_okq (⟨"java/lang/Throwable", "fillInStackTrace", "(I)Ljava/lang/Throwable;"⟩, 6) := ⟨⟨by decide +kernel, by decide +kernel⟩, List.mem_of_getElem? (i := 283) (by decide +kernel), List.mem_of_getElem? (i := 281) (by decide +kernel), List.mem_of_getElem? (i := 282) (by decide +kernel)⟩
theorem lw_p2 : lw_okq (⟨"StormPurses", "withIslander", "(JI)J"⟩, 7) := ⟨⟨by decide +kernel, by decide +kernel⟩, List.mem_of_getElem? (i := 19) (by decide +kernel), List.mem_of_getElem? (i := 317) (by decide +kernel), List.mem_of_getElem? (i := 318) (by decide +kernel)⟩
theorem lw_p3 : lw_okq (⟨"StormPurses$Till", "addColour", "(III)V"⟩, 2) := ⟨⟨by decide +kernel, by decide +kernel⟩, List.mem_of_getElem? (i := 98) (by decide +kernel), List.mem_of_getElem? (i := 388) (by decide +kernel), List.mem_of_getElem? (i := 389) (by decide +kernel)⟩
theorem lw_p4 : lw_okq (⟨"StormPurses$Till", "note", "(IIII)V"⟩, 2) := ⟨⟨by decide +kernel, by decide +kernel⟩, List.mem_of_getElem? (i := 98) (by decide +kernel), List.mem_of_getElem? (i := 402) (by decide +kernel), List.mem_of_getElem? (i := 403) (by decide +kernel)⟩
theorem lw_p5 : lw_okq (⟨"StormPurses", "withPromise", "(JI)J"⟩, 7) := ⟨⟨by decide +kernel, by decide +kernel⟩, List.mem_of_getElem? (i := 19) (by decide +kernel), List.mem_of_getElem? (i := 411) (by decide +kernel), List.mem_of_getElem? (i := 412) (by decide +kernel)⟩
theorem lw_p6 : lw_okq (⟨"StormPurses", "needPromise", "(I)V"⟩, 7) := ⟨⟨by decide +kernel, by decide +kernel⟩, List.mem_of_getElem? (i := 19) (by decide +kernel), List.mem_of_getElem? (i := 419) (by decide +kernel), List.mem_of_getElem? (i := 420) (by decide +kernel)⟩
theorem lw_p7 : lw_okq (⟨"StormPurses", "homeByCircles", "()I"⟩, 7) := ⟨⟨by decide +kernel, by decide +kernel⟩, List.mem_of_getElem? (i := 19) (by decide +kernel), List.mem_of_getElem? (i := 437) (by decide +kernel), List.mem_of_getElem? (i := 438) (by decide +kernel)⟩
theorem lw_p8 : lw_okq (⟨"StormPurses", "homeByTrying", "()I"⟩, 7) := ⟨⟨by decide +kernel, by decide +kernel⟩, List.mem_of_getElem? (i := 19) (by decide +kernel), List.mem_of_getElem? (i := 444) (by decide +kernel), List.mem_of_getElem? (i := 445) (by decide +kernel)⟩
theorem lw_p9 : lw_okq (⟨"StormPurses", "areHome", "()Z"⟩, 7) := ⟨⟨by decide +kernel, by decide +kernel⟩, List.mem_of_getElem? (i := 19) (by decide +kernel), List.mem_of_getElem? (i := 448) (by decide +kernel), List.mem_of_getElem? (i := 449) (by decide +kernel)⟩
theorem lw_p10 : lw_okq (⟨"StormPurses$History", "dropOldest", "()V"⟩, 2) := ⟨⟨by decide +kernel, by decide +kernel⟩, List.mem_of_getElem? (i := 81) (by decide +kernel), List.mem_of_getElem? (i := 491) (by decide +kernel), List.mem_of_getElem? (i := 492) (by decide +kernel)⟩
theorem lw_p11 : lw_okq (⟨"StormPurses$Island", "breakPromises", "()I"⟩, 12) := ⟨⟨by decide +kernel, by decide +kernel⟩, List.mem_of_getElem? (i := 27) (by decide +kernel), List.mem_of_getElem? (i := 506) (by decide +kernel), List.mem_of_getElem? (i := 507) (by decide +kernel)⟩
theorem lw_p12 : lw_okq (⟨"StormPurses", "reasonAgainst", "(IIIIII)I"⟩, 7) := ⟨⟨by decide +kernel, by decide +kernel⟩, List.mem_of_getElem? (i := 19) (by decide +kernel), List.mem_of_getElem? (i := 538) (by decide +kernel), List.mem_of_getElem? (i := 539) (by decide +kernel)⟩
theorem lw_p13 : lw_okq (⟨"StormPurses", "keepPromise", "(I)I"⟩, 7) := ⟨⟨by decide +kernel, by decide +kernel⟩, List.mem_of_getElem? (i := 19) (by decide +kernel), List.mem_of_getElem? (i := 581) (by decide +kernel), List.mem_of_getElem? (i := 582) (by decide +kernel)⟩
theorem lw_p14 : lw_okq (⟨"StormPurses", "isDone", "(I)Z"⟩, 7) := ⟨⟨by decide +kernel, by decide +kernel⟩, List.mem_of_getElem? (i := 19) (by decide +kernel), List.mem_of_getElem? (i := 610) (by decide +kernel), List.mem_of_getElem? (i := 611) (by decide +kernel)⟩
theorem lw_p15 : lw_okq (⟨"StormPurses", "isStormDone", "()Z"⟩, 7) := ⟨⟨by decide +kernel, by decide +kernel⟩, List.mem_of_getElem? (i := 19) (by decide +kernel), List.mem_of_getElem? (i := 618) (by decide +kernel), List.mem_of_getElem? (i := 619) (by decide +kernel)⟩
def lw_privs_1 : List (MethodName × Nat) := [(⟨"StormPurses$Text", "stepBehind", "(LStormPurses$Step;I)LStormPurses$Step;"⟩, 2), (⟨"java/lang/Throwable", "fillInStackTrace", "(I)Ljava/lang/Throwable;"⟩, 6), (⟨"StormPurses", "withIslander", "(JI)J"⟩, 7), (⟨"StormPurses$Till", "addColour", "(III)V"⟩, 2), (⟨"StormPurses$Till", "note", "(IIII)V"⟩, 2), (⟨"StormPurses", "withPromise", "(JI)J"⟩, 7), (⟨"StormPurses", "needPromise", "(I)V"⟩, 7), (⟨"StormPurses", "homeByCircles", "()I"⟩, 7), (⟨"StormPurses", "homeByTrying", "()I"⟩, 7), (⟨"StormPurses", "areHome", "()Z"⟩, 7), (⟨"StormPurses$History", "dropOldest", "()V"⟩, 2), (⟨"StormPurses$Island", "breakPromises", "()I"⟩, 12), (⟨"StormPurses", "reasonAgainst", "(IIIIII)I"⟩, 7), (⟨"StormPurses", "keepPromise", "(I)I"⟩, 7), (⟨"StormPurses", "isDone", "(I)Z"⟩, 7), (⟨"StormPurses", "isStormDone", "()Z"⟩, 7)]
theorem lw_r1 : ∀ q ∈ lw_privs_1, lw_okq q := List.forall_mem_cons.mpr ⟨lw_p0, List.forall_mem_cons.mpr ⟨lw_p1, List.forall_mem_cons.mpr ⟨lw_p2, List.forall_mem_cons.mpr ⟨lw_p3, List.forall_mem_cons.mpr ⟨lw_p4, List.forall_mem_cons.mpr ⟨lw_p5, List.forall_mem_cons.mpr ⟨lw_p6, List.forall_mem_cons.mpr ⟨lw_p7, List.forall_mem_cons.mpr ⟨lw_p8, List.forall_mem_cons.mpr ⟨lw_p9, List.forall_mem_cons.mpr ⟨lw_p10, List.forall_mem_cons.mpr ⟨lw_p11, List.forall_mem_cons.mpr ⟨lw_p12, List.forall_mem_cons.mpr ⟨lw_p13, List.forall_mem_cons.mpr ⟨lw_p14, List.forall_mem_cons.mpr ⟨lw_p15, fun _ h => absurd h List.not_mem_nil⟩⟩⟩⟩⟩⟩⟩⟩⟩⟩⟩⟩⟩⟩⟩⟩
theorem lw_p16 : lw_okq (⟨"StormPursesModel", "holds", "(I)Z"⟩, 15) := ⟨⟨by decide +kernel, by decide +kernel⟩, List.mem_of_getElem? (i := 699) (by decide +kernel), List.mem_of_getElem? (i := 759) (by decide +kernel), List.mem_of_getElem? (i := 760) (by decide +kernel)⟩
theorem lw_p17 : lw_okq (⟨"StormPursesModel", "save", "()V"⟩, 15) := ⟨⟨by decide +kernel, by decide +kernel⟩, List.mem_of_getElem? (i := 699) (by decide +kernel), List.mem_of_getElem? (i := 763) (by decide +kernel), List.mem_of_getElem? (i := 764) (by decide +kernel)⟩
theorem lw_p18 : lw_okq (⟨"StormPursesModel", "doStorm", "()I"⟩, 15) := ⟨⟨by decide +kernel, by decide +kernel⟩, List.mem_of_getElem? (i := 699) (by decide +kernel), List.mem_of_getElem? (i := 770) (by decide +kernel), List.mem_of_getElem? (i := 771) (by decide +kernel)⟩
theorem lw_p19 : lw_okq (⟨"StormPursesModel", "of", "(II)I"⟩, 15) := ⟨⟨by decide +kernel, by decide +kernel⟩, List.mem_of_getElem? (i := 699) (by decide +kernel), List.mem_of_getElem? (i := 774) (by decide +kernel), List.mem_of_getElem? (i := 775) (by decide +kernel)⟩
theorem lw_p20 : lw_okq (⟨"StormPursesModel", "drop", "(I)V"⟩, 15) := ⟨⟨by decide +kernel, by decide +kernel⟩, List.mem_of_getElem? (i := 699) (by decide +kernel), List.mem_of_getElem? (i := 778) (by decide +kernel), List.mem_of_getElem? (i := 779) (by decide +kernel)⟩
theorem lw_p21 : lw_okq (⟨"StormPursesModel", "doCross", "(II)I"⟩, 15) := ⟨⟨by decide +kernel, by decide +kernel⟩, List.mem_of_getElem? (i := 699) (by decide +kernel), List.mem_of_getElem? (i := 792) (by decide +kernel), List.mem_of_getElem? (i := 793) (by decide +kernel)⟩
theorem lw_p22 : lw_okq (⟨"StormPursesModel", "reasonOf", "(IIIIII)I"⟩, 15) := ⟨⟨by decide +kernel, by decide +kernel⟩, List.mem_of_getElem? (i := 699) (by decide +kernel), List.mem_of_getElem? (i := 803) (by decide +kernel), List.mem_of_getElem? (i := 804) (by decide +kernel)⟩
theorem lw_p23 : lw_okq (⟨"StormPursesModel", "capsOf", "(II)I"⟩, 15) := ⟨⟨by decide +kernel, by decide +kernel⟩, List.mem_of_getElem? (i := 699) (by decide +kernel), List.mem_of_getElem? (i := 807) (by decide +kernel), List.mem_of_getElem? (i := 808) (by decide +kernel)⟩
theorem lw_p24 : lw_okq (⟨"StormPursesModel", "refuse", "(I)I"⟩, 15) := ⟨⟨by decide +kernel, by decide +kernel⟩, List.mem_of_getElem? (i := 699) (by decide +kernel), List.mem_of_getElem? (i := 811) (by decide +kernel), List.mem_of_getElem? (i := 812) (by decide +kernel)⟩
theorem lw_p25 : lw_okq (⟨"StormPursesModel", "give", "(IIII)V"⟩, 15) := ⟨⟨by decide +kernel, by decide +kernel⟩, List.mem_of_getElem? (i := 699) (by decide +kernel), List.mem_of_getElem? (i := 815) (by decide +kernel), List.mem_of_getElem? (i := 816) (by decide +kernel)⟩
theorem lw_p26 : lw_okq (⟨"StormPursesModel", "doPromise", "(IIII)I"⟩, 15) := ⟨⟨by decide +kernel, by decide +kernel⟩, List.mem_of_getElem? (i := 699) (by decide +kernel), List.mem_of_getElem? (i := 834) (by decide +kernel), List.mem_of_getElem? (i := 835) (by decide +kernel)⟩
theorem lw_p27 : lw_okq (⟨"StormPursesModel", "isPromise", "(I)Z"⟩, 15) := ⟨⟨by decide +kernel, by decide +kernel⟩, List.mem_of_getElem? (i := 699) (by decide +kernel), List.mem_of_getElem? (i := 842) (by decide +kernel), List.mem_of_getElem? (i := 843) (by decide +kernel)⟩
theorem lw_p28 : lw_okq (⟨"StormPursesModel", "doFulfil", "(I)I"⟩, 15) := ⟨⟨by decide +kernel, by decide +kernel⟩, List.mem_of_getElem? (i := 699) (by decide +kernel), List.mem_of_getElem? (i := 846) (by decide +kernel), List.mem_of_getElem? (i := 847) (by decide +kernel)⟩
theorem lw_p29 : lw_okq (⟨"StormPursesModel", "payOf", "(I)I"⟩, 15) := ⟨⟨by decide +kernel, by decide +kernel⟩, List.mem_of_getElem? (i := 699) (by decide +kernel), List.mem_of_getElem? (i := 850) (by decide +kernel), List.mem_of_getElem? (i := 851) (by decide +kernel)⟩
theorem lw_p30 : lw_okq (⟨"StormPursesModel", "payFrom", "(II)I"⟩, 15) := ⟨⟨by decide +kernel, by decide +kernel⟩, List.mem_of_getElem? (i := 699) (by decide +kernel), List.mem_of_getElem? (i := 854) (by decide +kernel), List.mem_of_getElem? (i := 855) (by decide +kernel)⟩
theorem lw_p31 : lw_okq (⟨"StormPursesModel", "most", "(III)I"⟩, 15) := ⟨⟨by decide +kernel, by decide +kernel⟩, List.mem_of_getElem? (i := 699) (by decide +kernel), List.mem_of_getElem? (i := 858) (by decide +kernel), List.mem_of_getElem? (i := 859) (by decide +kernel)⟩
def lw_privs_2 : List (MethodName × Nat) := [(⟨"StormPursesModel", "holds", "(I)Z"⟩, 15), (⟨"StormPursesModel", "save", "()V"⟩, 15), (⟨"StormPursesModel", "doStorm", "()I"⟩, 15), (⟨"StormPursesModel", "of", "(II)I"⟩, 15), (⟨"StormPursesModel", "drop", "(I)V"⟩, 15), (⟨"StormPursesModel", "doCross", "(II)I"⟩, 15), (⟨"StormPursesModel", "reasonOf", "(IIIIII)I"⟩, 15), (⟨"StormPursesModel", "capsOf", "(II)I"⟩, 15), (⟨"StormPursesModel", "refuse", "(I)I"⟩, 15), (⟨"StormPursesModel", "give", "(IIII)V"⟩, 15), (⟨"StormPursesModel", "doPromise", "(IIII)I"⟩, 15), (⟨"StormPursesModel", "isPromise", "(I)Z"⟩, 15), (⟨"StormPursesModel", "doFulfil", "(I)I"⟩, 15), (⟨"StormPursesModel", "payOf", "(I)I"⟩, 15), (⟨"StormPursesModel", "payFrom", "(II)I"⟩, 15), (⟨"StormPursesModel", "most", "(III)I"⟩, 15)]
theorem lw_r2 : ∀ q ∈ lw_privs_2, lw_okq q := List.forall_mem_cons.mpr ⟨lw_p16, List.forall_mem_cons.mpr ⟨lw_p17, List.forall_mem_cons.mpr ⟨lw_p18, List.forall_mem_cons.mpr ⟨lw_p19, List.forall_mem_cons.mpr ⟨lw_p20, List.forall_mem_cons.mpr ⟨lw_p21, List.forall_mem_cons.mpr ⟨lw_p22, List.forall_mem_cons.mpr ⟨lw_p23, List.forall_mem_cons.mpr ⟨lw_p24, List.forall_mem_cons.mpr ⟨lw_p25, List.forall_mem_cons.mpr ⟨lw_p26, List.forall_mem_cons.mpr ⟨lw_p27, List.forall_mem_cons.mpr ⟨lw_p28, List.forall_mem_cons.mpr ⟨lw_p29, List.forall_mem_cons.mpr ⟨lw_p30, List.forall_mem_cons.mpr ⟨lw_p31, fun _ h => absurd h List.not_mem_nil⟩⟩⟩⟩⟩⟩⟩⟩⟩⟩⟩⟩⟩⟩⟩⟩
theorem lw_p32 : lw_okq (⟨"StormPursesModel", "readText", "(Z)Z"⟩, 15) := ⟨⟨by decide +kernel, by decide +kernel⟩, List.mem_of_getElem? (i := 699) (by decide +kernel), List.mem_of_getElem? (i := 877) (by decide +kernel), List.mem_of_getElem? (i := 878) (by decide +kernel)⟩
theorem lw_p33 : lw_okq (⟨"StormPursesModel", "readOrder", "()Z"⟩, 15) := ⟨⟨by decide +kernel, by decide +kernel⟩, List.mem_of_getElem? (i := 699) (by decide +kernel), List.mem_of_getElem? (i := 881) (by decide +kernel), List.mem_of_getElem? (i := 882) (by decide +kernel)⟩
theorem lw_p34 : lw_okq (⟨"StormPursesModel", "readDigit", "(II)Z"⟩, 15) := ⟨⟨by decide +kernel, by decide +kernel⟩, List.mem_of_getElem? (i := 699) (by decide +kernel), List.mem_of_getElem? (i := 885) (by decide +kernel), List.mem_of_getElem? (i := 886) (by decide +kernel)⟩
theorem lw_p35 : lw_okq (⟨"StormPursesModel", "isNext", "(II)Z"⟩, 15) := ⟨⟨by decide +kernel, by decide +kernel⟩, List.mem_of_getElem? (i := 699) (by decide +kernel), List.mem_of_getElem? (i := 889) (by decide +kernel), List.mem_of_getElem? (i := 890) (by decide +kernel)⟩
theorem lw_p36 : lw_okq (⟨"StormPursesModel", "readOther", "()Z"⟩, 15) := ⟨⟨by decide +kernel, by decide +kernel⟩, List.mem_of_getElem? (i := 699) (by decide +kernel), List.mem_of_getElem? (i := 893) (by decide +kernel), List.mem_of_getElem? (i := 894) (by decide +kernel)⟩
theorem lw_p37 : lw_okq (⟨"StormPursesModel", "takes", "(I)Z"⟩, 15) := ⟨⟨by decide +kernel, by decide +kernel⟩, List.mem_of_getElem? (i := 699) (by decide +kernel), List.mem_of_getElem? (i := 897) (by decide +kernel), List.mem_of_getElem? (i := 898) (by decide +kernel)⟩
theorem lw_p38 : lw_okq (⟨"StormPursesModel", "readSum", "()Z"⟩, 15) := ⟨⟨by decide +kernel, by decide +kernel⟩, List.mem_of_getElem? (i := 699) (by decide +kernel), List.mem_of_getElem? (i := 901) (by decide +kernel), List.mem_of_getElem? (i := 902) (by decide +kernel)⟩
theorem lw_p39 : lw_okq (⟨"StormPursesModel", "does", "()Z"⟩, 15) := ⟨⟨by decide +kernel, by decide +kernel⟩, List.mem_of_getElem? (i := 699) (by decide +kernel), List.mem_of_getElem? (i := 905) (by decide +kernel), List.mem_of_getElem? (i := 906) (by decide +kernel)⟩
theorem lw_p40 : lw_okq (⟨"StormPursesModel", "islanderTold", "(II)I"⟩, 15) := ⟨⟨by decide +kernel, by decide +kernel⟩, List.mem_of_getElem? (i := 699) (by decide +kernel), List.mem_of_getElem? (i := 936) (by decide +kernel), List.mem_of_getElem? (i := 937) (by decide +kernel)⟩
theorem lw_p41 : lw_okq (⟨"StormPursesModel", "worthOf", "(I)I"⟩, 15) := ⟨⟨by decide +kernel, by decide +kernel⟩, List.mem_of_getElem? (i := 699) (by decide +kernel), List.mem_of_getElem? (i := 940) (by decide +kernel), List.mem_of_getElem? (i := 941) (by decide +kernel)⟩
theorem lw_p42 : lw_okq (⟨"StormPursesModel", "circle", "(I)I"⟩, 15) := ⟨⟨by decide +kernel, by decide +kernel⟩, List.mem_of_getElem? (i := 699) (by decide +kernel), List.mem_of_getElem? (i := 944) (by decide +kernel), List.mem_of_getElem? (i := 945) (by decide +kernel)⟩
theorem lw_p43 : lw_okq (⟨"StormPursesModel", "whereIs", "(II)I"⟩, 15) := ⟨⟨by decide +kernel, by decide +kernel⟩, List.mem_of_getElem? (i := 699) (by decide +kernel), List.mem_of_getElem? (i := 948) (by decide +kernel), List.mem_of_getElem? (i := 949) (by decide +kernel)⟩
theorem lw_p44 : lw_okq (⟨"StormPursesModel", "sums", "(II)I"⟩, 15) := ⟨⟨by decide +kernel, by decide +kernel⟩, List.mem_of_getElem? (i := 699) (by decide +kernel), List.mem_of_getElem? (i := 952) (by decide +kernel), List.mem_of_getElem? (i := 953) (by decide +kernel)⟩
theorem lw_p45 : lw_okq (⟨"StormPursesModel", "countTold", "(I)I"⟩, 15) := ⟨⟨by decide +kernel, by decide +kernel⟩, List.mem_of_getElem? (i := 699) (by decide +kernel), List.mem_of_getElem? (i := 968) (by decide +kernel), List.mem_of_getElem? (i := 969) (by decide +kernel)⟩
theorem lw_p46 : lw_okq (⟨"StormPursesModel", "allCaps", "(Z)I"⟩, 15) := ⟨⟨by decide +kernel, by decide +kernel⟩, List.mem_of_getElem? (i := 699) (by decide +kernel), List.mem_of_getElem? (i := 972) (by decide +kernel), List.mem_of_getElem? (i := 973) (by decide +kernel)⟩
theorem lw_p47 : lw_okq (⟨"StormPursesModel", "home", "()I"⟩, 15) := ⟨⟨by decide +kernel, by decide +kernel⟩, List.mem_of_getElem? (i := 699) (by decide +kernel), List.mem_of_getElem? (i := 984) (by decide +kernel), List.mem_of_getElem? (i := 985) (by decide +kernel)⟩
def lw_privs_3 : List (MethodName × Nat) := [(⟨"StormPursesModel", "readText", "(Z)Z"⟩, 15), (⟨"StormPursesModel", "readOrder", "()Z"⟩, 15), (⟨"StormPursesModel", "readDigit", "(II)Z"⟩, 15), (⟨"StormPursesModel", "isNext", "(II)Z"⟩, 15), (⟨"StormPursesModel", "readOther", "()Z"⟩, 15), (⟨"StormPursesModel", "takes", "(I)Z"⟩, 15), (⟨"StormPursesModel", "readSum", "()Z"⟩, 15), (⟨"StormPursesModel", "does", "()Z"⟩, 15), (⟨"StormPursesModel", "islanderTold", "(II)I"⟩, 15), (⟨"StormPursesModel", "worthOf", "(I)I"⟩, 15), (⟨"StormPursesModel", "circle", "(I)I"⟩, 15), (⟨"StormPursesModel", "whereIs", "(II)I"⟩, 15), (⟨"StormPursesModel", "sums", "(II)I"⟩, 15), (⟨"StormPursesModel", "countTold", "(I)I"⟩, 15), (⟨"StormPursesModel", "allCaps", "(Z)I"⟩, 15), (⟨"StormPursesModel", "home", "()I"⟩, 15)]
theorem lw_r3 : ∀ q ∈ lw_privs_3, lw_okq q := List.forall_mem_cons.mpr ⟨lw_p32, List.forall_mem_cons.mpr ⟨lw_p33, List.forall_mem_cons.mpr ⟨lw_p34, List.forall_mem_cons.mpr ⟨lw_p35, List.forall_mem_cons.mpr ⟨lw_p36, List.forall_mem_cons.mpr ⟨lw_p37, List.forall_mem_cons.mpr ⟨lw_p38, List.forall_mem_cons.mpr ⟨lw_p39, List.forall_mem_cons.mpr ⟨lw_p40, List.forall_mem_cons.mpr ⟨lw_p41, List.forall_mem_cons.mpr ⟨lw_p42, List.forall_mem_cons.mpr ⟨lw_p43, List.forall_mem_cons.mpr ⟨lw_p44, List.forall_mem_cons.mpr ⟨lw_p45, List.forall_mem_cons.mpr ⟨lw_p46, List.forall_mem_cons.mpr ⟨lw_p47, fun _ h => absurd h List.not_mem_nil⟩⟩⟩⟩⟩⟩⟩⟩⟩⟩⟩⟩⟩⟩⟩⟩
theorem lw_p48 : lw_okq (⟨"StormPursesModel", "richestTold", "()I"⟩, 15) := ⟨⟨by decide +kernel, by decide +kernel⟩, List.mem_of_getElem? (i := 699) (by decide +kernel), List.mem_of_getElem? (i := 996) (by decide +kernel), List.mem_of_getElem? (i := 997) (by decide +kernel)⟩
theorem lw_p49 : lw_okq (⟨"StormPursesModel", "keepIn", "(I)I"⟩, 15) := ⟨⟨by decide +kernel, by decide +kernel⟩, List.mem_of_getElem? (i := 699) (by decide +kernel), List.mem_of_getElem? (i := 1004) (by decide +kernel), List.mem_of_getElem? (i := 1005) (by decide +kernel)⟩
theorem lw_p50 : lw_okq (⟨"StormPursesModel", "whoseComes", "(II)I"⟩, 15) := ⟨⟨by decide +kernel, by decide +kernel⟩, List.mem_of_getElem? (i := 699) (by decide +kernel), List.mem_of_getElem? (i := 1008) (by decide +kernel), List.mem_of_getElem? (i := 1009) (by decide +kernel)⟩
theorem lw_p51 : lw_okq (⟨"StormPursesModel", "shareTold", "()D"⟩, 15) := ⟨⟨by decide +kernel, by decide +kernel⟩, List.mem_of_getElem? (i := 699) (by decide +kernel), List.mem_of_getElem? (i := 1016) (by decide +kernel), List.mem_of_getElem? (i := 1017) (by decide +kernel)⟩
theorem lw_p52 : lw_okq (⟨"StormPursesModel", "mix", "(J)V"⟩, 15) := ⟨⟨by decide +kernel, by decide +kernel⟩, List.mem_of_getElem? (i := 699) (by decide +kernel), List.mem_of_getElem? (i := 1025) (by decide +kernel), List.mem_of_getElem? (i := 1026) (by decide +kernel)⟩
theorem lw_p53 : lw_okq (⟨"StormPursesModel", "mixIslander", "(I)V"⟩, 15) := ⟨⟨by decide +kernel, by decide +kernel⟩, List.mem_of_getElem? (i := 699) (by decide +kernel), List.mem_of_getElem? (i := 1030) (by decide +kernel), List.mem_of_getElem? (i := 1031) (by decide +kernel)⟩
def lw_privs_4 : List (MethodName × Nat) := [(⟨"StormPursesModel", "richestTold", "()I"⟩, 15), (⟨"StormPursesModel", "keepIn", "(I)I"⟩, 15), (⟨"StormPursesModel", "whoseComes", "(II)I"⟩, 15), (⟨"StormPursesModel", "shareTold", "()D"⟩, 15), (⟨"StormPursesModel", "mix", "(J)V"⟩, 15), (⟨"StormPursesModel", "mixIslander", "(I)V"⟩, 15)]
theorem lw_r4 : ∀ q ∈ lw_privs_4, lw_okq q := List.forall_mem_cons.mpr ⟨lw_p48, List.forall_mem_cons.mpr ⟨lw_p49, List.forall_mem_cons.mpr ⟨lw_p50, List.forall_mem_cons.mpr ⟨lw_p51, List.forall_mem_cons.mpr ⟨lw_p52, List.forall_mem_cons.mpr ⟨lw_p53, fun _ h => absurd h List.not_mem_nil⟩⟩⟩⟩⟩⟩
def lw_privs : List (MethodName × Nat) := lw_privs_1 ++ (lw_privs_2 ++ (lw_privs_3 ++ (lw_privs_4)))
def lw_tbl : List Cond := k2_sels lw_privs ++ tables_1
theorem lw_privs_ok : ∀ q ∈ lw_privs, lw_okq q := by
  show ∀ q ∈ lw_privs_1 ++ (lw_privs_2 ++ (lw_privs_3 ++ (lw_privs_4))), lw_okq q
  exact List.forall_mem_append.mpr ⟨lw_r1, List.forall_mem_append.mpr ⟨lw_r2, List.forall_mem_append.mpr ⟨lw_r3, lw_r4⟩⟩⟩
/-- the streams that the claim lets the run draw from -/
abbrev lw_cs : List Choice := [Jvm.Choice.named "NaN.bits"]
theorem lw_bits : nanBits ∈ lw_cs := by first | decide | exact List.mem_cons_self | simp [lw_cs, nanBits]
/-! ===== BEGIN words of one list among another's, by their places ===== -/
theorem goodIn_r {big : List Cond} (ws : List Cond) (ps : List Nat) (hp : ws = ps.filterMap (fun i => big[i]?)) (h : ws.all goodWord = true) : GoodIn big ws := by
  intro w hw
  have h1 := List.all_eq_true.mp h w hw
  rw [hp] at hw
  obtain ⟨i, -, hi⟩ := List.mem_filterMap.mp hw
  have hm : w ∈ big := by first | exact List.mem_of_getElem? hi | exact List.getElem?_mem hi
  exact ⟨hm, good_of_word h1⟩
theorem goodIn_app {big a b : List Cond} (ha : GoodIn big a) (hb : GoodIn big b) : GoodIn big (a ++ b) := fun w h => (List.mem_append.mp h).elim (ha w) (hb w)
theorem goodIn_ca {big a b : List Cond} {c : Cond} (ha : GoodIn big (c :: a)) (hb : GoodIn big b) : GoodIn big (c :: (a ++ b)) := fun w h => (List.mem_cons.mp h).elim (fun e => ha w (List.mem_cons.mpr (Or.inl e))) (fun h => (List.mem_append.mp h).elim (fun h => ha w (List.mem_cons.mpr (Or.inr h))) (hb w))
theorem goodIn_sub {big ws : List Cond} (hm : ∀ w ∈ ws, w ∈ big) (h : ws.all goodWord = true) : GoodIn big ws := fun w hw => ⟨hm w hw, good_of_word (List.all_eq_true.mp h w hw)⟩
/-! ===== END ===== -/

/-! ===== BEGIN exceptions that leave a method, and their catching by the caller (launches without stack traces) ===== -/
section VXA
/-! The laws vx_back, vx_callV, vx_callS, vx_callSW, vx_throw0, vx_throwS follow proofs of the library, with one case more: JvmDerived/Free/Laws.lean (Back.of_free), Shelf42/LK1.lean (callV, callS), Shelf/KitTraced.lean (throwNew0V, throwNewS). -/
/-- where a method has thrown q: the class by its name, the cell, what was written, the world -/
def vx_T (XC : String → State → State → Prop) (st : State) (q : Addr) (t : State) (mc ms : Nat) (free : Addr → Prop) : Prop :=
  ∃ (E : String) (ce : Cell) (L : List Loc), XC E st t ∧ t.heap[q]? = some ce ∧ ce.vm = .none ∧ st.vm.findClass E = some ce.cls ∧ st.WarmedH t.vm ∧ st.sameButNew ({ t with vm := st.vm } : State) L mc ms ∧ ∀ z ∈ L, free z.base
def vx_Q (Qc : Array Value → State → Outcome → State → Prop) (XC : String → State → State → Prop) (mc ms : Nat) (free : Addr → Prop) : Array Value → State → Outcome → State → Prop := fun a st o t =>
  (Qc a st o t ∧ ∃ L, FrameEnd st o t L mc ms ∧ ∀ q ∈ L, free q.base) ∨ ∃ q, o = .threw q ∧ vx_T XC st q t mc ms free
/-- a callee that returns or throws -/
def vx_Met (l : Launch) (y : MethodName) (ws : List Cond) (rm : Room) (Pc : Array Value → State → Prop) (Qc : Array Value → State → Outcome → State → Prop) (XC : String → State → State → Prop) (mc ms : Nat) (free : Addr → Prop) : Prop :=
  MetFree l y (headSpec ws rm) Pc (fun _ _ _ _ _ => True) (vx_Q Qc XC mc ms free)
def vx_Post (XC : String → State → State → Prop) (mc ms : Nat) (free : Addr → Prop) : Pt → Array Value → Addr → Pt → Prop := fun A a q B =>
  ∃ (g : JFrame) (mk : MethodId) (t : State) (L : List Loc) (E : String) (ce : Cell), B.U.heap = t.heap ∧ B.U.vm = t.vm ∧ XC E (A.U.calling g mk a) t ∧ t.heap[q]? = some ce ∧ ce.vm = .none ∧ A.U.vm.findClass E = some ce.cls ∧ B.locs = A.locs ++ L ∧ (∀ z ∈ L, free z.base) ∧ B.cells = A.cells + mc ∧ B.slots = A.slots + ms
def vx_Back (l : Launch) (R : Room) (p : Program) (e : Env) (below : List Frame) (s : State) (sargs : Array Value) (y : MethodName) (len W9 : Nat)
    (Pre : Pt → Array Value → Prop) (Post : Pt → Array Value → Option Value → Pt → Prop) (PostX : Pt → Array Value → Addr → Pt → Prop) : Prop :=
  ∀ (m : MethodId) (meth : Method) (c : Code) (A : Pt) (g : JFrame) (ig : Instr) (mk : MethodId) (a : Array Value),
    Stand p l e R s m sargs below meth c A.U A.locs A.cells A.slots → g.method = m → g.locals.size = c.maxLocals → decode c.code g.pc = .ok (ig, len) →
    2 * g.monitorRoom + (g.stack.map fun v => v.category).sum ≤ W9 → A.U.methodNamed? y = some mk → Pre A a →
    (∃ (v : Option Value) (B : Pt), Stand p l e R s m sargs below meth c B.U B.locs B.cells B.slots ∧ Post A a v B ∧
      Steps p.tables e below (doInvoke e (A.U.setTop g) [] mk a).1 (B.U.setTop { g with pc := g.pc + len, stack := v.toList ++ g.stack })) ∨
    (∃ (q : Addr) (B : Pt), Stand p l e R s m sargs below meth c B.U B.locs B.cells B.slots ∧ PostX A a q B ∧
      Steps p.tables e below (doInvoke e (A.U.setTop g) [] mk a).1 ((B.U.setTop g).pushFrame (.throwing q)))
section Payer
variable {l : Launch} {R : Room} {p : Program} {e : Env} {below : List Frame} {s : State} {sargs : Array Value} {y : MethodName} {len W9 : Nat}
theorem vx_back {ws : List Cond} {rm : Room} {Pc : Array Value → State → Prop} {Qc : Array Value → State → Outcome → State → Prop} {XC : String → State → State → Prop} {mc ms : Nat} {free : Addr → Prop} {bytes : ByteArray} {maxL : Nat} {ret : Option FieldType}
    (hM : vx_Met l y ws rm Pc Qc XC mc ms free) (hblind : FrameBlind Pc) (hrc : rm.cells = mc) (hrs : rm.slots = ms)
    (hframes : rm.frames + 1 ≤ R.frames) (hlocals : W9 + (maxL + 11) + rm.locals ≤ R.locals)
    (hws : ∀ w ∈ ws, ∀ a' U, s.WarmedH U.vm → w.before a' U = true) (hcode : Cond.code y bytes maxL ret ∈ ws) (hinit : ∀ a' U, s.WarmedH U.vm → (Cond.initialized y.cls).before a' U = true) :
    vx_Back l R p e below s sargs y len W9 (PreOf R mc ms Pc) (PostOf Qc mc ms free) (vx_Post XC mc ms free) := by
  intro m meth c A g ig mk a X hg hsize hdg hW hn hp
  have h1 : (headSpec ws rm).pre.before a A.U = true := atoms_intro fun w hw => hws w hw _ _ X.warmed
  have h2 : (Cond.code y bytes maxL ret).before a A.U = true := hws _ hcode _ _ X.warmed
  have h3 : (Cond.initialized y.cls).before a A.U = true := hinit _ _ X.warmed
  have h4 : A.cells + (headSpec ws rm).room.cells ≤ R.cells := by rw [show (headSpec ws rm).room.cells = mc from hrc]; exact hp.1
  have h5 : A.slots + (headSpec ws rm).room.slots ≤ R.slots := by rw [show (headSpec ws rm).room.slots = ms from hrs]; exact hp.2.1
  have hPc : Pc a (A.U.calling g mk a) := hblind _ _ _ _ hp.2.2
  obtain ⟨U, Ls, c0, s0⟩ := A
  dsimp only [Pt.U, Pt.locs, Pt.cells, Pt.slots] at h1 h2 h3 h4 h5 X hn hPc ⊢
  obtain ⟨methY, cY, hmY, hcY, -, hlY, -, -, -, -⟩ := Cond.code_spec hn h2
  obtain ⟨kY, hkY, -⟩ := className_of_methodNamed hn
  have hinitY : kY.init = .initialized := Cond.initialized_spec (findClass_of_methodNamed hn) hkY h3
  have h : At U g.method c below := by rw [hg]; exact X.here
  have hlocals9 : W9 + (maxL + 11) + (headSpec ws rm).room.locals ≤ R.locals := hlocals
  have happ : (headSpec ws rm).appliesLoose y e.platform (U.calling g mk a) = true :=
    Spec.appliesLoose_calling (g := g) h hdg hn hkY hinitY
      (X.room_calling (g := g) (R' := (headSpec ws rm).room) hsize hmY hcY hframes (by rw [hlY]; omega) h4 h5) h1
  obtain ⟨mid, hmid⟩ := h.above
  have hfr : (U.setTop g).frames = (.java g :: mid) ++ below := by rw [State.frames_setTop' g h.top, hmid]; rfl
  obtain ⟨o, s₂, hsteps, -, hend, hq⟩ := Steps.callFree hM p X.admits X.cas X.clock (acts := []) hfr happ hPc trivial
  have hq' : vx_Q Qc XC mc ms free a (U.calling g mk a) o s₂ := hq
  rw [State.frames_setTop' g h.top] at hend
  obtain ⟨g₀, hg0⟩ := Option.isSome_iff_exists.mp h.top
  obtain ⟨r, hr⟩ := State.topJava?_eq_some.mp hg0
  have hr' : (({ U with heap := s₂.heap, slotsUsed := s₂.slotsUsed } : State).setVm s₂.vm).frames = .java g₀ :: r := hr
  rcases hq' with ⟨hqc, L, hfe, hL⟩ | ⟨q, rfl, E, ce, L, hx, hce, hcv, hcl, hW₂, hsm, hL⟩
  · obtain ⟨⟨v, rfl⟩, hW₂, e2, q2, q3, q4, q5, q6⟩ := id hfe
    have e3 : s₂ = ({ (U.calling g mk a).setFrames s₂.frames with heap := s₂.heap, slotsUsed := s₂.slotsUsed } : State).setVm s₂.vm := by
      have : s₂ = ({ s₂ with vm := (U.calling g mk a).vm } : State).setVm s₂.vm := rfl
      rw [e2] at this
      exact this
    obtain ⟨c₂, i₂, len₂, hc₂, hd₂, hf₂⟩ := hend
    have hW' : U.WarmedH s₂.vm := hW₂
    have hcc : c₂ = c := by
      have h1 : s₂.code? g.method = U.code? g.method := by
        rw [State.code?_eq, State.code?_eq, hW'.alike.method?]
      exact Option.some.inj (hc₂.symm.trans (h1.trans h.code))
    subst hcc
    have hlen : len₂ = len := by rw [hdg] at hd₂; cases hd₂; rfl
    subst hlen
    have hs₂ : s₂ = (({ U with heap := s₂.heap, slotsUsed := s₂.slotsUsed } : State).setVm s₂.vm).setTop { g with pc := g.pc + len₂, stack := v.toList ++ g.stack } := by
      refine e3.trans ?_
      rw [hf₂, State.calling_eq h.top, State.setFrames_setFrames, State.setTop_of_frames _ hr', hr]
      rfl
    have hsame : U.sameButNew ({ U with heap := s₂.heap, slotsUsed := s₂.slotsUsed } : State) L mc ms := by
      refine ⟨?_, q2, q3, q4, q5, q6⟩
      obtain ⟨t, ht, -⟩ := State.frames_cons hr
      show ({ U with heap := s₂.heap, slotsUsed := s₂.slotsUsed } : State) = { U.setFrames U.frames with heap := s₂.heap, slotsUsed := s₂.slotsUsed }
      rw [State.setFrames_self ht]
    subst hg
    refine Or.inl ⟨v, ⟨(({ U with heap := s₂.heap, slotsUsed := s₂.slotsUsed } : State).setVm s₂.vm), Ls ++ L, c0 + mc, s0 + ms⟩,
      ⟨X.admits, X.cas, X.clock, X.frames, X.room, X.hears, X.method, X.code, (X.here.setHeapUsed s₂.heap s₂.slotsUsed).setVm hW'.alike, X.tail, State.WarmedH.trans X.warmed hW', X.limits, X.bytes, X.same.trans (hsame.setVm s.vm)⟩,
      ⟨g, mk, s₂, L, rfl, rfl, hqc, rfl, hL, rfl, rfl⟩, ?_⟩
    show Steps p.tables e below _ ((({ U with heap := s₂.heap, slotsUsed := s₂.slotsUsed } : State).setVm s₂.vm).setTop { g with pc := g.pc + len₂, stack := v.toList ++ g.stack })
    rw [← hs₂]
    exact hsteps
  · obtain ⟨e2, q2, q3, q4, q5, q6⟩ := id hsm
    have e3 : s₂ = ({ (U.calling g mk a).setFrames s₂.frames with heap := s₂.heap, slotsUsed := s₂.slotsUsed } : State).setVm s₂.vm := by
      have : s₂ = ({ s₂ with vm := (U.calling g mk a).vm } : State).setVm s₂.vm := rfl
      rw [e2] at this
      exact this
    have hf₂ : s₂.frames = .throwing q :: .java g :: U.frames.tail := hend
    have hW' : U.WarmedH s₂.vm := hW₂
    have hs₂ : s₂ = ((({ U with heap := s₂.heap, slotsUsed := s₂.slotsUsed } : State).setVm s₂.vm).setTop g).pushFrame (.throwing q) := by
      refine e3.trans ?_
      rw [hf₂, State.calling_eq h.top, State.setFrames_setFrames, State.pushFrame, State.frames_setTop _ hr', State.setTop_of_frames _ hr', State.setFrames_setFrames, hr]
      rfl
    have hsame : U.sameButNew ({ U with heap := s₂.heap, slotsUsed := s₂.slotsUsed } : State) L mc ms := by
      refine ⟨?_, q2, q3, q4, q5, q6⟩
      obtain ⟨t, ht, -⟩ := State.frames_cons hr
      show ({ U with heap := s₂.heap, slotsUsed := s₂.slotsUsed } : State) = { U.setFrames U.frames with heap := s₂.heap, slotsUsed := s₂.slotsUsed }
      rw [State.setFrames_self ht]
    subst hg
    refine Or.inr ⟨q, ⟨(({ U with heap := s₂.heap, slotsUsed := s₂.slotsUsed } : State).setVm s₂.vm), Ls ++ L, c0 + mc, s0 + ms⟩,
      ⟨X.admits, X.cas, X.clock, X.frames, X.room, X.hears, X.method, X.code, (X.here.setHeapUsed s₂.heap s₂.slotsUsed).setVm hW'.alike, X.tail, State.WarmedH.trans X.warmed hW', X.limits, X.bytes, X.same.trans (hsame.setVm s.vm)⟩,
      ⟨g, mk, s₂, L, E, ce, rfl, rfl, hx, hce, hcv, hcl, rfl, hL, rfl, rfl⟩, ?_⟩
    show Steps p.tables e below _ (((({ U with heap := s₂.heap, slotsUsed := s₂.slotsUsed } : State).setVm s₂.vm).setTop g).pushFrame (.throwing q))
    rw [← hs₂]
    exact hsteps
end Payer
section Calls
variable {p : Program} {l : Launch} {e : Env} {R : Room} {s : State} {m : MethodId} {args : Array Value} {below : List Frame} {meth : Method} {c : Code} {T : State} {locs : List Loc} {cells slots : Nat}
theorem vx_callV (X : Stand p l e R s m args below meth c T locs cells slots) (hexec : p.tables.exec = Jvm.exec) {own C : String} {index : Nat} {y : MethodName} {bytes : ByteArray} {maxL : Nat} {ret : Option FieldType}
    (hown : s.vm.findClass own = some m.cls) (hlink : (Cond.methodLink own index y).before args s = true) (hinst : (Cond.instanceMethod y).before args s = true) (hsel : (Cond.selects C y y).before args s = true)
    (hcode : (Cond.code y bytes maxL ret).before args s = true) (hy : y.cls ≠ "java/lang/invoke/MethodHandle" ∧ y.cls ≠ "java/lang/invoke/VarHandle")
    {W9 : Nat} {Pre : Pt → Array Value → Prop} {Post : Pt → Array Value → Option Value → Pt → Prop} {PostX : Pt → Array Value → Addr → Pt → Prop} (hK : vx_Back l R p e below s args y 3 W9 Pre Post PostX)
    {b : Addr} {cellB : Cell} (hcell : T.heap[b]? = some cellB) (hobj : cellB.vm.isStatics = false) (hcls : s.vm.findClass C = some cellB.cls)
    {g : JFrame} (hg : g.method = m) (hsize : g.locals.size = c.maxLocals) {argsL rest : List Value} (hlen : ∀ sig, parseMethodDescriptor y.desc = some sig → argsL.length = sig.parameters.length)
    (hstack : g.stack = argsL.reverse ++ .ref b :: rest) (hW : 2 * g.monitorRoom + (rest.map fun v => v.category).sum ≤ W9) (hdg : decode c.code g.pc = .ok (.invokevirtual index, 3))
    (hpre : ∀ vm₁, s.WarmedH vm₁ → Pre ⟨T.setVm vm₁, locs, cells, slots⟩ (Value.ref b :: argsL).toArray) :
    (∃ (v : Option Value) (vm₁ : Vm) (B : Pt), s.WarmedH vm₁ ∧ Stand p l e R s m args below meth c B.U B.locs B.cells B.slots ∧ Post ⟨T.setVm vm₁, locs, cells, slots⟩ (Value.ref b :: argsL).toArray v B ∧
      ∀ target, Steps p.tables e below (B.U.setTop { g with pc := g.pc + 3, stack := v.toList ++ rest }) target → Steps p.tables e below (T.setTop g) target) ∨
    (∃ (q : Addr) (vm₁ : Vm) (B : Pt), s.WarmedH vm₁ ∧ Stand p l e R s m args below meth c B.U B.locs B.cells B.slots ∧ PostX ⟨T.setVm vm₁, locs, cells, slots⟩ (Value.ref b :: argsL).toArray q B ∧
      Steps p.tables e below (T.setTop g) ((B.U.setTop { g with stack := rest }).pushFrame (.throwing q))) := by
  obtain ⟨mk, methM, hnamed, hmethM, hstM, habM⟩ := Cond.instanceMethod_spec hinst
  obtain ⟨methM', cM, hmethM', -, -, -, -, -, -, hsigM⟩ := Cond.code_spec hnamed hcode
  cases hmethM.symm.trans hmethM'
  obtain ⟨c2, r2, m2, q1, q2, q3, q4, kP, hkP, hkPi⟩ := Cond.selects_spec hsel
  cases hcls.symm.trans q1
  cases (State.methodFound?_of_named hnamed hy).symm.trans q2
  cases hnamed.symm.trans q3
  have hselP : selectMethod e.platform s.vm cellB.cls mk = .method mk := by rw [Launch.admits_selectMethod X.admits]; exact q4
  obtain ⟨vm₁, X₁, hstep₁⟩ := X.invokevirtual hexec hown hlink hnamed hmethM hstM hkP hkPi hy (a := b) (cell := cellB) hcell
    (fun z h => by rw [h] at hobj; cases hobj) hselP hmethM habM hkP hkPi (g := g) hg (argsL := argsL) (rest := rest) (hlen _ hsigM) hstack hdg
  rcases hK m meth c ⟨T.setVm vm₁, locs, cells, slots⟩ { g with stack := rest } (.invokevirtual index) mk (Value.ref b :: argsL).toArray X₁ hg hsize hdg hW (X₁.named hnamed) (hpre vm₁ X₁.warmed) with ⟨v, B, X', hpost, hsteps⟩ | ⟨q, B, X', hpost, hsteps⟩
  · exact Or.inl ⟨v, vm₁, B, X₁.warmed, X', hpost, fun target h => hstep₁ _ fun acts => by rw [doInvoke_state]; exact hsteps.trans h⟩
  · exact Or.inr ⟨q, vm₁, B, X₁.warmed, X', hpost, hstep₁ _ fun acts => by rw [doInvoke_state]; exact hsteps⟩
theorem vx_callS (X : Stand p l e R s m args below meth c T locs cells slots) (hexec : p.tables.exec = Jvm.exec) {own : String} {index : Nat} {y : MethodName} {bytes : ByteArray} {maxL : Nat} {ret : Option FieldType}
    (hown : s.vm.findClass own = some m.cls) (hlink : (Cond.methodLink own index y).before args s = true) (hstat : (Cond.static y).before args s = true) (hinit : (Cond.initialized y.cls).before args s = true)
    (hcode : (Cond.code y bytes maxL ret).before args s = true) (hy : y.cls ≠ "java/lang/invoke/MethodHandle" ∧ y.cls ≠ "java/lang/invoke/VarHandle")
    {W9 : Nat} {Pre : Pt → Array Value → Prop} {Post : Pt → Array Value → Option Value → Pt → Prop} {PostX : Pt → Array Value → Addr → Pt → Prop} (hK : vx_Back l R p e below s args y 3 W9 Pre Post PostX)
    {g : JFrame} (hg : g.method = m) (hsize : g.locals.size = c.maxLocals) {argsL rest : List Value} (hlen : ∀ sig, parseMethodDescriptor y.desc = some sig → argsL.length = sig.parameters.length)
    (hstack : g.stack = argsL.reverse ++ rest) (hW : 2 * g.monitorRoom + (rest.map fun v => v.category).sum ≤ W9) (hdg : decode c.code g.pc = .ok (.invokestatic index, 3))
    (hpre : ∀ vm₁, s.WarmedH vm₁ → Pre ⟨T.setVm vm₁, locs, cells, slots⟩ argsL.toArray) :
    (∃ (v : Option Value) (vm₁ : Vm) (B : Pt), s.WarmedH vm₁ ∧ Stand p l e R s m args below meth c B.U B.locs B.cells B.slots ∧ Post ⟨T.setVm vm₁, locs, cells, slots⟩ argsL.toArray v B ∧
      ∀ target, Steps p.tables e below (B.U.setTop { g with pc := g.pc + 3, stack := v.toList ++ rest }) target → Steps p.tables e below (T.setTop g) target) ∨
    (∃ (q : Addr) (vm₁ : Vm) (B : Pt), s.WarmedH vm₁ ∧ Stand p l e R s m args below meth c B.U B.locs B.cells B.slots ∧ PostX ⟨T.setVm vm₁, locs, cells, slots⟩ argsL.toArray q B ∧
      Steps p.tables e below (T.setTop g) ((B.U.setTop { g with stack := rest }).pushFrame (.throwing q))) := by
  obtain ⟨mk, hnamed⟩ := Cond.code_named hcode
  obtain ⟨methM, cM, hmethM, -, -, -, -, -, -, hsigM⟩ := Cond.code_spec hnamed hcode
  have hstatic : methM.isStatic = true := Cond.static_spec hnamed hmethM hstat
  obtain ⟨kP, hkP, -⟩ := className_of_methodNamed hnamed
  have hinitP : kP.init = .initialized := Cond.initialized_spec (findClass_of_methodNamed hnamed) hkP hinit
  obtain ⟨vm₁, X₁, hstep₁⟩ := X.invokestatic hexec hown hlink hnamed hmethM hstatic hkP hinitP hy (g := g) hg (argsL := argsL) (rest := rest) (hlen _ hsigM) hstack hdg
  rcases hK m meth c ⟨T.setVm vm₁, locs, cells, slots⟩ { g with stack := rest } (.invokestatic index) mk argsL.toArray X₁ hg hsize hdg hW (X₁.named hnamed) (hpre vm₁ X₁.warmed) with ⟨v, B, X', hpost, hsteps⟩ | ⟨q, B, X', hpost, hsteps⟩
  · exact Or.inl ⟨v, vm₁, B, X₁.warmed, X', hpost, fun target h => hstep₁ _ fun acts => by rw [doInvoke_state]; exact hsteps.trans h⟩
  · exact Or.inr ⟨q, vm₁, B, X₁.warmed, X', hpost, hstep₁ _ fun acts => by rw [doInvoke_state]; exact hsteps⟩
end Calls
theorem vx_cls {s : State} {T : State} {vm₁ : Vm} {E : String} {k : ClassId} (hW : s.WarmedH vm₁) (h : (T.setVm vm₁).vm.findClass E = some k) : s.vm.findClass E = some k := by
  have h1 : vm₁.findClass E = some k := h
  rw [hW.alike.findClass] at h1
  exact h1
/-- the method's frame g, with q thrown over it -/
def vx_W (p : Program) (l : Launch) (e : Env) (R : Room) (s : State) (m : MethodId) (args : Array Value) (below : List Frame) (meth : Method) (c : Code) (H : Heap) (locs : List Loc) (cells slots : Nat) (Q : State → Prop) (g : JFrame) (q : Addr) : Prop :=
  ∀ T : State, T.heap = H → Stand p l e R s m args below meth c T locs cells slots → ∃ t, Steps p.tables e below ((T.setTop g).pushFrame (.throwing q)) t ∧ Q t
def vx_Run (p : Program) (l : Launch) (e : Env) (R : Room) (s : State) (m : MethodId) (args : Array Value) (below : List Frame) (meth : Method) (c : Code) (H : Heap) (locs : List Loc) (cells slots mc ms : Nat) (g : JFrame) (rest : List Value) (Qa : State → Outcome → State → Prop) (XC : String → State → State → Prop) (free : Addr → Prop) : Prop :=
  ∀ T : State, T.heap = H → Stand p l e R s m args below meth c T locs cells slots →
    (∃ (v : Option Value) (st₀ t T' : State) (L : List Loc), st₀.heap = H ∧ Stand p l e R s m args below meth c T' (locs ++ L) (cells + mc) (slots + ms) ∧ (∀ q ∈ L, free q.base) ∧ T'.heap = t.heap ∧ T'.vm = t.vm ∧ Qa st₀ (.returned v) t ∧
      Goes p e below T g T' { g with pc := g.pc + 3, stack := v.toList ++ rest }) ∨
    (∃ (q : Addr) (st₀ t T' : State) (L : List Loc) (E : String) (ce : Cell), st₀.heap = H ∧ Stand p l e R s m args below meth c T' (locs ++ L) (cells + mc) (slots + ms) ∧ (∀ z ∈ L, free z.base) ∧ T'.heap = t.heap ∧ T'.vm = t.vm ∧ XC E st₀ t ∧ t.heap[q]? = some ce ∧ ce.vm = .none ∧ s.vm.findClass E = some ce.cls ∧
      Steps p.tables e below (T.setTop g) ((T'.setTop { g with stack := rest }).pushFrame (.throwing q)))
def vx_X {S : Type} (px : S → Prop) (B : String → S → State → Prop) (A : Nat → Prop) : String → State → State → Prop := fun E st t => ∃ u : S, px u ∧ B E u t ∧ va_F A st t
section Runs
variable {p : Program} {l : Launch} {e : Env} {R : Room} {s : State} {m : MethodId} {args : Array Value} {below : List Frame} {meth : Method} {c : Code} {H : Heap} {locs : List Loc} {cells slots : Nat}
variable {y : MethodName} {bytes cc : ByteArray} {maxL nL mc ms n index : Nat} {ret : Option FieldType} {ws : List Cond} {rm : Room} {Pc : Array Value → State → Prop} {Qc : Array Value → State → Outcome → State → Prop} {XC : String → State → State → Prop} {free : Addr → Prop} {Ts : List Cond} {own C : String} {b : Addr} {As rest : List Value} {g : JFrame}
theorem vx_callBack (cb : CallB R s args own index y bytes maxL ret ws rm mc ms n) (hM : vx_Met l y ws rm Pc Qc XC mc ms free) (hbl : FrameBlind Pc) : vx_Back l R p e below s args y 3 8 (PreOf R mc ms Pc) (PostOf Qc mc ms free) (vx_Post XC mc ms free) := by
  obtain ⟨hrc, hrs, hfr, hlo, hws, hcw, -, hini, -⟩ := cb
  exact vx_back (bytes := bytes) (maxL := maxL) (ret := ret) hM hbl hrc hrs hfr hlo hws hcw (fun a' U hW => word_at hW (Or.inl (by first | rfl | simp [Cond.onTables, Cond.keeps, Cond.steady])) hini)
theorem vx_runV (S : CallFix p m c cc nL s args Ts own) (hM : vx_Met l y ws rm Pc Qc XC mc ms free) (cw : CallW R s args own C index y bytes maxL ret ws rm mc ms n) (hp : PreV s H C b Pc As)
    (hg : g.method = m) (hn : As.length = n) (hsize : g.locals.size = nL) (hstack : g.stack = As.reverse ++ .ref b :: rest) (hW : 2 * g.monitorRoom + (rest.map fun v => v.category).sum ≤ 8) (hdg : decode cc g.pc = .ok (.invokevirtual index, 3)) (hf : cells + mc ≤ R.cells ∧ slots + ms ≤ R.slots) :
    vx_Run p l e R s m args below meth c H locs cells slots mc ms g rest (Qc (Value.ref b :: As).toArray) XC free := by
  have hK : vx_Back l R p e below s args y 3 8 (PreOf R mc ms Pc) (PostOf Qc mc ms free) (vx_Post XC mc ms free) := vx_callBack cw.1 hM hp.1
  obtain ⟨⟨-, -, -, -, -, -, hcode, -, hy, hlen, hl⟩, hin, hse⟩ := cw
  obtain ⟨hx, hb, hml, ho, -⟩ := S
  obtain ⟨-, ⟨cellB, hcB, hoB, hclB⟩, hPc⟩ := hp
  intro T hT X
  rcases vx_callV X hx (C := C) (bytes := bytes) (maxL := maxL) (ret := ret) ho hl hin hse hcode hy hK (by rw [hT]; exact hcB) hoB hclB hg (hsize.trans hml.symm) (argsL := As) (rest := rest) (fun sig h => hn.trans (hlen sig h)) hstack hW (by rw [hb]; exact hdg)
    (fun vm₁ hW₁ => ⟨hf.1, hf.2, hPc (T.setVm vm₁) hT hW₁⟩) with ⟨v, vm₁, ⟨U', l2, c2, s2⟩, hW₁, X', ⟨g', mk, t, L, e1, e2, hq, h1, hL, h2, h3⟩, st⟩ | ⟨q, vm₁, ⟨U', l2, c2, s2⟩, hW₁, X', ⟨g', mk, t, L, E, ce, e1, e2, hq, hce, hcv, hcl, h1, hL, h2, h3⟩, st⟩
  · dsimp only [Pt.U, Pt.locs, Pt.cells, Pt.slots] at X' e1 e2 h1 h2 h3 st
    subst h1; subst h2; subst h3
    exact Or.inl ⟨v, (T.setVm vm₁).calling g' mk (Value.ref b :: As).toArray, t, U', L, hT, X', hL, e1, e2, hq, st⟩
  · dsimp only [Pt.U, Pt.locs, Pt.cells, Pt.slots] at X' e1 e2 h1 h2 h3 st hcl
    subst h1; subst h2; subst h3
    exact Or.inr ⟨q, (T.setVm vm₁).calling g' mk (Value.ref b :: As).toArray, t, U', L, E, ce, hT, X', hL, e1, e2, hq, hce, hcv, vx_cls hW₁ hcl, st⟩
theorem vx_runS (S : CallFix p m c cc nL s args Ts own) (hM : vx_Met l y ws rm Pc Qc XC mc ms free) (cw : CallB R s args own index y bytes maxL ret ws rm mc ms n ∧ (Cond.static y).before args s = true) (hp : PreS s H Pc As)
    (hg : g.method = m) (hn : As.length = n) (hsize : g.locals.size = nL) (hstack : g.stack = As.reverse ++ rest) (hW : 2 * g.monitorRoom + (rest.map fun v => v.category).sum ≤ 8) (hdg : decode cc g.pc = .ok (.invokestatic index, 3)) (hf : cells + mc ≤ R.cells ∧ slots + ms ≤ R.slots) :
    vx_Run p l e R s m args below meth c H locs cells slots mc ms g rest (Qc As.toArray) XC free := by
  have hK : vx_Back l R p e below s args y 3 8 (PreOf R mc ms Pc) (PostOf Qc mc ms free) (vx_Post XC mc ms free) := vx_callBack cw.1 hM hp.1
  obtain ⟨⟨-, -, -, -, -, -, hcode, hini, hy, hlen, hl⟩, hstt⟩ := cw
  obtain ⟨hx, hb, hml, ho, -⟩ := S
  intro T hT X
  rcases vx_callS X hx (bytes := bytes) (maxL := maxL) (ret := ret) ho hl hstt hini hcode hy hK hg (hsize.trans hml.symm) (argsL := As) (rest := rest) (fun sig h => hn.trans (hlen sig h)) hstack hW (by rw [hb]; exact hdg)
    (fun vm₁ hW₁ => ⟨hf.1, hf.2, hp.2 (T.setVm vm₁) hT hW₁⟩) with ⟨v, vm₁, ⟨U', l2, c2, s2⟩, hW₁, X', ⟨g', mk, t, L, e1, e2, hq, h1, hL, h2, h3⟩, st⟩ | ⟨q, vm₁, ⟨U', l2, c2, s2⟩, hW₁, X', ⟨g', mk, t, L, E, ce, e1, e2, hq, hce, hcv, hcl, h1, hL, h2, h3⟩, st⟩
  · dsimp only [Pt.U, Pt.locs, Pt.cells, Pt.slots] at X' e1 e2 h1 h2 h3 st
    subst h1; subst h2; subst h3
    exact Or.inl ⟨v, (T.setVm vm₁).calling g' mk As.toArray, t, U', L, hT, X', hL, e1, e2, hq, st⟩
  · dsimp only [Pt.U, Pt.locs, Pt.cells, Pt.slots] at X' e1 e2 h1 h2 h3 st hcl
    subst h1; subst h2; subst h3
    exact Or.inr ⟨q, (T.setVm vm₁).calling g' mk As.toArray, t, U', L, E, ce, hT, X', hL, e1, e2, hq, hce, hcv, vx_cls hW₁ hcl, st⟩
end Runs
section Rows
variable {p : Program} {l : Launch} {e : Env} {R : Room} {s : State} {m : MethodId} {args : Array Value} {below : List Frame} {meth : Method} {c : Code} {H : Heap} {locs : List Loc} {cells slots : Nat} {Q : State → Prop}
variable {mc ms : Nat} {free : Addr → Prop} {A0 A1 : Nat → Prop} {H0 : Heap} {a : Array Value} {pc : Nat} {ls : Array Slot} {st0 rest : List Value}
theorem vx_keep {st₀ t T' : State} {L : List Loc} (h0 : st₀.heap = H) (e1 : T'.heap = t.heap) (hS : va_S A0 H0 H locs) (hA : ∀ q, q < H.size → A1 q → A0 q) (hf : ∀ q, free q → A0 q) (hL : ∀ q ∈ L, free q.base) (hF : va_F A1 st₀ t) :
    H.size ≤ T'.heap.size ∧ (∀ q : Nat, q < H.size → ¬ A1 q → T'.heap[q]? = H[q]?) ∧ va_S A0 H0 T'.heap (locs ++ L) := by
  obtain ⟨hz, hk⟩ := hF
  rw [h0] at hz hk
  exact ⟨by rw [e1]; exact hz, fun q h1 h2 => by rw [e1]; exact hk q h1 h2,
    ⟨Nat.le_trans hS.1 (by rw [e1]; exact hz), fun q h1 h2 => by rw [e1, hk q (Nat.lt_of_lt_of_le h1 hS.1) (fun z => h2 (hA q (Nat.lt_of_lt_of_le h1 hS.1) z))]; exact hS.2.1 q h1 h2, fun q hq => by
      rcases List.mem_append.mp hq with h | h
      · exact hS.2.2 q h
      · exact hf _ (hL q h)⟩⟩
theorem vx_calli {S SX : Type} {post : Int32 → S → Prop} {px : SX → Prop} {B : S → State → Prop} {BX : String → SX → State → Prop} {AX : Nat → Prop} (hr : vx_Run p l e R s m args below meth c H locs cells slots mc ms (F0 m pc ls st0) rest (va_Qi post B A1 a) (vx_X px BX AX) free) (hS : va_S A0 H0 H locs) (hA : ∀ q, q < H.size → A1 q → A0 q) (hf : ∀ q, free q → A0 q) (hAX : ∀ q, q < H.size → AX q → A0 q)
    (kx : ∀ (E : String) (ce : Cell) (q9 : Addr) (u : SX) (t : State) (H1 : Heap) (locs1 : List Loc), t.heap = H1 → s.vm.Alike t.vm → px u → BX E u t → H.size ≤ H1.size → (∀ q : Nat, q < H.size → ¬ AX q → H1[q]? = H[q]?) → va_S A0 H0 H1 locs1 → H1[q9]? = some ce → ce.vm = .none → s.vm.findClass E = some ce.cls → vx_W p l e R s m args below meth c H1 locs1 (cells + mc) (slots + ms) Q (F0 m pc ls rest) q9)
    (kk : ∀ (r : Int32) (u : S) (t : State) (H1 : Heap) (locs1 : List Loc), t.heap = H1 → s.vm.Alike t.vm → post r u → B u t → H.size ≤ H1.size → (∀ q : Nat, q < H.size → ¬ A1 q → H1[q]? = H[q]?) → va_S A0 H0 H1 locs1 → W p l e R s m args below meth c H1 locs1 (cells + mc) (slots + ms) Q (F0 m (pc + 3) ls (.int r :: rest))) : W p l e R s m args below meth c H locs cells slots Q (F0 m pc ls st0) := by
  intro T hT X
  rcases hr T hT X with ⟨v, st₀, t, T', L, h0, X', hL, e1, e2, ⟨⟨r, u, hv, hp, hb⟩, hF⟩, st⟩ | ⟨q, st₀, t, T', L, E, ce, h0, X', hL, e1, e2, ⟨u, hp, hb, hF⟩, hce, hcv, hcl, st⟩
  · cases hv
    obtain ⟨k1, k2, k3⟩ := vx_keep h0 e1 hS hA hf hL hF
    obtain ⟨t2, a1, b1⟩ := kk r u t T'.heap (locs ++ L) e1.symm (by rw [← e2]; exact X'.warmed.alike) hp hb k1 k2 k3 T' rfl X'
    exact ⟨t2, st t2 a1, b1⟩
  · obtain ⟨k1, k2, k3⟩ := vx_keep h0 e1 hS hAX hf hL hF
    obtain ⟨t2, a1, b1⟩ := kx E ce q u t T'.heap (locs ++ L) e1.symm (by rw [← e2]; exact X'.warmed.alike) hp hb k1 k2 k3 (by rw [e1]; exact hce) hcv hcl T' rfl X'
    exact ⟨t2, st.trans a1, b1⟩
theorem vx_calll {S SX : Type} {post : Int64 → S → Prop} {px : SX → Prop} {B : S → State → Prop} {BX : String → SX → State → Prop} {AX : Nat → Prop} (hr : vx_Run p l e R s m args below meth c H locs cells slots mc ms (F0 m pc ls st0) rest (va_Ql post B A1 a) (vx_X px BX AX) free) (hS : va_S A0 H0 H locs) (hA : ∀ q, q < H.size → A1 q → A0 q) (hf : ∀ q, free q → A0 q) (hAX : ∀ q, q < H.size → AX q → A0 q)
    (kx : ∀ (E : String) (ce : Cell) (q9 : Addr) (u : SX) (t : State) (H1 : Heap) (locs1 : List Loc), t.heap = H1 → s.vm.Alike t.vm → px u → BX E u t → H.size ≤ H1.size → (∀ q : Nat, q < H.size → ¬ AX q → H1[q]? = H[q]?) → va_S A0 H0 H1 locs1 → H1[q9]? = some ce → ce.vm = .none → s.vm.findClass E = some ce.cls → vx_W p l e R s m args below meth c H1 locs1 (cells + mc) (slots + ms) Q (F0 m pc ls rest) q9)
    (kk : ∀ (r : Int64) (u : S) (t : State) (H1 : Heap) (locs1 : List Loc), t.heap = H1 → s.vm.Alike t.vm → post r u → B u t → H.size ≤ H1.size → (∀ q : Nat, q < H.size → ¬ A1 q → H1[q]? = H[q]?) → va_S A0 H0 H1 locs1 → W p l e R s m args below meth c H1 locs1 (cells + mc) (slots + ms) Q (F0 m (pc + 3) ls (.long r :: rest))) : W p l e R s m args below meth c H locs cells slots Q (F0 m pc ls st0) := by
  intro T hT X
  rcases hr T hT X with ⟨v, st₀, t, T', L, h0, X', hL, e1, e2, ⟨⟨r, u, hv, hp, hb⟩, hF⟩, st⟩ | ⟨q, st₀, t, T', L, E, ce, h0, X', hL, e1, e2, ⟨u, hp, hb, hF⟩, hce, hcv, hcl, st⟩
  · cases hv
    obtain ⟨k1, k2, k3⟩ := vx_keep h0 e1 hS hA hf hL hF
    obtain ⟨t2, a1, b1⟩ := kk r u t T'.heap (locs ++ L) e1.symm (by rw [← e2]; exact X'.warmed.alike) hp hb k1 k2 k3 T' rfl X'
    exact ⟨t2, st t2 a1, b1⟩
  · obtain ⟨k1, k2, k3⟩ := vx_keep h0 e1 hS hAX hf hL hF
    obtain ⟨t2, a1, b1⟩ := kx E ce q u t T'.heap (locs ++ L) e1.symm (by rw [← e2]; exact X'.warmed.alike) hp hb k1 k2 k3 (by rw [e1]; exact hce) hcv hcl T' rfl X'
    exact ⟨t2, st.trans a1, b1⟩
theorem vx_callf {S SX : Type} {post : UInt32 → S → Prop} {px : SX → Prop} {B : S → State → Prop} {BX : String → SX → State → Prop} {AX : Nat → Prop} (hr : vx_Run p l e R s m args below meth c H locs cells slots mc ms (F0 m pc ls st0) rest (va_Qf post B A1 a) (vx_X px BX AX) free) (hS : va_S A0 H0 H locs) (hA : ∀ q, q < H.size → A1 q → A0 q) (hf : ∀ q, free q → A0 q) (hAX : ∀ q, q < H.size → AX q → A0 q)
    (kx : ∀ (E : String) (ce : Cell) (q9 : Addr) (u : SX) (t : State) (H1 : Heap) (locs1 : List Loc), t.heap = H1 → s.vm.Alike t.vm → px u → BX E u t → H.size ≤ H1.size → (∀ q : Nat, q < H.size → ¬ AX q → H1[q]? = H[q]?) → va_S A0 H0 H1 locs1 → H1[q9]? = some ce → ce.vm = .none → s.vm.findClass E = some ce.cls → vx_W p l e R s m args below meth c H1 locs1 (cells + mc) (slots + ms) Q (F0 m pc ls rest) q9)
    (kk : ∀ (r : UInt32) (u : S) (t : State) (H1 : Heap) (locs1 : List Loc), t.heap = H1 → s.vm.Alike t.vm → post r u → B u t → H.size ≤ H1.size → (∀ q : Nat, q < H.size → ¬ A1 q → H1[q]? = H[q]?) → va_S A0 H0 H1 locs1 → W p l e R s m args below meth c H1 locs1 (cells + mc) (slots + ms) Q (F0 m (pc + 3) ls (.float r :: rest))) : W p l e R s m args below meth c H locs cells slots Q (F0 m pc ls st0) := by
  intro T hT X
  rcases hr T hT X with ⟨v, st₀, t, T', L, h0, X', hL, e1, e2, ⟨⟨r, u, hv, hp, hb⟩, hF⟩, st⟩ | ⟨q, st₀, t, T', L, E, ce, h0, X', hL, e1, e2, ⟨u, hp, hb, hF⟩, hce, hcv, hcl, st⟩
  · cases hv
    obtain ⟨k1, k2, k3⟩ := vx_keep h0 e1 hS hA hf hL hF
    obtain ⟨t2, a1, b1⟩ := kk r u t T'.heap (locs ++ L) e1.symm (by rw [← e2]; exact X'.warmed.alike) hp hb k1 k2 k3 T' rfl X'
    exact ⟨t2, st t2 a1, b1⟩
  · obtain ⟨k1, k2, k3⟩ := vx_keep h0 e1 hS hAX hf hL hF
    obtain ⟨t2, a1, b1⟩ := kx E ce q u t T'.heap (locs ++ L) e1.symm (by rw [← e2]; exact X'.warmed.alike) hp hb k1 k2 k3 (by rw [e1]; exact hce) hcv hcl T' rfl X'
    exact ⟨t2, st.trans a1, b1⟩
theorem vx_calld {S SX : Type} {post : UInt64 → S → Prop} {px : SX → Prop} {B : S → State → Prop} {BX : String → SX → State → Prop} {AX : Nat → Prop} (hr : vx_Run p l e R s m args below meth c H locs cells slots mc ms (F0 m pc ls st0) rest (va_Qd post B A1 a) (vx_X px BX AX) free) (hS : va_S A0 H0 H locs) (hA : ∀ q, q < H.size → A1 q → A0 q) (hf : ∀ q, free q → A0 q) (hAX : ∀ q, q < H.size → AX q → A0 q)
    (kx : ∀ (E : String) (ce : Cell) (q9 : Addr) (u : SX) (t : State) (H1 : Heap) (locs1 : List Loc), t.heap = H1 → s.vm.Alike t.vm → px u → BX E u t → H.size ≤ H1.size → (∀ q : Nat, q < H.size → ¬ AX q → H1[q]? = H[q]?) → va_S A0 H0 H1 locs1 → H1[q9]? = some ce → ce.vm = .none → s.vm.findClass E = some ce.cls → vx_W p l e R s m args below meth c H1 locs1 (cells + mc) (slots + ms) Q (F0 m pc ls rest) q9)
    (kk : ∀ (r : UInt64) (u : S) (t : State) (H1 : Heap) (locs1 : List Loc), t.heap = H1 → s.vm.Alike t.vm → post r u → B u t → H.size ≤ H1.size → (∀ q : Nat, q < H.size → ¬ A1 q → H1[q]? = H[q]?) → va_S A0 H0 H1 locs1 → W p l e R s m args below meth c H1 locs1 (cells + mc) (slots + ms) Q (F0 m (pc + 3) ls (.double r :: rest))) : W p l e R s m args below meth c H locs cells slots Q (F0 m pc ls st0) := by
  intro T hT X
  rcases hr T hT X with ⟨v, st₀, t, T', L, h0, X', hL, e1, e2, ⟨⟨r, u, hv, hp, hb⟩, hF⟩, st⟩ | ⟨q, st₀, t, T', L, E, ce, h0, X', hL, e1, e2, ⟨u, hp, hb, hF⟩, hce, hcv, hcl, st⟩
  · cases hv
    obtain ⟨k1, k2, k3⟩ := vx_keep h0 e1 hS hA hf hL hF
    obtain ⟨t2, a1, b1⟩ := kk r u t T'.heap (locs ++ L) e1.symm (by rw [← e2]; exact X'.warmed.alike) hp hb k1 k2 k3 T' rfl X'
    exact ⟨t2, st t2 a1, b1⟩
  · obtain ⟨k1, k2, k3⟩ := vx_keep h0 e1 hS hAX hf hL hF
    obtain ⟨t2, a1, b1⟩ := kx E ce q u t T'.heap (locs ++ L) e1.symm (by rw [← e2]; exact X'.warmed.alike) hp hb k1 k2 k3 (by rw [e1]; exact hce) hcv hcl T' rfl X'
    exact ⟨t2, st.trans a1, b1⟩
theorem vx_callv {S SX : Type} {post : S → Prop} {px : SX → Prop} {B : S → State → Prop} {BX : String → SX → State → Prop} {AX : Nat → Prop} (hr : vx_Run p l e R s m args below meth c H locs cells slots mc ms (F0 m pc ls st0) rest (va_Qv post B A1 a) (vx_X px BX AX) free) (hS : va_S A0 H0 H locs) (hA : ∀ q, q < H.size → A1 q → A0 q) (hf : ∀ q, free q → A0 q) (hAX : ∀ q, q < H.size → AX q → A0 q)
    (kx : ∀ (E : String) (ce : Cell) (q9 : Addr) (u : SX) (t : State) (H1 : Heap) (locs1 : List Loc), t.heap = H1 → s.vm.Alike t.vm → px u → BX E u t → H.size ≤ H1.size → (∀ q : Nat, q < H.size → ¬ AX q → H1[q]? = H[q]?) → va_S A0 H0 H1 locs1 → H1[q9]? = some ce → ce.vm = .none → s.vm.findClass E = some ce.cls → vx_W p l e R s m args below meth c H1 locs1 (cells + mc) (slots + ms) Q (F0 m pc ls rest) q9)
    (kk : ∀ (u : S) (t : State) (H1 : Heap) (locs1 : List Loc), t.heap = H1 → s.vm.Alike t.vm → post u → B u t → H.size ≤ H1.size → (∀ q : Nat, q < H.size → ¬ A1 q → H1[q]? = H[q]?) → va_S A0 H0 H1 locs1 → W p l e R s m args below meth c H1 locs1 (cells + mc) (slots + ms) Q (F0 m (pc + 3) ls (rest))) : W p l e R s m args below meth c H locs cells slots Q (F0 m pc ls st0) := by
  intro T hT X
  rcases hr T hT X with ⟨v, st₀, t, T', L, h0, X', hL, e1, e2, ⟨⟨u, hv, hp, hb⟩, hF⟩, st⟩ | ⟨q, st₀, t, T', L, E, ce, h0, X', hL, e1, e2, ⟨u, hp, hb, hF⟩, hce, hcv, hcl, st⟩
  · cases hv
    obtain ⟨k1, k2, k3⟩ := vx_keep h0 e1 hS hA hf hL hF
    obtain ⟨t2, a1, b1⟩ := kk u t T'.heap (locs ++ L) e1.symm (by rw [← e2]; exact X'.warmed.alike) hp hb k1 k2 k3 T' rfl X'
    exact ⟨t2, st t2 a1, b1⟩
  · obtain ⟨k1, k2, k3⟩ := vx_keep h0 e1 hS hAX hf hL hF
    obtain ⟨t2, a1, b1⟩ := kx E ce q u t T'.heap (locs ++ L) e1.symm (by rw [← e2]; exact X'.warmed.alike) hp hb k1 k2 k3 (by rw [e1]; exact hce) hcv hcl T' rfl X'
    exact ⟨t2, st.trans a1, b1⟩
/-- caught by the row x of this method's table; the rows ahead don't take it -/
theorem vx_catch {own name : String} {E : String} {ce : Cell} {q : Addr} (hown : s.vm.findClass own = some m.cls) (pre : List ExceptionTableEntry) (x : ExceptionTableEntry) (suf : List ExceptionTableEntry) (hsplit : c.exceptionTable.toList = pre ++ x :: suf)
    (hpass : ∀ z ∈ pre, covers z pc = false ∨ (z.catchType ≠ 0 ∧ ∃ nm : String, (Cond.classLink own z.catchType nm).before args s = true ∧ va_Nc E nm s)) (hx : covers x pc = true) (h0 : x.catchType ≠ 0)
    (hlink : (Cond.classLink own x.catchType name).before args s = true) (hcast : (Cond.castable E name).before args s = true) (hcell : H[q]? = some ce) (hv : ce.vm = .none) (hcl : s.vm.findClass E = some ce.cls)
    (kk : W p l e R s m args below meth c H locs cells slots Q (F0 m x.handlerPc ls [.ref q])) : vx_W p l e R s m args below meth c H locs cells slots Q (F0 m pc ls rest) q := by
  intro T hT X
  have hpl : e.platform.magicAccessors = ({} : Platform).magicAccessors := by rw [X.admits.platform]
  obtain ⟨c3, c4, hc3, hc4, hasg⟩ := Cond.castable_spec hcast
  cases Option.some.inj (hc3.symm.trans hcl)
  obtain ⟨c5, hc5, hcl5⟩ := Cond.classLink_spec hown hlink e.platform hpl
  cases Option.some.inj (hc4.symm.trans hc5)
  obtain ⟨vm', X', st⟩ := X.thenCaughtThrough q (g := F0 m pc ls rest) rfl (Steps.refl _) (by rw [hT]; exact hcell) (by rw [hv]; rfl) (by obtain ⟨k9, h9, -⟩ := Vm.findClass_spec hcl; exact ⟨k9, h9⟩) pre x suf hsplit
    (fun z hz => by
      rcases hpass z hz with h | ⟨hz0, nm, hl1, hn1⟩
      · exact Or.inl h
      · obtain ⟨c6, hc6, hcl6⟩ := Cond.classLink_spec hown hl1 e.platform hpl
        obtain ⟨a8, b8, h1, h2, h3⟩ := hn1
        cases Option.some.inj (h1.symm.trans hcl)
        cases Option.some.inj (h2.symm.trans hc6)
        exact Or.inr ⟨hz0, _, hcl6, h3⟩) hx (Or.inr ⟨h0, c4, hcl5, hasg⟩)
  obtain ⟨t, a1, b1⟩ := kk (T.setVm vm') hT X'
  exact ⟨t, st.trans a1, b1⟩
end Rows
section Ends
variable {p : Program} {l : Launch} {e : Env} {R : Room} {s : State} {m : MethodId} {args : Array Value} {below : List Frame} {meth : Method} {c : Code} {H : Heap} {locs : List Loc} {cells slots : Nat} {Q : State → Prop}
variable {mc ms : Nat} {free : Addr → Prop} {A0 A1 : Nat → Prop} {H0 : Heap} {a : Array Value} {ls : Array Slot} {st0 rest : List Value}
variable {Qc : Array Value → State → Outcome → State → Prop} {XC : String → State → State → Prop}
/-- what a body that may throw owes at its end -/
def vx_MQ (below : List Frame) (Qc : Array Value → State → Outcome → State → Prop) (XC : String → State → State → Prop) (a : Array Value) (s : State) (mc ms : Nat) (free : Addr → Prop) : State → Prop := fun t =>
  ∃ o, t.status = .running ∧ Ended t below o ∧ vx_Q Qc XC mc ms free a s o t
theorem vx_ret {g : JFrame} {mc ms : Nat} (k : W p l e R s m args below meth c H locs cells slots (MQ below Qc args s mc ms free) g) : W p l e R s m args below meth c H locs cells slots (vx_MQ below Qc XC args s mc ms free) g := by
  intro T hT X
  obtain ⟨t, a1, o, b1, b2, b3, b4⟩ := k T hT X
  exact ⟨t, a1, o, b1, b2, Or.inl ⟨b3, b4⟩⟩
/-- not caught here: it goes on to the caller -/
theorem vx_widen {g : JFrame} {q : Addr} {k n : Nat} (h1 : cells ≤ k) (h2 : slots ≤ n) (kk : vx_W p l e R s m args below meth c H locs k n Q g q) : vx_W p l e R s m args below meth c H locs cells slots Q g q := fun T hT X => kk T hT (stand_widen X h1 h2)
theorem vx_out {pc : Nat} {E : String} {ce : Cell} {q : Addr} {mc ms : Nat} (hout : ∀ x ∈ c.exceptionTable.toList, covers x pc = false) (hlocks : meth.locks = false) (hcell : H[q]? = some ce) (hv : ce.vm = .none) (hcl : s.vm.findClass E = some ce.cls)
    (hx : ∀ t : State, t.heap = H → s.vm.Alike t.vm → XC E s t) (hf : ∀ z ∈ locs, free z.base) (hc : cells ≤ mc) (hs : slots ≤ ms) :
    vx_W p l e R s m args below meth c H locs cells slots (vx_MQ below Qc XC args s mc ms free) (F0 m pc ls rest) q := by
  intro T hT X
  obtain ⟨st1, hrun, hend, hW, hsm⟩ := X.leaveThrown q (g := F0 m pc ls rest) rfl rfl rfl hout hlocks
  have hcell9 : (T.setFrames (.throwing q :: below)).heap[q]? = some ce := by
    show T.heap[q]? = some ce
    rw [hT]; exact hcell
  exact ⟨_, st1, .threw q, hrun, hend, Or.inr ⟨q, rfl, E, ce, locs, hx _ hT hW.alike, hcell9, hv, hcl, hW, hsm.mono hc hs, hf⟩⟩
theorem vx_frame {U : State} {k n : Nat} (h : s.sameButNew ({ U with vm := s.vm } : State) locs k n) : s.heap.size ≤ U.heap.size ∧ ∀ q : Nat, q < s.heap.size → (∀ z ∈ locs, z.base ≠ q) → U.heap[q]? = s.heap[q]? := by
  obtain ⟨-, h2, -, -, -, h6⟩ := h
  refine ⟨h2, fun q hq hz => ?_⟩
  obtain ⟨c9, e1, e2, e3, e4⟩ := h6 q _ (Array.getElem?_eq_getElem hq)
  have hs : c9.slots = (s.heap[q]).slots := Array.ext_getElem? fun i => e4 i fun hm => hz _ hm rfl
  have h9 : c9 = s.heap[q] := by
    rw [hs] at e2
    exact e2
  have e5 : U.heap[q]? = some c9 := e1
  rw [e5, h9, Array.getElem?_eq_getElem hq]
/-- the words of a throw but the four that speak of the heap -/
def vx_no (w : Cond) : Bool := decide (w ≠ .isRef (.static Bundle.tN "UNASSIGNED_STACK" Bundle.steD)) && decide (w ≠ .isRef (.static Bundle.tN "SUPPRESSED_SENTINEL" Bundle.listD)) && decide (w ≠ .laysStatic Bundle.tN "UNASSIGNED_STACK" Bundle.steD) && decide (w ≠ .laysStatic Bundle.tN "SUPPRESSED_SENTINEL" Bundle.listD)
def vx_at0 (own : String) (ic : Nat) (X : String) (names : List String) : List Cond := (Bundle.ownAtoms0 own ic X names).filter vx_no
def vx_atS (own : String) (ic : Nat) (X : String) (names : List String) : List Cond := (Bundle.ownAtoms own ic X names).filter vx_no
/-- a word that the tables alone decide, or a good one -/
def vx_ot (w : Cond) : Bool := w.onTables || goodWord w
theorem vx_ot_at {args a' : Array Value} {s U : State} {w : Cond} (hW : s.WarmedH U.vm) (hvm : s.vm = U.vm) (hg : vx_ot w = true) (h : w.before args s = true) : w.before a' U = true := by
  simp only [vx_ot, Bool.or_eq_true] at hg
  rcases hg with hg | hg
  · exact va_tabs hg hvm h
  · exact word_at hW (good_of_word hg) h
/-- a list's words: the good ones out of the method's own list, the others by premises of their own -/
theorem vx_hat {args : Array Value} {s : State} {L B : List Cond} (h1 : ∀ w ∈ L.filter goodWord, w.before args s = true) (h2 : ∀ w ∈ L.filter (fun w => !goodWord w), w ∈ B) (h3 : ∀ w ∈ B, w.before args s = true) : ∀ w ∈ L, w.before args s = true := by
  intro w hw
  by_cases g : goodWord w = true
  · exact h1 w (List.mem_filter.mpr ⟨hw, g⟩)
  · refine h3 w (h2 w (List.mem_filter.mpr ⟨hw, ?_⟩))
    show (!goodWord w) = true
    cases hgw : goodWord w
    · rfl
    · exact absurd hgw g
theorem vx_c {args : Array Value} {s : State} {w : Cond} {B : List Cond} (h : w.before args s = true) (t : ∀ w ∈ B, w.before args s = true) : ∀ w' ∈ w :: B, w'.before args s = true := fun w' h' => (List.mem_cons.mp h').elim (fun e => by rw [e]; exact h) (t w')
theorem vx_n {args : Array Value} {s : State} : ∀ w ∈ ([] : List Cond), w.before args s = true := fun _ h => nomatch h
theorem vx_own {args : Array Value} {s : State} {L : List Cond} (h1 : ∀ w ∈ L.filter vx_no, w.before args s = true)
    (hU : (Cond.isRef (.static Bundle.tN "UNASSIGNED_STACK" Bundle.steD)).before args s = true) (hN : (Cond.isRef (.static Bundle.tN "SUPPRESSED_SENTINEL" Bundle.listD)).before args s = true)
    (lU : (Cond.laysStatic Bundle.tN "UNASSIGNED_STACK" Bundle.steD).before args s = true) (lN : (Cond.laysStatic Bundle.tN "SUPPRESSED_SENTINEL" Bundle.listD).before args s = true) : ∀ w ∈ L, w.before args s = true := by
  intro w hw
  by_cases e1 : w = .isRef (.static Bundle.tN "UNASSIGNED_STACK" Bundle.steD)
  · rw [e1]; exact hU
  · by_cases e2 : w = .isRef (.static Bundle.tN "SUPPRESSED_SENTINEL" Bundle.listD)
    · rw [e2]; exact hN
    · by_cases e3 : w = .laysStatic Bundle.tN "UNASSIGNED_STACK" Bundle.steD
      · rw [e3]; exact lU
      · by_cases e4 : w = .laysStatic Bundle.tN "SUPPRESSED_SENTINEL" Bundle.listD
        · rw [e4]; exact lN
        · exact h1 w (List.mem_filter.mpr ⟨hw, by unfold vx_no; rw [decide_eq_true e1, decide_eq_true e2, decide_eq_true e3, decide_eq_true e4]; rfl⟩)
/-- where a static field lies, its class's statics cell in H -/
def vx_L (C n d : String) (A : Nat → Prop) (U : State) (H : Heap) : Prop := ∃ (c : ClassId) (k : Class) (i : Nat) (f : Field) (a : Nat) (cell : Cell), U.vm.findClass C = some c ∧ U.fieldFound? C n d = some (c, k, i, f) ∧ f.isStatic = true ∧ k.statics = some a ∧ H[a]? = some cell ∧ cell.vm.isStatics = true ∧ cell.cls = c ∧ f.slot < cell.slots.size ∧ k.staticTypes[f.slot]? = some f.type ∧ ¬ A a
theorem vx_L.moved {C n d : String} {A : Nat → Prop} {u U : State} {H : Heap} (hvm : u.vm.Alike U.vm) (h : vx_L C n d A u H) : vx_L C n d A U H := by
  obtain ⟨c, k, i, f, a, cell, h1, h2, h3, h4, h5, h6, h7, h8, h9, h10⟩ := h
  obtain ⟨k', hi', he⟩ := State.fieldFound?_setVm hvm h2
  exact ⟨c, k', i, f, a, cell, by rw [hvm.findClass]; exact h1, hi', h3, by rw [he]; exact h4, h5, h6, h7, h8, by rw [he]; exact h9, h10⟩
theorem vx_L.kept {C n d : String} {A : Nat → Prop} {U : State} {H H1 : Heap} (h : vx_L C n d A U H) (hq : ∀ a : Nat, a < H.size → ¬ A a → H1[a]? = H[a]?) : vx_L C n d A U H1 := by
  obtain ⟨c, k, i, f, a, cell, h1, h2, h3, h4, h5, h6, h7, h8, h9, h10⟩ := h
  exact ⟨c, k, i, f, a, cell, h1, h2, h3, h4, by rw [hq a (Array.getElem?_eq_some_iff.mp h5).1 h10]; exact h5, h6, h7, h8, h9, h10⟩
theorem vx_L.narrow {C n d : String} {A B : Nat → Prop} {U : State} {H : Heap} (h : vx_L C n d A U H) (hAB : ∀ q, B q → A q) : vx_L C n d B U H := by
  obtain ⟨c, k, i, f, a, cell, h1, h2, h3, h4, h5, h6, h7, h8, h9, h10⟩ := h
  exact ⟨c, k, i, f, a, cell, h1, h2, h3, h4, h5, h6, h7, h8, h9, fun z => h10 (hAB _ z)⟩
theorem vx_L.word {C n d : String} {A : Nat → Prop} {s : State} {args : Array Value} (h : vx_L C n d A s s.heap) : (Cond.laysStatic C n d).before args s = true := by
  obtain ⟨c, k, i, f, a, cell, h1, h2, h3, h4, h5, h6, h7, h8, h9, -⟩ := h
  show (Cond.laysStatic C n d).holds args s none s [] = true
  exact Cond.laysStatic_of h1 h2 h3 h4 h5 h6 h7 h8 h9
/-- .. and what it holds: null or some reference -/
def vx_Zq (C n d : String) (A : Nat → Prop) (U : State) (H : Heap) : Prop := va_Zq C n d A U H ∧ vx_L C n d A U H
theorem vx_Zq.moved {C n d : String} {A : Nat → Prop} {u U : State} {H : Heap} (hvm : u.vm.Alike U.vm) (h : vx_Zq C n d A u H) : vx_Zq C n d A U H := ⟨va_Zq.moved hvm h.1, vx_L.moved hvm h.2⟩
theorem vx_Zq.kept {C n d : String} {A : Nat → Prop} {U : State} {H H1 : Heap} (h : vx_Zq C n d A U H) (hq : ∀ a : Nat, a < H.size → ¬ A a → H1[a]? = H[a]?) : vx_Zq C n d A U H1 := ⟨va_Zq.kept h.1 hq, vx_L.kept h.2 hq⟩
theorem vx_Zq.narrow {C n d : String} {A B : Nat → Prop} {U : State} {H : Heap} (h : vx_Zq C n d A U H) (hAB : ∀ q, B q → A q) : vx_Zq C n d B U H := ⟨va_Zq.narrow h.1 hAB, vx_L.narrow h.2 hAB⟩
theorem vx_Zqof {args : Array Value} {s : State} {C n d : String} {A : Nat → Prop} (hl : (Cond.laysStatic C n d).before args s = true) (hini : (Cond.initialized C).before args s = true) (h : (Cond.isRef (.static C n d)).before args s = true) (hA : ∀ a : Nat, a < s.heap.size → ¬ A a) : vx_Zq C n d A s s.heap := by
  refine ⟨va_Zqof hl hini h hA, ?_⟩
  obtain ⟨c, k, i, f, a, cell, h1, h2, h3, h4, h5, h6, h7, h8, h9⟩ := Cond.laysStatic_spec hl
  exact ⟨c, k, i, f, a, cell, h1, h2, h3, h4, h5, h6, h7, h8, h9, hA a (Array.getElem?_eq_some_iff.mp h5).1⟩
theorem vx_isRef {C n d : String} {v : Value} {A : Nat → Prop} {s : State} {args : Array Value} (h : va_Z C n d v A s s.heap) (hv : v.isRef = true) : (Cond.isRef (.static C n d)).before args s = true := by
  obtain ⟨cf, kf, fi, f, a, cell, h1, h2, h3, h4, h5, h6, h7, -⟩ := h
  have he : (Term.static C n d).eval args s none [] s = some v := by
    simp [Term.eval, State.fieldNamed?, h1, h2, h4, h5, h6, h7]
  simp only [Cond.before, Cond.holds, Cond.value, he]
  cases v <;> simp_all [Value.isRef]
theorem vx_isRefq {C n d : String} {A : Nat → Prop} {s : State} {args : Array Value} (h : va_Zq C n d A s s.heap) : (Cond.isRef (.static C n d)).before args s = true := by
  rcases h with h | ⟨t, h⟩
  · exact vx_isRef h rfl
  · exact vx_isRef h rfl
/-- the same frame, seen from here: as if the method were called anew in this heap -/
theorem vx_rebase {T : State} (X : Stand p l e R s m args below meth c T locs cells slots) {R' : Room} (hf : R'.frames ≤ R.frames) (hl : R'.locals ≤ R.locals) (hc : cells + R'.cells ≤ R.cells) (hs : slots + R'.slots ≤ R.slots) :
    Stand p l e R' ((T.setVm s.vm).setFrames (.invoking m args :: below)) m args below meth c T [] 0 0 := by
  have htop : (T.setVm s.vm).topJava?.isSome := X.here.top
  have hF : ((T.setVm s.vm).setFrames (.invoking m args :: below)).frames = .invoking m args :: below := State.frames_setFrames _ (State.cur_lt_of_top htop)
  obtain ⟨g₀, hg0⟩ := Option.isSome_iff_exists.mp htop
  obtain ⟨r, hr⟩ := State.topJava?_eq_some.mp hg0
  have hl9 : e.platform.stackLimits (T.setVm s.vm).me = e.platform.stackLimits s.me := X.limits
  have hb9 : (T.setVm s.vm).me.stackBytes = s.me.stackBytes := X.bytes
  refine ⟨X.admits, X.cas, X.clock, hF, ?_, X.hears, X.method, X.code, X.here, X.tail, X.warmed, ?_, ?_, ?_⟩
  · have h := X.room
    have hU : ((T.setVm s.vm).setFrames (.invoking m args :: below)).localsInUse = s.localsInUse := by
      rw [State.localsInUse_invoking hF (meth := meth) (c := c) X.method X.code, State.localsInUse_invoking X.frames X.method X.code]
    simp only [State.hasRoom, Bool.and_eq_true, decide_eq_true_eq] at h ⊢
    obtain ⟨⟨⟨⟨h1, h2, h3, h4, h5, h6⟩, h7⟩, h8⟩, h9⟩ := h
    rw [X.frames, List.length_cons] at h2 h3
    have q1 := X.heapSize
    have q2 := X.used
    simp only [hF, hU, List.length_cons, State.stackLimits_setFrames, State.stackBytes_setFrames, hl9, hb9]
    refine ⟨⟨⟨⟨by omega, by omega, by omega, by omega, by omega, h6⟩, ?_⟩, ?_⟩, X.book⟩
    · show T.heap.size + R'.cells ≤ e.platform.maxCells
      omega
    · show T.slotsUsed + R'.slots ≤ e.platform.maxSlots
      omega
  · rw [State.stackLimits_setFrames]; rfl
  · rw [State.stackBytes_setFrames]; rfl
  · refine ⟨?_, Nat.le_refl _, Nat.le_refl _, ?_, ?_, fun a c9 h9 => ⟨c9, h9, rfl, rfl, fun _ _ => rfl⟩⟩
    · obtain ⟨t, ht, -⟩ := State.frames_cons hr
      show T.setVm s.vm = { ((T.setVm s.vm).setFrames (.invoking m args :: below)).setFrames (T.setVm s.vm).frames with heap := T.heap, slotsUsed := T.slotsUsed }
      rw [State.setFrames_setFrames, State.setFrames_self ht]
      rfl
    · show T.slotsUsed = T.slotsUsed + ((T.heap.toList.drop T.heap.size).map (·.slots.size)).sum
      rw [List.drop_eq_nil_of_le (Nat.le_of_eq Array.length_toList)]
      rfl
    · show ((T.heap.toList.drop T.heap.size).map (·.slots.size)).sum ≤ 0
      rw [List.drop_eq_nil_of_le (Nat.le_of_eq Array.length_toList)]
      exact Nat.le_refl _
/-- 'throw new E()': new; dup; invokespecial; athrow -/
theorem vx_throw0 {cc : ByteArray} {pc : Nat} (hexec : p.tables.exec = Jvm.exec) (hb : c.code = cc) (hl : l.stackTraces = false) {own cls : String} {names : List String} {ik ic mc ms : Nat} {A : Nat → Prop}
    (hown : s.vm.findClass own = some m.cls) (hcls : Bundle.fit cls = true) (hnames : ∀ n ∈ names, Bundle.fit n = true)
    (hk : (Cond.classLink own ik cls).before args s = true) (hini : (Cond.initialized cls).before args s = true) (hat : ∀ w ∈ vx_at0 own ic cls names, w.before args s = true)
    (hgood : ∀ w ∈ Cond.classLink own ik cls :: Cond.initialized cls :: vx_at0 own ic cls names, vx_ot w = true)
    (hU : vx_Zq Bundle.tN "UNASSIGNED_STACK" Bundle.steD A s s.heap) (hN : vx_Zq Bundle.tN "SUPPRESSED_SENTINEL" Bundle.listD A s s.heap) (hS : va_S A s.heap H locs) (hsize : ls.size = c.maxLocals)
    (d0 : decode cc pc = .ok (.new ik, 3)) (d3 : decode cc (pc + 3) = .ok (.dup, 1)) (d4 : decode cc (pc + 4) = .ok (.invokespecial ic, 3)) (d7 : decode cc (pc + 7) = .ok (.athrow, 1))
    (hout : ∀ x ∈ c.exceptionTable.toList, covers x (pc + 7) = false)
    (hRframes : names.length + 3 < R.frames) (hRlocals : (rest.map fun v => v.category).sum + (13 * (names.length + 1) + 42) ≤ R.locals) (hRcells : cells + 1 ≤ R.cells) (hRslots : slots + 6 ≤ R.slots) (hlocks : meth.locks = false)
    (hx : ∀ t : State, s.vm.Alike t.vm → H.size ≤ t.heap.size → (∀ q : Nat, q < H.size → t.heap[q]? = H[q]?) → XC cls s t)
    (hf : ∀ z ∈ locs, free z.base) (hc : cells + 1 ≤ mc) (hs : slots + 6 ≤ ms) :
    W p l e R s m args below meth c H locs cells slots (vx_MQ below Qc XC args s mc ms free) (F0 m pc ls rest) := by
  intro T hT X
  have htr : e.platform.stackTraces = false := (show e.platform.stackTraces = l.stackTraces by rw [X.admits.platform]).trans hl
  have Y := vx_rebase X (R' := { frames := R.frames, locals := R.locals, cells := 1, slots := 6 }) (Nat.le_refl _) (Nat.le_refl _) hRcells hRslots
  obtain ⟨s', hA⟩ : ∃ z, z = (T.setVm s.vm).setFrames (.invoking m args :: below) := ⟨_, rfl⟩
  rw [← hA] at Y
  have hvm : s'.vm = s.vm := by rw [hA]; rfl
  have hhp : s'.heap = H := by rw [hA]; exact hT
  have hW0 : s.WarmedH s'.vm := by rw [hvm]; exact State.WarmedH.refl s
  have hat' : ∀ w ∈ vx_at0 own ic cls names, w.before args s' = true := fun w hw => vx_ot_at hW0 hvm.symm (hgood w (List.mem_cons_of_mem _ (List.mem_cons_of_mem _ hw))) (hat w hw)
  have hk' : (Cond.classLink own ik cls).before args s' = true := vx_ot_at hW0 hvm.symm (hgood _ List.mem_cons_self) hk
  have hini' : (Cond.initialized cls).before args s' = true := vx_ot_at hW0 hvm.symm (hgood _ (List.mem_cons_of_mem _ List.mem_cons_self)) hini
  have hU' : vx_Zq Bundle.tN "UNASSIGNED_STACK" Bundle.steD A s' s'.heap := by rw [hhp]; exact vx_Zq.moved hW0.alike (hU.kept hS.2.1)
  have hN' : vx_Zq Bundle.tN "SUPPRESSED_SENTINEL" Bundle.listD A s' s'.heap := by rw [hhp]; exact vx_Zq.moved hW0.alike (hN.kept hS.2.1)
  have h : ∀ w ∈ Bundle.ownAtoms0 own ic cls names, w.before args s' = true := vx_own hat' (vx_isRefq hU'.1) (vx_isRefq hN'.1) hU'.2.word hN'.2.word
  have hown' : s'.vm.findClass own = some m.cls := by rw [hvm]; exact hown
  have hins : (Cond.instantiable cls 6).before args s' = true := h _ (by simp [Bundle.ownAtoms0])
  obtain ⟨vm₁, cX, kX, hfX, hkX, -, -, X₁, st1⟩ := Y.newCold hexec (own := own) (C := cls) (index := ik) (n := 6) hown' hk' hins hini'
    (g := F0 m pc ls rest) rfl (by rw [hb]; exact d0) (Nat.le_refl _) (Nat.le_refl _)
  generalize hT1 : (T.setVm vm₁).pushCell { cls := cX, slots := kX.instanceTypes.map defaultValue, vm := .none } = T1 at X₁ st1
  have hcat : (Value.ref T.heap.size).category = 1 := rfl
  have hcellA : T1.heap[T.heap.size]? = some (freshCell cX kX) := by rw [← hT1]; exact State.heap_pushCell_size _ _
  have d3' : decode c.code (pc + 3) = .ok (.dup, 1) := by rw [hb]; exact d3
  obtain ⟨U, hsteps, hrun, hend, hW, hsame, ce, hce, hO⟩ := X₁.ctorThrow0 hexec htr (own := own) (cls := cls) (names := names) (ic := ic) hown' hcls hnames h (fun x hx => nomatch hx) hfX hkX hcellA (by rw [hhp, hT]; exact Nat.le_refl _)
    (g := { method := m, pc := pc + 4, locals := ls, stack := .ref T.heap.size :: .ref T.heap.size :: rest, locked := none }) rfl hsize rfl rfl (rest := rest) rfl
    (by rw [hb]; exact d4) (by rw [hb]; exact d7) hout hRframes (by simp only [List.map_cons, List.sum_cons, hcat]; omega) hlocks
  obtain ⟨f1, f2⟩ := vx_frame hsame
  rw [hhp] at f1 f2
  have hWs : s.WarmedH U.vm := State.WarmedH.trans hW0 hW
  have hcl : s.vm.findClass cls = some ce.cls := by
    have h9 := hO.cls
    rw [hvm] at h9
    exact h9
  have hall : s.sameButNew ({ U with vm := s.vm } : State) locs mc ms := by
    subst hA
    obtain ⟨e1, e2⟩ := hsame
    rw [State.setFrames_setFrames] at e1
    have h2 : (T.setVm s.vm).sameButNew ({ U with vm := s.vm } : State) [] (0 + 1) (0 + 6) := ⟨e1, e2⟩
    have h3 := X.same.trans h2
    rw [List.append_nil] at h3
    exact h3.mono hc hs
  refine ⟨U, ?_, .threw T.heap.size, hrun, hend, Or.inr ⟨T.heap.size, rfl, cls, ce, locs, hx U hWs.alike f1 (fun q hq => f2 q hq (fun z hz => nomatch hz)), hce, hO.vm, hcl, hWs, hall, hf⟩⟩
  refine st1 _ ?_
  show Steps p.tables e below (T1.setTop { method := m, pc := pc + 3, locals := ls, stack := .ref T.heap.size :: rest, locked := none }) _
  jvm_step X₁.here [X₁.here.top, hexec, d3', Value.category]
  exact hsteps
/-- 'throw new E("text")': new; dup; ldc; invokespecial; athrow -/
theorem vx_throwS {cc : ByteArray} {pc : Nat} (hexec : p.tables.exec = Jvm.exec) (hb : c.code = cc) (hl : l.stackTraces = false) {own cls text : String} {names : List String} {ik is ic mc ms sa : Nat} {A : Nat → Prop}
    (hown : s.vm.findClass own = some m.cls) (hcls : Bundle.fit cls = true) (hnames : ∀ n ∈ names, Bundle.fit n = true)
    (hk : (Cond.classLink own ik cls).before args s = true) (hini : (Cond.initialized cls).before args s = true) (hstr : vk_R own is text sa s) (hat : ∀ w ∈ vx_atS own ic cls names, w.before args s = true)
    (hgood : ∀ w ∈ Cond.classLink own ik cls :: Cond.initialized cls :: vx_atS own ic cls names, vx_ot w = true)
    (hU : vx_Zq Bundle.tN "UNASSIGNED_STACK" Bundle.steD A s s.heap) (hN : vx_Zq Bundle.tN "SUPPRESSED_SENTINEL" Bundle.listD A s s.heap) (hS : va_S A s.heap H locs) (hsize : ls.size = c.maxLocals)
    (d0 : decode cc pc = .ok (.new ik, 3)) (d3 : decode cc (pc + 3) = .ok (.dup, 1)) (d4 : decode cc (pc + 4) = .ok (.ldc is, 2)) (d6 : decode cc (pc + 6) = .ok (.invokespecial ic, 3)) (d9 : decode cc (pc + 9) = .ok (.athrow, 1))
    (hout : ∀ x ∈ c.exceptionTable.toList, covers x (pc + 9) = false)
    (hRframes : names.length + 3 < R.frames) (hRlocals : (rest.map fun v => v.category).sum + (13 * (names.length + 1) + 43) ≤ R.locals) (hRcells : cells + 1 ≤ R.cells) (hRslots : slots + 6 ≤ R.slots) (hlocks : meth.locks = false)
    (hx : ∀ t : State, s.vm.Alike t.vm → H.size ≤ t.heap.size → (∀ q : Nat, q < H.size → t.heap[q]? = H[q]?) → XC cls s t)
    (hf : ∀ z ∈ locs, free z.base) (hc : cells + 1 ≤ mc) (hs : slots + 6 ≤ ms) :
    W p l e R s m args below meth c H locs cells slots (vx_MQ below Qc XC args s mc ms free) (F0 m pc ls rest) := by
  intro T hT X
  have htr : e.platform.stackTraces = false := (show e.platform.stackTraces = l.stackTraces by rw [X.admits.platform]).trans hl
  have Y := vx_rebase X (R' := { frames := R.frames, locals := R.locals, cells := 1, slots := 6 }) (Nat.le_refl _) (Nat.le_refl _) hRcells hRslots
  obtain ⟨s', hA⟩ : ∃ z, z = (T.setVm s.vm).setFrames (.invoking m args :: below) := ⟨_, rfl⟩
  rw [← hA] at Y
  have hvm : s'.vm = s.vm := by rw [hA]; rfl
  have hhp : s'.heap = H := by rw [hA]; exact hT
  have hW0 : s.WarmedH s'.vm := by rw [hvm]; exact State.WarmedH.refl s
  have hat' : ∀ w ∈ vx_atS own ic cls names, w.before args s' = true := fun w hw => vx_ot_at hW0 hvm.symm (hgood w (List.mem_cons_of_mem _ (List.mem_cons_of_mem _ hw))) (hat w hw)
  have hk' : (Cond.classLink own ik cls).before args s' = true := vx_ot_at hW0 hvm.symm (hgood _ List.mem_cons_self) hk
  have hini' : (Cond.initialized cls).before args s' = true := vx_ot_at hW0 hvm.symm (hgood _ (List.mem_cons_of_mem _ List.mem_cons_self)) hini
  have hU' : vx_Zq Bundle.tN "UNASSIGNED_STACK" Bundle.steD A s' s'.heap := by rw [hhp]; exact vx_Zq.moved hW0.alike (hU.kept hS.2.1)
  have hN' : vx_Zq Bundle.tN "SUPPRESSED_SENTINEL" Bundle.listD A s' s'.heap := by rw [hhp]; exact vx_Zq.moved hW0.alike (hN.kept hS.2.1)
  have h : ∀ w ∈ Bundle.ownAtoms own ic cls names, w.before args s' = true := vx_own hat' (vx_isRefq hU'.1) (vx_isRefq hN'.1) hU'.2.word hN'.2.word
  have hown' : s'.vm.findClass own = some m.cls := by rw [hvm]; exact hown
  have hins : (Cond.instantiable cls 6).before args s' = true := h _ (by simp [Bundle.ownAtoms])
  obtain ⟨vm₁, cX, kX, hfX, hkX, -, -, X₁, st1⟩ := Y.newCold hexec (own := own) (C := cls) (index := ik) (n := 6) hown' hk' hins hini'
    (g := F0 m pc ls rest) rfl (by rw [hb]; exact d0) (Nat.le_refl _) (Nat.le_refl _)
  generalize hT1 : (T.setVm vm₁).pushCell { cls := cX, slots := kX.instanceTypes.map defaultValue, vm := .none } = T1 at X₁ st1
  have hcat : (Value.ref T.heap.size).category = 1 := rfl
  have hcellA : T1.heap[T.heap.size]? = some (freshCell cX kX) := by rw [← hT1]; exact State.heap_pushCell_size _ _
  have d3' : decode c.code (pc + 3) = .ok (.dup, 1) := by rw [hb]; exact d3
  have d4' : decode c.code (pc + 4) = .ok (.ldc is, 2) := by rw [hb]; exact d4
  have hstr' : vk_R own is text sa s' := vk_R.warm hW0 hstr
  obtain ⟨U, hsteps, hrun, hend, hW, hsame, ce, hce, hO⟩ := X₁.ctorThrowS hexec htr (own := own) (cls := cls) (names := names) (ic := ic) hown' hcls hnames h (fun x hx => nomatch hx) hfX hkX hcellA (by rw [hhp, hT]; exact Nat.le_refl _) (msg := .ref sa) rfl
    (g := { method := m, pc := pc + 6, locals := ls, stack := .ref sa :: .ref T.heap.size :: .ref T.heap.size :: rest, locked := none }) rfl hsize rfl rfl (rest := rest) rfl
    (by rw [hb]; exact d6) (by rw [hb]; exact d9) hout hRframes (by simp only [List.map_cons, List.sum_cons, hcat]; omega) hlocks
  obtain ⟨f1, f2⟩ := vx_frame hsame
  rw [hhp] at f1 f2
  have hWs : s.WarmedH U.vm := State.WarmedH.trans hW0 hW
  have hcl : s.vm.findClass cls = some ce.cls := by
    have h9 := hO.cls
    rw [hvm] at h9
    exact h9
  have hall : s.sameButNew ({ U with vm := s.vm } : State) locs mc ms := by
    subst hA
    obtain ⟨e1, e2⟩ := hsame
    rw [State.setFrames_setFrames] at e1
    have h2 : (T.setVm s.vm).sameButNew ({ U with vm := s.vm } : State) [] (0 + 1) (0 + 6) := ⟨e1, e2⟩
    have h3 := X.same.trans h2
    rw [List.append_nil] at h3
    exact h3.mono hc hs
  refine ⟨U, ?_, .threw T.heap.size, hrun, hend, Or.inr ⟨T.heap.size, rfl, cls, ce, locs, hx U hWs.alike f1 (fun q hq => f2 q hq (fun z hz => nomatch hz)), hce, hO.vm, hcl, hWs, hall, hf⟩⟩
  refine st1 _ ?_
  show Steps p.tables e below (T1.setTop { method := m, pc := pc + 3, locals := ls, stack := .ref T.heap.size :: rest, locked := none }) _
  jvm_step X₁.here [X₁.here.top, hexec, d3', Value.category]
  exact X₁.ldcString hexec (own := own) (text := text) (index := is) (a := sa) hown' hstr'.1 hstr'.2
    (g := { method := m, pc := pc + 4, locals := ls, stack := .ref T.heap.size :: .ref T.heap.size :: rest, locked := none }) rfl d4' _ hsteps
/-- 'throw new E("text")', the text by a wide index -/
theorem vx_throwSW {cc : ByteArray} {pc : Nat} (hexec : p.tables.exec = Jvm.exec) (hb : c.code = cc) (hl : l.stackTraces = false) {own cls text : String} {names : List String} {ik is ic mc ms sa : Nat} {A : Nat → Prop}
    (hown : s.vm.findClass own = some m.cls) (hcls : Bundle.fit cls = true) (hnames : ∀ n ∈ names, Bundle.fit n = true)
    (hk : (Cond.classLink own ik cls).before args s = true) (hini : (Cond.initialized cls).before args s = true) (hstr : vk_R own is text sa s) (hat : ∀ w ∈ vx_atS own ic cls names, w.before args s = true)
    (hgood : ∀ w ∈ Cond.classLink own ik cls :: Cond.initialized cls :: vx_atS own ic cls names, vx_ot w = true)
    (hU : vx_Zq Bundle.tN "UNASSIGNED_STACK" Bundle.steD A s s.heap) (hN : vx_Zq Bundle.tN "SUPPRESSED_SENTINEL" Bundle.listD A s s.heap) (hS : va_S A s.heap H locs) (hsize : ls.size = c.maxLocals)
    (d0 : decode cc pc = .ok (.new ik, 3)) (d3 : decode cc (pc + 3) = .ok (.dup, 1)) (d4 : decode cc (pc + 4) = .ok (.ldc_w is, 3)) (d7 : decode cc (pc + 7) = .ok (.invokespecial ic, 3)) (d10 : decode cc (pc + 10) = .ok (.athrow, 1))
    (hout : ∀ x ∈ c.exceptionTable.toList, covers x (pc + 10) = false)
    (hRframes : names.length + 3 < R.frames) (hRlocals : (rest.map fun v => v.category).sum + (13 * (names.length + 1) + 43) ≤ R.locals) (hRcells : cells + 1 ≤ R.cells) (hRslots : slots + 6 ≤ R.slots) (hlocks : meth.locks = false)
    (hx : ∀ t : State, s.vm.Alike t.vm → H.size ≤ t.heap.size → (∀ q : Nat, q < H.size → t.heap[q]? = H[q]?) → XC cls s t)
    (hf : ∀ z ∈ locs, free z.base) (hc : cells + 1 ≤ mc) (hs : slots + 6 ≤ ms) :
    W p l e R s m args below meth c H locs cells slots (vx_MQ below Qc XC args s mc ms free) (F0 m pc ls rest) := by
  intro T hT X
  have htr : e.platform.stackTraces = false := (show e.platform.stackTraces = l.stackTraces by rw [X.admits.platform]).trans hl
  have Y := vx_rebase X (R' := { frames := R.frames, locals := R.locals, cells := 1, slots := 6 }) (Nat.le_refl _) (Nat.le_refl _) hRcells hRslots
  obtain ⟨s', hA⟩ : ∃ z, z = (T.setVm s.vm).setFrames (.invoking m args :: below) := ⟨_, rfl⟩
  rw [← hA] at Y
  have hvm : s'.vm = s.vm := by rw [hA]; rfl
  have hhp : s'.heap = H := by rw [hA]; exact hT
  have hW0 : s.WarmedH s'.vm := by rw [hvm]; exact State.WarmedH.refl s
  have hat' : ∀ w ∈ vx_atS own ic cls names, w.before args s' = true := fun w hw => vx_ot_at hW0 hvm.symm (hgood w (List.mem_cons_of_mem _ (List.mem_cons_of_mem _ hw))) (hat w hw)
  have hk' : (Cond.classLink own ik cls).before args s' = true := vx_ot_at hW0 hvm.symm (hgood _ List.mem_cons_self) hk
  have hini' : (Cond.initialized cls).before args s' = true := vx_ot_at hW0 hvm.symm (hgood _ (List.mem_cons_of_mem _ List.mem_cons_self)) hini
  have hU' : vx_Zq Bundle.tN "UNASSIGNED_STACK" Bundle.steD A s' s'.heap := by rw [hhp]; exact vx_Zq.moved hW0.alike (hU.kept hS.2.1)
  have hN' : vx_Zq Bundle.tN "SUPPRESSED_SENTINEL" Bundle.listD A s' s'.heap := by rw [hhp]; exact vx_Zq.moved hW0.alike (hN.kept hS.2.1)
  have h : ∀ w ∈ Bundle.ownAtoms own ic cls names, w.before args s' = true := vx_own hat' (vx_isRefq hU'.1) (vx_isRefq hN'.1) hU'.2.word hN'.2.word
  have hown' : s'.vm.findClass own = some m.cls := by rw [hvm]; exact hown
  have hins : (Cond.instantiable cls 6).before args s' = true := h _ (by simp [Bundle.ownAtoms])
  obtain ⟨vm₁, cX, kX, hfX, hkX, -, -, X₁, st1⟩ := Y.newCold hexec (own := own) (C := cls) (index := ik) (n := 6) hown' hk' hins hini'
    (g := F0 m pc ls rest) rfl (by rw [hb]; exact d0) (Nat.le_refl _) (Nat.le_refl _)
  generalize hT1 : (T.setVm vm₁).pushCell { cls := cX, slots := kX.instanceTypes.map defaultValue, vm := .none } = T1 at X₁ st1
  have hcat : (Value.ref T.heap.size).category = 1 := rfl
  have hcellA : T1.heap[T.heap.size]? = some (freshCell cX kX) := by rw [← hT1]; exact State.heap_pushCell_size _ _
  have d3' : decode c.code (pc + 3) = .ok (.dup, 1) := by rw [hb]; exact d3
  have d4' : decode c.code (pc + 4) = .ok (.ldc_w is, 3) := by rw [hb]; exact d4
  have hstr' : vk_R own is text sa s' := vk_R.warm hW0 hstr
  obtain ⟨U, hsteps, hrun, hend, hW, hsame, ce, hce, hO⟩ := X₁.ctorThrowS hexec htr (own := own) (cls := cls) (names := names) (ic := ic) hown' hcls hnames h (fun x hx => nomatch hx) hfX hkX hcellA (by rw [hhp, hT]; exact Nat.le_refl _) (msg := .ref sa) rfl
    (g := { method := m, pc := pc + 7, locals := ls, stack := .ref sa :: .ref T.heap.size :: .ref T.heap.size :: rest, locked := none }) rfl hsize rfl rfl (rest := rest) rfl
    (by rw [hb]; exact d7) (by rw [hb]; exact d10) hout hRframes (by simp only [List.map_cons, List.sum_cons, hcat]; omega) hlocks
  obtain ⟨f1, f2⟩ := vx_frame hsame
  rw [hhp] at f1 f2
  have hWs : s.WarmedH U.vm := State.WarmedH.trans hW0 hW
  have hcl : s.vm.findClass cls = some ce.cls := by
    have h9 := hO.cls
    rw [hvm] at h9
    exact h9
  have hall : s.sameButNew ({ U with vm := s.vm } : State) locs mc ms := by
    subst hA
    obtain ⟨e1, e2⟩ := hsame
    rw [State.setFrames_setFrames] at e1
    have h2 : (T.setVm s.vm).sameButNew ({ U with vm := s.vm } : State) [] (0 + 1) (0 + 6) := ⟨e1, e2⟩
    have h3 := X.same.trans h2
    rw [List.append_nil] at h3
    exact h3.mono hc hs
  refine ⟨U, ?_, .threw T.heap.size, hrun, hend, Or.inr ⟨T.heap.size, rfl, cls, ce, locs, hx U hWs.alike f1 (fun q hq => f2 q hq (fun z hz => nomatch hz)), hce, hO.vm, hcl, hWs, hall, hf⟩⟩
  refine st1 _ ?_
  show Steps p.tables e below (T1.setTop { method := m, pc := pc + 3, locals := ls, stack := .ref T.heap.size :: rest, locked := none }) _
  jvm_step X₁.here [X₁.here.top, hexec, d3', Value.category]
  exact X₁.ldcStringW hexec (own := own) (text := text) (index := is) (a := sa) hown' hstr'.1 hstr'.2
    (g := { method := m, pc := pc + 4, locals := ls, stack := .ref T.heap.size :: .ref T.heap.size :: rest, locked := none }) rfl d4' _ hsteps
end Ends
section Bodies
variable {l : Launch}
theorem vx_ofW {y : MethodName} {ws ws' : List Cond} {rm : Room} {Pc : Array Value → State → Prop} {Qc : Array Value → State → Outcome → State → Prop} {XC : String → State → State → Prop} {mc ms : Nat} {free : Addr → Prop} {cc : ByteArray} {maxL : Nat} {ret : Option FieldType}
    (hy : plainName y.cls = true) (hw : ws = Cond.code y cc maxL ret :: ws')
    (body : ∀ p e s m args below meth c s₁, BodyLoose p l y (headSpec ws rm) cc maxL ret e s m args below meth c s₁ → c.maxLocals = maxL → (∀ x ∈ c.exceptionTable.toList, False) → Pc args s →
      W p l e (headSpec ws rm).room s m args below meth c s.heap [] 0 0 (vx_MQ below Qc XC args s mc ms free) (entryFrame m args maxL)) : vx_Met l y ws rm Pc Qc XC mc ms free := by
  refine MetFree.of_bodyS (code := cc) (maxLocals := maxL) (ret := ret) hy ?_ ?_
  · intro args s m h hn
    obtain ⟨meth, c, h1, h2, h3, h4, h5, h6, -, -⟩ := Cond.code_spec hn (atoms_spec (ws := ws) h _ (by rw [hw]; exact List.mem_cons_self))
    exact ⟨meth, c, h1, h2, h3, h4, h5, h6⟩
  · intro p e s m args below meth c s₁ B hml hP _
    have hh0 : s₁.heap = s.heap := by rw [B.state]; rfl
    have ht : ∀ x ∈ c.exceptionTable.toList, False := by
      obtain ⟨meth9, c9, h1, h2, -, -, -, -, h7, -⟩ := Cond.code_spec B.named (atoms_spec (ws := ws) B.pre _ (by rw [hw]; exact List.mem_cons_self))
      cases Option.some.inj (h1.symm.trans B.method)
      cases Option.some.inj (h2.symm.trans (Stand.of_body B).code)
      intro x hx
      rw [Array.isEmpty_iff.mp h7] at hx
      cases hx
    obtain ⟨t, a1, o, b1, b2, b3⟩ := body p e s m args below meth c s₁ B hml ht hP s₁ hh0 (Stand.of_body B)
    exact ⟨t, o, a1, b1, b2, b3⟩
/-- the table of a body with handlers -/
theorem vx_table {p : Program} {x y : MethodName} {S : Spec} {cc bytes : ByteArray} {maxL maxL' : Nat} {ret ret' : Option FieldType} {e : Env} {s s₁ : State} {m : MethodId} {args : Array Value} {below : List Frame} {meth : Method} {c : Code} {hh : List (Nat × Nat × Nat × Nat)}
    (B : BodyLoose p l y S cc maxL ret e s m args below meth c s₁) (h : (Cond.codeWith y bytes maxL' ret' hh).before args s = true) : c.exceptionTable.toList = tableOf hh := by
  obtain ⟨m9, meth9, c9, hn9, h1, h2, -, -, h6, -⟩ := Cond.codeWith_spec h
  cases Option.some.inj (hn9.symm.trans B.named)
  cases Option.some.inj (h1.symm.trans B.method)
  cases Option.some.inj (h2.symm.trans (Stand.of_body B).code)
  rw [← h6, table_eq]
end Bodies
end VXA
/-! ===== END ===== -/
/-! ===== BEGIN a static call of a method with an exception table ===== -/
section VXS
variable {p : Program} {l : Launch} {e : Env} {R : Room} {s : State} {m : MethodId} {args : Array Value} {below : List Frame} {meth : Method} {c : Code} {T : State} {H : Heap} {locs : List Loc} {cells slots : Nat}
abbrev vx_CSW (R : Room) (s : State) (args : Array Value) (own : String) (index : Nat) (y : MethodName) (bytes : ByteArray) (maxL : Nat) (ret : Option FieldType) (hh : List (Nat × Nat × Nat × Nat)) (ws : List Cond) (rm : Room) (mc ms n : Nat) : Prop :=
  (rm.cells = mc ∧ rm.slots = ms ∧ rm.frames + 1 ≤ R.frames ∧ 8 + (maxL + 11) + rm.locals ≤ R.locals ∧ (∀ w ∈ ws, ∀ (a' : Array Value) (U : State), s.WarmedH U.vm → w.before a' U = true) ∧ Cond.codeWith y bytes maxL ret hh ∈ ws) ∧
  (Cond.codeWith y bytes maxL ret hh).before args s = true ∧ (Cond.initialized y.cls).before args s = true ∧ (y.cls ≠ "java/lang/invoke/MethodHandle" ∧ y.cls ≠ "java/lang/invoke/VarHandle") ∧
  (∀ sig, parseMethodDescriptor y.desc = some sig → n = sig.parameters.length) ∧ (Cond.methodLink own index y).before args s = true ∧ (Cond.static y).before args s = true
theorem vx_cwSW {own : String} {index maxL mc ms : Nat} {y : MethodName} {bytes : ByteArray} {ret : Option FieldType} {hh : List (Nat × Nat × Nat × Nat)} {Ts ws ws' : List Cond} {rm : Room} (n : Nat) (ht : ∀ w ∈ Ts, w.before args s = true) (hT : GoodIn Ts (va_wsS own index y ws)) (hw : ws = Cond.codeWith y bytes maxL ret hh :: ws') (hrc : rm.cells = mc) (hrs : rm.slots = ms)
    (hd : y.cls ≠ "java/lang/invoke/MethodHandle" ∧ y.cls ≠ "java/lang/invoke/VarHandle" ∧ (parseMethodDescriptor y.desc).map (fun d => d.parameters.length) = some n) (hR : rm.frames + 1 ≤ R.frames ∧ 8 + (maxL + 11) + rm.locals ≤ R.locals) :
    vx_CSW R s args own index y bytes maxL ret hh ws rm mc ms n := by
  have ok : ∀ w ∈ va_wsS own index y ws, w.before args s = true := fun w h => ht w (hT w h).1
  have hG : GoodIn Ts ws := fun w h => hT w (by unfold va_wsS; exact List.mem_append_right _ h)
  have hc : Cond.codeWith y bytes maxL ret hh ∈ ws := by rw [hw]; exact List.mem_cons_self
  refine ⟨⟨hrc, hrs, hR.1, hR.2, pay_in ht hG, hc⟩, ht _ (hG _ hc).1, ok _ (by simp [va_wsS]), ⟨hd.1, hd.2.1⟩, fun sig h => ?_, ok _ (by simp [va_wsS]), ok _ (by simp [va_wsS])⟩
  have h2 := hd.2.2
  rw [h] at h2
  exact (Option.some.inj h2).symm
theorem vx_callSW (X : Stand p l e R s m args below meth c T locs cells slots) (hexec : p.tables.exec = Jvm.exec) {own : String} {index : Nat} {y : MethodName} {bytes : ByteArray} {maxL : Nat} {ret : Option FieldType} {hh : List (Nat × Nat × Nat × Nat)}
    (hown : s.vm.findClass own = some m.cls) (hlink : (Cond.methodLink own index y).before args s = true) (hstat : (Cond.static y).before args s = true) (hinit : (Cond.initialized y.cls).before args s = true)
    (hcode : (Cond.codeWith y bytes maxL ret hh).before args s = true) (hy : y.cls ≠ "java/lang/invoke/MethodHandle" ∧ y.cls ≠ "java/lang/invoke/VarHandle")
    {W9 : Nat} {Pre : Pt → Array Value → Prop} {Post : Pt → Array Value → Option Value → Pt → Prop} (hK : Back l R p e below s args y 3 W9 Pre Post)
    {g : JFrame} (hg : g.method = m) (hsize : g.locals.size = c.maxLocals) {argsL rest : List Value} (hlen : ∀ sig, parseMethodDescriptor y.desc = some sig → argsL.length = sig.parameters.length)
    (hstack : g.stack = argsL.reverse ++ rest) (hW : 2 * g.monitorRoom + (rest.map fun v => v.category).sum ≤ W9) (hdg : decode c.code g.pc = .ok (.invokestatic index, 3))
    (hpre : ∀ vm₁, s.WarmedH vm₁ → Pre ⟨T.setVm vm₁, locs, cells, slots⟩ argsL.toArray) :
    ∃ (v : Option Value) (vm₁ : Vm) (B : Pt), s.WarmedH vm₁ ∧ Stand p l e R s m args below meth c B.U B.locs B.cells B.slots ∧ Post ⟨T.setVm vm₁, locs, cells, slots⟩ argsL.toArray v B ∧
      ∀ target, Steps p.tables e below (B.U.setTop { g with pc := g.pc + 3, stack := v.toList ++ rest }) target → Steps p.tables e below (T.setTop g) target := by
  obtain ⟨mk, methM, cM, hnamed, hmethM, -, -, -, -, -, -, hsigM⟩ := Cond.codeWith_spec hcode
  have hstatic : methM.isStatic = true := Cond.static_spec hnamed hmethM hstat
  obtain ⟨kP, hkP, -⟩ := className_of_methodNamed hnamed
  have hinitP : kP.init = .initialized := Cond.initialized_spec (findClass_of_methodNamed hnamed) hkP hinit
  obtain ⟨vm₁, X₁, hstep₁⟩ := X.invokestatic hexec hown hlink hnamed hmethM hstatic hkP hinitP hy (g := g) hg (argsL := argsL) (rest := rest) (hlen _ hsigM) hstack hdg
  obtain ⟨v, B, X', hpost, hsteps⟩ := hK m meth c ⟨T.setVm vm₁, locs, cells, slots⟩ { g with stack := rest } (.invokestatic index) mk argsL.toArray X₁ hg hsize hdg hW (X₁.named hnamed) (hpre vm₁ X₁.warmed)
  exact ⟨v, vm₁, B, X₁.warmed, X', hpost, fun target h => hstep₁ _ fun acts => by rw [doInvoke_state]; exact hsteps.trans h⟩
theorem vx_runSW {y : MethodName} {bytes cc : ByteArray} {maxL nL mc ms n index : Nat} {ret : Option FieldType} {hh : List (Nat × Nat × Nat × Nat)} {ws : List Cond} {rm : Room} {Pc : Array Value → State → Prop} {Qc : Array Value → State → Outcome → State → Prop} {free : Addr → Prop} {Ts : List Cond} {own : String} {As rest : List Value} {g : JFrame}
    (S : CallFix p m c cc nL s args Ts own) (hM : Met l y ws rm Pc Qc mc ms free) (cw : vx_CSW R s args own index y bytes maxL ret hh ws rm mc ms n) (hp : PreS s H Pc As)
    (hg : g.method = m) (hn : As.length = n) (hsize : g.locals.size = nL) (hstack : g.stack = As.reverse ++ rest) (hW : 2 * g.monitorRoom + (rest.map fun v => v.category).sum ≤ 8) (hdg : decode cc g.pc = .ok (.invokestatic index, 3)) (hf : cells + mc ≤ R.cells ∧ slots + ms ≤ R.slots) :
    va_Run p l e R s m args below meth c H locs cells slots mc ms g rest (Qc As.toArray) (free) := by
  obtain ⟨⟨hrc, hrs, hfr, hlo, hws, hcw⟩, hcode, hini, hy, hlen, hl, hstt⟩ := cw
  have hK : Back l R p e below s args y 3 8 (PreOf R mc ms Pc) (PostOf Qc mc ms free) := va_backW (hh := hh) (bytes := bytes) (maxL := maxL) (ret := ret) hM hp.1 hrc hrs hfr hlo hws hcw (fun a' U hW => word_at hW (Or.inl (by first | rfl | simp [Cond.onTables, Cond.keeps, Cond.steady])) hini)
  obtain ⟨hx, hb, hml, ho, -⟩ := S
  intro T hT X
  obtain ⟨v, vm₁, ⟨U', l2, c2, s2⟩, hW₁, X', ⟨g', mk, t, L, e1, e2, hq, h1, hL, h2, h3⟩, st⟩ := vx_callSW X hx (hh := hh) (bytes := bytes) (maxL := maxL) (ret := ret) ho hl hstt hini hcode hy hK hg (hsize.trans hml.symm) (argsL := As) (rest := rest) (fun sig h => hn.trans (hlen sig h)) hstack hW (by rw [hb]; exact hdg)
    (fun vm₁ hW₁ => ⟨hf.1, hf.2, hp.2 (T.setVm vm₁) hT hW₁⟩)
  dsimp only [Pt.U, Pt.locs, Pt.cells, Pt.slots] at X' e1 e2 h1 h2 h3 st
  subst h1; subst h2; subst h3
  exact ⟨v, (T.setVm vm₁).calling g' mk As.toArray, t, U', L, hT, X', hL, e1, e2, hq, st⟩
/-- not caught here, past rows that name other classes: it goes on to the caller -/
theorem vx_outP {p : Program} {l : Launch} {e : Env} {R : Room} {s : State} {m : MethodId} {args : Array Value} {below : List Frame} {meth : Method} {c : Code} {H : Heap} {locs : List Loc} {cells slots : Nat} {free : Addr → Prop} {ls : Array Slot} {rest : List Value} {Qc : Array Value → State → Outcome → State → Prop} {XC : String → State → State → Prop}
    {pc : Nat} {own E : String} {ce : Cell} {q : Addr} {mc ms : Nat} (hown : s.vm.findClass own = some m.cls) (hlocks : meth.locks = false)
    (hpass : ∀ z ∈ c.exceptionTable.toList, covers z pc = false ∨ (z.catchType ≠ 0 ∧ ∃ nm : String, (Cond.classLink own z.catchType nm).before args s = true ∧ va_Nc E nm s)) (hcell : H[q]? = some ce) (hv : ce.vm = .none) (hcl : s.vm.findClass E = some ce.cls)
    (hx : ∀ t : State, t.heap = H → s.vm.Alike t.vm → XC E s t) (hf : ∀ z ∈ locs, free z.base) (hc : cells ≤ mc) (hs : slots ≤ ms) :
    vx_W p l e R s m args below meth c H locs cells slots (vx_MQ below Qc XC args s mc ms free) (F0 m pc ls rest) q := by
  intro T hT X
  have hpl : e.platform.magicAccessors = ({} : Platform).magicAccessors := by rw [X.admits.platform]
  obtain ⟨vm', hW', X', st⟩ := X.outThrough hlocks q (g := F0 m pc ls rest) rfl rfl rfl (cell := ce) (by rw [hT]; exact hcell) (by rw [hv]; rfl)
    (by obtain ⟨k9, h9, -⟩ := Vm.findClass_spec hcl; exact ⟨k9, h9⟩) (fun z hz => by
      rcases hpass z hz with h | ⟨hz0, nm, hl1, hn1⟩
      · exact Or.inl h
      · obtain ⟨c6, hc6, hcl6⟩ := Cond.classLink_spec hown hl1 e.platform hpl
        obtain ⟨a8, b8, h1, h2, h3⟩ := hn1
        cases Option.some.inj (h1.symm.trans hcl)
        cases Option.some.inj (h2.symm.trans hc6)
        exact Or.inr ⟨hz0, _, hcl6, h3⟩)
  obtain ⟨g₀, hfr⟩ := X'.frames_eq
  have hcell9 : ((T.setVm vm').setFrames (.throwing q :: below)).heap[q]? = some ce := by
    show T.heap[q]? = some ce
    rw [hT]; exact hcell
  have hend : Ended ((T.setVm vm').setFrames (.throwing q :: below)) below (.threw q) := State.frames_setFrames _ (State.cur_lt_of_frames hfr)
  refine ⟨(T.setVm vm').setFrames (.throwing q :: below), ?_, .threw q, X'.here.running, hend, Or.inr ⟨q, rfl, E, ce, locs, hx _ hT (X'.ends _).1.alike, hcell9, hv, hcl, (X'.ends _).1, (X'.ends _).2.mono hc hs, hf⟩⟩
  rw [X.pushThrowing_eq]
  exact st
/-- a thing of a world lies in the heap -/
theorem vx_lt {D : va_G} {cl : List vw_C} {ws : va_W} {H1 : Heap} (h : va_P D cl ws H1) {k : Nat} {q : Nat × va_E} (hk : ws[k]? = some q) : q.1 < H1.size := (h k q hk).lt
end VXS
/-! ===== END ===== -/
/-! ===== BEGIN methods with a table of their own: called by a name, returning or throwing ===== -/
section VXH
/-! vx_backW, vx_callVX, vx_callSX, vx_callVW, vx_runVW, vx_runVX, vx_runSX, vx_ofWH follow the same proofs as their sisters above (Free/Laws.lean, Shelf42/LK1.lean); vx_outP calls Shelf42/NT130.lean (outThrough). -/
section
variable {l : Launch} {R : Room} {p : Program} {e : Env} {below : List Frame} {s : State} {sargs : Array Value} {y : MethodName} {len W9 : Nat}
theorem vx_backW {ws : List Cond} {rm : Room} {Pc : Array Value → State → Prop} {Qc : Array Value → State → Outcome → State → Prop} {XC : String → State → State → Prop} {mc ms : Nat} {free : Addr → Prop} {bytes : ByteArray} {maxL : Nat} {ret : Option FieldType} {hh : List (Nat × Nat × Nat × Nat)}
    (hM : vx_Met l y ws rm Pc Qc XC mc ms free) (hblind : FrameBlind Pc) (hrc : rm.cells = mc) (hrs : rm.slots = ms)
    (hframes : rm.frames + 1 ≤ R.frames) (hlocals : W9 + (maxL + 11) + rm.locals ≤ R.locals)
    (hws : ∀ w ∈ ws, ∀ a' U, s.WarmedH U.vm → w.before a' U = true) (hcode : Cond.codeWith y bytes maxL ret hh ∈ ws) (hinit : ∀ a' U, s.WarmedH U.vm → (Cond.initialized y.cls).before a' U = true) :
    vx_Back l R p e below s sargs y len W9 (PreOf R mc ms Pc) (PostOf Qc mc ms free) (vx_Post XC mc ms free) := by
  intro m meth c A g ig mk a X hg hsize hdg hW hn hp
  have h1 : (headSpec ws rm).pre.before a A.U = true := atoms_intro fun w hw => hws w hw _ _ X.warmed
  have h2 : (Cond.codeWith y bytes maxL ret hh).before a A.U = true := hws _ hcode _ _ X.warmed
  have h3 : (Cond.initialized y.cls).before a A.U = true := hinit _ _ X.warmed
  have h4 : A.cells + (headSpec ws rm).room.cells ≤ R.cells := by rw [show (headSpec ws rm).room.cells = mc from hrc]; exact hp.1
  have h5 : A.slots + (headSpec ws rm).room.slots ≤ R.slots := by rw [show (headSpec ws rm).room.slots = ms from hrs]; exact hp.2.1
  have hPc : Pc a (A.U.calling g mk a) := hblind _ _ _ _ hp.2.2
  obtain ⟨U, Ls, c0, s0⟩ := A
  dsimp only [Pt.U, Pt.locs, Pt.cells, Pt.slots] at h1 h2 h3 h4 h5 X hn hPc ⊢
  obtain ⟨m9, methY, cY, hn9, hmY, hcY, -, hlY, -⟩ := Cond.codeWith_spec h2
  cases Option.some.inj (hn9.symm.trans hn)
  obtain ⟨kY, hkY, -⟩ := className_of_methodNamed hn
  have hinitY : kY.init = .initialized := Cond.initialized_spec (findClass_of_methodNamed hn) hkY h3
  have h : At U g.method c below := by rw [hg]; exact X.here
  have hlocals9 : W9 + (maxL + 11) + (headSpec ws rm).room.locals ≤ R.locals := hlocals
  have happ : (headSpec ws rm).appliesLoose y e.platform (U.calling g mk a) = true :=
    Spec.appliesLoose_calling (g := g) h hdg hn hkY hinitY
      (X.room_calling (g := g) (R' := (headSpec ws rm).room) hsize hmY hcY hframes (by rw [hlY]; omega) h4 h5) h1
  obtain ⟨mid, hmid⟩ := h.above
  have hfr : (U.setTop g).frames = (.java g :: mid) ++ below := by rw [State.frames_setTop' g h.top, hmid]; rfl
  obtain ⟨o, s₂, hsteps, -, hend, hq⟩ := Steps.callFree hM p X.admits X.cas X.clock (acts := []) hfr happ hPc trivial
  have hq' : vx_Q Qc XC mc ms free a (U.calling g mk a) o s₂ := hq
  rw [State.frames_setTop' g h.top] at hend
  obtain ⟨g₀, hg0⟩ := Option.isSome_iff_exists.mp h.top
  obtain ⟨r, hr⟩ := State.topJava?_eq_some.mp hg0
  have hr' : (({ U with heap := s₂.heap, slotsUsed := s₂.slotsUsed } : State).setVm s₂.vm).frames = .java g₀ :: r := hr
  rcases hq' with ⟨hqc, L, hfe, hL⟩ | ⟨q, rfl, E, ce, L, hx, hce, hcv, hcl, hW₂, hsm, hL⟩
  · obtain ⟨⟨v, rfl⟩, hW₂, e2, q2, q3, q4, q5, q6⟩ := id hfe
    have e3 : s₂ = ({ (U.calling g mk a).setFrames s₂.frames with heap := s₂.heap, slotsUsed := s₂.slotsUsed } : State).setVm s₂.vm := by
      have : s₂ = ({ s₂ with vm := (U.calling g mk a).vm } : State).setVm s₂.vm := rfl
      rw [e2] at this
      exact this
    obtain ⟨c₂, i₂, len₂, hc₂, hd₂, hf₂⟩ := hend
    have hW' : U.WarmedH s₂.vm := hW₂
    have hcc : c₂ = c := by
      have h1 : s₂.code? g.method = U.code? g.method := by
        rw [State.code?_eq, State.code?_eq, hW'.alike.method?]
      exact Option.some.inj (hc₂.symm.trans (h1.trans h.code))
    subst hcc
    have hlen : len₂ = len := by rw [hdg] at hd₂; cases hd₂; rfl
    subst hlen
    have hs₂ : s₂ = (({ U with heap := s₂.heap, slotsUsed := s₂.slotsUsed } : State).setVm s₂.vm).setTop { g with pc := g.pc + len₂, stack := v.toList ++ g.stack } := by
      refine e3.trans ?_
      rw [hf₂, State.calling_eq h.top, State.setFrames_setFrames, State.setTop_of_frames _ hr', hr]
      rfl
    have hsame : U.sameButNew ({ U with heap := s₂.heap, slotsUsed := s₂.slotsUsed } : State) L mc ms := by
      refine ⟨?_, q2, q3, q4, q5, q6⟩
      obtain ⟨t, ht, -⟩ := State.frames_cons hr
      show ({ U with heap := s₂.heap, slotsUsed := s₂.slotsUsed } : State) = { U.setFrames U.frames with heap := s₂.heap, slotsUsed := s₂.slotsUsed }
      rw [State.setFrames_self ht]
    subst hg
    refine Or.inl ⟨v, ⟨(({ U with heap := s₂.heap, slotsUsed := s₂.slotsUsed } : State).setVm s₂.vm), Ls ++ L, c0 + mc, s0 + ms⟩,
      ⟨X.admits, X.cas, X.clock, X.frames, X.room, X.hears, X.method, X.code, (X.here.setHeapUsed s₂.heap s₂.slotsUsed).setVm hW'.alike, X.tail, State.WarmedH.trans X.warmed hW', X.limits, X.bytes, X.same.trans (hsame.setVm s.vm)⟩,
      ⟨g, mk, s₂, L, rfl, rfl, hqc, rfl, hL, rfl, rfl⟩, ?_⟩
    show Steps p.tables e below _ ((({ U with heap := s₂.heap, slotsUsed := s₂.slotsUsed } : State).setVm s₂.vm).setTop { g with pc := g.pc + len₂, stack := v.toList ++ g.stack })
    rw [← hs₂]
    exact hsteps
  · obtain ⟨e2, q2, q3, q4, q5, q6⟩ := id hsm
    have e3 : s₂ = ({ (U.calling g mk a).setFrames s₂.frames with heap := s₂.heap, slotsUsed := s₂.slotsUsed } : State).setVm s₂.vm := by
      have : s₂ = ({ s₂ with vm := (U.calling g mk a).vm } : State).setVm s₂.vm := rfl
      rw [e2] at this
      exact this
    have hf₂ : s₂.frames = .throwing q :: .java g :: U.frames.tail := hend
    have hW' : U.WarmedH s₂.vm := hW₂
    have hs₂ : s₂ = ((({ U with heap := s₂.heap, slotsUsed := s₂.slotsUsed } : State).setVm s₂.vm).setTop g).pushFrame (.throwing q) := by
      refine e3.trans ?_
      rw [hf₂, State.calling_eq h.top, State.setFrames_setFrames, State.pushFrame, State.frames_setTop _ hr', State.setTop_of_frames _ hr', State.setFrames_setFrames, hr]
      rfl
    have hsame : U.sameButNew ({ U with heap := s₂.heap, slotsUsed := s₂.slotsUsed } : State) L mc ms := by
      refine ⟨?_, q2, q3, q4, q5, q6⟩
      obtain ⟨t, ht, -⟩ := State.frames_cons hr
      show ({ U with heap := s₂.heap, slotsUsed := s₂.slotsUsed } : State) = { U.setFrames U.frames with heap := s₂.heap, slotsUsed := s₂.slotsUsed }
      rw [State.setFrames_self ht]
    subst hg
    refine Or.inr ⟨q, ⟨(({ U with heap := s₂.heap, slotsUsed := s₂.slotsUsed } : State).setVm s₂.vm), Ls ++ L, c0 + mc, s0 + ms⟩,
      ⟨X.admits, X.cas, X.clock, X.frames, X.room, X.hears, X.method, X.code, (X.here.setHeapUsed s₂.heap s₂.slotsUsed).setVm hW'.alike, X.tail, State.WarmedH.trans X.warmed hW', X.limits, X.bytes, X.same.trans (hsame.setVm s.vm)⟩,
      ⟨g, mk, s₂, L, E, ce, rfl, rfl, hx, hce, hcv, hcl, rfl, hL, rfl, rfl⟩, ?_⟩
    show Steps p.tables e below _ (((({ U with heap := s₂.heap, slotsUsed := s₂.slotsUsed } : State).setVm s₂.vm).setTop g).pushFrame (.throwing q))
    rw [← hs₂]
    exact hsteps
end
variable {p : Program} {l : Launch} {e : Env} {R : Room} {s : State} {m : MethodId} {args : Array Value} {below : List Frame} {meth : Method} {c : Code} {T : State} {H : Heap} {locs : List Loc} {cells slots : Nat}
theorem vx_callVX (X : Stand p l e R s m args below meth c T locs cells slots) (hexec : p.tables.exec = Jvm.exec) {own C : String} {index : Nat} {y : MethodName} {bytes : ByteArray} {maxL : Nat} {ret : Option FieldType} {hh : List (Nat × Nat × Nat × Nat)}
    (hown : s.vm.findClass own = some m.cls) (hlink : (Cond.methodLink own index y).before args s = true) (hinst : (Cond.instanceMethod y).before args s = true) (hsel : (Cond.selects C y y).before args s = true)
    (hcode : (Cond.codeWith y bytes maxL ret hh).before args s = true) (hy : y.cls ≠ "java/lang/invoke/MethodHandle" ∧ y.cls ≠ "java/lang/invoke/VarHandle")
    {W9 : Nat} {Pre : Pt → Array Value → Prop} {Post : Pt → Array Value → Option Value → Pt → Prop} {PostX : Pt → Array Value → Addr → Pt → Prop} (hK : vx_Back l R p e below s args y 3 W9 Pre Post PostX)
    {b : Addr} {cellB : Cell} (hcell : T.heap[b]? = some cellB) (hobj : cellB.vm.isStatics = false) (hcls : s.vm.findClass C = some cellB.cls)
    {g : JFrame} (hg : g.method = m) (hsize : g.locals.size = c.maxLocals) {argsL rest : List Value} (hlen : ∀ sig, parseMethodDescriptor y.desc = some sig → argsL.length = sig.parameters.length)
    (hstack : g.stack = argsL.reverse ++ .ref b :: rest) (hW : 2 * g.monitorRoom + (rest.map fun v => v.category).sum ≤ W9) (hdg : decode c.code g.pc = .ok (.invokevirtual index, 3))
    (hpre : ∀ vm₁, s.WarmedH vm₁ → Pre ⟨T.setVm vm₁, locs, cells, slots⟩ (Value.ref b :: argsL).toArray) :
    (∃ (v : Option Value) (vm₁ : Vm) (B : Pt), s.WarmedH vm₁ ∧ Stand p l e R s m args below meth c B.U B.locs B.cells B.slots ∧ Post ⟨T.setVm vm₁, locs, cells, slots⟩ (Value.ref b :: argsL).toArray v B ∧
      ∀ target, Steps p.tables e below (B.U.setTop { g with pc := g.pc + 3, stack := v.toList ++ rest }) target → Steps p.tables e below (T.setTop g) target) ∨
    (∃ (q : Addr) (vm₁ : Vm) (B : Pt), s.WarmedH vm₁ ∧ Stand p l e R s m args below meth c B.U B.locs B.cells B.slots ∧ PostX ⟨T.setVm vm₁, locs, cells, slots⟩ (Value.ref b :: argsL).toArray q B ∧
      Steps p.tables e below (T.setTop g) ((B.U.setTop { g with stack := rest }).pushFrame (.throwing q))) := by
  obtain ⟨mk, methM, hnamed, hmethM, hstM, habM⟩ := Cond.instanceMethod_spec hinst
  obtain ⟨m8, methM', cM, hn8, hmethM', -, -, -, -, -, -, hsigM⟩ := Cond.codeWith_spec hcode
  cases Option.some.inj (hn8.symm.trans hnamed)
  cases hmethM.symm.trans hmethM'
  obtain ⟨c2, r2, m2, q1, q2, q3, q4, kP, hkP, hkPi⟩ := Cond.selects_spec hsel
  cases hcls.symm.trans q1
  cases (State.methodFound?_of_named hnamed hy).symm.trans q2
  cases hnamed.symm.trans q3
  have hselP : selectMethod e.platform s.vm cellB.cls mk = .method mk := by rw [Launch.admits_selectMethod X.admits]; exact q4
  obtain ⟨vm₁, X₁, hstep₁⟩ := X.invokevirtual hexec hown hlink hnamed hmethM hstM hkP hkPi hy (a := b) (cell := cellB) hcell
    (fun z h => by rw [h] at hobj; cases hobj) hselP hmethM habM hkP hkPi (g := g) hg (argsL := argsL) (rest := rest) (hlen _ hsigM) hstack hdg
  rcases hK m meth c ⟨T.setVm vm₁, locs, cells, slots⟩ { g with stack := rest } (.invokevirtual index) mk (Value.ref b :: argsL).toArray X₁ hg hsize hdg hW (X₁.named hnamed) (hpre vm₁ X₁.warmed) with ⟨v, B, X', hpost, hsteps⟩ | ⟨q, B, X', hpost, hsteps⟩
  · exact Or.inl ⟨v, vm₁, B, X₁.warmed, X', hpost, fun target h => hstep₁ _ fun acts => by rw [doInvoke_state]; exact hsteps.trans h⟩
  · exact Or.inr ⟨q, vm₁, B, X₁.warmed, X', hpost, hstep₁ _ fun acts => by rw [doInvoke_state]; exact hsteps⟩
theorem vx_callSX (X : Stand p l e R s m args below meth c T locs cells slots) (hexec : p.tables.exec = Jvm.exec) {own : String} {index : Nat} {y : MethodName} {bytes : ByteArray} {maxL : Nat} {ret : Option FieldType} {hh : List (Nat × Nat × Nat × Nat)}
    (hown : s.vm.findClass own = some m.cls) (hlink : (Cond.methodLink own index y).before args s = true) (hstat : (Cond.static y).before args s = true) (hinit : (Cond.initialized y.cls).before args s = true)
    (hcode : (Cond.codeWith y bytes maxL ret hh).before args s = true) (hy : y.cls ≠ "java/lang/invoke/MethodHandle" ∧ y.cls ≠ "java/lang/invoke/VarHandle")
    {W9 : Nat} {Pre : Pt → Array Value → Prop} {Post : Pt → Array Value → Option Value → Pt → Prop} {PostX : Pt → Array Value → Addr → Pt → Prop} (hK : vx_Back l R p e below s args y 3 W9 Pre Post PostX)
    {g : JFrame} (hg : g.method = m) (hsize : g.locals.size = c.maxLocals) {argsL rest : List Value} (hlen : ∀ sig, parseMethodDescriptor y.desc = some sig → argsL.length = sig.parameters.length)
    (hstack : g.stack = argsL.reverse ++ rest) (hW : 2 * g.monitorRoom + (rest.map fun v => v.category).sum ≤ W9) (hdg : decode c.code g.pc = .ok (.invokestatic index, 3))
    (hpre : ∀ vm₁, s.WarmedH vm₁ → Pre ⟨T.setVm vm₁, locs, cells, slots⟩ argsL.toArray) :
    (∃ (v : Option Value) (vm₁ : Vm) (B : Pt), s.WarmedH vm₁ ∧ Stand p l e R s m args below meth c B.U B.locs B.cells B.slots ∧ Post ⟨T.setVm vm₁, locs, cells, slots⟩ argsL.toArray v B ∧
      ∀ target, Steps p.tables e below (B.U.setTop { g with pc := g.pc + 3, stack := v.toList ++ rest }) target → Steps p.tables e below (T.setTop g) target) ∨
    (∃ (q : Addr) (vm₁ : Vm) (B : Pt), s.WarmedH vm₁ ∧ Stand p l e R s m args below meth c B.U B.locs B.cells B.slots ∧ PostX ⟨T.setVm vm₁, locs, cells, slots⟩ argsL.toArray q B ∧
      Steps p.tables e below (T.setTop g) ((B.U.setTop { g with stack := rest }).pushFrame (.throwing q))) := by
  obtain ⟨mk, methM, cM, hnamed, hmethM, -, -, -, -, -, -, hsigM⟩ := Cond.codeWith_spec hcode
  have hstatic : methM.isStatic = true := Cond.static_spec hnamed hmethM hstat
  obtain ⟨kP, hkP, -⟩ := className_of_methodNamed hnamed
  have hinitP : kP.init = .initialized := Cond.initialized_spec (findClass_of_methodNamed hnamed) hkP hinit
  obtain ⟨vm₁, X₁, hstep₁⟩ := X.invokestatic hexec hown hlink hnamed hmethM hstatic hkP hinitP hy (g := g) hg (argsL := argsL) (rest := rest) (hlen _ hsigM) hstack hdg
  rcases hK m meth c ⟨T.setVm vm₁, locs, cells, slots⟩ { g with stack := rest } (.invokestatic index) mk argsL.toArray X₁ hg hsize hdg hW (X₁.named hnamed) (hpre vm₁ X₁.warmed) with ⟨v, B, X', hpost, hsteps⟩ | ⟨q, B, X', hpost, hsteps⟩
  · exact Or.inl ⟨v, vm₁, B, X₁.warmed, X', hpost, fun target h => hstep₁ _ fun acts => by rw [doInvoke_state]; exact hsteps.trans h⟩
  · exact Or.inr ⟨q, vm₁, B, X₁.warmed, X', hpost, hstep₁ _ fun acts => by rw [doInvoke_state]; exact hsteps⟩
theorem vx_callVW (X : Stand p l e R s m args below meth c T locs cells slots) (hexec : p.tables.exec = Jvm.exec) {own C : String} {index : Nat} {y : MethodName} {bytes : ByteArray} {maxL : Nat} {ret : Option FieldType} {hh : List (Nat × Nat × Nat × Nat)}
    (hown : s.vm.findClass own = some m.cls) (hlink : (Cond.methodLink own index y).before args s = true) (hinst : (Cond.instanceMethod y).before args s = true) (hsel : (Cond.selects C y y).before args s = true)
    (hcode : (Cond.codeWith y bytes maxL ret hh).before args s = true) (hy : y.cls ≠ "java/lang/invoke/MethodHandle" ∧ y.cls ≠ "java/lang/invoke/VarHandle")
    {W9 : Nat} {Pre : Pt → Array Value → Prop} {Post : Pt → Array Value → Option Value → Pt → Prop} (hK : Back l R p e below s args y 3 W9 Pre Post)
    {b : Addr} {cellB : Cell} (hcell : T.heap[b]? = some cellB) (hobj : cellB.vm.isStatics = false) (hcls : s.vm.findClass C = some cellB.cls)
    {g : JFrame} (hg : g.method = m) (hsize : g.locals.size = c.maxLocals) {argsL rest : List Value} (hlen : ∀ sig, parseMethodDescriptor y.desc = some sig → argsL.length = sig.parameters.length)
    (hstack : g.stack = argsL.reverse ++ .ref b :: rest) (hW : 2 * g.monitorRoom + (rest.map fun v => v.category).sum ≤ W9) (hdg : decode c.code g.pc = .ok (.invokevirtual index, 3))
    (hpre : ∀ vm₁, s.WarmedH vm₁ → Pre ⟨T.setVm vm₁, locs, cells, slots⟩ (Value.ref b :: argsL).toArray) :
    ∃ (v : Option Value) (vm₁ : Vm) (B : Pt), s.WarmedH vm₁ ∧ Stand p l e R s m args below meth c B.U B.locs B.cells B.slots ∧ Post ⟨T.setVm vm₁, locs, cells, slots⟩ (Value.ref b :: argsL).toArray v B ∧
      ∀ target, Steps p.tables e below (B.U.setTop { g with pc := g.pc + 3, stack := v.toList ++ rest }) target → Steps p.tables e below (T.setTop g) target := by
  obtain ⟨mk, methM, hnamed, hmethM, hstM, habM⟩ := Cond.instanceMethod_spec hinst
  obtain ⟨m8, methM', cM, hn8, hmethM', -, -, -, -, -, -, hsigM⟩ := Cond.codeWith_spec hcode
  cases Option.some.inj (hn8.symm.trans hnamed)
  cases hmethM.symm.trans hmethM'
  obtain ⟨c2, r2, m2, q1, q2, q3, q4, kP, hkP, hkPi⟩ := Cond.selects_spec hsel
  cases hcls.symm.trans q1
  cases (State.methodFound?_of_named hnamed hy).symm.trans q2
  cases hnamed.symm.trans q3
  have hselP : selectMethod e.platform s.vm cellB.cls mk = .method mk := by rw [Launch.admits_selectMethod X.admits]; exact q4
  obtain ⟨vm₁, X₁, hstep₁⟩ := X.invokevirtual hexec hown hlink hnamed hmethM hstM hkP hkPi hy (a := b) (cell := cellB) hcell
    (fun z h => by rw [h] at hobj; cases hobj) hselP hmethM habM hkP hkPi (g := g) hg (argsL := argsL) (rest := rest) (hlen _ hsigM) hstack hdg
  obtain ⟨v, B, X', hpost, hsteps⟩ := hK m meth c ⟨T.setVm vm₁, locs, cells, slots⟩ { g with stack := rest } (.invokevirtual index) mk (Value.ref b :: argsL).toArray X₁ hg hsize hdg hW (X₁.named hnamed) (hpre vm₁ X₁.warmed)
  exact ⟨v, vm₁, B, X₁.warmed, X', hpost, fun target h => hstep₁ _ fun acts => by rw [doInvoke_state]; exact hsteps.trans h⟩
abbrev vx_CVW (R : Room) (s : State) (args : Array Value) (own C : String) (index : Nat) (y : MethodName) (bytes : ByteArray) (maxL : Nat) (ret : Option FieldType) (hh : List (Nat × Nat × Nat × Nat)) (ws : List Cond) (rm : Room) (mc ms n : Nat) : Prop :=
  (rm.cells = mc ∧ rm.slots = ms ∧ rm.frames + 1 ≤ R.frames ∧ 8 + (maxL + 11) + rm.locals ≤ R.locals ∧ (∀ w ∈ ws, ∀ (a' : Array Value) (U : State), s.WarmedH U.vm → w.before a' U = true) ∧ Cond.codeWith y bytes maxL ret hh ∈ ws) ∧
  (Cond.codeWith y bytes maxL ret hh).before args s = true ∧ (Cond.initialized y.cls).before args s = true ∧ (y.cls ≠ "java/lang/invoke/MethodHandle" ∧ y.cls ≠ "java/lang/invoke/VarHandle") ∧
  (∀ sig, parseMethodDescriptor y.desc = some sig → n = sig.parameters.length) ∧ (Cond.methodLink own index y).before args s = true ∧ (Cond.instanceMethod y).before args s = true ∧ (Cond.selects C y y).before args s = true
theorem vx_cwVW {own C : String} {index maxL mc ms : Nat} {y : MethodName} {bytes : ByteArray} {ret : Option FieldType} {hh : List (Nat × Nat × Nat × Nat)} {Ts ws ws' : List Cond} {rm : Room} (n : Nat) (ht : ∀ w ∈ Ts, w.before args s = true) (hT : GoodIn Ts (wsV own index C y ws)) (hw : ws = Cond.codeWith y bytes maxL ret hh :: ws') (hrc : rm.cells = mc) (hrs : rm.slots = ms)
    (hd : y.cls = C ∧ y.cls ≠ "java/lang/invoke/MethodHandle" ∧ y.cls ≠ "java/lang/invoke/VarHandle" ∧ (parseMethodDescriptor y.desc).map (fun d => d.parameters.length) = some n) (hR : rm.frames + 1 ≤ R.frames ∧ 8 + (maxL + 11) + rm.locals ≤ R.locals) :
    vx_CVW R s args own C index y bytes maxL ret hh ws rm mc ms n := by
  obtain ⟨hC, hd⟩ := hd
  subst hC
  have ok : ∀ w ∈ wsV own index y.cls y ws, w.before args s = true := fun w h => ht w (hT w h).1
  have hG : GoodIn Ts ws := fun w h => hT w (by unfold wsV; exact List.mem_append_right _ h)
  have hc : Cond.codeWith y bytes maxL ret hh ∈ ws := by rw [hw]; exact List.mem_cons_self
  refine ⟨⟨hrc, hrs, hR.1, hR.2, pay_in ht hG, hc⟩, ht _ (hG _ hc).1, ok _ (by simp [wsV]), ⟨hd.1, hd.2.1⟩, fun sig h => ?_, ok _ (by simp [wsV]), ok _ (by simp [wsV]), ok _ (by simp [wsV])⟩
  have h2 := hd.2.2
  rw [h] at h2
  exact (Option.some.inj h2).symm
theorem vx_runVW {y : MethodName} {bytes cc : ByteArray} {maxL nL mc ms n index : Nat} {ret : Option FieldType} {hh : List (Nat × Nat × Nat × Nat)} {ws : List Cond} {rm : Room} {Pc : Array Value → State → Prop} {Qc : Array Value → State → Outcome → State → Prop} {free : Addr → Prop} {Ts : List Cond} {own C : String} {b : Addr} {As rest : List Value} {g : JFrame}
    (S : CallFix p m c cc nL s args Ts own) (hM : Met l y ws rm Pc Qc mc ms free) (cw : vx_CVW R s args own C index y bytes maxL ret hh ws rm mc ms n) (hp : PreV s H C b Pc As)
    (hg : g.method = m) (hn : As.length = n) (hsize : g.locals.size = nL) (hstack : g.stack = As.reverse ++ .ref b :: rest) (hW : 2 * g.monitorRoom + (rest.map fun v => v.category).sum ≤ 8) (hdg : decode cc g.pc = .ok (.invokevirtual index, 3)) (hf : cells + mc ≤ R.cells ∧ slots + ms ≤ R.slots) :
    va_Run p l e R s m args below meth c H locs cells slots mc ms g rest (Qc (Value.ref b :: As).toArray) free := by
  obtain ⟨⟨hrc, hrs, hfr, hlo, hws, hcw⟩, hcode, hini, hy, hlen, hl, hin, hse⟩ := cw
  have hK : Back l R p e below s args y 3 8 (PreOf R mc ms Pc) (PostOf Qc mc ms free) := va_backW (hh := hh) (bytes := bytes) (maxL := maxL) (ret := ret) hM hp.1 hrc hrs hfr hlo hws hcw (fun a' U hW => word_at hW (Or.inl (by first | rfl | simp [Cond.onTables, Cond.keeps, Cond.steady])) hini)
  obtain ⟨hx, hb, hml, ho, -⟩ := S
  obtain ⟨-, ⟨cellB, hcB, hoB, hclB⟩, hPc⟩ := hp
  intro T hT X
  obtain ⟨v, vm₁, ⟨U', l2, c2, s2⟩, hW₁, X', ⟨g', mk, t, L, e1, e2, hq, h1, hL, h2, h3⟩, st⟩ := vx_callVW X hx (C := C) (hh := hh) (bytes := bytes) (maxL := maxL) (ret := ret) ho hl hin hse hcode hy hK (by rw [hT]; exact hcB) hoB hclB hg (hsize.trans hml.symm) (argsL := As) (rest := rest) (fun sig h => hn.trans (hlen sig h)) hstack hW (by rw [hb]; exact hdg)
    (fun vm₁ hW₁ => ⟨hf.1, hf.2, hPc (T.setVm vm₁) hT hW₁⟩)
  dsimp only [Pt.U, Pt.locs, Pt.cells, Pt.slots] at X' e1 e2 h1 h2 h3 st
  subst h1; subst h2; subst h3
  exact ⟨v, (T.setVm vm₁).calling g' mk (Value.ref b :: As).toArray, t, U', L, hT, X', hL, e1, e2, hq, st⟩
section
variable {y : MethodName} {bytes cc : ByteArray} {maxL nL mc ms n index : Nat} {ret : Option FieldType} {ws : List Cond} {rm : Room} {Pc : Array Value → State → Prop} {Qc : Array Value → State → Outcome → State → Prop} {XC : String → State → State → Prop} {free : Addr → Prop} {Ts : List Cond} {own C : String} {b : Addr} {As rest : List Value} {g : JFrame}
theorem vx_runVX {hh : List (Nat × Nat × Nat × Nat)} (S : CallFix p m c cc nL s args Ts own) (hM : vx_Met l y ws rm Pc Qc XC mc ms free) (cw : vx_CVW R s args own C index y bytes maxL ret hh ws rm mc ms n) (hp : PreV s H C b Pc As)
    (hg : g.method = m) (hn : As.length = n) (hsize : g.locals.size = nL) (hstack : g.stack = As.reverse ++ .ref b :: rest) (hW : 2 * g.monitorRoom + (rest.map fun v => v.category).sum ≤ 8) (hdg : decode cc g.pc = .ok (.invokevirtual index, 3)) (hf : cells + mc ≤ R.cells ∧ slots + ms ≤ R.slots) :
    vx_Run p l e R s m args below meth c H locs cells slots mc ms g rest (Qc (Value.ref b :: As).toArray) XC free := by
  obtain ⟨⟨hrc, hrs, hfr, hlo, hws, hcw⟩, hcode, hini, hy, hlen, hl, hin, hse⟩ := cw
  have hK : vx_Back l R p e below s args y 3 8 (PreOf R mc ms Pc) (PostOf Qc mc ms free) (vx_Post XC mc ms free) := vx_backW (hh := hh) (bytes := bytes) (maxL := maxL) (ret := ret) hM hp.1 hrc hrs hfr hlo hws hcw (fun a' U hW => word_at hW (Or.inl (by first | rfl | simp [Cond.onTables, Cond.keeps, Cond.steady])) hini)
  obtain ⟨hx, hb, hml, ho, -⟩ := S
  obtain ⟨-, ⟨cellB, hcB, hoB, hclB⟩, hPc⟩ := hp
  intro T hT X
  rcases vx_callVX X hx (C := C) (hh := hh) (bytes := bytes) (maxL := maxL) (ret := ret) ho hl hin hse hcode hy hK (by rw [hT]; exact hcB) hoB hclB hg (hsize.trans hml.symm) (argsL := As) (rest := rest) (fun sig h => hn.trans (hlen sig h)) hstack hW (by rw [hb]; exact hdg)
    (fun vm₁ hW₁ => ⟨hf.1, hf.2, hPc (T.setVm vm₁) hT hW₁⟩) with ⟨v, vm₁, ⟨U', l2, c2, s2⟩, hW₁, X', ⟨g', mk, t, L, e1, e2, hq, h1, hL, h2, h3⟩, st⟩ | ⟨q, vm₁, ⟨U', l2, c2, s2⟩, hW₁, X', ⟨g', mk, t, L, E, ce, e1, e2, hq, hce, hcv, hcl, h1, hL, h2, h3⟩, st⟩
  · dsimp only [Pt.U, Pt.locs, Pt.cells, Pt.slots] at X' e1 e2 h1 h2 h3 st
    subst h1; subst h2; subst h3
    exact Or.inl ⟨v, (T.setVm vm₁).calling g' mk (Value.ref b :: As).toArray, t, U', L, hT, X', hL, e1, e2, hq, st⟩
  · dsimp only [Pt.U, Pt.locs, Pt.cells, Pt.slots] at X' e1 e2 h1 h2 h3 st hcl
    subst h1; subst h2; subst h3
    exact Or.inr ⟨q, (T.setVm vm₁).calling g' mk (Value.ref b :: As).toArray, t, U', L, E, ce, hT, X', hL, e1, e2, hq, hce, hcv, vx_cls hW₁ hcl, st⟩
theorem vx_runSX {hh : List (Nat × Nat × Nat × Nat)} (S : CallFix p m c cc nL s args Ts own) (hM : vx_Met l y ws rm Pc Qc XC mc ms free) (cw : vx_CSW R s args own index y bytes maxL ret hh ws rm mc ms n) (hp : PreS s H Pc As)
    (hg : g.method = m) (hn : As.length = n) (hsize : g.locals.size = nL) (hstack : g.stack = As.reverse ++ rest) (hW : 2 * g.monitorRoom + (rest.map fun v => v.category).sum ≤ 8) (hdg : decode cc g.pc = .ok (.invokestatic index, 3)) (hf : cells + mc ≤ R.cells ∧ slots + ms ≤ R.slots) :
    vx_Run p l e R s m args below meth c H locs cells slots mc ms g rest (Qc As.toArray) XC free := by
  obtain ⟨⟨hrc, hrs, hfr, hlo, hws, hcw⟩, hcode, hini, hy, hlen, hl, hstt⟩ := cw
  have hK : vx_Back l R p e below s args y 3 8 (PreOf R mc ms Pc) (PostOf Qc mc ms free) (vx_Post XC mc ms free) := vx_backW (hh := hh) (bytes := bytes) (maxL := maxL) (ret := ret) hM hp.1 hrc hrs hfr hlo hws hcw (fun a' U hW => word_at hW (Or.inl (by first | rfl | simp [Cond.onTables, Cond.keeps, Cond.steady])) hini)
  obtain ⟨hx, hb, hml, ho, -⟩ := S
  intro T hT X
  rcases vx_callSX X hx (hh := hh) (bytes := bytes) (maxL := maxL) (ret := ret) ho hl hstt hini hcode hy hK hg (hsize.trans hml.symm) (argsL := As) (rest := rest) (fun sig h => hn.trans (hlen sig h)) hstack hW (by rw [hb]; exact hdg)
    (fun vm₁ hW₁ => ⟨hf.1, hf.2, hp.2 (T.setVm vm₁) hT hW₁⟩) with ⟨v, vm₁, ⟨U', l2, c2, s2⟩, hW₁, X', ⟨g', mk, t, L, e1, e2, hq, h1, hL, h2, h3⟩, st⟩ | ⟨q, vm₁, ⟨U', l2, c2, s2⟩, hW₁, X', ⟨g', mk, t, L, E, ce, e1, e2, hq, hce, hcv, hcl, h1, hL, h2, h3⟩, st⟩
  · dsimp only [Pt.U, Pt.locs, Pt.cells, Pt.slots] at X' e1 e2 h1 h2 h3 st
    subst h1; subst h2; subst h3
    exact Or.inl ⟨v, (T.setVm vm₁).calling g' mk As.toArray, t, U', L, hT, X', hL, e1, e2, hq, st⟩
  · dsimp only [Pt.U, Pt.locs, Pt.cells, Pt.slots] at X' e1 e2 h1 h2 h3 st hcl
    subst h1; subst h2; subst h3
    exact Or.inr ⟨q, (T.setVm vm₁).calling g' mk As.toArray, t, U', L, E, ce, hT, X', hL, e1, e2, hq, hce, hcv, vx_cls hW₁ hcl, st⟩
end
end VXH
theorem vx_ofWH {l : Launch} {y : MethodName} {ws ws' : List Cond} {rm : Room} {Pc : Array Value → State → Prop} {Qc : Array Value → State → Outcome → State → Prop} {XC : String → State → State → Prop} {mc ms : Nat} {free : Addr → Prop} {cc : ByteArray} {maxL : Nat} {ret : Option FieldType} {hh : List (Nat × Nat × Nat × Nat)}
    (hy : plainName y.cls = true) (hw : ws = Cond.codeWith y cc maxL ret hh :: ws')
    (body : ∀ p e s m args below meth c s₁, BodyLoose p l y (headSpec ws rm) cc maxL ret e s m args below meth c s₁ → c.maxLocals = maxL → Pc args s →
      W p l e (headSpec ws rm).room s m args below meth c s.heap [] 0 0 (vx_MQ below Qc XC args s mc ms free) (entryFrame m args maxL)) : vx_Met l y ws rm Pc Qc XC mc ms free := by
  refine MetFree.of_bodyS (code := cc) (maxLocals := maxL) (ret := ret) hy ?_ ?_
  · intro args s m h hn
    obtain ⟨m9, meth, c, hn9, h1, h2, h3, h4, -, h5, h6, -⟩ := Cond.codeWith_spec (atoms_spec (ws := ws) h _ (by rw [hw]; exact List.mem_cons_self))
    cases hn.symm.trans hn9
    exact ⟨meth, c, h1, h2, h3, h4, h5, h6⟩
  · intro p e s m args below meth c s₁ B hml hP _
    have hh0 : s₁.heap = s.heap := by rw [B.state]; rfl
    obtain ⟨t, a1, o, b1, b2, b3⟩ := body p e s m args below meth c s₁ B hml hP s₁ hh0 (Stand.of_body B)
    exact ⟨t, o, a1, b1, b2, b3⟩
/-! ===== END ===== -/
end
section
def RX0 : String := "StormPurses$1"
def TX0 : u_T := fun k => match k with
  | _ => ("", "", "", false)
def tyX0 : Nat → FieldType := fun k => match k with
  | _ => .int
abbrev wsX00 : List Cond := u_ws RX0 TX0 0
theorem nmX0 : ∀ a, a < 0 → ∀ b, b < 0 → a ≠ b → (TX0 a).2.1 ≠ (TX0 b).2.1 := by decide +kernel
theorem tyX0_ok : ∀ k, k < 0 → parseFieldDescriptor (TX0 k).2.2.1 = some (tyX0 k) := by decide +kernel
def RX1 : String := "StormPurses$History"
def TX1 : u_T := fun k => match k with
  | 0 => ("StormPurses$History", "saved", "[LStormPurses$Island;", true)
  | _ => ("StormPurses$History", "size", "I", false)
def tyX1 : Nat → FieldType := fun k => match k with
  | 0 => .array (.object "StormPurses$Island")
  | _ => .int
abbrev wsX10 : List Cond := u_ws RX1 TX1 2
theorem nmX1 : ∀ a, a < 2 → ∀ b, b < 2 → a ≠ b → (TX1 a).2.1 ≠ (TX1 b).2.1 := by decide +kernel
theorem tyX1_ok : ∀ k, k < 2 → parseFieldDescriptor (TX1 k).2.2.1 = some (tyX1 k) := by decide +kernel
abbrev cX1_init : ByteArray := prog_3_method_1_code
def yX1_init : MethodName := ⟨RX1, "<init>", "()V"⟩
abbrev cX1_push : ByteArray := prog_3_method_2_code
def yX1_push : MethodName := ⟨RX1, "push", "(LStormPurses$Island;)V"⟩
abbrev cX1_pop : ByteArray := prog_3_method_3_code
def yX1_pop : MethodName := ⟨RX1, "pop", "(LStormPurses$Island;)V"⟩
abbrev cX1_dropOldest : ByteArray := prog_3_method_4_code
def yX1_dropOldest : MethodName := ⟨RX1, "dropOldest", "()V"⟩
def RX2 : String := "StormPurses$Island"
def TX2 : u_T := fun k => match k with
  | 0 => ("StormPurses$Island", "purses", "[I", true)
  | 1 => ("StormPurses$Island", "moved", "[I", true)
  | 2 => ("StormPurses$Island", "worths", "[I", true)
  | 3 => ("StormPurses$Island", "path", "[I", true)
  | 4 => ("StormPurses$Island", "parts", "[I", true)
  | 5 => ("StormPurses$Island", "promises", "I", false)
  | 6 => ("StormPurses$Island", "day", "I", false)
  | 7 => ("StormPurses$Island", "unfair", "I", false)
  | 8 => ("StormPurses$Island", "trades", "I", false)
  | 9 => ("StormPurses$Island", "kept", "I", false)
  | 10 => ("StormPurses$Island", "broken", "I", false)
  | _ => ("StormPurses$Island", "refused", "I", false)
def tyX2 : Nat → FieldType := fun k => match k with
  | 0 => .array .int
  | 1 => .array .int
  | 2 => .array .int
  | 3 => .array .int
  | 4 => .array .int
  | 5 => .int
  | 6 => .int
  | 7 => .int
  | 8 => .int
  | 9 => .int
  | 10 => .int
  | _ => .int
abbrev wsX20 : List Cond := u_ws RX2 TX2 12
theorem nmX2 : ∀ a, a < 12 → ∀ b, b < 12 → a ≠ b → (TX2 a).2.1 ≠ (TX2 b).2.1 := by decide +kernel
theorem tyX2_ok : ∀ k, k < 12 → parseFieldDescriptor (TX2 k).2.2.1 = some (tyX2 k) := by decide +kernel
abbrev cX2_init : ByteArray := prog_4_method_1_code
def yX2_init : MethodName := ⟨RX2, "<init>", "()V"⟩
abbrev cX2_become : ByteArray := prog_4_method_2_code
def yX2_become : MethodName := ⟨RX2, "become", "(LStormPurses$Island;)V"⟩
abbrev cX2_capsOf : ByteArray := prog_4_method_3_code
def yX2_capsOf : MethodName := ⟨RX2, "capsOf", "(II)I"⟩
abbrev cX2_hand : ByteArray := prog_4_method_4_code
def yX2_hand : MethodName := ⟨RX2, "hand", "(IIII)V"⟩
abbrev cX2_purseWorth : ByteArray := prog_4_method_5_code
def yX2_purseWorth : MethodName := ⟨RX2, "purseWorth", "(I)I"⟩
abbrev cX2_allCaps : ByteArray := prog_4_method_6_code
def yX2_allCaps : MethodName := ⟨RX2, "allCaps", "()I"⟩
abbrev cX2_allWorth : ByteArray := prog_4_method_7_code
def yX2_allWorth : MethodName := ⟨RX2, "allWorth", "()I"⟩
abbrev cX2_canStorm : ByteArray := prog_4_method_8_code
def yX2_canStorm : MethodName := ⟨RX2, "canStorm", "()Z"⟩
abbrev cX2_blow : ByteArray := prog_4_method_9_code
def yX2_blow : MethodName := ⟨RX2, "blow", "()I"⟩
abbrev cX2_breakPromises : ByteArray := prog_4_method_10_code
def yX2_breakPromises : MethodName := ⟨RX2, "breakPromises", "()I"⟩
abbrev cX2_swapPaths : ByteArray := prog_4_method_11_code
def yX2_swapPaths : MethodName := ⟨RX2, "swapPaths", "(II)V"⟩
abbrev cX2_along : ByteArray := prog_4_method_12_code
def yX2_along : MethodName := ⟨RX2, "along", "(II)I"⟩
abbrev cX2_senderTo : ByteArray := prog_4_method_13_code
def yX2_senderTo : MethodName := ⟨RX2, "senderTo", "(I)I"⟩
abbrev cX2_circle : ByteArray := prog_4_method_14_code
def yX2_circle : MethodName := ⟨RX2, "circle", "(I)I"⟩
abbrev cX2_partOf : ByteArray := prog_4_method_15_code
def yX2_partOf : MethodName := ⟨RX2, "partOf", "(II)I"⟩
abbrev cX2_makePromise : ByteArray := prog_4_method_16_code
def yX2_makePromise : MethodName := ⟨RX2, "makePromise", "(IIII)I"⟩
abbrev cX2_dropPromise : ByteArray := prog_4_method_17_code
def yX2_dropPromise : MethodName := ⟨RX2, "dropPromise", "(I)V"⟩
abbrev cX2_sumOf : ByteArray := prog_4_method_18_code
def yX2_sumOf : MethodName := ⟨RX2, "sumOf", "(II)I"⟩
def RX3 : String := "StormPurses$Step"
def TX3 : u_T := fun k => match k with
  | _ => ("", "", "", false)
def tyX3 : Nat → FieldType := fun k => match k with
  | _ => .int
abbrev wsX30 : List Cond := u_ws RX3 TX3 0
theorem nmX3 : ∀ a, a < 0 → ∀ b, b < 0 → a ≠ b → (TX3 a).2.1 ≠ (TX3 b).2.1 := by decide +kernel
theorem tyX3_ok : ∀ k, k < 0 → parseFieldDescriptor (TX3 k).2.2.1 = some (tyX3 k) := by decide +kernel
def RX4 : String := "StormPurses$Text"
def TX4 : u_T := fun k => match k with
  | 0 => ("StormPurses$Text", "signs", "[C", true)
  | _ => ("StormPurses$Text", "length", "I", false)
def tyX4 : Nat → FieldType := fun k => match k with
  | 0 => .array .char
  | _ => .int
abbrev wsX40 : List Cond := u_ws RX4 TX4 2
theorem nmX4 : ∀ a, a < 2 → ∀ b, b < 2 → a ≠ b → (TX4 a).2.1 ≠ (TX4 b).2.1 := by decide +kernel
theorem tyX4_ok : ∀ k, k < 2 → parseFieldDescriptor (TX4 k).2.2.1 = some (tyX4 k) := by decide +kernel
abbrev cX4_init : ByteArray := prog_6_method_1_code
def yX4_init : MethodName := ⟨RX4, "<init>", "()V"⟩
abbrev cX4_put : ByteArray := prog_6_method_2_code
def yX4_put : MethodName := ⟨RX4, "put", "(C)V"⟩
abbrev cX4_signAt : ByteArray := prog_6_method_3_code
def yX4_signAt : MethodName := ⟨RX4, "signAt", "(I)C"⟩
abbrev cX4_errorAt : ByteArray := prog_6_method_4_code
def yX4_errorAt : MethodName := ⟨RX4, "errorAt", "()I"⟩
abbrev cX4_tellsOrders : ByteArray := prog_6_method_5_code
def yX4_tellsOrders : MethodName := ⟨RX4, "tellsOrders", "()Z"⟩
abbrev cX4_stepBehind : ByteArray := prog_6_method_6_code
def yX4_stepBehind : MethodName := ⟨RX4, "stepBehind", "(LStormPurses$Step;I)LStormPurses$Step;"⟩
abbrev cX4_stepInto : ByteArray := prog_6_method_7_code
def yX4_stepInto : MethodName := ⟨RX4, "stepInto", "(C)LStormPurses$Step;"⟩
abbrev cX4_ifIn : ByteArray := prog_6_method_8_code
def yX4_ifIn : MethodName := ⟨RX4, "ifIn", "(CCCLStormPurses$Step;)LStormPurses$Step;"⟩
abbrev cX4_nextOrder : ByteArray := prog_6_method_9_code
def yX4_nextOrder : MethodName := ⟨RX4, "nextOrder", "(I)I"⟩
abbrev cX4_digitAt : ByteArray := prog_6_method_10_code
def yX4_digitAt : MethodName := ⟨RX4, "digitAt", "(I)I"⟩
abbrev cX4_sumOfOrder : ByteArray := prog_6_method_11_code
def yX4_sumOfOrder : MethodName := ⟨RX4, "sumOfOrder", "(I)I"⟩
abbrev cX4_daysOfOrder : ByteArray := prog_6_method_12_code
def yX4_daysOfOrder : MethodName := ⟨RX4, "daysOfOrder", "(I)I"⟩
def RX5 : String := "StormPurses$Till"
def TX5 : u_T := fun k => match k with
  | 0 => ("StormPurses$Till", "least", "[I", true)
  | _ => ("StormPurses$Till", "given", "[I", true)
def tyX5 : Nat → FieldType := fun k => match k with
  | 0 => .array .int
  | _ => .array .int
abbrev wsX50 : List Cond := u_ws RX5 TX5 2
theorem nmX5 : ∀ a, a < 2 → ∀ b, b < 2 → a ≠ b → (TX5 a).2.1 ≠ (TX5 b).2.1 := by decide +kernel
theorem tyX5_ok : ∀ k, k < 2 → parseFieldDescriptor (TX5 k).2.2.1 = some (tyX5 k) := by decide +kernel
abbrev cX5_init : ByteArray := prog_7_method_1_code
def yX5_init : MethodName := ⟨RX5, "<init>", "()V"⟩
abbrev cX5_leastByColours : ByteArray := prog_7_method_2_code
def yX5_leastByColours : MethodName := ⟨RX5, "leastByColours", "(LStormPurses$Island;II)I"⟩
abbrev cX5_addColour : ByteArray := prog_7_method_3_code
def yX5_addColour : MethodName := ⟨RX5, "addColour", "(III)V"⟩
abbrev cX5_leastByTrying : ByteArray := prog_7_method_4_code
def yX5_leastByTrying : MethodName := ⟨RX5, "leastByTrying", "(LStormPurses$Island;II)I"⟩
abbrev cX5_wholeCaps : ByteArray := prog_7_method_5_code
def yX5_wholeCaps : MethodName := ⟨RX5, "wholeCaps", "(II)I"⟩
abbrev cX5_note : ByteArray := prog_7_method_6_code
def yX5_note : MethodName := ⟨RX5, "note", "(IIII)V"⟩
def RX6 : String := "StormPurses"
def TX6 : u_T := fun k => match k with
  | 0 => ("StormPurses", "island", "LStormPurses$Island;", true)
  | 1 => ("StormPurses", "history", "LStormPurses$History;", true)
  | 2 => ("StormPurses", "till", "LStormPurses$Till;", true)
  | 3 => ("StormPurses", "text", "LStormPurses$Text;", true)
  | 4 => ("StormPurses", "slots", "[LStormPurses$Island;", true)
  | 5 => ("StormPurses", "slotHolds", "[Z", true)
  | _ => ("StormPurses", "holders", "[I", true)
def tyX6 : Nat → FieldType := fun k => match k with
  | 0 => .object "StormPurses$Island"
  | 1 => .object "StormPurses$History"
  | 2 => .object "StormPurses$Till"
  | 3 => .object "StormPurses$Text"
  | 4 => .array (.object "StormPurses$Island")
  | 5 => .array .boolean
  | _ => .array .int
abbrev wsX60 : List Cond := u_ws RX6 TX6 7
theorem nmX6 : ∀ a, a < 7 → ∀ b, b < 7 → a ≠ b → (TX6 a).2.1 ≠ (TX6 b).2.1 := by decide +kernel
theorem tyX6_ok : ∀ k, k < 7 → parseFieldDescriptor (TX6 k).2.2.1 = some (tyX6 k) := by decide +kernel
abbrev cX6_init : ByteArray := prog_1_method_1_code
def yX6_init : MethodName := ⟨RX6, "<init>", "()V"⟩
abbrev cX6_storm : ByteArray := prog_1_method_2_code
def yX6_storm : MethodName := ⟨RX6, "storm", "()I"⟩
abbrev cX6_cross : ByteArray := prog_1_method_3_code
def yX6_cross : MethodName := ⟨RX6, "cross", "(II)I"⟩
abbrev cX6_trade : ByteArray := prog_1_method_4_code
def yX6_trade : MethodName := ⟨RX6, "trade", "(IIIIII)I"⟩
abbrev cX6_worth : ByteArray := prog_1_method_5_code
def yX6_worth : MethodName := ⟨RX6, "worth", "(II)I"⟩
abbrev cX6_set : ByteArray := prog_1_method_6_code
def yX6_set : MethodName := ⟨RX6, "set", "(I)I"⟩
abbrev cX6_promise : ByteArray := prog_1_method_7_code
def yX6_promise : MethodName := ⟨RX6, "promise", "(IIII)I"⟩
abbrev cX6_fulfil : ByteArray := prog_1_method_8_code
def yX6_fulfil : MethodName := ⟨RX6, "fulfil", "(I)I"⟩
abbrev cX6_append : ByteArray := prog_1_method_9_code
def yX6_append : MethodName := ⟨RX6, "append", "(I)I"⟩
abbrev cX6_clearBuffer : ByteArray := prog_1_method_10_code
def yX6_clearBuffer : MethodName := ⟨RX6, "clearBuffer", "()I"⟩
abbrev cX6_firstError : ByteArray := prog_1_method_11_code
def yX6_firstError : MethodName := ⟨RX6, "firstError", "()I"⟩
abbrev cX6_run : ByteArray := prog_1_method_12_code
def yX6_run : MethodName := ⟨RX6, "run", "()I"⟩
abbrev cX6_keep : ByteArray := prog_1_method_13_code
def yX6_keep : MethodName := ⟨RX6, "keep", "(I)I"⟩
abbrev cX6_goBack : ByteArray := prog_1_method_14_code
def yX6_goBack : MethodName := ⟨RX6, "goBack", "(I)I"⟩
abbrev cX6_undo : ByteArray := prog_1_method_15_code
def yX6_undo : MethodName := ⟨RX6, "undo", "()I"⟩
abbrev cX6_caps : ByteArray := prog_1_method_16_code
def yX6_caps : MethodName := ⟨RX6, "caps", "(II)I"⟩
abbrev cX6_islanderOf : ByteArray := prog_1_method_17_code
def yX6_islanderOf : MethodName := ⟨RX6, "islanderOf", "(II)I"⟩
abbrev cX6_promiseOf : ByteArray := prog_1_method_18_code
def yX6_promiseOf : MethodName := ⟨RX6, "promiseOf", "(II)I"⟩
abbrev cX6_owed : ByteArray := prog_1_method_19_code
def yX6_owed : MethodName := ⟨RX6, "owed", "(II)I"⟩
abbrev cX6_count : ByteArray := prog_1_method_20_code
def yX6_count : MethodName := ⟨RX6, "count", "(I)I"⟩
abbrev cX6_where : ByteArray := prog_1_method_21_code
def yX6_where : MethodName := ⟨RX6, "where", "(III)I"⟩
abbrev cX6_homeIn : ByteArray := prog_1_method_22_code
def yX6_homeIn : MethodName := ⟨RX6, "homeIn", "(I)I"⟩
abbrev cX6_fewest : ByteArray := prog_1_method_23_code
def yX6_fewest : MethodName := ⟨RX6, "fewest", "(III)I"⟩
abbrev cX6_richest : ByteArray := prog_1_method_24_code
def yX6_richest : MethodName := ⟨RX6, "richest", "()I"⟩
abbrev cX6_canKeepIn : ByteArray := prog_1_method_25_code
def yX6_canKeepIn : MethodName := ⟨RX6, "canKeepIn", "(I)I"⟩
abbrev cX6_richShare : ByteArray := prog_1_method_26_code
def yX6_richShare : MethodName := ⟨RX6, "richShare", "()D"⟩
abbrev cX6_digest : ByteArray := prog_1_method_27_code
def yX6_digest : MethodName := ⟨RX6, "digest", "()J"⟩
abbrev cX6_mixed : ByteArray := prog_1_method_28_code
def yX6_mixed : MethodName := ⟨RX6, "mixed", "(JJ)J"⟩
abbrev cX6_withIslander : ByteArray := prog_1_method_29_code
def yX6_withIslander : MethodName := ⟨RX6, "withIslander", "(JI)J"⟩
abbrev cX6_withPromise : ByteArray := prog_1_method_30_code
def yX6_withPromise : MethodName := ⟨RX6, "withPromise", "(JI)J"⟩
abbrev cX6_bitsOfShare : ByteArray := prog_1_method_31_code
def yX6_bitsOfShare : MethodName := ⟨RX6, "bitsOfShare", "(D)J"⟩
abbrev cX6_reasonAgainst : ByteArray := prog_1_method_32_code
def yX6_reasonAgainst : MethodName := ⟨RX6, "reasonAgainst", "(IIIIII)I"⟩
abbrev cX6_keepPromise : ByteArray := prog_1_method_33_code
def yX6_keepPromise : MethodName := ⟨RX6, "keepPromise", "(I)I"⟩
abbrev cX6_isDone : ByteArray := prog_1_method_34_code
def yX6_isDone : MethodName := ⟨RX6, "isDone", "(I)Z"⟩
abbrev cX6_isStormDone : ByteArray := prog_1_method_35_code
def yX6_isStormDone : MethodName := ⟨RX6, "isStormDone", "()Z"⟩
abbrev cX6_homeByCircles : ByteArray := prog_1_method_36_code
def yX6_homeByCircles : MethodName := ⟨RX6, "homeByCircles", "()I"⟩
abbrev cX6_homeByTrying : ByteArray := prog_1_method_37_code
def yX6_homeByTrying : MethodName := ⟨RX6, "homeByTrying", "()I"⟩
abbrev cX6_areHome : ByteArray := prog_1_method_38_code
def yX6_areHome : MethodName := ⟨RX6, "areHome", "()Z"⟩
abbrev cX6_leastCommonMultiple : ByteArray := prog_1_method_39_code
def yX6_leastCommonMultiple : MethodName := ⟨RX6, "leastCommonMultiple", "(II)I"⟩
abbrev cX6_needIslander : ByteArray := prog_1_method_40_code
def yX6_needIslander : MethodName := ⟨RX6, "needIslander", "(I)V"⟩
abbrev cX6_needColour : ByteArray := prog_1_method_41_code
def yX6_needColour : MethodName := ⟨RX6, "needColour", "(I)V"⟩
abbrev cX6_needPromise : ByteArray := prog_1_method_42_code
def yX6_needPromise : MethodName := ⟨RX6, "needPromise", "(I)V"⟩
abbrev cX6_needOthers : ByteArray := prog_1_method_43_code
def yX6_needOthers : MethodName := ⟨RX6, "needOthers", "(II)V"⟩
abbrev cX6_needRange : ByteArray := prog_1_method_44_code
def yX6_needRange : MethodName := ⟨RX6, "needRange", "(III)V"⟩
def RX7 : String := "StormPursesModel"
def TX7 : u_T := fun k => match k with
  | 0 => ("StormPursesModel", "s", "[I", true)
  | 1 => ("StormPursesModel", "saved", "[I", true)
  | 2 => ("StormPursesModel", "savedMany", "I", false)
  | 3 => ("StormPursesModel", "slots", "[I", true)
  | 4 => ("StormPursesModel", "isTaken", "[Z", true)
  | 5 => ("StormPursesModel", "text", "[I", true)
  | 6 => ("StormPursesModel", "length", "I", false)
  | 7 => ("StormPursesModel", "thrown", "I", false)
  | 8 => ("StormPursesModel", "pays", "[I", true)
  | 9 => ("StormPursesModel", "had", "[I", true)
  | 10 => ("StormPursesModel", "place", "I", false)
  | 11 => ("StormPursesModel", "letter", "I", false)
  | 12 => ("StormPursesModel", "told", "[I", true)
  | 13 => ("StormPursesModel", "done", "I", false)
  | _ => ("StormPursesModel", "hash", "J", false)
def tyX7 : Nat → FieldType := fun k => match k with
  | 0 => .array .int
  | 1 => .array .int
  | 2 => .int
  | 3 => .array .int
  | 4 => .array .boolean
  | 5 => .array .int
  | 6 => .int
  | 7 => .int
  | 8 => .array .int
  | 9 => .array .int
  | 10 => .int
  | 11 => .int
  | 12 => .array .int
  | 13 => .int
  | _ => .long
abbrev wsX70 : List Cond := u_ws RX7 TX7 15
theorem nmX7 : ∀ a, a < 15 → ∀ b, b < 15 → a ≠ b → (TX7 a).2.1 ≠ (TX7 b).2.1 := by decide +kernel
theorem tyX7_ok : ∀ k, k < 15 → parseFieldDescriptor (TX7 k).2.2.1 = some (tyX7 k) := by decide +kernel
abbrev cX7_init : ByteArray := prog_9_method_1_code
def yX7_init : MethodName := ⟨RX7, "<init>", "()V"⟩
abbrev cX7_thrown : ByteArray := prog_9_method_2_code
def yX7_thrown : MethodName := ⟨RX7, "thrown", "()I"⟩
abbrev cX7_holds : ByteArray := prog_9_method_3_code
def yX7_holds : MethodName := ⟨RX7, "holds", "(I)Z"⟩
abbrev cX7_in : ByteArray := prog_9_method_4_code
def yX7_in : MethodName := ⟨RX7, "in", "(III)Z"⟩
abbrev cX7_isIslander : ByteArray := prog_9_method_5_code
def yX7_isIslander : MethodName := ⟨RX7, "isIslander", "(I)Z"⟩
abbrev cX7_isColour : ByteArray := prog_9_method_6_code
def yX7_isColour : MethodName := ⟨RX7, "isColour", "(I)Z"⟩
abbrev cX7_isSlot : ByteArray := prog_9_method_7_code
def yX7_isSlot : MethodName := ⟨RX7, "isSlot", "(I)Z"⟩
abbrev cX7_isPromise : ByteArray := prog_9_method_8_code
def yX7_isPromise : MethodName := ⟨RX7, "isPromise", "(I)Z"⟩
abbrev cX7_of : ByteArray := prog_9_method_9_code
def yX7_of : MethodName := ⟨RX7, "of", "(II)I"⟩
abbrev cX7_copy : ByteArray := prog_9_method_10_code
def yX7_copy : MethodName := ⟨RX7, "copy", "([II[II)V"⟩
abbrev cX7_save : ByteArray := prog_9_method_11_code
def yX7_save : MethodName := ⟨RX7, "save", "()V"⟩
abbrev cX7_capsOf : ByteArray := prog_9_method_12_code
def yX7_capsOf : MethodName := ⟨RX7, "capsOf", "(II)I"⟩
abbrev cX7_worthOf : ByteArray := prog_9_method_13_code
def yX7_worthOf : MethodName := ⟨RX7, "worthOf", "(I)I"⟩
abbrev cX7_less : ByteArray := prog_9_method_14_code
def yX7_less : MethodName := ⟨RX7, "less", "(II)I"⟩
abbrev cX7_most : ByteArray := prog_9_method_15_code
def yX7_most : MethodName := ⟨RX7, "most", "(III)I"⟩
abbrev cX7_payFrom : ByteArray := prog_9_method_16_code
def yX7_payFrom : MethodName := ⟨RX7, "payFrom", "(II)I"⟩
abbrev cX7_payOf : ByteArray := prog_9_method_17_code
def yX7_payOf : MethodName := ⟨RX7, "payOf", "(I)I"⟩
abbrev cX7_whereIs : ByteArray := prog_9_method_18_code
def yX7_whereIs : MethodName := ⟨RX7, "whereIs", "(II)I"⟩
abbrev cX7_whoseComes : ByteArray := prog_9_method_19_code
def yX7_whoseComes : MethodName := ⟨RX7, "whoseComes", "(II)I"⟩
abbrev cX7_circle : ByteArray := prog_9_method_20_code
def yX7_circle : MethodName := ⟨RX7, "circle", "(I)I"⟩
abbrev cX7_home : ByteArray := prog_9_method_21_code
def yX7_home : MethodName := ⟨RX7, "home", "()I"⟩
abbrev cX7_drop : ByteArray := prog_9_method_22_code
def yX7_drop : MethodName := ⟨RX7, "drop", "(I)V"⟩
abbrev cX7_doStorm : ByteArray := prog_9_method_23_code
def yX7_doStorm : MethodName := ⟨RX7, "doStorm", "()I"⟩
abbrev cX7_doCross : ByteArray := prog_9_method_24_code
def yX7_doCross : MethodName := ⟨RX7, "doCross", "(II)I"⟩
abbrev cX7_give : ByteArray := prog_9_method_25_code
def yX7_give : MethodName := ⟨RX7, "give", "(IIII)V"⟩
abbrev cX7_refuse : ByteArray := prog_9_method_26_code
def yX7_refuse : MethodName := ⟨RX7, "refuse", "(I)I"⟩
abbrev cX7_doPromise : ByteArray := prog_9_method_27_code
def yX7_doPromise : MethodName := ⟨RX7, "doPromise", "(IIII)I"⟩
abbrev cX7_doFulfil : ByteArray := prog_9_method_28_code
def yX7_doFulfil : MethodName := ⟨RX7, "doFulfil", "(I)I"⟩
abbrev cX7_promiseError : ByteArray := prog_9_method_29_code
def yX7_promiseError : MethodName := ⟨RX7, "promiseError", "(IIII)I"⟩
abbrev cX7_storm : ByteArray := prog_9_method_30_code
def yX7_storm : MethodName := ⟨RX7, "storm", "()I"⟩
abbrev cX7_cross : ByteArray := prog_9_method_31_code
def yX7_cross : MethodName := ⟨RX7, "cross", "(II)I"⟩
abbrev cX7_reasonOf : ByteArray := prog_9_method_32_code
def yX7_reasonOf : MethodName := ⟨RX7, "reasonOf", "(IIIIII)I"⟩
abbrev cX7_trade : ByteArray := prog_9_method_33_code
def yX7_trade : MethodName := ⟨RX7, "trade", "(IIIIII)I"⟩
abbrev cX7_worth : ByteArray := prog_9_method_34_code
def yX7_worth : MethodName := ⟨RX7, "worth", "(II)I"⟩
abbrev cX7_set : ByteArray := prog_9_method_35_code
def yX7_set : MethodName := ⟨RX7, "set", "(I)I"⟩
abbrev cX7_promise : ByteArray := prog_9_method_36_code
def yX7_promise : MethodName := ⟨RX7, "promise", "(IIII)I"⟩
abbrev cX7_fulfil : ByteArray := prog_9_method_37_code
def yX7_fulfil : MethodName := ⟨RX7, "fulfil", "(I)I"⟩
abbrev cX7_append : ByteArray := prog_9_method_38_code
def yX7_append : MethodName := ⟨RX7, "append", "(I)I"⟩
abbrev cX7_clearBuffer : ByteArray := prog_9_method_39_code
def yX7_clearBuffer : MethodName := ⟨RX7, "clearBuffer", "()I"⟩
abbrev cX7_isNext : ByteArray := prog_9_method_40_code
def yX7_isNext : MethodName := ⟨RX7, "isNext", "(II)Z"⟩
abbrev cX7_takes : ByteArray := prog_9_method_41_code
def yX7_takes : MethodName := ⟨RX7, "takes", "(I)Z"⟩
abbrev cX7_readDigit : ByteArray := prog_9_method_42_code
def yX7_readDigit : MethodName := ⟨RX7, "readDigit", "(II)Z"⟩
abbrev cX7_readOther : ByteArray := prog_9_method_43_code
def yX7_readOther : MethodName := ⟨RX7, "readOther", "()Z"⟩
abbrev cX7_readSum : ByteArray := prog_9_method_44_code
def yX7_readSum : MethodName := ⟨RX7, "readSum", "()Z"⟩
abbrev cX7_readOrder : ByteArray := prog_9_method_45_code
def yX7_readOrder : MethodName := ⟨RX7, "readOrder", "()Z"⟩
abbrev cX7_does : ByteArray := prog_9_method_46_code
def yX7_does : MethodName := ⟨RX7, "does", "()Z"⟩
abbrev cX7_readText : ByteArray := prog_9_method_47_code
def yX7_readText : MethodName := ⟨RX7, "readText", "(Z)Z"⟩
abbrev cX7_firstError : ByteArray := prog_9_method_48_code
def yX7_firstError : MethodName := ⟨RX7, "firstError", "()I"⟩
abbrev cX7_run : ByteArray := prog_9_method_49_code
def yX7_run : MethodName := ⟨RX7, "run", "()I"⟩
abbrev cX7_keep : ByteArray := prog_9_method_50_code
def yX7_keep : MethodName := ⟨RX7, "keep", "(I)I"⟩
abbrev cX7_goBack : ByteArray := prog_9_method_51_code
def yX7_goBack : MethodName := ⟨RX7, "goBack", "(I)I"⟩
abbrev cX7_undo : ByteArray := prog_9_method_52_code
def yX7_undo : MethodName := ⟨RX7, "undo", "()I"⟩
abbrev cX7_caps : ByteArray := prog_9_method_53_code
def yX7_caps : MethodName := ⟨RX7, "caps", "(II)I"⟩
abbrev cX7_sums : ByteArray := prog_9_method_54_code
def yX7_sums : MethodName := ⟨RX7, "sums", "(II)I"⟩
abbrev cX7_islanderTold : ByteArray := prog_9_method_55_code
def yX7_islanderTold : MethodName := ⟨RX7, "islanderTold", "(II)I"⟩
abbrev cX7_islanderOf : ByteArray := prog_9_method_56_code
def yX7_islanderOf : MethodName := ⟨RX7, "islanderOf", "(II)I"⟩
abbrev cX7_promiseOf : ByteArray := prog_9_method_57_code
def yX7_promiseOf : MethodName := ⟨RX7, "promiseOf", "(II)I"⟩
abbrev cX7_owed : ByteArray := prog_9_method_58_code
def yX7_owed : MethodName := ⟨RX7, "owed", "(II)I"⟩
abbrev cX7_allCaps : ByteArray := prog_9_method_59_code
def yX7_allCaps : MethodName := ⟨RX7, "allCaps", "(Z)I"⟩
abbrev cX7_countTold : ByteArray := prog_9_method_60_code
def yX7_countTold : MethodName := ⟨RX7, "countTold", "(I)I"⟩
abbrev cX7_count : ByteArray := prog_9_method_61_code
def yX7_count : MethodName := ⟨RX7, "count", "(I)I"⟩
abbrev cX7_where : ByteArray := prog_9_method_62_code
def yX7_where : MethodName := ⟨RX7, "where", "(III)I"⟩
abbrev cX7_homeIn : ByteArray := prog_9_method_63_code
def yX7_homeIn : MethodName := ⟨RX7, "homeIn", "(I)I"⟩
abbrev cX7_fewest : ByteArray := prog_9_method_64_code
def yX7_fewest : MethodName := ⟨RX7, "fewest", "(III)I"⟩
abbrev cX7_richestTold : ByteArray := prog_9_method_65_code
def yX7_richestTold : MethodName := ⟨RX7, "richestTold", "()I"⟩
abbrev cX7_richest : ByteArray := prog_9_method_66_code
def yX7_richest : MethodName := ⟨RX7, "richest", "()I"⟩
abbrev cX7_keepIn : ByteArray := prog_9_method_67_code
def yX7_keepIn : MethodName := ⟨RX7, "keepIn", "(I)I"⟩
abbrev cX7_canKeepIn : ByteArray := prog_9_method_68_code
def yX7_canKeepIn : MethodName := ⟨RX7, "canKeepIn", "(I)I"⟩
abbrev cX7_shareTold : ByteArray := prog_9_method_69_code
def yX7_shareTold : MethodName := ⟨RX7, "shareTold", "()D"⟩
abbrev cX7_richShare : ByteArray := prog_9_method_70_code
def yX7_richShare : MethodName := ⟨RX7, "richShare", "()D"⟩
abbrev cX7_bitsOf : ByteArray := prog_9_method_71_code
def yX7_bitsOf : MethodName := ⟨RX7, "bitsOf", "(D)J"⟩
abbrev cX7_mix : ByteArray := prog_9_method_72_code
def yX7_mix : MethodName := ⟨RX7, "mix", "(J)V"⟩
abbrev cX7_mixIslander : ByteArray := prog_9_method_73_code
def yX7_mixIslander : MethodName := ⟨RX7, "mixIslander", "(I)V"⟩
abbrev cX7_digest : ByteArray := prog_9_method_74_code
def yX7_digest : MethodName := ⟨RX7, "digest", "()J"⟩
def RL : String := "StormPursesLaw"
abbrev cL_storm : ByteArray := method_3_code
def yL_storm : MethodName := ⟨RL, "storm", "(LStormPurses;[J)I"⟩
abbrev cL_cross : ByteArray := method_4_code
def yL_cross : MethodName := ⟨RL, "cross", "(LStormPurses;II[J)I"⟩
abbrev cL_trade : ByteArray := method_5_code
def yL_trade : MethodName := ⟨RL, "trade", "(LStormPurses;IIIIII[J)I"⟩
abbrev cL_worth : ByteArray := method_6_code
def yL_worth : MethodName := ⟨RL, "worth", "(LStormPurses;II[J)I"⟩
abbrev cL_set : ByteArray := method_7_code
def yL_set : MethodName := ⟨RL, "set", "(LStormPurses;I[J)I"⟩
abbrev cL_promise : ByteArray := method_8_code
def yL_promise : MethodName := ⟨RL, "promise", "(LStormPurses;IIII[J)I"⟩
abbrev cL_fulfil : ByteArray := method_9_code
def yL_fulfil : MethodName := ⟨RL, "fulfil", "(LStormPurses;I[J)I"⟩
abbrev cL_append : ByteArray := method_10_code
def yL_append : MethodName := ⟨RL, "append", "(LStormPurses;I[J)I"⟩
abbrev cL_run : ByteArray := method_11_code
def yL_run : MethodName := ⟨RL, "run", "(LStormPurses;[J)I"⟩
abbrev cL_keep : ByteArray := method_12_code
def yL_keep : MethodName := ⟨RL, "keep", "(LStormPurses;I[J)I"⟩
abbrev cL_goBack : ByteArray := method_13_code
def yL_goBack : MethodName := ⟨RL, "goBack", "(LStormPurses;I[J)I"⟩
abbrev cL_undo : ByteArray := method_14_code
def yL_undo : MethodName := ⟨RL, "undo", "(LStormPurses;[J)I"⟩
abbrev cL_caps : ByteArray := method_15_code
def yL_caps : MethodName := ⟨RL, "caps", "(LStormPurses;II[J)I"⟩
abbrev cL_islanderOf : ByteArray := method_16_code
def yL_islanderOf : MethodName := ⟨RL, "islanderOf", "(LStormPurses;II[J)I"⟩
abbrev cL_promiseOf : ByteArray := method_17_code
def yL_promiseOf : MethodName := ⟨RL, "promiseOf", "(LStormPurses;II[J)I"⟩
abbrev cL_owed : ByteArray := method_18_code
def yL_owed : MethodName := ⟨RL, "owed", "(LStormPurses;II[J)I"⟩
abbrev cL_count : ByteArray := method_19_code
def yL_count : MethodName := ⟨RL, "count", "(LStormPurses;I[J)I"⟩
abbrev cL_where : ByteArray := method_20_code
def yL_where : MethodName := ⟨RL, "where", "(LStormPurses;III[J)I"⟩
abbrev cL_homeIn : ByteArray := method_21_code
def yL_homeIn : MethodName := ⟨RL, "homeIn", "(LStormPurses;I[J)I"⟩
abbrev cL_fewest : ByteArray := method_22_code
def yL_fewest : MethodName := ⟨RL, "fewest", "(LStormPurses;III[J)I"⟩
abbrev cL_canKeepIn : ByteArray := method_23_code
def yL_canKeepIn : MethodName := ⟨RL, "canKeepIn", "(LStormPurses;I[J)I"⟩
abbrev cL_law : ByteArray := code
def yL_law : MethodName := ⟨RL, "law", "([I)Z"⟩
abbrev vwCl : List vw_C := [(RX1, TX1, 2), (RX2, TX2, 12), (RX4, TX4, 2), (RX5, TX5, 2), (RX6, TX6, 7), (RX7, TX7, 15)]
end
section
theorem dX1_init_0 : decode cX1_init 0 = .ok (.aload_n 0, 1) := by decide +kernel
theorem dX1_init_1 : decode cX1_init 1 = .ok (.invokespecial 3, 3) := by decide +kernel
theorem dX1_init_4 : decode cX1_init 4 = .ok (.aload_n 0, 1) := by decide +kernel
theorem dX1_init_5 : decode cX1_init 5 = .ok (.bipush 6, 2) := by decide +kernel
theorem dX1_init_7 : decode cX1_init 7 = .ok (.anewarray 9, 3) := by decide +kernel
theorem dX1_init_10 : decode cX1_init 10 = .ok (.putfield 11, 3) := by decide +kernel
theorem dX1_init_13 : decode cX1_init 13 = .ok (.iconst 0, 1) := by decide +kernel
theorem dX1_init_14 : decode cX1_init 14 = .ok (.istore_n 1, 1) := by decide +kernel
theorem dX1_init_15 : decode cX1_init 15 = .ok (.iload_n 1, 1) := by decide +kernel
theorem dX1_init_16 : decode cX1_init 16 = .ok (.bipush 6, 2) := by decide +kernel
theorem dX1_init_18 : decode cX1_init 18 = .ok (.if_icmp .ge 22, 3) := by decide +kernel
theorem dX1_init_21 : decode cX1_init 21 = .ok (.aload_n 0, 1) := by decide +kernel
theorem dX1_init_22 : decode cX1_init 22 = .ok (.getfield 11, 3) := by decide +kernel
theorem dX1_init_25 : decode cX1_init 25 = .ok (.iload_n 1, 1) := by decide +kernel
theorem dX1_init_26 : decode cX1_init 26 = .ok (.new 9, 3) := by decide +kernel
theorem dX1_init_29 : decode cX1_init 29 = .ok (.dup, 1) := by decide +kernel
theorem dX1_init_30 : decode cX1_init 30 = .ok (.invokespecial 17, 3) := by decide +kernel
theorem dX1_init_33 : decode cX1_init 33 = .ok (.aastore, 1) := by decide +kernel
theorem dX1_init_34 : decode cX1_init 34 = .ok (.iinc 1 1, 3) := by decide +kernel
theorem dX1_init_37 : decode cX1_init 37 = .ok (.goto (-22), 3) := by decide +kernel
theorem dX1_init_40 : decode cX1_init 40 = .ok (.return_, 1) := by decide +kernel
theorem dX1_push_0 : decode cX1_push 0 = .ok (.aload_n 0, 1) := by decide +kernel
theorem dX1_push_1 : decode cX1_push 1 = .ok (.getfield 18, 3) := by decide +kernel
theorem dX1_push_4 : decode cX1_push 4 = .ok (.bipush 6, 2) := by decide +kernel
theorem dX1_push_6 : decode cX1_push 6 = .ok (.if_icmp .lt 7, 3) := by decide +kernel
theorem dX1_push_9 : decode cX1_push 9 = .ok (.aload_n 0, 1) := by decide +kernel
theorem dX1_push_10 : decode cX1_push 10 = .ok (.invokevirtual 22, 3) := by decide +kernel
theorem dX1_push_13 : decode cX1_push 13 = .ok (.aload_n 0, 1) := by decide +kernel
theorem dX1_push_14 : decode cX1_push 14 = .ok (.getfield 11, 3) := by decide +kernel
theorem dX1_push_17 : decode cX1_push 17 = .ok (.aload_n 0, 1) := by decide +kernel
theorem dX1_push_18 : decode cX1_push 18 = .ok (.getfield 18, 3) := by decide +kernel
theorem dX1_push_21 : decode cX1_push 21 = .ok (.aaload, 1) := by decide +kernel
theorem dX1_push_22 : decode cX1_push 22 = .ok (.aload_n 1, 1) := by decide +kernel
theorem dX1_push_23 : decode cX1_push 23 = .ok (.invokevirtual 25, 3) := by decide +kernel
theorem dX1_push_26 : decode cX1_push 26 = .ok (.aload_n 0, 1) := by decide +kernel
theorem dX1_push_27 : decode cX1_push 27 = .ok (.dup, 1) := by decide +kernel
theorem dX1_push_28 : decode cX1_push 28 = .ok (.getfield 18, 3) := by decide +kernel
theorem dX1_push_31 : decode cX1_push 31 = .ok (.iconst 1, 1) := by decide +kernel
theorem dX1_push_32 : decode cX1_push 32 = .ok (.iadd, 1) := by decide +kernel
theorem dX1_push_33 : decode cX1_push 33 = .ok (.putfield 18, 3) := by decide +kernel
theorem dX1_push_36 : decode cX1_push 36 = .ok (.return_, 1) := by decide +kernel
theorem dX1_pop_0 : decode cX1_pop 0 = .ok (.aload_n 0, 1) := by decide +kernel
theorem dX1_pop_1 : decode cX1_pop 1 = .ok (.dup, 1) := by decide +kernel
theorem dX1_pop_2 : decode cX1_pop 2 = .ok (.getfield 18, 3) := by decide +kernel
theorem dX1_pop_5 : decode cX1_pop 5 = .ok (.iconst 1, 1) := by decide +kernel
theorem dX1_pop_6 : decode cX1_pop 6 = .ok (.isub, 1) := by decide +kernel
theorem dX1_pop_7 : decode cX1_pop 7 = .ok (.putfield 18, 3) := by decide +kernel
theorem dX1_pop_10 : decode cX1_pop 10 = .ok (.aload_n 1, 1) := by decide +kernel
theorem dX1_pop_11 : decode cX1_pop 11 = .ok (.aload_n 0, 1) := by decide +kernel
theorem dX1_pop_12 : decode cX1_pop 12 = .ok (.getfield 11, 3) := by decide +kernel
theorem dX1_pop_15 : decode cX1_pop 15 = .ok (.aload_n 0, 1) := by decide +kernel
theorem dX1_pop_16 : decode cX1_pop 16 = .ok (.getfield 18, 3) := by decide +kernel
theorem dX1_pop_19 : decode cX1_pop 19 = .ok (.aaload, 1) := by decide +kernel
theorem dX1_pop_20 : decode cX1_pop 20 = .ok (.invokevirtual 25, 3) := by decide +kernel
theorem dX1_pop_23 : decode cX1_pop 23 = .ok (.return_, 1) := by decide +kernel
theorem dX1_dropOldest_0 : decode cX1_dropOldest 0 = .ok (.aload_n 0, 1) := by decide +kernel
theorem dX1_dropOldest_1 : decode cX1_dropOldest 1 = .ok (.getfield 11, 3) := by decide +kernel
theorem dX1_dropOldest_4 : decode cX1_dropOldest 4 = .ok (.iconst 0, 1) := by decide +kernel
theorem dX1_dropOldest_5 : decode cX1_dropOldest 5 = .ok (.aaload, 1) := by decide +kernel
theorem dX1_dropOldest_6 : decode cX1_dropOldest 6 = .ok (.astore_n 1, 1) := by decide +kernel
theorem dX1_dropOldest_7 : decode cX1_dropOldest 7 = .ok (.iconst 1, 1) := by decide +kernel
theorem dX1_dropOldest_8 : decode cX1_dropOldest 8 = .ok (.istore_n 2, 1) := by decide +kernel
theorem dX1_dropOldest_9 : decode cX1_dropOldest 9 = .ok (.iload_n 2, 1) := by decide +kernel
theorem dX1_dropOldest_10 : decode cX1_dropOldest 10 = .ok (.bipush 6, 2) := by decide +kernel
theorem dX1_dropOldest_12 : decode cX1_dropOldest 12 = .ok (.if_icmp .ge 23, 3) := by decide +kernel
theorem dX1_dropOldest_15 : decode cX1_dropOldest 15 = .ok (.aload_n 0, 1) := by decide +kernel
theorem dX1_dropOldest_16 : decode cX1_dropOldest 16 = .ok (.getfield 11, 3) := by decide +kernel
theorem dX1_dropOldest_19 : decode cX1_dropOldest 19 = .ok (.iload_n 2, 1) := by decide +kernel
theorem dX1_dropOldest_20 : decode cX1_dropOldest 20 = .ok (.iconst 1, 1) := by decide +kernel
theorem dX1_dropOldest_21 : decode cX1_dropOldest 21 = .ok (.isub, 1) := by decide +kernel
theorem dX1_dropOldest_22 : decode cX1_dropOldest 22 = .ok (.aload_n 0, 1) := by decide +kernel
theorem dX1_dropOldest_23 : decode cX1_dropOldest 23 = .ok (.getfield 11, 3) := by decide +kernel
theorem dX1_dropOldest_26 : decode cX1_dropOldest 26 = .ok (.iload_n 2, 1) := by decide +kernel
theorem dX1_dropOldest_27 : decode cX1_dropOldest 27 = .ok (.aaload, 1) := by decide +kernel
theorem dX1_dropOldest_28 : decode cX1_dropOldest 28 = .ok (.aastore, 1) := by decide +kernel
theorem dX1_dropOldest_29 : decode cX1_dropOldest 29 = .ok (.iinc 2 1, 3) := by decide +kernel
theorem dX1_dropOldest_32 : decode cX1_dropOldest 32 = .ok (.goto (-23), 3) := by decide +kernel
theorem dX1_dropOldest_35 : decode cX1_dropOldest 35 = .ok (.aload_n 0, 1) := by decide +kernel
theorem dX1_dropOldest_36 : decode cX1_dropOldest 36 = .ok (.getfield 11, 3) := by decide +kernel
theorem dX1_dropOldest_39 : decode cX1_dropOldest 39 = .ok (.iconst 5, 1) := by decide +kernel
theorem dX1_dropOldest_40 : decode cX1_dropOldest 40 = .ok (.aload_n 1, 1) := by decide +kernel
theorem dX1_dropOldest_41 : decode cX1_dropOldest 41 = .ok (.aastore, 1) := by decide +kernel
theorem dX1_dropOldest_42 : decode cX1_dropOldest 42 = .ok (.aload_n 0, 1) := by decide +kernel
theorem dX1_dropOldest_43 : decode cX1_dropOldest 43 = .ok (.dup, 1) := by decide +kernel
theorem dX1_dropOldest_44 : decode cX1_dropOldest 44 = .ok (.getfield 18, 3) := by decide +kernel
theorem dX1_dropOldest_47 : decode cX1_dropOldest 47 = .ok (.iconst 1, 1) := by decide +kernel
theorem dX1_dropOldest_48 : decode cX1_dropOldest 48 = .ok (.isub, 1) := by decide +kernel
theorem dX1_dropOldest_49 : decode cX1_dropOldest 49 = .ok (.putfield 18, 3) := by decide +kernel
theorem dX1_dropOldest_52 : decode cX1_dropOldest 52 = .ok (.return_, 1) := by decide +kernel
theorem dX2_init_0 : decode cX2_init 0 = .ok (.aload_n 0, 1) := by decide +kernel
theorem dX2_init_1 : decode cX2_init 1 = .ok (.invokespecial 3, 3) := by decide +kernel
theorem dX2_init_4 : decode cX2_init 4 = .ok (.aload_n 0, 1) := by decide +kernel
theorem dX2_init_5 : decode cX2_init 5 = .ok (.bipush 32, 2) := by decide +kernel
theorem dX2_init_7 : decode cX2_init 7 = .ok (.newarray .int, 2) := by decide +kernel
theorem dX2_init_9 : decode cX2_init 9 = .ok (.putfield 9, 3) := by decide +kernel
theorem dX2_init_12 : decode cX2_init 12 = .ok (.aload_n 0, 1) := by decide +kernel
theorem dX2_init_13 : decode cX2_init 13 = .ok (.bipush 32, 2) := by decide +kernel
theorem dX2_init_15 : decode cX2_init 15 = .ok (.newarray .int, 2) := by decide +kernel
theorem dX2_init_17 : decode cX2_init 17 = .ok (.putfield 15, 3) := by decide +kernel
theorem dX2_init_20 : decode cX2_init 20 = .ok (.aload_n 0, 1) := by decide +kernel
theorem dX2_init_21 : decode cX2_init 21 = .ok (.iconst 4, 1) := by decide +kernel
theorem dX2_init_22 : decode cX2_init 22 = .ok (.newarray .int, 2) := by decide +kernel
theorem dX2_init_24 : decode cX2_init 24 = .ok (.putfield 18, 3) := by decide +kernel
theorem dX2_init_27 : decode cX2_init 27 = .ok (.aload_n 0, 1) := by decide +kernel
theorem dX2_init_28 : decode cX2_init 28 = .ok (.bipush 8, 2) := by decide +kernel
theorem dX2_init_30 : decode cX2_init 30 = .ok (.newarray .int, 2) := by decide +kernel
theorem dX2_init_32 : decode cX2_init 32 = .ok (.putfield 21, 3) := by decide +kernel
theorem dX2_init_35 : decode cX2_init 35 = .ok (.aload_n 0, 1) := by decide +kernel
theorem dX2_init_36 : decode cX2_init 36 = .ok (.bipush 32, 2) := by decide +kernel
theorem dX2_init_38 : decode cX2_init 38 = .ok (.newarray .int, 2) := by decide +kernel
theorem dX2_init_40 : decode cX2_init 40 = .ok (.putfield 24, 3) := by decide +kernel
theorem dX2_init_43 : decode cX2_init 43 = .ok (.aload_n 0, 1) := by decide +kernel
theorem dX2_init_44 : decode cX2_init 44 = .ok (.getfield 18, 3) := by decide +kernel
theorem dX2_init_47 : decode cX2_init 47 = .ok (.iconst 0, 1) := by decide +kernel
theorem dX2_init_48 : decode cX2_init 48 = .ok (.iconst 1, 1) := by decide +kernel
theorem dX2_init_49 : decode cX2_init 49 = .ok (.iastore, 1) := by decide +kernel
theorem dX2_init_50 : decode cX2_init 50 = .ok (.aload_n 0, 1) := by decide +kernel
theorem dX2_init_51 : decode cX2_init 51 = .ok (.getfield 18, 3) := by decide +kernel
theorem dX2_init_54 : decode cX2_init 54 = .ok (.iconst 1, 1) := by decide +kernel
theorem dX2_init_55 : decode cX2_init 55 = .ok (.iconst 2, 1) := by decide +kernel
theorem dX2_init_56 : decode cX2_init 56 = .ok (.iastore, 1) := by decide +kernel
theorem dX2_init_57 : decode cX2_init 57 = .ok (.aload_n 0, 1) := by decide +kernel
theorem dX2_init_58 : decode cX2_init 58 = .ok (.getfield 18, 3) := by decide +kernel
theorem dX2_init_61 : decode cX2_init 61 = .ok (.iconst 2, 1) := by decide +kernel
theorem dX2_init_62 : decode cX2_init 62 = .ok (.iconst 5, 1) := by decide +kernel
theorem dX2_init_63 : decode cX2_init 63 = .ok (.iastore, 1) := by decide +kernel
theorem dX2_init_64 : decode cX2_init 64 = .ok (.aload_n 0, 1) := by decide +kernel
theorem dX2_init_65 : decode cX2_init 65 = .ok (.getfield 18, 3) := by decide +kernel
theorem dX2_init_68 : decode cX2_init 68 = .ok (.iconst 3, 1) := by decide +kernel
theorem dX2_init_69 : decode cX2_init 69 = .ok (.bipush 9, 2) := by decide +kernel
theorem dX2_init_71 : decode cX2_init 71 = .ok (.iastore, 1) := by decide +kernel
theorem dX2_init_72 : decode cX2_init 72 = .ok (.iconst 0, 1) := by decide +kernel
theorem dX2_init_73 : decode cX2_init 73 = .ok (.istore_n 1, 1) := by decide +kernel
theorem dX2_init_74 : decode cX2_init 74 = .ok (.iload_n 1, 1) := by decide +kernel
theorem dX2_init_75 : decode cX2_init 75 = .ok (.bipush 8, 2) := by decide +kernel
theorem dX2_init_77 : decode cX2_init 77 = .ok (.if_icmp .ge 35, 3) := by decide +kernel
theorem dX2_init_80 : decode cX2_init 80 = .ok (.aload_n 0, 1) := by decide +kernel
theorem dX2_init_81 : decode cX2_init 81 = .ok (.getfield 9, 3) := by decide +kernel
theorem dX2_init_84 : decode cX2_init 84 = .ok (.iload_n 1, 1) := by decide +kernel
theorem dX2_init_85 : decode cX2_init 85 = .ok (.iconst 4, 1) := by decide +kernel
theorem dX2_init_86 : decode cX2_init 86 = .ok (.imul, 1) := by decide +kernel
theorem dX2_init_87 : decode cX2_init 87 = .ok (.iload_n 1, 1) := by decide +kernel
theorem dX2_init_88 : decode cX2_init 88 = .ok (.iconst 4, 1) := by decide +kernel
theorem dX2_init_89 : decode cX2_init 89 = .ok (.irem, 1) := by decide +kernel
theorem dX2_init_90 : decode cX2_init 90 = .ok (.iadd, 1) := by decide +kernel
theorem dX2_init_91 : decode cX2_init 91 = .ok (.bipush 10, 2) := by decide +kernel
theorem dX2_init_93 : decode cX2_init 93 = .ok (.iastore, 1) := by decide +kernel
theorem dX2_init_94 : decode cX2_init 94 = .ok (.aload_n 0, 1) := by decide +kernel
theorem dX2_init_95 : decode cX2_init 95 = .ok (.getfield 21, 3) := by decide +kernel
theorem dX2_init_98 : decode cX2_init 98 = .ok (.iload_n 1, 1) := by decide +kernel
theorem dX2_init_99 : decode cX2_init 99 = .ok (.iload_n 1, 1) := by decide +kernel
theorem dX2_init_100 : decode cX2_init 100 = .ok (.iconst 1, 1) := by decide +kernel
theorem dX2_init_101 : decode cX2_init 101 = .ok (.iadd, 1) := by decide +kernel
theorem dX2_init_102 : decode cX2_init 102 = .ok (.bipush 8, 2) := by decide +kernel
theorem dX2_init_104 : decode cX2_init 104 = .ok (.irem, 1) := by decide +kernel
theorem dX2_init_105 : decode cX2_init 105 = .ok (.iastore, 1) := by decide +kernel
theorem dX2_init_106 : decode cX2_init 106 = .ok (.iinc 1 1, 3) := by decide +kernel
theorem dX2_init_109 : decode cX2_init 109 = .ok (.goto (-35), 3) := by decide +kernel
theorem dX2_init_112 : decode cX2_init 112 = .ok (.return_, 1) := by decide +kernel
theorem dX2_become_0 : decode cX2_become 0 = .ok (.aload_n 1, 1) := by decide +kernel
theorem dX2_become_1 : decode cX2_become 1 = .ok (.getfield 9, 3) := by decide +kernel
theorem dX2_become_4 : decode cX2_become 4 = .ok (.iconst 0, 1) := by decide +kernel
theorem dX2_become_5 : decode cX2_become 5 = .ok (.aload_n 0, 1) := by decide +kernel
theorem dX2_become_6 : decode cX2_become 6 = .ok (.getfield 9, 3) := by decide +kernel
theorem dX2_become_9 : decode cX2_become 9 = .ok (.iconst 0, 1) := by decide +kernel
theorem dX2_become_10 : decode cX2_become 10 = .ok (.bipush 32, 2) := by decide +kernel
theorem dX2_become_12 : decode cX2_become 12 = .ok (.invokestatic 27, 3) := by decide +kernel
theorem dX2_become_15 : decode cX2_become 15 = .ok (.aload_n 1, 1) := by decide +kernel
theorem dX2_become_16 : decode cX2_become 16 = .ok (.getfield 18, 3) := by decide +kernel
theorem dX2_become_19 : decode cX2_become 19 = .ok (.iconst 0, 1) := by decide +kernel
theorem dX2_become_20 : decode cX2_become 20 = .ok (.aload_n 0, 1) := by decide +kernel
theorem dX2_become_21 : decode cX2_become 21 = .ok (.getfield 18, 3) := by decide +kernel
theorem dX2_become_24 : decode cX2_become 24 = .ok (.iconst 0, 1) := by decide +kernel
theorem dX2_become_25 : decode cX2_become 25 = .ok (.iconst 4, 1) := by decide +kernel
theorem dX2_become_26 : decode cX2_become 26 = .ok (.invokestatic 27, 3) := by decide +kernel
theorem dX2_become_29 : decode cX2_become 29 = .ok (.aload_n 1, 1) := by decide +kernel
theorem dX2_become_30 : decode cX2_become 30 = .ok (.getfield 21, 3) := by decide +kernel
theorem dX2_become_33 : decode cX2_become 33 = .ok (.iconst 0, 1) := by decide +kernel
theorem dX2_become_34 : decode cX2_become 34 = .ok (.aload_n 0, 1) := by decide +kernel
theorem dX2_become_35 : decode cX2_become 35 = .ok (.getfield 21, 3) := by decide +kernel
theorem dX2_become_38 : decode cX2_become 38 = .ok (.iconst 0, 1) := by decide +kernel
theorem dX2_become_39 : decode cX2_become 39 = .ok (.bipush 8, 2) := by decide +kernel
theorem dX2_become_41 : decode cX2_become 41 = .ok (.invokestatic 27, 3) := by decide +kernel
theorem dX2_become_44 : decode cX2_become 44 = .ok (.aload_n 1, 1) := by decide +kernel
theorem dX2_become_45 : decode cX2_become 45 = .ok (.getfield 24, 3) := by decide +kernel
theorem dX2_become_48 : decode cX2_become 48 = .ok (.iconst 0, 1) := by decide +kernel
theorem dX2_become_49 : decode cX2_become 49 = .ok (.aload_n 0, 1) := by decide +kernel
theorem dX2_become_50 : decode cX2_become 50 = .ok (.getfield 24, 3) := by decide +kernel
theorem dX2_become_53 : decode cX2_become 53 = .ok (.iconst 0, 1) := by decide +kernel
theorem dX2_become_54 : decode cX2_become 54 = .ok (.bipush 32, 2) := by decide +kernel
theorem dX2_become_56 : decode cX2_become 56 = .ok (.invokestatic 27, 3) := by decide +kernel
theorem dX2_become_59 : decode cX2_become 59 = .ok (.aload_n 0, 1) := by decide +kernel
theorem dX2_become_60 : decode cX2_become 60 = .ok (.aload_n 1, 1) := by decide +kernel
theorem dX2_become_61 : decode cX2_become 61 = .ok (.getfield 33, 3) := by decide +kernel
theorem dX2_become_64 : decode cX2_become 64 = .ok (.putfield 33, 3) := by decide +kernel
theorem dX2_become_67 : decode cX2_become 67 = .ok (.aload_n 0, 1) := by decide +kernel
theorem dX2_become_68 : decode cX2_become 68 = .ok (.aload_n 1, 1) := by decide +kernel
theorem dX2_become_69 : decode cX2_become 69 = .ok (.getfield 37, 3) := by decide +kernel
theorem dX2_become_72 : decode cX2_become 72 = .ok (.putfield 37, 3) := by decide +kernel
theorem dX2_become_75 : decode cX2_become 75 = .ok (.aload_n 0, 1) := by decide +kernel
theorem dX2_become_76 : decode cX2_become 76 = .ok (.aload_n 1, 1) := by decide +kernel
theorem dX2_become_77 : decode cX2_become 77 = .ok (.getfield 40, 3) := by decide +kernel
theorem dX2_become_80 : decode cX2_become 80 = .ok (.putfield 40, 3) := by decide +kernel
theorem dX2_become_83 : decode cX2_become 83 = .ok (.aload_n 0, 1) := by decide +kernel
theorem dX2_become_84 : decode cX2_become 84 = .ok (.aload_n 1, 1) := by decide +kernel
theorem dX2_become_85 : decode cX2_become 85 = .ok (.getfield 43, 3) := by decide +kernel
theorem dX2_become_88 : decode cX2_become 88 = .ok (.putfield 43, 3) := by decide +kernel
theorem dX2_become_91 : decode cX2_become 91 = .ok (.aload_n 0, 1) := by decide +kernel
theorem dX2_become_92 : decode cX2_become 92 = .ok (.aload_n 1, 1) := by decide +kernel
theorem dX2_become_93 : decode cX2_become 93 = .ok (.getfield 46, 3) := by decide +kernel
theorem dX2_become_96 : decode cX2_become 96 = .ok (.putfield 46, 3) := by decide +kernel
theorem dX2_become_99 : decode cX2_become 99 = .ok (.aload_n 0, 1) := by decide +kernel
theorem dX2_become_100 : decode cX2_become 100 = .ok (.aload_n 1, 1) := by decide +kernel
theorem dX2_become_101 : decode cX2_become 101 = .ok (.getfield 49, 3) := by decide +kernel
theorem dX2_become_104 : decode cX2_become 104 = .ok (.putfield 49, 3) := by decide +kernel
theorem dX2_become_107 : decode cX2_become 107 = .ok (.aload_n 0, 1) := by decide +kernel
theorem dX2_become_108 : decode cX2_become 108 = .ok (.aload_n 1, 1) := by decide +kernel
theorem dX2_become_109 : decode cX2_become 109 = .ok (.getfield 52, 3) := by decide +kernel
theorem dX2_become_112 : decode cX2_become 112 = .ok (.putfield 52, 3) := by decide +kernel
theorem dX2_become_115 : decode cX2_become 115 = .ok (.return_, 1) := by decide +kernel
theorem dX2_capsOf_0 : decode cX2_capsOf 0 = .ok (.aload_n 0, 1) := by decide +kernel
theorem dX2_capsOf_1 : decode cX2_capsOf 1 = .ok (.getfield 9, 3) := by decide +kernel
theorem dX2_capsOf_4 : decode cX2_capsOf 4 = .ok (.iload_n 1, 1) := by decide +kernel
theorem dX2_capsOf_5 : decode cX2_capsOf 5 = .ok (.iconst 4, 1) := by decide +kernel
theorem dX2_capsOf_6 : decode cX2_capsOf 6 = .ok (.imul, 1) := by decide +kernel
theorem dX2_capsOf_7 : decode cX2_capsOf 7 = .ok (.iload_n 2, 1) := by decide +kernel
theorem dX2_capsOf_8 : decode cX2_capsOf 8 = .ok (.iadd, 1) := by decide +kernel
theorem dX2_capsOf_9 : decode cX2_capsOf 9 = .ok (.iaload, 1) := by decide +kernel
theorem dX2_capsOf_10 : decode cX2_capsOf 10 = .ok (.ireturn, 1) := by decide +kernel
theorem dX2_hand_0 : decode cX2_hand 0 = .ok (.aload_n 0, 1) := by decide +kernel
theorem dX2_hand_1 : decode cX2_hand 1 = .ok (.getfield 9, 3) := by decide +kernel
theorem dX2_hand_4 : decode cX2_hand 4 = .ok (.iload_n 1, 1) := by decide +kernel
theorem dX2_hand_5 : decode cX2_hand 5 = .ok (.iconst 4, 1) := by decide +kernel
theorem dX2_hand_6 : decode cX2_hand 6 = .ok (.imul, 1) := by decide +kernel
theorem dX2_hand_7 : decode cX2_hand 7 = .ok (.iload_n 3, 1) := by decide +kernel
theorem dX2_hand_8 : decode cX2_hand 8 = .ok (.iadd, 1) := by decide +kernel
theorem dX2_hand_9 : decode cX2_hand 9 = .ok (.dup2, 1) := by decide +kernel
theorem dX2_hand_10 : decode cX2_hand 10 = .ok (.iaload, 1) := by decide +kernel
theorem dX2_hand_11 : decode cX2_hand 11 = .ok (.iload 4, 2) := by decide +kernel
theorem dX2_hand_13 : decode cX2_hand 13 = .ok (.isub, 1) := by decide +kernel
theorem dX2_hand_14 : decode cX2_hand 14 = .ok (.iastore, 1) := by decide +kernel
theorem dX2_hand_15 : decode cX2_hand 15 = .ok (.aload_n 0, 1) := by decide +kernel
theorem dX2_hand_16 : decode cX2_hand 16 = .ok (.getfield 9, 3) := by decide +kernel
theorem dX2_hand_19 : decode cX2_hand 19 = .ok (.iload_n 2, 1) := by decide +kernel
theorem dX2_hand_20 : decode cX2_hand 20 = .ok (.iconst 4, 1) := by decide +kernel
theorem dX2_hand_21 : decode cX2_hand 21 = .ok (.imul, 1) := by decide +kernel
theorem dX2_hand_22 : decode cX2_hand 22 = .ok (.iload_n 3, 1) := by decide +kernel
theorem dX2_hand_23 : decode cX2_hand 23 = .ok (.iadd, 1) := by decide +kernel
theorem dX2_hand_24 : decode cX2_hand 24 = .ok (.dup2, 1) := by decide +kernel
theorem dX2_hand_25 : decode cX2_hand 25 = .ok (.iaload, 1) := by decide +kernel
theorem dX2_hand_26 : decode cX2_hand 26 = .ok (.iload 4, 2) := by decide +kernel
theorem dX2_hand_28 : decode cX2_hand 28 = .ok (.iadd, 1) := by decide +kernel
theorem dX2_hand_29 : decode cX2_hand 29 = .ok (.iastore, 1) := by decide +kernel
theorem dX2_hand_30 : decode cX2_hand 30 = .ok (.return_, 1) := by decide +kernel
theorem dX2_purseWorth_0 : decode cX2_purseWorth 0 = .ok (.iconst 0, 1) := by decide +kernel
theorem dX2_purseWorth_1 : decode cX2_purseWorth 1 = .ok (.istore_n 2, 1) := by decide +kernel
theorem dX2_purseWorth_2 : decode cX2_purseWorth 2 = .ok (.iconst 0, 1) := by decide +kernel
theorem dX2_purseWorth_3 : decode cX2_purseWorth 3 = .ok (.istore_n 3, 1) := by decide +kernel
theorem dX2_purseWorth_4 : decode cX2_purseWorth 4 = .ok (.iload_n 3, 1) := by decide +kernel
theorem dX2_purseWorth_5 : decode cX2_purseWorth 5 = .ok (.iconst 4, 1) := by decide +kernel
theorem dX2_purseWorth_6 : decode cX2_purseWorth 6 = .ok (.if_icmp .ge 25, 3) := by decide +kernel
theorem dX2_purseWorth_9 : decode cX2_purseWorth 9 = .ok (.iload_n 2, 1) := by decide +kernel
theorem dX2_purseWorth_10 : decode cX2_purseWorth 10 = .ok (.aload_n 0, 1) := by decide +kernel
theorem dX2_purseWorth_11 : decode cX2_purseWorth 11 = .ok (.iload_n 1, 1) := by decide +kernel
theorem dX2_purseWorth_12 : decode cX2_purseWorth 12 = .ok (.iload_n 3, 1) := by decide +kernel
theorem dX2_purseWorth_13 : decode cX2_purseWorth 13 = .ok (.invokevirtual 55, 3) := by decide +kernel
theorem dX2_purseWorth_16 : decode cX2_purseWorth 16 = .ok (.aload_n 0, 1) := by decide +kernel
theorem dX2_purseWorth_17 : decode cX2_purseWorth 17 = .ok (.getfield 18, 3) := by decide +kernel
theorem dX2_purseWorth_20 : decode cX2_purseWorth 20 = .ok (.iload_n 3, 1) := by decide +kernel
theorem dX2_purseWorth_21 : decode cX2_purseWorth 21 = .ok (.iaload, 1) := by decide +kernel
theorem dX2_purseWorth_22 : decode cX2_purseWorth 22 = .ok (.imul, 1) := by decide +kernel
theorem dX2_purseWorth_23 : decode cX2_purseWorth 23 = .ok (.iadd, 1) := by decide +kernel
theorem dX2_purseWorth_24 : decode cX2_purseWorth 24 = .ok (.istore_n 2, 1) := by decide +kernel
theorem dX2_purseWorth_25 : decode cX2_purseWorth 25 = .ok (.iinc 3 1, 3) := by decide +kernel
theorem dX2_purseWorth_28 : decode cX2_purseWorth 28 = .ok (.goto (-24), 3) := by decide +kernel
theorem dX2_purseWorth_31 : decode cX2_purseWorth 31 = .ok (.iload_n 2, 1) := by decide +kernel
theorem dX2_purseWorth_32 : decode cX2_purseWorth 32 = .ok (.ireturn, 1) := by decide +kernel
theorem dX2_allCaps_0 : decode cX2_allCaps 0 = .ok (.iconst 0, 1) := by decide +kernel
theorem dX2_allCaps_1 : decode cX2_allCaps 1 = .ok (.istore_n 1, 1) := by decide +kernel
theorem dX2_allCaps_2 : decode cX2_allCaps 2 = .ok (.iconst 0, 1) := by decide +kernel
theorem dX2_allCaps_3 : decode cX2_allCaps 3 = .ok (.istore_n 2, 1) := by decide +kernel
theorem dX2_allCaps_4 : decode cX2_allCaps 4 = .ok (.iload_n 2, 1) := by decide +kernel
theorem dX2_allCaps_5 : decode cX2_allCaps 5 = .ok (.aload_n 0, 1) := by decide +kernel
theorem dX2_allCaps_6 : decode cX2_allCaps 6 = .ok (.getfield 9, 3) := by decide +kernel
theorem dX2_allCaps_9 : decode cX2_allCaps 9 = .ok (.arraylength, 1) := by decide +kernel
theorem dX2_allCaps_10 : decode cX2_allCaps 10 = .ok (.if_icmp .ge 18, 3) := by decide +kernel
theorem dX2_allCaps_13 : decode cX2_allCaps 13 = .ok (.iload_n 1, 1) := by decide +kernel
theorem dX2_allCaps_14 : decode cX2_allCaps 14 = .ok (.aload_n 0, 1) := by decide +kernel
theorem dX2_allCaps_15 : decode cX2_allCaps 15 = .ok (.getfield 9, 3) := by decide +kernel
theorem dX2_allCaps_18 : decode cX2_allCaps 18 = .ok (.iload_n 2, 1) := by decide +kernel
theorem dX2_allCaps_19 : decode cX2_allCaps 19 = .ok (.iaload, 1) := by decide +kernel
theorem dX2_allCaps_20 : decode cX2_allCaps 20 = .ok (.iadd, 1) := by decide +kernel
theorem dX2_allCaps_21 : decode cX2_allCaps 21 = .ok (.istore_n 1, 1) := by decide +kernel
theorem dX2_allCaps_22 : decode cX2_allCaps 22 = .ok (.iinc 2 1, 3) := by decide +kernel
theorem dX2_allCaps_25 : decode cX2_allCaps 25 = .ok (.goto (-21), 3) := by decide +kernel
theorem dX2_allCaps_28 : decode cX2_allCaps 28 = .ok (.iload_n 1, 1) := by decide +kernel
theorem dX2_allCaps_29 : decode cX2_allCaps 29 = .ok (.ireturn, 1) := by decide +kernel
theorem dX2_allWorth_0 : decode cX2_allWorth 0 = .ok (.iconst 0, 1) := by decide +kernel
theorem dX2_allWorth_1 : decode cX2_allWorth 1 = .ok (.istore_n 1, 1) := by decide +kernel
theorem dX2_allWorth_2 : decode cX2_allWorth 2 = .ok (.iconst 0, 1) := by decide +kernel
theorem dX2_allWorth_3 : decode cX2_allWorth 3 = .ok (.istore_n 2, 1) := by decide +kernel
theorem dX2_allWorth_4 : decode cX2_allWorth 4 = .ok (.iload_n 2, 1) := by decide +kernel
theorem dX2_allWorth_5 : decode cX2_allWorth 5 = .ok (.bipush 8, 2) := by decide +kernel
theorem dX2_allWorth_7 : decode cX2_allWorth 7 = .ok (.if_icmp .ge 17, 3) := by decide +kernel
theorem dX2_allWorth_10 : decode cX2_allWorth 10 = .ok (.iload_n 1, 1) := by decide +kernel
theorem dX2_allWorth_11 : decode cX2_allWorth 11 = .ok (.aload_n 0, 1) := by decide +kernel
theorem dX2_allWorth_12 : decode cX2_allWorth 12 = .ok (.iload_n 2, 1) := by decide +kernel
theorem dX2_allWorth_13 : decode cX2_allWorth 13 = .ok (.invokevirtual 59, 3) := by decide +kernel
theorem dX2_allWorth_16 : decode cX2_allWorth 16 = .ok (.iadd, 1) := by decide +kernel
theorem dX2_allWorth_17 : decode cX2_allWorth 17 = .ok (.istore_n 1, 1) := by decide +kernel
theorem dX2_allWorth_18 : decode cX2_allWorth 18 = .ok (.iinc 2 1, 3) := by decide +kernel
theorem dX2_allWorth_21 : decode cX2_allWorth 21 = .ok (.goto (-17), 3) := by decide +kernel
theorem dX2_allWorth_24 : decode cX2_allWorth 24 = .ok (.iload_n 1, 1) := by decide +kernel
theorem dX2_allWorth_25 : decode cX2_allWorth 25 = .ok (.ireturn, 1) := by decide +kernel
theorem dX2_canStorm_0 : decode cX2_canStorm 0 = .ok (.aload_n 0, 1) := by decide +kernel
theorem dX2_canStorm_1 : decode cX2_canStorm 1 = .ok (.getfield 37, 3) := by decide +kernel
theorem dX2_canStorm_4 : decode cX2_canStorm 4 = .ok (.sipush 9999, 3) := by decide +kernel
theorem dX2_canStorm_7 : decode cX2_canStorm 7 = .ok (.if_icmp .ge 7, 3) := by decide +kernel
theorem dX2_canStorm_10 : decode cX2_canStorm 10 = .ok (.iconst 1, 1) := by decide +kernel
theorem dX2_canStorm_11 : decode cX2_canStorm 11 = .ok (.goto 4, 3) := by decide +kernel
theorem dX2_canStorm_14 : decode cX2_canStorm 14 = .ok (.iconst 0, 1) := by decide +kernel
theorem dX2_canStorm_15 : decode cX2_canStorm 15 = .ok (.ireturn, 1) := by decide +kernel
theorem dX2_blow_0 : decode cX2_blow 0 = .ok (.iconst 0, 1) := by decide +kernel
theorem dX2_blow_1 : decode cX2_blow 1 = .ok (.istore_n 1, 1) := by decide +kernel
theorem dX2_blow_2 : decode cX2_blow 2 = .ok (.iload_n 1, 1) := by decide +kernel
theorem dX2_blow_3 : decode cX2_blow 3 = .ok (.bipush 8, 2) := by decide +kernel
theorem dX2_blow_5 : decode cX2_blow 5 = .ok (.if_icmp .ge 32, 3) := by decide +kernel
theorem dX2_blow_8 : decode cX2_blow 8 = .ok (.aload_n 0, 1) := by decide +kernel
theorem dX2_blow_9 : decode cX2_blow 9 = .ok (.getfield 9, 3) := by decide +kernel
theorem dX2_blow_12 : decode cX2_blow 12 = .ok (.iload_n 1, 1) := by decide +kernel
theorem dX2_blow_13 : decode cX2_blow 13 = .ok (.iconst 4, 1) := by decide +kernel
theorem dX2_blow_14 : decode cX2_blow 14 = .ok (.imul, 1) := by decide +kernel
theorem dX2_blow_15 : decode cX2_blow 15 = .ok (.aload_n 0, 1) := by decide +kernel
theorem dX2_blow_16 : decode cX2_blow 16 = .ok (.getfield 15, 3) := by decide +kernel
theorem dX2_blow_19 : decode cX2_blow 19 = .ok (.aload_n 0, 1) := by decide +kernel
theorem dX2_blow_20 : decode cX2_blow 20 = .ok (.getfield 21, 3) := by decide +kernel
theorem dX2_blow_23 : decode cX2_blow 23 = .ok (.iload_n 1, 1) := by decide +kernel
theorem dX2_blow_24 : decode cX2_blow 24 = .ok (.iaload, 1) := by decide +kernel
theorem dX2_blow_25 : decode cX2_blow 25 = .ok (.iconst 4, 1) := by decide +kernel
theorem dX2_blow_26 : decode cX2_blow 26 = .ok (.imul, 1) := by decide +kernel
theorem dX2_blow_27 : decode cX2_blow 27 = .ok (.iconst 4, 1) := by decide +kernel
theorem dX2_blow_28 : decode cX2_blow 28 = .ok (.invokestatic 27, 3) := by decide +kernel
theorem dX2_blow_31 : decode cX2_blow 31 = .ok (.iinc 1 1, 3) := by decide +kernel
theorem dX2_blow_34 : decode cX2_blow 34 = .ok (.goto (-32), 3) := by decide +kernel
theorem dX2_blow_37 : decode cX2_blow 37 = .ok (.aload_n 0, 1) := by decide +kernel
theorem dX2_blow_38 : decode cX2_blow 38 = .ok (.getfield 15, 3) := by decide +kernel
theorem dX2_blow_41 : decode cX2_blow 41 = .ok (.iconst 0, 1) := by decide +kernel
theorem dX2_blow_42 : decode cX2_blow 42 = .ok (.aload_n 0, 1) := by decide +kernel
theorem dX2_blow_43 : decode cX2_blow 43 = .ok (.getfield 9, 3) := by decide +kernel
theorem dX2_blow_46 : decode cX2_blow 46 = .ok (.iconst 0, 1) := by decide +kernel
theorem dX2_blow_47 : decode cX2_blow 47 = .ok (.bipush 32, 2) := by decide +kernel
theorem dX2_blow_49 : decode cX2_blow 49 = .ok (.invokestatic 27, 3) := by decide +kernel
theorem dX2_blow_52 : decode cX2_blow 52 = .ok (.aload_n 0, 1) := by decide +kernel
theorem dX2_blow_53 : decode cX2_blow 53 = .ok (.dup, 1) := by decide +kernel
theorem dX2_blow_54 : decode cX2_blow 54 = .ok (.getfield 37, 3) := by decide +kernel
theorem dX2_blow_57 : decode cX2_blow 57 = .ok (.iconst 1, 1) := by decide +kernel
theorem dX2_blow_58 : decode cX2_blow 58 = .ok (.iadd, 1) := by decide +kernel
theorem dX2_blow_59 : decode cX2_blow 59 = .ok (.putfield 37, 3) := by decide +kernel
theorem dX2_blow_62 : decode cX2_blow 62 = .ok (.aload_n 0, 1) := by decide +kernel
theorem dX2_blow_63 : decode cX2_blow 63 = .ok (.invokevirtual 63, 3) := by decide +kernel
theorem dX2_blow_66 : decode cX2_blow 66 = .ok (.ireturn, 1) := by decide +kernel
theorem dX2_breakPromises_0 : decode cX2_breakPromises 0 = .ok (.iconst 0, 1) := by decide +kernel
theorem dX2_breakPromises_1 : decode cX2_breakPromises 1 = .ok (.istore_n 1, 1) := by decide +kernel
theorem dX2_breakPromises_2 : decode cX2_breakPromises 2 = .ok (.aload_n 0, 1) := by decide +kernel
theorem dX2_breakPromises_3 : decode cX2_breakPromises 3 = .ok (.getfield 33, 3) := by decide +kernel
theorem dX2_breakPromises_6 : decode cX2_breakPromises 6 = .ok (.iconst 1, 1) := by decide +kernel
theorem dX2_breakPromises_7 : decode cX2_breakPromises 7 = .ok (.isub, 1) := by decide +kernel
theorem dX2_breakPromises_8 : decode cX2_breakPromises 8 = .ok (.istore_n 2, 1) := by decide +kernel
theorem dX2_breakPromises_9 : decode cX2_breakPromises 9 = .ok (.iload_n 2, 1) := by decide +kernel
theorem dX2_breakPromises_10 : decode cX2_breakPromises 10 = .ok (.ifCond .lt 30, 3) := by decide +kernel
theorem dX2_breakPromises_13 : decode cX2_breakPromises 13 = .ok (.aload_n 0, 1) := by decide +kernel
theorem dX2_breakPromises_14 : decode cX2_breakPromises 14 = .ok (.iload_n 2, 1) := by decide +kernel
theorem dX2_breakPromises_15 : decode cX2_breakPromises 15 = .ok (.iconst 3, 1) := by decide +kernel
theorem dX2_breakPromises_16 : decode cX2_breakPromises 16 = .ok (.invokevirtual 67, 3) := by decide +kernel
theorem dX2_breakPromises_19 : decode cX2_breakPromises 19 = .ok (.aload_n 0, 1) := by decide +kernel
theorem dX2_breakPromises_20 : decode cX2_breakPromises 20 = .ok (.getfield 37, 3) := by decide +kernel
theorem dX2_breakPromises_23 : decode cX2_breakPromises 23 = .ok (.if_icmp .ge 11, 3) := by decide +kernel
theorem dX2_breakPromises_26 : decode cX2_breakPromises 26 = .ok (.aload_n 0, 1) := by decide +kernel
theorem dX2_breakPromises_27 : decode cX2_breakPromises 27 = .ok (.iload_n 2, 1) := by decide +kernel
theorem dX2_breakPromises_28 : decode cX2_breakPromises 28 = .ok (.invokevirtual 70, 3) := by decide +kernel
theorem dX2_breakPromises_31 : decode cX2_breakPromises 31 = .ok (.iinc 1 1, 3) := by decide +kernel
theorem dX2_breakPromises_34 : decode cX2_breakPromises 34 = .ok (.iinc 2 (-1), 3) := by decide +kernel
theorem dX2_breakPromises_37 : decode cX2_breakPromises 37 = .ok (.goto (-28), 3) := by decide +kernel
theorem dX2_breakPromises_40 : decode cX2_breakPromises 40 = .ok (.aload_n 0, 1) := by decide +kernel
theorem dX2_breakPromises_41 : decode cX2_breakPromises 41 = .ok (.dup, 1) := by decide +kernel
theorem dX2_breakPromises_42 : decode cX2_breakPromises 42 = .ok (.getfield 49, 3) := by decide +kernel
theorem dX2_breakPromises_45 : decode cX2_breakPromises 45 = .ok (.iload_n 1, 1) := by decide +kernel
theorem dX2_breakPromises_46 : decode cX2_breakPromises 46 = .ok (.iadd, 1) := by decide +kernel
theorem dX2_breakPromises_47 : decode cX2_breakPromises 47 = .ok (.putfield 49, 3) := by decide +kernel
theorem dX2_breakPromises_50 : decode cX2_breakPromises 50 = .ok (.iload_n 1, 1) := by decide +kernel
theorem dX2_breakPromises_51 : decode cX2_breakPromises 51 = .ok (.ireturn, 1) := by decide +kernel
theorem dX2_swapPaths_0 : decode cX2_swapPaths 0 = .ok (.aload_n 0, 1) := by decide +kernel
theorem dX2_swapPaths_1 : decode cX2_swapPaths 1 = .ok (.getfield 21, 3) := by decide +kernel
theorem dX2_swapPaths_4 : decode cX2_swapPaths 4 = .ok (.iload_n 1, 1) := by decide +kernel
theorem dX2_swapPaths_5 : decode cX2_swapPaths 5 = .ok (.iaload, 1) := by decide +kernel
theorem dX2_swapPaths_6 : decode cX2_swapPaths 6 = .ok (.istore_n 3, 1) := by decide +kernel
theorem dX2_swapPaths_7 : decode cX2_swapPaths 7 = .ok (.aload_n 0, 1) := by decide +kernel
theorem dX2_swapPaths_8 : decode cX2_swapPaths 8 = .ok (.getfield 21, 3) := by decide +kernel
theorem dX2_swapPaths_11 : decode cX2_swapPaths 11 = .ok (.iload_n 1, 1) := by decide +kernel
theorem dX2_swapPaths_12 : decode cX2_swapPaths 12 = .ok (.aload_n 0, 1) := by decide +kernel
theorem dX2_swapPaths_13 : decode cX2_swapPaths 13 = .ok (.getfield 21, 3) := by decide +kernel
theorem dX2_swapPaths_16 : decode cX2_swapPaths 16 = .ok (.iload_n 2, 1) := by decide +kernel
theorem dX2_swapPaths_17 : decode cX2_swapPaths 17 = .ok (.iaload, 1) := by decide +kernel
theorem dX2_swapPaths_18 : decode cX2_swapPaths 18 = .ok (.iastore, 1) := by decide +kernel
theorem dX2_swapPaths_19 : decode cX2_swapPaths 19 = .ok (.aload_n 0, 1) := by decide +kernel
theorem dX2_swapPaths_20 : decode cX2_swapPaths 20 = .ok (.getfield 21, 3) := by decide +kernel
theorem dX2_swapPaths_23 : decode cX2_swapPaths 23 = .ok (.iload_n 2, 1) := by decide +kernel
theorem dX2_swapPaths_24 : decode cX2_swapPaths 24 = .ok (.iload_n 3, 1) := by decide +kernel
theorem dX2_swapPaths_25 : decode cX2_swapPaths 25 = .ok (.iastore, 1) := by decide +kernel
theorem dX2_swapPaths_26 : decode cX2_swapPaths 26 = .ok (.return_, 1) := by decide +kernel
theorem dX2_along_0 : decode cX2_along 0 = .ok (.iload_n 1, 1) := by decide +kernel
theorem dX2_along_1 : decode cX2_along 1 = .ok (.istore_n 3, 1) := by decide +kernel
theorem dX2_along_2 : decode cX2_along 2 = .ok (.iconst 0, 1) := by decide +kernel
theorem dX2_along_3 : decode cX2_along 3 = .ok (.istore 4, 2) := by decide +kernel
theorem dX2_along_5 : decode cX2_along 5 = .ok (.iload 4, 2) := by decide +kernel
theorem dX2_along_7 : decode cX2_along 7 = .ok (.iload_n 2, 1) := by decide +kernel
theorem dX2_along_8 : decode cX2_along 8 = .ok (.if_icmp .ge 16, 3) := by decide +kernel
theorem dX2_along_11 : decode cX2_along 11 = .ok (.aload_n 0, 1) := by decide +kernel
theorem dX2_along_12 : decode cX2_along 12 = .ok (.getfield 21, 3) := by decide +kernel
theorem dX2_along_15 : decode cX2_along 15 = .ok (.iload_n 3, 1) := by decide +kernel
theorem dX2_along_16 : decode cX2_along 16 = .ok (.iaload, 1) := by decide +kernel
theorem dX2_along_17 : decode cX2_along 17 = .ok (.istore_n 3, 1) := by decide +kernel
theorem dX2_along_18 : decode cX2_along 18 = .ok (.iinc 4 1, 3) := by decide +kernel
theorem dX2_along_21 : decode cX2_along 21 = .ok (.goto (-16), 3) := by decide +kernel
theorem dX2_along_24 : decode cX2_along 24 = .ok (.iload_n 3, 1) := by decide +kernel
theorem dX2_along_25 : decode cX2_along 25 = .ok (.ireturn, 1) := by decide +kernel
theorem dX2_senderTo_0 : decode cX2_senderTo 0 = .ok (.iconst 0, 1) := by decide +kernel
theorem dX2_senderTo_1 : decode cX2_senderTo 1 = .ok (.istore_n 2, 1) := by decide +kernel
theorem dX2_senderTo_2 : decode cX2_senderTo 2 = .ok (.iload_n 2, 1) := by decide +kernel
theorem dX2_senderTo_3 : decode cX2_senderTo 3 = .ok (.bipush 7, 2) := by decide +kernel
theorem dX2_senderTo_5 : decode cX2_senderTo 5 = .ok (.if_icmp .ge 19, 3) := by decide +kernel
theorem dX2_senderTo_8 : decode cX2_senderTo 8 = .ok (.aload_n 0, 1) := by decide +kernel
theorem dX2_senderTo_9 : decode cX2_senderTo 9 = .ok (.getfield 21, 3) := by decide +kernel
theorem dX2_senderTo_12 : decode cX2_senderTo 12 = .ok (.iload_n 2, 1) := by decide +kernel
theorem dX2_senderTo_13 : decode cX2_senderTo 13 = .ok (.iaload, 1) := by decide +kernel
theorem dX2_senderTo_14 : decode cX2_senderTo 14 = .ok (.iload_n 1, 1) := by decide +kernel
theorem dX2_senderTo_15 : decode cX2_senderTo 15 = .ok (.if_icmp .eq 9, 3) := by decide +kernel
theorem dX2_senderTo_18 : decode cX2_senderTo 18 = .ok (.iinc 2 1, 3) := by decide +kernel
theorem dX2_senderTo_21 : decode cX2_senderTo 21 = .ok (.goto (-19), 3) := by decide +kernel
theorem dX2_senderTo_24 : decode cX2_senderTo 24 = .ok (.iload_n 2, 1) := by decide +kernel
theorem dX2_senderTo_25 : decode cX2_senderTo 25 = .ok (.ireturn, 1) := by decide +kernel
theorem dX2_circle_0 : decode cX2_circle 0 = .ok (.iconst 1, 1) := by decide +kernel
theorem dX2_circle_1 : decode cX2_circle 1 = .ok (.istore_n 2, 1) := by decide +kernel
theorem dX2_circle_2 : decode cX2_circle 2 = .ok (.aload_n 0, 1) := by decide +kernel
theorem dX2_circle_3 : decode cX2_circle 3 = .ok (.getfield 21, 3) := by decide +kernel
theorem dX2_circle_6 : decode cX2_circle 6 = .ok (.iload_n 1, 1) := by decide +kernel
theorem dX2_circle_7 : decode cX2_circle 7 = .ok (.iaload, 1) := by decide +kernel
theorem dX2_circle_8 : decode cX2_circle 8 = .ok (.istore_n 3, 1) := by decide +kernel
theorem dX2_circle_9 : decode cX2_circle 9 = .ok (.iload_n 3, 1) := by decide +kernel
theorem dX2_circle_10 : decode cX2_circle 10 = .ok (.iload_n 1, 1) := by decide +kernel
theorem dX2_circle_11 : decode cX2_circle 11 = .ok (.if_icmp .eq 22, 3) := by decide +kernel
theorem dX2_circle_14 : decode cX2_circle 14 = .ok (.iload_n 2, 1) := by decide +kernel
theorem dX2_circle_15 : decode cX2_circle 15 = .ok (.bipush 8, 2) := by decide +kernel
theorem dX2_circle_17 : decode cX2_circle 17 = .ok (.if_icmp .ge 16, 3) := by decide +kernel
theorem dX2_circle_20 : decode cX2_circle 20 = .ok (.iinc 2 1, 3) := by decide +kernel
theorem dX2_circle_23 : decode cX2_circle 23 = .ok (.aload_n 0, 1) := by decide +kernel
theorem dX2_circle_24 : decode cX2_circle 24 = .ok (.getfield 21, 3) := by decide +kernel
theorem dX2_circle_27 : decode cX2_circle 27 = .ok (.iload_n 3, 1) := by decide +kernel
theorem dX2_circle_28 : decode cX2_circle 28 = .ok (.iaload, 1) := by decide +kernel
theorem dX2_circle_29 : decode cX2_circle 29 = .ok (.istore_n 3, 1) := by decide +kernel
theorem dX2_circle_30 : decode cX2_circle 30 = .ok (.goto (-21), 3) := by decide +kernel
theorem dX2_circle_33 : decode cX2_circle 33 = .ok (.iload_n 2, 1) := by decide +kernel
theorem dX2_circle_34 : decode cX2_circle 34 = .ok (.ireturn, 1) := by decide +kernel
theorem dX2_partOf_0 : decode cX2_partOf 0 = .ok (.aload_n 0, 1) := by decide +kernel
theorem dX2_partOf_1 : decode cX2_partOf 1 = .ok (.getfield 24, 3) := by decide +kernel
theorem dX2_partOf_4 : decode cX2_partOf 4 = .ok (.iload_n 1, 1) := by decide +kernel
theorem dX2_partOf_5 : decode cX2_partOf 5 = .ok (.iconst 4, 1) := by decide +kernel
theorem dX2_partOf_6 : decode cX2_partOf 6 = .ok (.imul, 1) := by decide +kernel
theorem dX2_partOf_7 : decode cX2_partOf 7 = .ok (.iload_n 2, 1) := by decide +kernel
theorem dX2_partOf_8 : decode cX2_partOf 8 = .ok (.iadd, 1) := by decide +kernel
theorem dX2_partOf_9 : decode cX2_partOf 9 = .ok (.iaload, 1) := by decide +kernel
theorem dX2_partOf_10 : decode cX2_partOf 10 = .ok (.ireturn, 1) := by decide +kernel
theorem dX2_makePromise_0 : decode cX2_makePromise 0 = .ok (.aload_n 0, 1) := by decide +kernel
theorem dX2_makePromise_1 : decode cX2_makePromise 1 = .ok (.getfield 33, 3) := by decide +kernel
theorem dX2_makePromise_4 : decode cX2_makePromise 4 = .ok (.bipush 8, 2) := by decide +kernel
theorem dX2_makePromise_6 : decode cX2_makePromise 6 = .ok (.if_icmp .lt 15, 3) := by decide +kernel
theorem dX2_makePromise_9 : decode cX2_makePromise 9 = .ok (.aload_n 0, 1) := by decide +kernel
theorem dX2_makePromise_10 : decode cX2_makePromise 10 = .ok (.dup, 1) := by decide +kernel
theorem dX2_makePromise_11 : decode cX2_makePromise 11 = .ok (.getfield 52, 3) := by decide +kernel
theorem dX2_makePromise_14 : decode cX2_makePromise 14 = .ok (.iconst 1, 1) := by decide +kernel
theorem dX2_makePromise_15 : decode cX2_makePromise 15 = .ok (.iadd, 1) := by decide +kernel
theorem dX2_makePromise_16 : decode cX2_makePromise 16 = .ok (.putfield 52, 3) := by decide +kernel
theorem dX2_makePromise_19 : decode cX2_makePromise 19 = .ok (.iconst (-1), 1) := by decide +kernel
theorem dX2_makePromise_20 : decode cX2_makePromise 20 = .ok (.ireturn, 1) := by decide +kernel
theorem dX2_makePromise_21 : decode cX2_makePromise 21 = .ok (.aload_n 0, 1) := by decide +kernel
theorem dX2_makePromise_22 : decode cX2_makePromise 22 = .ok (.getfield 33, 3) := by decide +kernel
theorem dX2_makePromise_25 : decode cX2_makePromise 25 = .ok (.iconst 4, 1) := by decide +kernel
theorem dX2_makePromise_26 : decode cX2_makePromise 26 = .ok (.imul, 1) := by decide +kernel
theorem dX2_makePromise_27 : decode cX2_makePromise 27 = .ok (.istore 5, 2) := by decide +kernel
theorem dX2_makePromise_29 : decode cX2_makePromise 29 = .ok (.aload_n 0, 1) := by decide +kernel
theorem dX2_makePromise_30 : decode cX2_makePromise 30 = .ok (.getfield 24, 3) := by decide +kernel
theorem dX2_makePromise_33 : decode cX2_makePromise 33 = .ok (.iload 5, 2) := by decide +kernel
theorem dX2_makePromise_35 : decode cX2_makePromise 35 = .ok (.iconst 0, 1) := by decide +kernel
theorem dX2_makePromise_36 : decode cX2_makePromise 36 = .ok (.iadd, 1) := by decide +kernel
theorem dX2_makePromise_37 : decode cX2_makePromise 37 = .ok (.iload_n 1, 1) := by decide +kernel
theorem dX2_makePromise_38 : decode cX2_makePromise 38 = .ok (.iastore, 1) := by decide +kernel
theorem dX2_makePromise_39 : decode cX2_makePromise 39 = .ok (.aload_n 0, 1) := by decide +kernel
theorem dX2_makePromise_40 : decode cX2_makePromise 40 = .ok (.getfield 24, 3) := by decide +kernel
theorem dX2_makePromise_43 : decode cX2_makePromise 43 = .ok (.iload 5, 2) := by decide +kernel
theorem dX2_makePromise_45 : decode cX2_makePromise 45 = .ok (.iconst 1, 1) := by decide +kernel
theorem dX2_makePromise_46 : decode cX2_makePromise 46 = .ok (.iadd, 1) := by decide +kernel
theorem dX2_makePromise_47 : decode cX2_makePromise 47 = .ok (.iload_n 2, 1) := by decide +kernel
theorem dX2_makePromise_48 : decode cX2_makePromise 48 = .ok (.iastore, 1) := by decide +kernel
theorem dX2_makePromise_49 : decode cX2_makePromise 49 = .ok (.aload_n 0, 1) := by decide +kernel
theorem dX2_makePromise_50 : decode cX2_makePromise 50 = .ok (.getfield 24, 3) := by decide +kernel
theorem dX2_makePromise_53 : decode cX2_makePromise 53 = .ok (.iload 5, 2) := by decide +kernel
theorem dX2_makePromise_55 : decode cX2_makePromise 55 = .ok (.iconst 2, 1) := by decide +kernel
theorem dX2_makePromise_56 : decode cX2_makePromise 56 = .ok (.iadd, 1) := by decide +kernel
theorem dX2_makePromise_57 : decode cX2_makePromise 57 = .ok (.iload_n 3, 1) := by decide +kernel
theorem dX2_makePromise_58 : decode cX2_makePromise 58 = .ok (.iastore, 1) := by decide +kernel
theorem dX2_makePromise_59 : decode cX2_makePromise 59 = .ok (.aload_n 0, 1) := by decide +kernel
theorem dX2_makePromise_60 : decode cX2_makePromise 60 = .ok (.getfield 24, 3) := by decide +kernel
theorem dX2_makePromise_63 : decode cX2_makePromise 63 = .ok (.iload 5, 2) := by decide +kernel
theorem dX2_makePromise_65 : decode cX2_makePromise 65 = .ok (.iconst 3, 1) := by decide +kernel
theorem dX2_makePromise_66 : decode cX2_makePromise 66 = .ok (.iadd, 1) := by decide +kernel
theorem dX2_makePromise_67 : decode cX2_makePromise 67 = .ok (.aload_n 0, 1) := by decide +kernel
theorem dX2_makePromise_68 : decode cX2_makePromise 68 = .ok (.getfield 37, 3) := by decide +kernel
theorem dX2_makePromise_71 : decode cX2_makePromise 71 = .ok (.iload 4, 2) := by decide +kernel
theorem dX2_makePromise_73 : decode cX2_makePromise 73 = .ok (.iadd, 1) := by decide +kernel
theorem dX2_makePromise_74 : decode cX2_makePromise 74 = .ok (.iastore, 1) := by decide +kernel
theorem dX2_makePromise_75 : decode cX2_makePromise 75 = .ok (.aload_n 0, 1) := by decide +kernel
theorem dX2_makePromise_76 : decode cX2_makePromise 76 = .ok (.dup, 1) := by decide +kernel
theorem dX2_makePromise_77 : decode cX2_makePromise 77 = .ok (.getfield 33, 3) := by decide +kernel
theorem dX2_makePromise_80 : decode cX2_makePromise 80 = .ok (.iconst 1, 1) := by decide +kernel
theorem dX2_makePromise_81 : decode cX2_makePromise 81 = .ok (.iadd, 1) := by decide +kernel
theorem dX2_makePromise_82 : decode cX2_makePromise 82 = .ok (.putfield 33, 3) := by decide +kernel
theorem dX2_makePromise_85 : decode cX2_makePromise 85 = .ok (.aload_n 0, 1) := by decide +kernel
theorem dX2_makePromise_86 : decode cX2_makePromise 86 = .ok (.getfield 33, 3) := by decide +kernel
theorem dX2_makePromise_89 : decode cX2_makePromise 89 = .ok (.iconst 1, 1) := by decide +kernel
theorem dX2_makePromise_90 : decode cX2_makePromise 90 = .ok (.isub, 1) := by decide +kernel
theorem dX2_makePromise_91 : decode cX2_makePromise 91 = .ok (.ireturn, 1) := by decide +kernel
theorem dX2_dropPromise_0 : decode cX2_dropPromise 0 = .ok (.iload_n 1, 1) := by decide +kernel
theorem dX2_dropPromise_1 : decode cX2_dropPromise 1 = .ok (.iconst 1, 1) := by decide +kernel
theorem dX2_dropPromise_2 : decode cX2_dropPromise 2 = .ok (.iadd, 1) := by decide +kernel
theorem dX2_dropPromise_3 : decode cX2_dropPromise 3 = .ok (.iconst 4, 1) := by decide +kernel
theorem dX2_dropPromise_4 : decode cX2_dropPromise 4 = .ok (.imul, 1) := by decide +kernel
theorem dX2_dropPromise_5 : decode cX2_dropPromise 5 = .ok (.istore_n 2, 1) := by decide +kernel
theorem dX2_dropPromise_6 : decode cX2_dropPromise 6 = .ok (.aload_n 0, 1) := by decide +kernel
theorem dX2_dropPromise_7 : decode cX2_dropPromise 7 = .ok (.getfield 24, 3) := by decide +kernel
theorem dX2_dropPromise_10 : decode cX2_dropPromise 10 = .ok (.iload_n 2, 1) := by decide +kernel
theorem dX2_dropPromise_11 : decode cX2_dropPromise 11 = .ok (.aload_n 0, 1) := by decide +kernel
theorem dX2_dropPromise_12 : decode cX2_dropPromise 12 = .ok (.getfield 24, 3) := by decide +kernel
theorem dX2_dropPromise_15 : decode cX2_dropPromise 15 = .ok (.iload_n 1, 1) := by decide +kernel
theorem dX2_dropPromise_16 : decode cX2_dropPromise 16 = .ok (.iconst 4, 1) := by decide +kernel
theorem dX2_dropPromise_17 : decode cX2_dropPromise 17 = .ok (.imul, 1) := by decide +kernel
theorem dX2_dropPromise_18 : decode cX2_dropPromise 18 = .ok (.aload_n 0, 1) := by decide +kernel
theorem dX2_dropPromise_19 : decode cX2_dropPromise 19 = .ok (.getfield 33, 3) := by decide +kernel
theorem dX2_dropPromise_22 : decode cX2_dropPromise 22 = .ok (.iconst 4, 1) := by decide +kernel
theorem dX2_dropPromise_23 : decode cX2_dropPromise 23 = .ok (.imul, 1) := by decide +kernel
theorem dX2_dropPromise_24 : decode cX2_dropPromise 24 = .ok (.iload_n 2, 1) := by decide +kernel
theorem dX2_dropPromise_25 : decode cX2_dropPromise 25 = .ok (.isub, 1) := by decide +kernel
theorem dX2_dropPromise_26 : decode cX2_dropPromise 26 = .ok (.invokestatic 27, 3) := by decide +kernel
theorem dX2_dropPromise_29 : decode cX2_dropPromise 29 = .ok (.aload_n 0, 1) := by decide +kernel
theorem dX2_dropPromise_30 : decode cX2_dropPromise 30 = .ok (.dup, 1) := by decide +kernel
theorem dX2_dropPromise_31 : decode cX2_dropPromise 31 = .ok (.getfield 33, 3) := by decide +kernel
theorem dX2_dropPromise_34 : decode cX2_dropPromise 34 = .ok (.iconst 1, 1) := by decide +kernel
theorem dX2_dropPromise_35 : decode cX2_dropPromise 35 = .ok (.isub, 1) := by decide +kernel
theorem dX2_dropPromise_36 : decode cX2_dropPromise 36 = .ok (.putfield 33, 3) := by decide +kernel
theorem dX2_dropPromise_39 : decode cX2_dropPromise 39 = .ok (.return_, 1) := by decide +kernel
theorem dX2_sumOf_0 : decode cX2_sumOf 0 = .ok (.iconst 0, 1) := by decide +kernel
theorem dX2_sumOf_1 : decode cX2_sumOf 1 = .ok (.istore_n 3, 1) := by decide +kernel
theorem dX2_sumOf_2 : decode cX2_sumOf 2 = .ok (.iconst 0, 1) := by decide +kernel
theorem dX2_sumOf_3 : decode cX2_sumOf 3 = .ok (.istore 4, 2) := by decide +kernel
theorem dX2_sumOf_5 : decode cX2_sumOf 5 = .ok (.iload 4, 2) := by decide +kernel
theorem dX2_sumOf_7 : decode cX2_sumOf 7 = .ok (.aload_n 0, 1) := by decide +kernel
theorem dX2_sumOf_8 : decode cX2_sumOf 8 = .ok (.getfield 33, 3) := by decide +kernel
theorem dX2_sumOf_11 : decode cX2_sumOf 11 = .ok (.if_icmp .ge 30, 3) := by decide +kernel
theorem dX2_sumOf_14 : decode cX2_sumOf 14 = .ok (.aload_n 0, 1) := by decide +kernel
theorem dX2_sumOf_15 : decode cX2_sumOf 15 = .ok (.iload 4, 2) := by decide +kernel
theorem dX2_sumOf_17 : decode cX2_sumOf 17 = .ok (.iload_n 1, 1) := by decide +kernel
theorem dX2_sumOf_18 : decode cX2_sumOf 18 = .ok (.invokevirtual 67, 3) := by decide +kernel
theorem dX2_sumOf_21 : decode cX2_sumOf 21 = .ok (.iload_n 2, 1) := by decide +kernel
theorem dX2_sumOf_22 : decode cX2_sumOf 22 = .ok (.if_icmp .ne 13, 3) := by decide +kernel
theorem dX2_sumOf_25 : decode cX2_sumOf 25 = .ok (.iload_n 3, 1) := by decide +kernel
theorem dX2_sumOf_26 : decode cX2_sumOf 26 = .ok (.aload_n 0, 1) := by decide +kernel
theorem dX2_sumOf_27 : decode cX2_sumOf 27 = .ok (.iload 4, 2) := by decide +kernel
theorem dX2_sumOf_29 : decode cX2_sumOf 29 = .ok (.iconst 2, 1) := by decide +kernel
theorem dX2_sumOf_30 : decode cX2_sumOf 30 = .ok (.invokevirtual 67, 3) := by decide +kernel
theorem dX2_sumOf_33 : decode cX2_sumOf 33 = .ok (.iadd, 1) := by decide +kernel
theorem dX2_sumOf_34 : decode cX2_sumOf 34 = .ok (.istore_n 3, 1) := by decide +kernel
theorem dX2_sumOf_35 : decode cX2_sumOf 35 = .ok (.iinc 4 1, 3) := by decide +kernel
theorem dX2_sumOf_38 : decode cX2_sumOf 38 = .ok (.goto (-33), 3) := by decide +kernel
theorem dX2_sumOf_41 : decode cX2_sumOf 41 = .ok (.iload_n 3, 1) := by decide +kernel
theorem dX2_sumOf_42 : decode cX2_sumOf 42 = .ok (.ireturn, 1) := by decide +kernel
theorem dX4_init_0 : decode cX4_init 0 = .ok (.aload_n 0, 1) := by decide +kernel
theorem dX4_init_1 : decode cX4_init 1 = .ok (.invokespecial 3, 3) := by decide +kernel
theorem dX4_init_4 : decode cX4_init 4 = .ok (.aload_n 0, 1) := by decide +kernel
theorem dX4_init_5 : decode cX4_init 5 = .ok (.bipush 60, 2) := by decide +kernel
theorem dX4_init_7 : decode cX4_init 7 = .ok (.newarray .char, 2) := by decide +kernel
theorem dX4_init_9 : decode cX4_init 9 = .ok (.putfield 9, 3) := by decide +kernel
theorem dX4_init_12 : decode cX4_init 12 = .ok (.return_, 1) := by decide +kernel
theorem dX4_put_0 : decode cX4_put 0 = .ok (.aload_n 0, 1) := by decide +kernel
theorem dX4_put_1 : decode cX4_put 1 = .ok (.getfield 15, 3) := by decide +kernel
theorem dX4_put_4 : decode cX4_put 4 = .ok (.bipush 60, 2) := by decide +kernel
theorem dX4_put_6 : decode cX4_put 6 = .ok (.if_icmp .ge 23, 3) := by decide +kernel
theorem dX4_put_9 : decode cX4_put 9 = .ok (.aload_n 0, 1) := by decide +kernel
theorem dX4_put_10 : decode cX4_put 10 = .ok (.getfield 9, 3) := by decide +kernel
theorem dX4_put_13 : decode cX4_put 13 = .ok (.aload_n 0, 1) := by decide +kernel
theorem dX4_put_14 : decode cX4_put 14 = .ok (.getfield 15, 3) := by decide +kernel
theorem dX4_put_17 : decode cX4_put 17 = .ok (.iload_n 1, 1) := by decide +kernel
theorem dX4_put_18 : decode cX4_put 18 = .ok (.castore, 1) := by decide +kernel
theorem dX4_put_19 : decode cX4_put 19 = .ok (.aload_n 0, 1) := by decide +kernel
theorem dX4_put_20 : decode cX4_put 20 = .ok (.dup, 1) := by decide +kernel
theorem dX4_put_21 : decode cX4_put 21 = .ok (.getfield 15, 3) := by decide +kernel
theorem dX4_put_24 : decode cX4_put 24 = .ok (.iconst 1, 1) := by decide +kernel
theorem dX4_put_25 : decode cX4_put 25 = .ok (.iadd, 1) := by decide +kernel
theorem dX4_put_26 : decode cX4_put 26 = .ok (.putfield 15, 3) := by decide +kernel
theorem dX4_put_29 : decode cX4_put 29 = .ok (.return_, 1) := by decide +kernel
theorem dX4_signAt_0 : decode cX4_signAt 0 = .ok (.iload_n 1, 1) := by decide +kernel
theorem dX4_signAt_1 : decode cX4_signAt 1 = .ok (.ifCond .lt 20, 3) := by decide +kernel
theorem dX4_signAt_4 : decode cX4_signAt 4 = .ok (.iload_n 1, 1) := by decide +kernel
theorem dX4_signAt_5 : decode cX4_signAt 5 = .ok (.aload_n 0, 1) := by decide +kernel
theorem dX4_signAt_6 : decode cX4_signAt 6 = .ok (.getfield 15, 3) := by decide +kernel
theorem dX4_signAt_9 : decode cX4_signAt 9 = .ok (.if_icmp .ge 12, 3) := by decide +kernel
theorem dX4_signAt_12 : decode cX4_signAt 12 = .ok (.aload_n 0, 1) := by decide +kernel
theorem dX4_signAt_13 : decode cX4_signAt 13 = .ok (.getfield 9, 3) := by decide +kernel
theorem dX4_signAt_16 : decode cX4_signAt 16 = .ok (.iload_n 1, 1) := by decide +kernel
theorem dX4_signAt_17 : decode cX4_signAt 17 = .ok (.caload, 1) := by decide +kernel
theorem dX4_signAt_18 : decode cX4_signAt 18 = .ok (.goto 5, 3) := by decide +kernel
theorem dX4_signAt_21 : decode cX4_signAt 21 = .ok (.bipush 32, 2) := by decide +kernel
theorem dX4_signAt_23 : decode cX4_signAt 23 = .ok (.ireturn, 1) := by decide +kernel
theorem dX4_errorAt_0 : decode cX4_errorAt 0 = .ok (.getstatic 19, 3) := by decide +kernel
theorem dX4_errorAt_3 : decode cX4_errorAt 3 = .ok (.astore_n 1, 1) := by decide +kernel
theorem dX4_errorAt_4 : decode cX4_errorAt 4 = .ok (.iconst 0, 1) := by decide +kernel
theorem dX4_errorAt_5 : decode cX4_errorAt 5 = .ok (.istore_n 2, 1) := by decide +kernel
theorem dX4_errorAt_6 : decode cX4_errorAt 6 = .ok (.iload_n 2, 1) := by decide +kernel
theorem dX4_errorAt_7 : decode cX4_errorAt 7 = .ok (.aload_n 0, 1) := by decide +kernel
theorem dX4_errorAt_8 : decode cX4_errorAt 8 = .ok (.getfield 15, 3) := by decide +kernel
theorem dX4_errorAt_11 : decode cX4_errorAt 11 = .ok (.if_icmp .ge 25, 3) := by decide +kernel
theorem dX4_errorAt_14 : decode cX4_errorAt 14 = .ok (.aload_n 0, 1) := by decide +kernel
theorem dX4_errorAt_15 : decode cX4_errorAt 15 = .ok (.aload_n 1, 1) := by decide +kernel
theorem dX4_errorAt_16 : decode cX4_errorAt 16 = .ok (.iload_n 2, 1) := by decide +kernel
theorem dX4_errorAt_17 : decode cX4_errorAt 17 = .ok (.invokevirtual 25, 3) := by decide +kernel
theorem dX4_errorAt_20 : decode cX4_errorAt 20 = .ok (.astore_n 1, 1) := by decide +kernel
theorem dX4_errorAt_21 : decode cX4_errorAt 21 = .ok (.aload_n 1, 1) := by decide +kernel
theorem dX4_errorAt_22 : decode cX4_errorAt 22 = .ok (.getstatic 29, 3) := by decide +kernel
theorem dX4_errorAt_25 : decode cX4_errorAt 25 = .ok (.if_acmp .ne 5, 3) := by decide +kernel
theorem dX4_errorAt_28 : decode cX4_errorAt 28 = .ok (.iload_n 2, 1) := by decide +kernel
theorem dX4_errorAt_29 : decode cX4_errorAt 29 = .ok (.ireturn, 1) := by decide +kernel
theorem dX4_errorAt_30 : decode cX4_errorAt 30 = .ok (.iinc 2 1, 3) := by decide +kernel
theorem dX4_errorAt_33 : decode cX4_errorAt 33 = .ok (.goto (-27), 3) := by decide +kernel
theorem dX4_errorAt_36 : decode cX4_errorAt 36 = .ok (.aload_n 0, 1) := by decide +kernel
theorem dX4_errorAt_37 : decode cX4_errorAt 37 = .ok (.getfield 15, 3) := by decide +kernel
theorem dX4_errorAt_40 : decode cX4_errorAt 40 = .ok (.ireturn, 1) := by decide +kernel
theorem dX4_tellsOrders_0 : decode cX4_tellsOrders 0 = .ok (.getstatic 19, 3) := by decide +kernel
theorem dX4_tellsOrders_3 : decode cX4_tellsOrders 3 = .ok (.astore_n 1, 1) := by decide +kernel
theorem dX4_tellsOrders_4 : decode cX4_tellsOrders 4 = .ok (.iconst 0, 1) := by decide +kernel
theorem dX4_tellsOrders_5 : decode cX4_tellsOrders 5 = .ok (.istore_n 2, 1) := by decide +kernel
theorem dX4_tellsOrders_6 : decode cX4_tellsOrders 6 = .ok (.iload_n 2, 1) := by decide +kernel
theorem dX4_tellsOrders_7 : decode cX4_tellsOrders 7 = .ok (.aload_n 0, 1) := by decide +kernel
theorem dX4_tellsOrders_8 : decode cX4_tellsOrders 8 = .ok (.getfield 15, 3) := by decide +kernel
theorem dX4_tellsOrders_11 : decode cX4_tellsOrders 11 = .ok (.if_icmp .ge 16, 3) := by decide +kernel
theorem dX4_tellsOrders_14 : decode cX4_tellsOrders 14 = .ok (.aload_n 0, 1) := by decide +kernel
theorem dX4_tellsOrders_15 : decode cX4_tellsOrders 15 = .ok (.aload_n 1, 1) := by decide +kernel
theorem dX4_tellsOrders_16 : decode cX4_tellsOrders 16 = .ok (.iload_n 2, 1) := by decide +kernel
theorem dX4_tellsOrders_17 : decode cX4_tellsOrders 17 = .ok (.invokevirtual 25, 3) := by decide +kernel
theorem dX4_tellsOrders_20 : decode cX4_tellsOrders 20 = .ok (.astore_n 1, 1) := by decide +kernel
theorem dX4_tellsOrders_21 : decode cX4_tellsOrders 21 = .ok (.iinc 2 1, 3) := by decide +kernel
theorem dX4_tellsOrders_24 : decode cX4_tellsOrders 24 = .ok (.goto (-18), 3) := by decide +kernel
theorem dX4_tellsOrders_27 : decode cX4_tellsOrders 27 = .ok (.aload_n 1, 1) := by decide +kernel
theorem dX4_tellsOrders_28 : decode cX4_tellsOrders 28 = .ok (.getstatic 32, 3) := by decide +kernel
theorem dX4_tellsOrders_31 : decode cX4_tellsOrders 31 = .ok (.if_acmp .ne 7, 3) := by decide +kernel
theorem dX4_tellsOrders_34 : decode cX4_tellsOrders 34 = .ok (.iconst 1, 1) := by decide +kernel
theorem dX4_tellsOrders_35 : decode cX4_tellsOrders 35 = .ok (.goto 4, 3) := by decide +kernel
theorem dX4_tellsOrders_38 : decode cX4_tellsOrders 38 = .ok (.iconst 0, 1) := by decide +kernel
theorem dX4_tellsOrders_39 : decode cX4_tellsOrders 39 = .ok (.ireturn, 1) := by decide +kernel
theorem dX4_stepBehind_0 : decode cX4_stepBehind 0 = .ok (.aload_n 0, 1) := by decide +kernel
theorem dX4_stepBehind_1 : decode cX4_stepBehind 1 = .ok (.iload_n 2, 1) := by decide +kernel
theorem dX4_stepBehind_2 : decode cX4_stepBehind 2 = .ok (.invokevirtual 35, 3) := by decide +kernel
theorem dX4_stepBehind_5 : decode cX4_stepBehind 5 = .ok (.istore_n 3, 1) := by decide +kernel
theorem dX4_stepBehind_6 : decode cX4_stepBehind 6 = .ok (.getstatic 39, 3) := by decide +kernel
theorem dX4_stepBehind_9 : decode cX4_stepBehind 9 = .ok (.aload_n 1, 1) := by decide +kernel
theorem dX4_stepBehind_10 : decode cX4_stepBehind 10 = .ok (.invokevirtual 45, 3) := by decide +kernel
theorem dX4_stepBehind_13 : decode cX4_stepBehind 13 = .ok (.iaload, 1) := by decide +kernel
theorem dX4_stepBehind_14 : decode cX4_stepBehind 14 = .ok (.tableswitch 216 1 12 #[62, 67, 79, 79, 91, 103, 132, 144, 156, 180, 192, 204], 62) := by decide +kernel
theorem dX4_stepBehind_76 : decode cX4_stepBehind 76 = .ok (.iload_n 3, 1) := by decide +kernel
theorem dX4_stepBehind_77 : decode cX4_stepBehind 77 = .ok (.invokestatic 49, 3) := by decide +kernel
theorem dX4_stepBehind_80 : decode cX4_stepBehind 80 = .ok (.areturn, 1) := by decide +kernel
theorem dX4_stepBehind_81 : decode cX4_stepBehind 81 = .ok (.iload_n 3, 1) := by decide +kernel
theorem dX4_stepBehind_82 : decode cX4_stepBehind 82 = .ok (.bipush 48, 2) := by decide +kernel
theorem dX4_stepBehind_84 : decode cX4_stepBehind 84 = .ok (.bipush 55, 2) := by decide +kernel
theorem dX4_stepBehind_86 : decode cX4_stepBehind 86 = .ok (.getstatic 53, 3) := by decide +kernel
theorem dX4_stepBehind_89 : decode cX4_stepBehind 89 = .ok (.invokestatic 56, 3) := by decide +kernel
theorem dX4_stepBehind_92 : decode cX4_stepBehind 92 = .ok (.areturn, 1) := by decide +kernel
theorem dX4_stepBehind_93 : decode cX4_stepBehind 93 = .ok (.iload_n 3, 1) := by decide +kernel
theorem dX4_stepBehind_94 : decode cX4_stepBehind 94 = .ok (.bipush 48, 2) := by decide +kernel
theorem dX4_stepBehind_96 : decode cX4_stepBehind 96 = .ok (.bipush 55, 2) := by decide +kernel
theorem dX4_stepBehind_98 : decode cX4_stepBehind 98 = .ok (.getstatic 32, 3) := by decide +kernel
theorem dX4_stepBehind_101 : decode cX4_stepBehind 101 = .ok (.invokestatic 56, 3) := by decide +kernel
theorem dX4_stepBehind_104 : decode cX4_stepBehind 104 = .ok (.areturn, 1) := by decide +kernel
theorem dX4_stepBehind_105 : decode cX4_stepBehind 105 = .ok (.iload_n 3, 1) := by decide +kernel
theorem dX4_stepBehind_106 : decode cX4_stepBehind 106 = .ok (.bipush 48, 2) := by decide +kernel
theorem dX4_stepBehind_108 : decode cX4_stepBehind 108 = .ok (.bipush 55, 2) := by decide +kernel
theorem dX4_stepBehind_110 : decode cX4_stepBehind 110 = .ok (.getstatic 60, 3) := by decide +kernel
theorem dX4_stepBehind_113 : decode cX4_stepBehind 113 = .ok (.invokestatic 56, 3) := by decide +kernel
theorem dX4_stepBehind_116 : decode cX4_stepBehind 116 = .ok (.areturn, 1) := by decide +kernel
theorem dX4_stepBehind_117 : decode cX4_stepBehind 117 = .ok (.iload_n 3, 1) := by decide +kernel
theorem dX4_stepBehind_118 : decode cX4_stepBehind 118 = .ok (.aload_n 0, 1) := by decide +kernel
theorem dX4_stepBehind_119 : decode cX4_stepBehind 119 = .ok (.iload_n 2, 1) := by decide +kernel
theorem dX4_stepBehind_120 : decode cX4_stepBehind 120 = .ok (.iconst 1, 1) := by decide +kernel
theorem dX4_stepBehind_121 : decode cX4_stepBehind 121 = .ok (.isub, 1) := by decide +kernel
theorem dX4_stepBehind_122 : decode cX4_stepBehind 122 = .ok (.invokevirtual 35, 3) := by decide +kernel
theorem dX4_stepBehind_125 : decode cX4_stepBehind 125 = .ok (.if_icmp .ne 9, 3) := by decide +kernel
theorem dX4_stepBehind_128 : decode cX4_stepBehind 128 = .ok (.getstatic 29, 3) := by decide +kernel
theorem dX4_stepBehind_131 : decode cX4_stepBehind 131 = .ok (.goto 14, 3) := by decide +kernel
theorem dX4_stepBehind_134 : decode cX4_stepBehind 134 = .ok (.iload_n 3, 1) := by decide +kernel
theorem dX4_stepBehind_135 : decode cX4_stepBehind 135 = .ok (.bipush 48, 2) := by decide +kernel
theorem dX4_stepBehind_137 : decode cX4_stepBehind 137 = .ok (.bipush 55, 2) := by decide +kernel
theorem dX4_stepBehind_139 : decode cX4_stepBehind 139 = .ok (.getstatic 63, 3) := by decide +kernel
theorem dX4_stepBehind_142 : decode cX4_stepBehind 142 = .ok (.invokestatic 56, 3) := by decide +kernel
theorem dX4_stepBehind_145 : decode cX4_stepBehind 145 = .ok (.areturn, 1) := by decide +kernel
theorem dX4_stepBehind_146 : decode cX4_stepBehind 146 = .ok (.iload_n 3, 1) := by decide +kernel
theorem dX4_stepBehind_147 : decode cX4_stepBehind 147 = .ok (.bipush 61, 2) := by decide +kernel
theorem dX4_stepBehind_149 : decode cX4_stepBehind 149 = .ok (.bipush 61, 2) := by decide +kernel
theorem dX4_stepBehind_151 : decode cX4_stepBehind 151 = .ok (.getstatic 66, 3) := by decide +kernel
theorem dX4_stepBehind_154 : decode cX4_stepBehind 154 = .ok (.invokestatic 56, 3) := by decide +kernel
theorem dX4_stepBehind_157 : decode cX4_stepBehind 157 = .ok (.areturn, 1) := by decide +kernel
theorem dX4_stepBehind_158 : decode cX4_stepBehind 158 = .ok (.iload_n 3, 1) := by decide +kernel
theorem dX4_stepBehind_159 : decode cX4_stepBehind 159 = .ok (.bipush 49, 2) := by decide +kernel
theorem dX4_stepBehind_161 : decode cX4_stepBehind 161 = .ok (.bipush 57, 2) := by decide +kernel
theorem dX4_stepBehind_163 : decode cX4_stepBehind 163 = .ok (.getstatic 69, 3) := by decide +kernel
theorem dX4_stepBehind_166 : decode cX4_stepBehind 166 = .ok (.invokestatic 56, 3) := by decide +kernel
theorem dX4_stepBehind_169 : decode cX4_stepBehind 169 = .ok (.areturn, 1) := by decide +kernel
theorem dX4_stepBehind_170 : decode cX4_stepBehind 170 = .ok (.iload_n 3, 1) := by decide +kernel
theorem dX4_stepBehind_171 : decode cX4_stepBehind 171 = .ok (.bipush 47, 2) := by decide +kernel
theorem dX4_stepBehind_173 : decode cX4_stepBehind 173 = .ok (.if_icmp .ne 9, 3) := by decide +kernel
theorem dX4_stepBehind_176 : decode cX4_stepBehind 176 = .ok (.getstatic 72, 3) := by decide +kernel
theorem dX4_stepBehind_179 : decode cX4_stepBehind 179 = .ok (.goto 14, 3) := by decide +kernel
theorem dX4_stepBehind_182 : decode cX4_stepBehind 182 = .ok (.iload_n 3, 1) := by decide +kernel
theorem dX4_stepBehind_183 : decode cX4_stepBehind 183 = .ok (.bipush 48, 2) := by decide +kernel
theorem dX4_stepBehind_185 : decode cX4_stepBehind 185 = .ok (.bipush 57, 2) := by decide +kernel
theorem dX4_stepBehind_187 : decode cX4_stepBehind 187 = .ok (.getstatic 75, 3) := by decide +kernel
theorem dX4_stepBehind_190 : decode cX4_stepBehind 190 = .ok (.invokestatic 56, 3) := by decide +kernel
theorem dX4_stepBehind_193 : decode cX4_stepBehind 193 = .ok (.areturn, 1) := by decide +kernel
theorem dX4_stepBehind_194 : decode cX4_stepBehind 194 = .ok (.iload_n 3, 1) := by decide +kernel
theorem dX4_stepBehind_195 : decode cX4_stepBehind 195 = .ok (.bipush 47, 2) := by decide +kernel
theorem dX4_stepBehind_197 : decode cX4_stepBehind 197 = .ok (.bipush 47, 2) := by decide +kernel
theorem dX4_stepBehind_199 : decode cX4_stepBehind 199 = .ok (.getstatic 72, 3) := by decide +kernel
theorem dX4_stepBehind_202 : decode cX4_stepBehind 202 = .ok (.invokestatic 56, 3) := by decide +kernel
theorem dX4_stepBehind_205 : decode cX4_stepBehind 205 = .ok (.areturn, 1) := by decide +kernel
theorem dX4_stepBehind_206 : decode cX4_stepBehind 206 = .ok (.iload_n 3, 1) := by decide +kernel
theorem dX4_stepBehind_207 : decode cX4_stepBehind 207 = .ok (.bipush 48, 2) := by decide +kernel
theorem dX4_stepBehind_209 : decode cX4_stepBehind 209 = .ok (.bipush 57, 2) := by decide +kernel
theorem dX4_stepBehind_211 : decode cX4_stepBehind 211 = .ok (.getstatic 32, 3) := by decide +kernel
theorem dX4_stepBehind_214 : decode cX4_stepBehind 214 = .ok (.invokestatic 56, 3) := by decide +kernel
theorem dX4_stepBehind_217 : decode cX4_stepBehind 217 = .ok (.areturn, 1) := by decide +kernel
theorem dX4_stepBehind_218 : decode cX4_stepBehind 218 = .ok (.iload_n 3, 1) := by decide +kernel
theorem dX4_stepBehind_219 : decode cX4_stepBehind 219 = .ok (.bipush 59, 2) := by decide +kernel
theorem dX4_stepBehind_221 : decode cX4_stepBehind 221 = .ok (.bipush 59, 2) := by decide +kernel
theorem dX4_stepBehind_223 : decode cX4_stepBehind 223 = .ok (.getstatic 19, 3) := by decide +kernel
theorem dX4_stepBehind_226 : decode cX4_stepBehind 226 = .ok (.invokestatic 56, 3) := by decide +kernel
theorem dX4_stepBehind_229 : decode cX4_stepBehind 229 = .ok (.areturn, 1) := by decide +kernel
theorem dX4_stepBehind_230 : decode cX4_stepBehind 230 = .ok (.getstatic 29, 3) := by decide +kernel
theorem dX4_stepBehind_233 : decode cX4_stepBehind 233 = .ok (.areturn, 1) := by decide +kernel
theorem dX4_stepInto_0 : decode cX4_stepInto 0 = .ok (.iload_n 0, 1) := by decide +kernel
theorem dX4_stepInto_1 : decode cX4_stepInto 1 = .ok (.lookupswitch 59 #[(107, 55), (112, 51), (115, 43), (120, 47)], 43) := by decide +kernel
theorem dX4_stepInto_44 : decode cX4_stepInto 44 = .ok (.getstatic 32, 3) := by decide +kernel
theorem dX4_stepInto_47 : decode cX4_stepInto 47 = .ok (.areturn, 1) := by decide +kernel
theorem dX4_stepInto_48 : decode cX4_stepInto 48 = .ok (.getstatic 78, 3) := by decide +kernel
theorem dX4_stepInto_51 : decode cX4_stepInto 51 = .ok (.areturn, 1) := by decide +kernel
theorem dX4_stepInto_52 : decode cX4_stepInto 52 = .ok (.getstatic 81, 3) := by decide +kernel
theorem dX4_stepInto_55 : decode cX4_stepInto 55 = .ok (.areturn, 1) := by decide +kernel
theorem dX4_stepInto_56 : decode cX4_stepInto 56 = .ok (.getstatic 84, 3) := by decide +kernel
theorem dX4_stepInto_59 : decode cX4_stepInto 59 = .ok (.areturn, 1) := by decide +kernel
theorem dX4_stepInto_60 : decode cX4_stepInto 60 = .ok (.getstatic 29, 3) := by decide +kernel
theorem dX4_stepInto_63 : decode cX4_stepInto 63 = .ok (.areturn, 1) := by decide +kernel
theorem dX4_ifIn_0 : decode cX4_ifIn 0 = .ok (.iload_n 0, 1) := by decide +kernel
theorem dX4_ifIn_1 : decode cX4_ifIn 1 = .ok (.iload_n 1, 1) := by decide +kernel
theorem dX4_ifIn_2 : decode cX4_ifIn 2 = .ok (.if_icmp .lt 12, 3) := by decide +kernel
theorem dX4_ifIn_5 : decode cX4_ifIn 5 = .ok (.iload_n 0, 1) := by decide +kernel
theorem dX4_ifIn_6 : decode cX4_ifIn 6 = .ok (.iload_n 2, 1) := by decide +kernel
theorem dX4_ifIn_7 : decode cX4_ifIn 7 = .ok (.if_icmp .gt 7, 3) := by decide +kernel
theorem dX4_ifIn_10 : decode cX4_ifIn 10 = .ok (.aload_n 3, 1) := by decide +kernel
theorem dX4_ifIn_11 : decode cX4_ifIn 11 = .ok (.goto 6, 3) := by decide +kernel
theorem dX4_ifIn_14 : decode cX4_ifIn 14 = .ok (.getstatic 29, 3) := by decide +kernel
theorem dX4_ifIn_17 : decode cX4_ifIn 17 = .ok (.areturn, 1) := by decide +kernel
theorem dX4_nextOrder_0 : decode cX4_nextOrder 0 = .ok (.iload_n 1, 1) := by decide +kernel
theorem dX4_nextOrder_1 : decode cX4_nextOrder 1 = .ok (.istore_n 2, 1) := by decide +kernel
theorem dX4_nextOrder_2 : decode cX4_nextOrder 2 = .ok (.iload_n 2, 1) := by decide +kernel
theorem dX4_nextOrder_3 : decode cX4_nextOrder 3 = .ok (.aload_n 0, 1) := by decide +kernel
theorem dX4_nextOrder_4 : decode cX4_nextOrder 4 = .ok (.getfield 15, 3) := by decide +kernel
theorem dX4_nextOrder_7 : decode cX4_nextOrder 7 = .ok (.if_icmp .ge 19, 3) := by decide +kernel
theorem dX4_nextOrder_10 : decode cX4_nextOrder 10 = .ok (.aload_n 0, 1) := by decide +kernel
theorem dX4_nextOrder_11 : decode cX4_nextOrder 11 = .ok (.iload_n 2, 1) := by decide +kernel
theorem dX4_nextOrder_12 : decode cX4_nextOrder 12 = .ok (.invokevirtual 35, 3) := by decide +kernel
theorem dX4_nextOrder_15 : decode cX4_nextOrder 15 = .ok (.bipush 59, 2) := by decide +kernel
theorem dX4_nextOrder_17 : decode cX4_nextOrder 17 = .ok (.if_icmp .eq 9, 3) := by decide +kernel
theorem dX4_nextOrder_20 : decode cX4_nextOrder 20 = .ok (.iinc 2 1, 3) := by decide +kernel
theorem dX4_nextOrder_23 : decode cX4_nextOrder 23 = .ok (.goto (-21), 3) := by decide +kernel
theorem dX4_nextOrder_26 : decode cX4_nextOrder 26 = .ok (.iload_n 2, 1) := by decide +kernel
theorem dX4_nextOrder_27 : decode cX4_nextOrder 27 = .ok (.iconst 1, 1) := by decide +kernel
theorem dX4_nextOrder_28 : decode cX4_nextOrder 28 = .ok (.iadd, 1) := by decide +kernel
theorem dX4_nextOrder_29 : decode cX4_nextOrder 29 = .ok (.ireturn, 1) := by decide +kernel
theorem dX4_digitAt_0 : decode cX4_digitAt 0 = .ok (.aload_n 0, 1) := by decide +kernel
theorem dX4_digitAt_1 : decode cX4_digitAt 1 = .ok (.iload_n 1, 1) := by decide +kernel
theorem dX4_digitAt_2 : decode cX4_digitAt 2 = .ok (.invokevirtual 35, 3) := by decide +kernel
theorem dX4_digitAt_5 : decode cX4_digitAt 5 = .ok (.istore_n 2, 1) := by decide +kernel
theorem dX4_digitAt_6 : decode cX4_digitAt 6 = .ok (.iload_n 2, 1) := by decide +kernel
theorem dX4_digitAt_7 : decode cX4_digitAt 7 = .ok (.bipush 48, 2) := by decide +kernel
theorem dX4_digitAt_9 : decode cX4_digitAt 9 = .ok (.if_icmp .lt 16, 3) := by decide +kernel
theorem dX4_digitAt_12 : decode cX4_digitAt 12 = .ok (.iload_n 2, 1) := by decide +kernel
theorem dX4_digitAt_13 : decode cX4_digitAt 13 = .ok (.bipush 57, 2) := by decide +kernel
theorem dX4_digitAt_15 : decode cX4_digitAt 15 = .ok (.if_icmp .gt 10, 3) := by decide +kernel
theorem dX4_digitAt_18 : decode cX4_digitAt 18 = .ok (.iload_n 2, 1) := by decide +kernel
theorem dX4_digitAt_19 : decode cX4_digitAt 19 = .ok (.bipush 48, 2) := by decide +kernel
theorem dX4_digitAt_21 : decode cX4_digitAt 21 = .ok (.isub, 1) := by decide +kernel
theorem dX4_digitAt_22 : decode cX4_digitAt 22 = .ok (.goto 4, 3) := by decide +kernel
theorem dX4_digitAt_25 : decode cX4_digitAt 25 = .ok (.iconst (-1), 1) := by decide +kernel
theorem dX4_digitAt_26 : decode cX4_digitAt 26 = .ok (.ireturn, 1) := by decide +kernel
theorem dX4_sumOfOrder_0 : decode cX4_sumOfOrder 0 = .ok (.aload_n 0, 1) := by decide +kernel
theorem dX4_sumOfOrder_1 : decode cX4_sumOfOrder 1 = .ok (.iload_n 1, 1) := by decide +kernel
theorem dX4_sumOfOrder_2 : decode cX4_sumOfOrder 2 = .ok (.iconst 4, 1) := by decide +kernel
theorem dX4_sumOfOrder_3 : decode cX4_sumOfOrder 3 = .ok (.iadd, 1) := by decide +kernel
theorem dX4_sumOfOrder_4 : decode cX4_sumOfOrder 4 = .ok (.invokevirtual 87, 3) := by decide +kernel
theorem dX4_sumOfOrder_7 : decode cX4_sumOfOrder 7 = .ok (.istore_n 2, 1) := by decide +kernel
theorem dX4_sumOfOrder_8 : decode cX4_sumOfOrder 8 = .ok (.aload_n 0, 1) := by decide +kernel
theorem dX4_sumOfOrder_9 : decode cX4_sumOfOrder 9 = .ok (.iload_n 1, 1) := by decide +kernel
theorem dX4_sumOfOrder_10 : decode cX4_sumOfOrder 10 = .ok (.iconst 5, 1) := by decide +kernel
theorem dX4_sumOfOrder_11 : decode cX4_sumOfOrder 11 = .ok (.iadd, 1) := by decide +kernel
theorem dX4_sumOfOrder_12 : decode cX4_sumOfOrder 12 = .ok (.invokevirtual 87, 3) := by decide +kernel
theorem dX4_sumOfOrder_15 : decode cX4_sumOfOrder 15 = .ok (.istore_n 3, 1) := by decide +kernel
theorem dX4_sumOfOrder_16 : decode cX4_sumOfOrder 16 = .ok (.iload_n 3, 1) := by decide +kernel
theorem dX4_sumOfOrder_17 : decode cX4_sumOfOrder 17 = .ok (.iconst (-1), 1) := by decide +kernel
theorem dX4_sumOfOrder_18 : decode cX4_sumOfOrder 18 = .ok (.if_icmp .ne 7, 3) := by decide +kernel
theorem dX4_sumOfOrder_21 : decode cX4_sumOfOrder 21 = .ok (.iload_n 2, 1) := by decide +kernel
theorem dX4_sumOfOrder_22 : decode cX4_sumOfOrder 22 = .ok (.goto 9, 3) := by decide +kernel
theorem dX4_sumOfOrder_25 : decode cX4_sumOfOrder 25 = .ok (.iload_n 2, 1) := by decide +kernel
theorem dX4_sumOfOrder_26 : decode cX4_sumOfOrder 26 = .ok (.bipush 10, 2) := by decide +kernel
theorem dX4_sumOfOrder_28 : decode cX4_sumOfOrder 28 = .ok (.imul, 1) := by decide +kernel
theorem dX4_sumOfOrder_29 : decode cX4_sumOfOrder 29 = .ok (.iload_n 3, 1) := by decide +kernel
theorem dX4_sumOfOrder_30 : decode cX4_sumOfOrder 30 = .ok (.iadd, 1) := by decide +kernel
theorem dX4_sumOfOrder_31 : decode cX4_sumOfOrder 31 = .ok (.ireturn, 1) := by decide +kernel
theorem dX4_daysOfOrder_0 : decode cX4_daysOfOrder 0 = .ok (.aload_n 0, 1) := by decide +kernel
theorem dX4_daysOfOrder_1 : decode cX4_daysOfOrder 1 = .ok (.aload_n 0, 1) := by decide +kernel
theorem dX4_daysOfOrder_2 : decode cX4_daysOfOrder 2 = .ok (.iload_n 1, 1) := by decide +kernel
theorem dX4_daysOfOrder_3 : decode cX4_daysOfOrder 3 = .ok (.iconst 5, 1) := by decide +kernel
theorem dX4_daysOfOrder_4 : decode cX4_daysOfOrder 4 = .ok (.iadd, 1) := by decide +kernel
theorem dX4_daysOfOrder_5 : decode cX4_daysOfOrder 5 = .ok (.invokevirtual 87, 3) := by decide +kernel
theorem dX4_daysOfOrder_8 : decode cX4_daysOfOrder 8 = .ok (.iconst (-1), 1) := by decide +kernel
theorem dX4_daysOfOrder_9 : decode cX4_daysOfOrder 9 = .ok (.if_icmp .ne 10, 3) := by decide +kernel
theorem dX4_daysOfOrder_12 : decode cX4_daysOfOrder 12 = .ok (.iload_n 1, 1) := by decide +kernel
theorem dX4_daysOfOrder_13 : decode cX4_daysOfOrder 13 = .ok (.bipush 6, 2) := by decide +kernel
theorem dX4_daysOfOrder_15 : decode cX4_daysOfOrder 15 = .ok (.iadd, 1) := by decide +kernel
theorem dX4_daysOfOrder_16 : decode cX4_daysOfOrder 16 = .ok (.goto 7, 3) := by decide +kernel
theorem dX4_daysOfOrder_19 : decode cX4_daysOfOrder 19 = .ok (.iload_n 1, 1) := by decide +kernel
theorem dX4_daysOfOrder_20 : decode cX4_daysOfOrder 20 = .ok (.bipush 7, 2) := by decide +kernel
theorem dX4_daysOfOrder_22 : decode cX4_daysOfOrder 22 = .ok (.iadd, 1) := by decide +kernel
theorem dX4_daysOfOrder_23 : decode cX4_daysOfOrder 23 = .ok (.invokevirtual 87, 3) := by decide +kernel
theorem dX4_daysOfOrder_26 : decode cX4_daysOfOrder 26 = .ok (.ireturn, 1) := by decide +kernel
theorem dX5_init_0 : decode cX5_init 0 = .ok (.aload_n 0, 1) := by decide +kernel
theorem dX5_init_1 : decode cX5_init 1 = .ok (.invokespecial 3, 3) := by decide +kernel
theorem dX5_init_4 : decode cX5_init 4 = .ok (.aload_n 0, 1) := by decide +kernel
theorem dX5_init_5 : decode cX5_init 5 = .ok (.bipush 100, 2) := by decide +kernel
theorem dX5_init_7 : decode cX5_init 7 = .ok (.newarray .int, 2) := by decide +kernel
theorem dX5_init_9 : decode cX5_init 9 = .ok (.putfield 9, 3) := by decide +kernel
theorem dX5_init_12 : decode cX5_init 12 = .ok (.aload_n 0, 1) := by decide +kernel
theorem dX5_init_13 : decode cX5_init 13 = .ok (.iconst 4, 1) := by decide +kernel
theorem dX5_init_14 : decode cX5_init 14 = .ok (.newarray .int, 2) := by decide +kernel
theorem dX5_init_16 : decode cX5_init 16 = .ok (.putfield 15, 3) := by decide +kernel
theorem dX5_init_19 : decode cX5_init 19 = .ok (.return_, 1) := by decide +kernel
theorem dX5_leastByColours_0 : decode cX5_leastByColours 0 = .ok (.aload_n 0, 1) := by decide +kernel
theorem dX5_leastByColours_1 : decode cX5_leastByColours 1 = .ok (.getfield 9, 3) := by decide +kernel
theorem dX5_leastByColours_4 : decode cX5_leastByColours 4 = .ok (.iconst 0, 1) := by decide +kernel
theorem dX5_leastByColours_5 : decode cX5_leastByColours 5 = .ok (.iconst 0, 1) := by decide +kernel
theorem dX5_leastByColours_6 : decode cX5_leastByColours 6 = .ok (.iastore, 1) := by decide +kernel
theorem dX5_leastByColours_7 : decode cX5_leastByColours 7 = .ok (.iconst 1, 1) := by decide +kernel
theorem dX5_leastByColours_8 : decode cX5_leastByColours 8 = .ok (.istore 4, 2) := by decide +kernel
theorem dX5_leastByColours_10 : decode cX5_leastByColours 10 = .ok (.iload 4, 2) := by decide +kernel
theorem dX5_leastByColours_12 : decode cX5_leastByColours 12 = .ok (.iload_n 3, 1) := by decide +kernel
theorem dX5_leastByColours_13 : decode cX5_leastByColours 13 = .ok (.if_icmp .gt 18, 3) := by decide +kernel
theorem dX5_leastByColours_16 : decode cX5_leastByColours 16 = .ok (.aload_n 0, 1) := by decide +kernel
theorem dX5_leastByColours_17 : decode cX5_leastByColours 17 = .ok (.getfield 9, 3) := by decide +kernel
theorem dX5_leastByColours_20 : decode cX5_leastByColours 20 = .ok (.iload 4, 2) := by decide +kernel
theorem dX5_leastByColours_22 : decode cX5_leastByColours 22 = .ok (.ldc 18, 2) := by decide +kernel
theorem dX5_leastByColours_24 : decode cX5_leastByColours 24 = .ok (.iastore, 1) := by decide +kernel
theorem dX5_leastByColours_25 : decode cX5_leastByColours 25 = .ok (.iinc 4 1, 3) := by decide +kernel
theorem dX5_leastByColours_28 : decode cX5_leastByColours 28 = .ok (.goto (-18), 3) := by decide +kernel
theorem dX5_leastByColours_31 : decode cX5_leastByColours 31 = .ok (.iconst 0, 1) := by decide +kernel
theorem dX5_leastByColours_32 : decode cX5_leastByColours 32 = .ok (.istore 4, 2) := by decide +kernel
theorem dX5_leastByColours_34 : decode cX5_leastByColours 34 = .ok (.iload 4, 2) := by decide +kernel
theorem dX5_leastByColours_36 : decode cX5_leastByColours 36 = .ok (.iconst 4, 1) := by decide +kernel
theorem dX5_leastByColours_37 : decode cX5_leastByColours 37 = .ok (.if_icmp .ge 28, 3) := by decide +kernel
theorem dX5_leastByColours_40 : decode cX5_leastByColours 40 = .ok (.aload_n 0, 1) := by decide +kernel
theorem dX5_leastByColours_41 : decode cX5_leastByColours 41 = .ok (.aload_n 1, 1) := by decide +kernel
theorem dX5_leastByColours_42 : decode cX5_leastByColours 42 = .ok (.iload_n 2, 1) := by decide +kernel
theorem dX5_leastByColours_43 : decode cX5_leastByColours 43 = .ok (.iload 4, 2) := by decide +kernel
theorem dX5_leastByColours_45 : decode cX5_leastByColours 45 = .ok (.invokevirtual 19, 3) := by decide +kernel
theorem dX5_leastByColours_48 : decode cX5_leastByColours 48 = .ok (.aload_n 1, 1) := by decide +kernel
theorem dX5_leastByColours_49 : decode cX5_leastByColours 49 = .ok (.getfield 25, 3) := by decide +kernel
theorem dX5_leastByColours_52 : decode cX5_leastByColours 52 = .ok (.iload 4, 2) := by decide +kernel
theorem dX5_leastByColours_54 : decode cX5_leastByColours 54 = .ok (.iaload, 1) := by decide +kernel
theorem dX5_leastByColours_55 : decode cX5_leastByColours 55 = .ok (.iload_n 3, 1) := by decide +kernel
theorem dX5_leastByColours_56 : decode cX5_leastByColours 56 = .ok (.invokevirtual 28, 3) := by decide +kernel
theorem dX5_leastByColours_59 : decode cX5_leastByColours 59 = .ok (.iinc 4 1, 3) := by decide +kernel
theorem dX5_leastByColours_62 : decode cX5_leastByColours 62 = .ok (.goto (-28), 3) := by decide +kernel
theorem dX5_leastByColours_65 : decode cX5_leastByColours 65 = .ok (.aload_n 0, 1) := by decide +kernel
theorem dX5_leastByColours_66 : decode cX5_leastByColours 66 = .ok (.getfield 9, 3) := by decide +kernel
theorem dX5_leastByColours_69 : decode cX5_leastByColours 69 = .ok (.iload_n 3, 1) := by decide +kernel
theorem dX5_leastByColours_70 : decode cX5_leastByColours 70 = .ok (.iaload, 1) := by decide +kernel
theorem dX5_leastByColours_71 : decode cX5_leastByColours 71 = .ok (.ldc 18, 2) := by decide +kernel
theorem dX5_leastByColours_73 : decode cX5_leastByColours 73 = .ok (.if_icmp .ge 12, 3) := by decide +kernel
theorem dX5_leastByColours_76 : decode cX5_leastByColours 76 = .ok (.aload_n 0, 1) := by decide +kernel
theorem dX5_leastByColours_77 : decode cX5_leastByColours 77 = .ok (.getfield 9, 3) := by decide +kernel
theorem dX5_leastByColours_80 : decode cX5_leastByColours 80 = .ok (.iload_n 3, 1) := by decide +kernel
theorem dX5_leastByColours_81 : decode cX5_leastByColours 81 = .ok (.iaload, 1) := by decide +kernel
theorem dX5_leastByColours_82 : decode cX5_leastByColours 82 = .ok (.goto 4, 3) := by decide +kernel
theorem dX5_leastByColours_85 : decode cX5_leastByColours 85 = .ok (.iconst (-1), 1) := by decide +kernel
theorem dX5_leastByColours_86 : decode cX5_leastByColours 86 = .ok (.ireturn, 1) := by decide +kernel
theorem dX5_addColour_0 : decode cX5_addColour 0 = .ok (.iload_n 3, 1) := by decide +kernel
theorem dX5_addColour_1 : decode cX5_addColour 1 = .ok (.istore 4, 2) := by decide +kernel
theorem dX5_addColour_3 : decode cX5_addColour 3 = .ok (.iload 4, 2) := by decide +kernel
theorem dX5_addColour_5 : decode cX5_addColour 5 = .ok (.ifCond .le 65, 3) := by decide +kernel
theorem dX5_addColour_8 : decode cX5_addColour 8 = .ok (.iconst 1, 1) := by decide +kernel
theorem dX5_addColour_9 : decode cX5_addColour 9 = .ok (.istore 5, 2) := by decide +kernel
theorem dX5_addColour_11 : decode cX5_addColour 11 = .ok (.iload 5, 2) := by decide +kernel
theorem dX5_addColour_13 : decode cX5_addColour 13 = .ok (.iload_n 1, 1) := by decide +kernel
theorem dX5_addColour_14 : decode cX5_addColour 14 = .ok (.if_icmp .gt 50, 3) := by decide +kernel
theorem dX5_addColour_17 : decode cX5_addColour 17 = .ok (.iload 5, 2) := by decide +kernel
theorem dX5_addColour_19 : decode cX5_addColour 19 = .ok (.iload_n 2, 1) := by decide +kernel
theorem dX5_addColour_20 : decode cX5_addColour 20 = .ok (.imul, 1) := by decide +kernel
theorem dX5_addColour_21 : decode cX5_addColour 21 = .ok (.iload 4, 2) := by decide +kernel
theorem dX5_addColour_23 : decode cX5_addColour 23 = .ok (.if_icmp .gt 41, 3) := by decide +kernel
theorem dX5_addColour_26 : decode cX5_addColour 26 = .ok (.aload_n 0, 1) := by decide +kernel
theorem dX5_addColour_27 : decode cX5_addColour 27 = .ok (.getfield 9, 3) := by decide +kernel
theorem dX5_addColour_30 : decode cX5_addColour 30 = .ok (.iload 4, 2) := by decide +kernel
theorem dX5_addColour_32 : decode cX5_addColour 32 = .ok (.aload_n 0, 1) := by decide +kernel
theorem dX5_addColour_33 : decode cX5_addColour 33 = .ok (.getfield 9, 3) := by decide +kernel
theorem dX5_addColour_36 : decode cX5_addColour 36 = .ok (.iload 4, 2) := by decide +kernel
theorem dX5_addColour_38 : decode cX5_addColour 38 = .ok (.iaload, 1) := by decide +kernel
theorem dX5_addColour_39 : decode cX5_addColour 39 = .ok (.aload_n 0, 1) := by decide +kernel
theorem dX5_addColour_40 : decode cX5_addColour 40 = .ok (.getfield 9, 3) := by decide +kernel
theorem dX5_addColour_43 : decode cX5_addColour 43 = .ok (.iload 4, 2) := by decide +kernel
theorem dX5_addColour_45 : decode cX5_addColour 45 = .ok (.iload 5, 2) := by decide +kernel
theorem dX5_addColour_47 : decode cX5_addColour 47 = .ok (.iload_n 2, 1) := by decide +kernel
theorem dX5_addColour_48 : decode cX5_addColour 48 = .ok (.imul, 1) := by decide +kernel
theorem dX5_addColour_49 : decode cX5_addColour 49 = .ok (.isub, 1) := by decide +kernel
theorem dX5_addColour_50 : decode cX5_addColour 50 = .ok (.iaload, 1) := by decide +kernel
theorem dX5_addColour_51 : decode cX5_addColour 51 = .ok (.iload 5, 2) := by decide +kernel
theorem dX5_addColour_53 : decode cX5_addColour 53 = .ok (.iadd, 1) := by decide +kernel
theorem dX5_addColour_54 : decode cX5_addColour 54 = .ok (.invokestatic 32, 3) := by decide +kernel
theorem dX5_addColour_57 : decode cX5_addColour 57 = .ok (.iastore, 1) := by decide +kernel
theorem dX5_addColour_58 : decode cX5_addColour 58 = .ok (.iinc 5 1, 3) := by decide +kernel
theorem dX5_addColour_61 : decode cX5_addColour 61 = .ok (.goto (-50), 3) := by decide +kernel
theorem dX5_addColour_64 : decode cX5_addColour 64 = .ok (.iinc 4 (-1), 3) := by decide +kernel
theorem dX5_addColour_67 : decode cX5_addColour 67 = .ok (.goto (-64), 3) := by decide +kernel
theorem dX5_addColour_70 : decode cX5_addColour 70 = .ok (.return_, 1) := by decide +kernel
theorem dX5_leastByTrying_0 : decode cX5_leastByTrying 0 = .ok (.iconst (-1), 1) := by decide +kernel
theorem dX5_leastByTrying_1 : decode cX5_leastByTrying 1 = .ok (.istore 4, 2) := by decide +kernel
theorem dX5_leastByTrying_3 : decode cX5_leastByTrying 3 = .ok (.aload_n 1, 1) := by decide +kernel
theorem dX5_leastByTrying_4 : decode cX5_leastByTrying 4 = .ok (.iload_n 2, 1) := by decide +kernel
theorem dX5_leastByTrying_5 : decode cX5_leastByTrying 5 = .ok (.iconst 3, 1) := by decide +kernel
theorem dX5_leastByTrying_6 : decode cX5_leastByTrying 6 = .ok (.invokevirtual 19, 3) := by decide +kernel
theorem dX5_leastByTrying_9 : decode cX5_leastByTrying 9 = .ok (.istore 5, 2) := by decide +kernel
theorem dX5_leastByTrying_11 : decode cX5_leastByTrying 11 = .ok (.iload 5, 2) := by decide +kernel
theorem dX5_leastByTrying_13 : decode cX5_leastByTrying 13 = .ok (.ifCond .lt 152, 3) := by decide +kernel
theorem dX5_leastByTrying_16 : decode cX5_leastByTrying 16 = .ok (.aload_n 1, 1) := by decide +kernel
theorem dX5_leastByTrying_17 : decode cX5_leastByTrying 17 = .ok (.iload_n 2, 1) := by decide +kernel
theorem dX5_leastByTrying_18 : decode cX5_leastByTrying 18 = .ok (.iconst 2, 1) := by decide +kernel
theorem dX5_leastByTrying_19 : decode cX5_leastByTrying 19 = .ok (.invokevirtual 19, 3) := by decide +kernel
theorem dX5_leastByTrying_22 : decode cX5_leastByTrying 22 = .ok (.istore 6, 2) := by decide +kernel
theorem dX5_leastByTrying_24 : decode cX5_leastByTrying 24 = .ok (.iload 6, 2) := by decide +kernel
theorem dX5_leastByTrying_26 : decode cX5_leastByTrying 26 = .ok (.ifCond .lt 133, 3) := by decide +kernel
theorem dX5_leastByTrying_29 : decode cX5_leastByTrying 29 = .ok (.iload_n 3, 1) := by decide +kernel
theorem dX5_leastByTrying_30 : decode cX5_leastByTrying 30 = .ok (.iload 5, 2) := by decide +kernel
theorem dX5_leastByTrying_32 : decode cX5_leastByTrying 32 = .ok (.aload_n 1, 1) := by decide +kernel
theorem dX5_leastByTrying_33 : decode cX5_leastByTrying 33 = .ok (.getfield 25, 3) := by decide +kernel
theorem dX5_leastByTrying_36 : decode cX5_leastByTrying 36 = .ok (.iconst 3, 1) := by decide +kernel
theorem dX5_leastByTrying_37 : decode cX5_leastByTrying 37 = .ok (.iaload, 1) := by decide +kernel
theorem dX5_leastByTrying_38 : decode cX5_leastByTrying 38 = .ok (.imul, 1) := by decide +kernel
theorem dX5_leastByTrying_39 : decode cX5_leastByTrying 39 = .ok (.isub, 1) := by decide +kernel
theorem dX5_leastByTrying_40 : decode cX5_leastByTrying 40 = .ok (.iload 6, 2) := by decide +kernel
theorem dX5_leastByTrying_42 : decode cX5_leastByTrying 42 = .ok (.aload_n 1, 1) := by decide +kernel
theorem dX5_leastByTrying_43 : decode cX5_leastByTrying 43 = .ok (.getfield 25, 3) := by decide +kernel
theorem dX5_leastByTrying_46 : decode cX5_leastByTrying 46 = .ok (.iconst 2, 1) := by decide +kernel
theorem dX5_leastByTrying_47 : decode cX5_leastByTrying 47 = .ok (.iaload, 1) := by decide +kernel
theorem dX5_leastByTrying_48 : decode cX5_leastByTrying 48 = .ok (.imul, 1) := by decide +kernel
theorem dX5_leastByTrying_49 : decode cX5_leastByTrying 49 = .ok (.isub, 1) := by decide +kernel
theorem dX5_leastByTrying_50 : decode cX5_leastByTrying 50 = .ok (.istore 7, 2) := by decide +kernel
theorem dX5_leastByTrying_52 : decode cX5_leastByTrying 52 = .ok (.aload_n 1, 1) := by decide +kernel
theorem dX5_leastByTrying_53 : decode cX5_leastByTrying 53 = .ok (.iload_n 2, 1) := by decide +kernel
theorem dX5_leastByTrying_54 : decode cX5_leastByTrying 54 = .ok (.iconst 1, 1) := by decide +kernel
theorem dX5_leastByTrying_55 : decode cX5_leastByTrying 55 = .ok (.invokevirtual 19, 3) := by decide +kernel
theorem dX5_leastByTrying_58 : decode cX5_leastByTrying 58 = .ok (.istore 8, 2) := by decide +kernel
theorem dX5_leastByTrying_60 : decode cX5_leastByTrying 60 = .ok (.iload 8, 2) := by decide +kernel
theorem dX5_leastByTrying_62 : decode cX5_leastByTrying 62 = .ok (.ifCond .lt 91, 3) := by decide +kernel
theorem dX5_leastByTrying_65 : decode cX5_leastByTrying 65 = .ok (.iload 7, 2) := by decide +kernel
theorem dX5_leastByTrying_67 : decode cX5_leastByTrying 67 = .ok (.iload 8, 2) := by decide +kernel
theorem dX5_leastByTrying_69 : decode cX5_leastByTrying 69 = .ok (.aload_n 1, 1) := by decide +kernel
theorem dX5_leastByTrying_70 : decode cX5_leastByTrying 70 = .ok (.getfield 25, 3) := by decide +kernel
theorem dX5_leastByTrying_73 : decode cX5_leastByTrying 73 = .ok (.iconst 1, 1) := by decide +kernel
theorem dX5_leastByTrying_74 : decode cX5_leastByTrying 74 = .ok (.iaload, 1) := by decide +kernel
theorem dX5_leastByTrying_75 : decode cX5_leastByTrying 75 = .ok (.imul, 1) := by decide +kernel
theorem dX5_leastByTrying_76 : decode cX5_leastByTrying 76 = .ok (.isub, 1) := by decide +kernel
theorem dX5_leastByTrying_77 : decode cX5_leastByTrying 77 = .ok (.aload_n 1, 1) := by decide +kernel
theorem dX5_leastByTrying_78 : decode cX5_leastByTrying 78 = .ok (.getfield 25, 3) := by decide +kernel
theorem dX5_leastByTrying_81 : decode cX5_leastByTrying 81 = .ok (.iconst 0, 1) := by decide +kernel
theorem dX5_leastByTrying_82 : decode cX5_leastByTrying 82 = .ok (.iaload, 1) := by decide +kernel
theorem dX5_leastByTrying_83 : decode cX5_leastByTrying 83 = .ok (.invokestatic 37, 3) := by decide +kernel
theorem dX5_leastByTrying_86 : decode cX5_leastByTrying 86 = .ok (.istore 9, 2) := by decide +kernel
theorem dX5_leastByTrying_88 : decode cX5_leastByTrying 88 = .ok (.iload 5, 2) := by decide +kernel
theorem dX5_leastByTrying_90 : decode cX5_leastByTrying 90 = .ok (.iload 6, 2) := by decide +kernel
theorem dX5_leastByTrying_92 : decode cX5_leastByTrying 92 = .ok (.iadd, 1) := by decide +kernel
theorem dX5_leastByTrying_93 : decode cX5_leastByTrying 93 = .ok (.iload 8, 2) := by decide +kernel
theorem dX5_leastByTrying_95 : decode cX5_leastByTrying 95 = .ok (.iadd, 1) := by decide +kernel
theorem dX5_leastByTrying_96 : decode cX5_leastByTrying 96 = .ok (.iload 9, 2) := by decide +kernel
theorem dX5_leastByTrying_98 : decode cX5_leastByTrying 98 = .ok (.iadd, 1) := by decide +kernel
theorem dX5_leastByTrying_99 : decode cX5_leastByTrying 99 = .ok (.istore 10, 2) := by decide +kernel
theorem dX5_leastByTrying_101 : decode cX5_leastByTrying 101 = .ok (.iload 9, 2) := by decide +kernel
theorem dX5_leastByTrying_103 : decode cX5_leastByTrying 103 = .ok (.iconst (-1), 1) := by decide +kernel
theorem dX5_leastByTrying_104 : decode cX5_leastByTrying 104 = .ok (.if_icmp .eq 43, 3) := by decide +kernel
theorem dX5_leastByTrying_107 : decode cX5_leastByTrying 107 = .ok (.iload 9, 2) := by decide +kernel
theorem dX5_leastByTrying_109 : decode cX5_leastByTrying 109 = .ok (.aload_n 1, 1) := by decide +kernel
theorem dX5_leastByTrying_110 : decode cX5_leastByTrying 110 = .ok (.iload_n 2, 1) := by decide +kernel
theorem dX5_leastByTrying_111 : decode cX5_leastByTrying 111 = .ok (.iconst 0, 1) := by decide +kernel
theorem dX5_leastByTrying_112 : decode cX5_leastByTrying 112 = .ok (.invokevirtual 19, 3) := by decide +kernel
theorem dX5_leastByTrying_115 : decode cX5_leastByTrying 115 = .ok (.if_icmp .gt 32, 3) := by decide +kernel
theorem dX5_leastByTrying_118 : decode cX5_leastByTrying 118 = .ok (.iload 4, 2) := by decide +kernel
theorem dX5_leastByTrying_120 : decode cX5_leastByTrying 120 = .ok (.iconst (-1), 1) := by decide +kernel
theorem dX5_leastByTrying_121 : decode cX5_leastByTrying 121 = .ok (.if_icmp .eq 10, 3) := by decide +kernel
theorem dX5_leastByTrying_124 : decode cX5_leastByTrying 124 = .ok (.iload 10, 2) := by decide +kernel
theorem dX5_leastByTrying_126 : decode cX5_leastByTrying 126 = .ok (.iload 4, 2) := by decide +kernel
theorem dX5_leastByTrying_128 : decode cX5_leastByTrying 128 = .ok (.if_icmp .ge 19, 3) := by decide +kernel
theorem dX5_leastByTrying_131 : decode cX5_leastByTrying 131 = .ok (.iload 10, 2) := by decide +kernel
theorem dX5_leastByTrying_133 : decode cX5_leastByTrying 133 = .ok (.istore 4, 2) := by decide +kernel
theorem dX5_leastByTrying_135 : decode cX5_leastByTrying 135 = .ok (.aload_n 0, 1) := by decide +kernel
theorem dX5_leastByTrying_136 : decode cX5_leastByTrying 136 = .ok (.iload 9, 2) := by decide +kernel
theorem dX5_leastByTrying_138 : decode cX5_leastByTrying 138 = .ok (.iload 8, 2) := by decide +kernel
theorem dX5_leastByTrying_140 : decode cX5_leastByTrying 140 = .ok (.iload 6, 2) := by decide +kernel
theorem dX5_leastByTrying_142 : decode cX5_leastByTrying 142 = .ok (.iload 5, 2) := by decide +kernel
theorem dX5_leastByTrying_144 : decode cX5_leastByTrying 144 = .ok (.invokevirtual 40, 3) := by decide +kernel
theorem dX5_leastByTrying_147 : decode cX5_leastByTrying 147 = .ok (.iinc 8 (-1), 3) := by decide +kernel
theorem dX5_leastByTrying_150 : decode cX5_leastByTrying 150 = .ok (.goto (-90), 3) := by decide +kernel
theorem dX5_leastByTrying_153 : decode cX5_leastByTrying 153 = .ok (.iinc 6 (-1), 3) := by decide +kernel
theorem dX5_leastByTrying_156 : decode cX5_leastByTrying 156 = .ok (.goto (-132), 3) := by decide +kernel
theorem dX5_leastByTrying_159 : decode cX5_leastByTrying 159 = .ok (.iinc 5 (-1), 3) := by decide +kernel
theorem dX5_leastByTrying_162 : decode cX5_leastByTrying 162 = .ok (.goto (-151), 3) := by decide +kernel
theorem dX5_leastByTrying_165 : decode cX5_leastByTrying 165 = .ok (.iload 4, 2) := by decide +kernel
theorem dX5_leastByTrying_167 : decode cX5_leastByTrying 167 = .ok (.ireturn, 1) := by decide +kernel
theorem dX5_wholeCaps_0 : decode cX5_wholeCaps 0 = .ok (.iload_n 0, 1) := by decide +kernel
theorem dX5_wholeCaps_1 : decode cX5_wholeCaps 1 = .ok (.ifCond .lt 13, 3) := by decide +kernel
theorem dX5_wholeCaps_4 : decode cX5_wholeCaps 4 = .ok (.iload_n 1, 1) := by decide +kernel
theorem dX5_wholeCaps_5 : decode cX5_wholeCaps 5 = .ok (.ifCond .le 9, 3) := by decide +kernel
theorem dX5_wholeCaps_8 : decode cX5_wholeCaps 8 = .ok (.iload_n 0, 1) := by decide +kernel
theorem dX5_wholeCaps_9 : decode cX5_wholeCaps 9 = .ok (.iload_n 1, 1) := by decide +kernel
theorem dX5_wholeCaps_10 : decode cX5_wholeCaps 10 = .ok (.irem, 1) := by decide +kernel
theorem dX5_wholeCaps_11 : decode cX5_wholeCaps 11 = .ok (.ifCond .eq 5, 3) := by decide +kernel
theorem dX5_wholeCaps_14 : decode cX5_wholeCaps 14 = .ok (.iconst (-1), 1) := by decide +kernel
theorem dX5_wholeCaps_15 : decode cX5_wholeCaps 15 = .ok (.ireturn, 1) := by decide +kernel
theorem dX5_wholeCaps_16 : decode cX5_wholeCaps 16 = .ok (.iload_n 0, 1) := by decide +kernel
theorem dX5_wholeCaps_17 : decode cX5_wholeCaps 17 = .ok (.iload_n 1, 1) := by decide +kernel
theorem dX5_wholeCaps_18 : decode cX5_wholeCaps 18 = .ok (.idiv, 1) := by decide +kernel
theorem dX5_wholeCaps_19 : decode cX5_wholeCaps 19 = .ok (.ireturn, 1) := by decide +kernel
theorem dX5_note_0 : decode cX5_note 0 = .ok (.aload_n 0, 1) := by decide +kernel
theorem dX5_note_1 : decode cX5_note 1 = .ok (.getfield 15, 3) := by decide +kernel
theorem dX5_note_4 : decode cX5_note 4 = .ok (.iconst 0, 1) := by decide +kernel
theorem dX5_note_5 : decode cX5_note 5 = .ok (.iload_n 1, 1) := by decide +kernel
theorem dX5_note_6 : decode cX5_note 6 = .ok (.iastore, 1) := by decide +kernel
theorem dX5_note_7 : decode cX5_note 7 = .ok (.aload_n 0, 1) := by decide +kernel
theorem dX5_note_8 : decode cX5_note 8 = .ok (.getfield 15, 3) := by decide +kernel
theorem dX5_note_11 : decode cX5_note 11 = .ok (.iconst 1, 1) := by decide +kernel
theorem dX5_note_12 : decode cX5_note 12 = .ok (.iload_n 2, 1) := by decide +kernel
theorem dX5_note_13 : decode cX5_note 13 = .ok (.iastore, 1) := by decide +kernel
theorem dX5_note_14 : decode cX5_note 14 = .ok (.aload_n 0, 1) := by decide +kernel
theorem dX5_note_15 : decode cX5_note 15 = .ok (.getfield 15, 3) := by decide +kernel
theorem dX5_note_18 : decode cX5_note 18 = .ok (.iconst 2, 1) := by decide +kernel
theorem dX5_note_19 : decode cX5_note 19 = .ok (.iload_n 3, 1) := by decide +kernel
theorem dX5_note_20 : decode cX5_note 20 = .ok (.iastore, 1) := by decide +kernel
theorem dX5_note_21 : decode cX5_note 21 = .ok (.aload_n 0, 1) := by decide +kernel
theorem dX5_note_22 : decode cX5_note 22 = .ok (.getfield 15, 3) := by decide +kernel
theorem dX5_note_25 : decode cX5_note 25 = .ok (.iconst 3, 1) := by decide +kernel
theorem dX5_note_26 : decode cX5_note 26 = .ok (.iload 4, 2) := by decide +kernel
theorem dX5_note_28 : decode cX5_note 28 = .ok (.iastore, 1) := by decide +kernel
theorem dX5_note_29 : decode cX5_note 29 = .ok (.return_, 1) := by decide +kernel
theorem dX6_init_0 : decode cX6_init 0 = .ok (.aload_n 0, 1) := by decide +kernel
theorem dX6_init_1 : decode cX6_init 1 = .ok (.invokespecial 1, 3) := by decide +kernel
theorem dX6_init_4 : decode cX6_init 4 = .ok (.aload_n 0, 1) := by decide +kernel
theorem dX6_init_5 : decode cX6_init 5 = .ok (.new 7, 3) := by decide +kernel
theorem dX6_init_8 : decode cX6_init 8 = .ok (.dup, 1) := by decide +kernel
theorem dX6_init_9 : decode cX6_init 9 = .ok (.invokespecial 9, 3) := by decide +kernel
theorem dX6_init_12 : decode cX6_init 12 = .ok (.putfield 10, 3) := by decide +kernel
theorem dX6_init_15 : decode cX6_init 15 = .ok (.aload_n 0, 1) := by decide +kernel
theorem dX6_init_16 : decode cX6_init 16 = .ok (.new 16, 3) := by decide +kernel
theorem dX6_init_19 : decode cX6_init 19 = .ok (.dup, 1) := by decide +kernel
theorem dX6_init_20 : decode cX6_init 20 = .ok (.invokespecial 18, 3) := by decide +kernel
theorem dX6_init_23 : decode cX6_init 23 = .ok (.putfield 19, 3) := by decide +kernel
theorem dX6_init_26 : decode cX6_init 26 = .ok (.aload_n 0, 1) := by decide +kernel
theorem dX6_init_27 : decode cX6_init 27 = .ok (.new 23, 3) := by decide +kernel
theorem dX6_init_30 : decode cX6_init 30 = .ok (.dup, 1) := by decide +kernel
theorem dX6_init_31 : decode cX6_init 31 = .ok (.invokespecial 25, 3) := by decide +kernel
theorem dX6_init_34 : decode cX6_init 34 = .ok (.putfield 26, 3) := by decide +kernel
theorem dX6_init_37 : decode cX6_init 37 = .ok (.aload_n 0, 1) := by decide +kernel
theorem dX6_init_38 : decode cX6_init 38 = .ok (.new 30, 3) := by decide +kernel
theorem dX6_init_41 : decode cX6_init 41 = .ok (.dup, 1) := by decide +kernel
theorem dX6_init_42 : decode cX6_init 42 = .ok (.invokespecial 32, 3) := by decide +kernel
theorem dX6_init_45 : decode cX6_init 45 = .ok (.putfield 33, 3) := by decide +kernel
theorem dX6_init_48 : decode cX6_init 48 = .ok (.aload_n 0, 1) := by decide +kernel
theorem dX6_init_49 : decode cX6_init 49 = .ok (.iconst 2, 1) := by decide +kernel
theorem dX6_init_50 : decode cX6_init 50 = .ok (.anewarray 7, 3) := by decide +kernel
theorem dX6_init_53 : decode cX6_init 53 = .ok (.putfield 37, 3) := by decide +kernel
theorem dX6_init_56 : decode cX6_init 56 = .ok (.aload_n 0, 1) := by decide +kernel
theorem dX6_init_57 : decode cX6_init 57 = .ok (.iconst 2, 1) := by decide +kernel
theorem dX6_init_58 : decode cX6_init 58 = .ok (.newarray .boolean, 2) := by decide +kernel
theorem dX6_init_60 : decode cX6_init 60 = .ok (.putfield 41, 3) := by decide +kernel
theorem dX6_init_63 : decode cX6_init 63 = .ok (.aload_n 0, 1) := by decide +kernel
theorem dX6_init_64 : decode cX6_init 64 = .ok (.bipush 8, 2) := by decide +kernel
theorem dX6_init_66 : decode cX6_init 66 = .ok (.newarray .int, 2) := by decide +kernel
theorem dX6_init_68 : decode cX6_init 68 = .ok (.putfield 45, 3) := by decide +kernel
theorem dX6_init_71 : decode cX6_init 71 = .ok (.iconst 0, 1) := by decide +kernel
theorem dX6_init_72 : decode cX6_init 72 = .ok (.istore_n 1, 1) := by decide +kernel
theorem dX6_init_73 : decode cX6_init 73 = .ok (.iload_n 1, 1) := by decide +kernel
theorem dX6_init_74 : decode cX6_init 74 = .ok (.iconst 2, 1) := by decide +kernel
theorem dX6_init_75 : decode cX6_init 75 = .ok (.if_icmp .ge 22, 3) := by decide +kernel
theorem dX6_init_78 : decode cX6_init 78 = .ok (.aload_n 0, 1) := by decide +kernel
theorem dX6_init_79 : decode cX6_init 79 = .ok (.getfield 37, 3) := by decide +kernel
theorem dX6_init_82 : decode cX6_init 82 = .ok (.iload_n 1, 1) := by decide +kernel
theorem dX6_init_83 : decode cX6_init 83 = .ok (.new 7, 3) := by decide +kernel
theorem dX6_init_86 : decode cX6_init 86 = .ok (.dup, 1) := by decide +kernel
theorem dX6_init_87 : decode cX6_init 87 = .ok (.invokespecial 9, 3) := by decide +kernel
theorem dX6_init_90 : decode cX6_init 90 = .ok (.aastore, 1) := by decide +kernel
theorem dX6_init_91 : decode cX6_init 91 = .ok (.iinc 1 1, 3) := by decide +kernel
theorem dX6_init_94 : decode cX6_init 94 = .ok (.goto (-21), 3) := by decide +kernel
theorem dX6_init_97 : decode cX6_init 97 = .ok (.return_, 1) := by decide +kernel
theorem dX6_storm_0 : decode cX6_storm 0 = .ok (.aload_n 0, 1) := by decide +kernel
theorem dX6_storm_1 : decode cX6_storm 1 = .ok (.getfield 10, 3) := by decide +kernel
theorem dX6_storm_4 : decode cX6_storm 4 = .ok (.invokevirtual 49, 3) := by decide +kernel
theorem dX6_storm_7 : decode cX6_storm 7 = .ok (.ifCond .ne 13, 3) := by decide +kernel
theorem dX6_storm_10 : decode cX6_storm 10 = .ok (.new 53, 3) := by decide +kernel
theorem dX6_storm_13 : decode cX6_storm 13 = .ok (.dup, 1) := by decide +kernel
theorem dX6_storm_14 : decode cX6_storm 14 = .ok (.ldc 55, 2) := by decide +kernel
theorem dX6_storm_16 : decode cX6_storm 16 = .ok (.invokespecial 57, 3) := by decide +kernel
theorem dX6_storm_19 : decode cX6_storm 19 = .ok (.athrow, 1) := by decide +kernel
theorem dX6_storm_20 : decode cX6_storm 20 = .ok (.aload_n 0, 1) := by decide +kernel
theorem dX6_storm_21 : decode cX6_storm 21 = .ok (.getfield 19, 3) := by decide +kernel
theorem dX6_storm_24 : decode cX6_storm 24 = .ok (.aload_n 0, 1) := by decide +kernel
theorem dX6_storm_25 : decode cX6_storm 25 = .ok (.getfield 10, 3) := by decide +kernel
theorem dX6_storm_28 : decode cX6_storm 28 = .ok (.invokevirtual 60, 3) := by decide +kernel
theorem dX6_storm_31 : decode cX6_storm 31 = .ok (.aload_n 0, 1) := by decide +kernel
theorem dX6_storm_32 : decode cX6_storm 32 = .ok (.getfield 10, 3) := by decide +kernel
theorem dX6_storm_35 : decode cX6_storm 35 = .ok (.invokevirtual 64, 3) := by decide +kernel
theorem dX6_storm_38 : decode cX6_storm 38 = .ok (.ireturn, 1) := by decide +kernel
theorem dX6_cross_0 : decode cX6_cross 0 = .ok (.iload_n 1, 1) := by decide +kernel
theorem dX6_cross_1 : decode cX6_cross 1 = .ok (.invokestatic 68, 3) := by decide +kernel
theorem dX6_cross_4 : decode cX6_cross 4 = .ok (.iload_n 2, 1) := by decide +kernel
theorem dX6_cross_5 : decode cX6_cross 5 = .ok (.invokestatic 68, 3) := by decide +kernel
theorem dX6_cross_8 : decode cX6_cross 8 = .ok (.aload_n 0, 1) := by decide +kernel
theorem dX6_cross_9 : decode cX6_cross 9 = .ok (.getfield 19, 3) := by decide +kernel
theorem dX6_cross_12 : decode cX6_cross 12 = .ok (.aload_n 0, 1) := by decide +kernel
theorem dX6_cross_13 : decode cX6_cross 13 = .ok (.getfield 10, 3) := by decide +kernel
theorem dX6_cross_16 : decode cX6_cross 16 = .ok (.invokevirtual 60, 3) := by decide +kernel
theorem dX6_cross_19 : decode cX6_cross 19 = .ok (.aload_n 0, 1) := by decide +kernel
theorem dX6_cross_20 : decode cX6_cross 20 = .ok (.getfield 10, 3) := by decide +kernel
theorem dX6_cross_23 : decode cX6_cross 23 = .ok (.iload_n 1, 1) := by decide +kernel
theorem dX6_cross_24 : decode cX6_cross 24 = .ok (.iload_n 2, 1) := by decide +kernel
theorem dX6_cross_25 : decode cX6_cross 25 = .ok (.invokevirtual 72, 3) := by decide +kernel
theorem dX6_cross_28 : decode cX6_cross 28 = .ok (.aload_n 0, 1) := by decide +kernel
theorem dX6_cross_29 : decode cX6_cross 29 = .ok (.getfield 10, 3) := by decide +kernel
theorem dX6_cross_32 : decode cX6_cross 32 = .ok (.getfield 76, 3) := by decide +kernel
theorem dX6_cross_35 : decode cX6_cross 35 = .ok (.iload_n 1, 1) := by decide +kernel
theorem dX6_cross_36 : decode cX6_cross 36 = .ok (.iaload, 1) := by decide +kernel
theorem dX6_cross_37 : decode cX6_cross 37 = .ok (.ireturn, 1) := by decide +kernel
theorem dX6_trade_0 : decode cX6_trade 0 = .ok (.iload_n 1, 1) := by decide +kernel
theorem dX6_trade_1 : decode cX6_trade 1 = .ok (.invokestatic 68, 3) := by decide +kernel
theorem dX6_trade_4 : decode cX6_trade 4 = .ok (.iload_n 2, 1) := by decide +kernel
theorem dX6_trade_5 : decode cX6_trade 5 = .ok (.invokestatic 79, 3) := by decide +kernel
theorem dX6_trade_8 : decode cX6_trade 8 = .ok (.iload 4, 2) := by decide +kernel
theorem dX6_trade_10 : decode cX6_trade 10 = .ok (.invokestatic 68, 3) := by decide +kernel
theorem dX6_trade_13 : decode cX6_trade 13 = .ok (.iload 5, 2) := by decide +kernel
theorem dX6_trade_15 : decode cX6_trade 15 = .ok (.invokestatic 79, 3) := by decide +kernel
theorem dX6_trade_18 : decode cX6_trade 18 = .ok (.iload_n 1, 1) := by decide +kernel
theorem dX6_trade_19 : decode cX6_trade 19 = .ok (.iload 4, 2) := by decide +kernel
theorem dX6_trade_21 : decode cX6_trade 21 = .ok (.invokestatic 82, 3) := by decide +kernel
theorem dX6_trade_24 : decode cX6_trade 24 = .ok (.iload_n 3, 1) := by decide +kernel
theorem dX6_trade_25 : decode cX6_trade 25 = .ok (.iconst 0, 1) := by decide +kernel
theorem dX6_trade_26 : decode cX6_trade 26 = .ok (.bipush 99, 2) := by decide +kernel
theorem dX6_trade_28 : decode cX6_trade 28 = .ok (.invokestatic 85, 3) := by decide +kernel
theorem dX6_trade_31 : decode cX6_trade 31 = .ok (.iload 6, 2) := by decide +kernel
theorem dX6_trade_33 : decode cX6_trade 33 = .ok (.iconst 0, 1) := by decide +kernel
theorem dX6_trade_34 : decode cX6_trade 34 = .ok (.bipush 99, 2) := by decide +kernel
theorem dX6_trade_36 : decode cX6_trade 36 = .ok (.invokestatic 85, 3) := by decide +kernel
theorem dX6_trade_39 : decode cX6_trade 39 = .ok (.aload_n 0, 1) := by decide +kernel
theorem dX6_trade_40 : decode cX6_trade 40 = .ok (.getfield 19, 3) := by decide +kernel
theorem dX6_trade_43 : decode cX6_trade 43 = .ok (.aload_n 0, 1) := by decide +kernel
theorem dX6_trade_44 : decode cX6_trade 44 = .ok (.getfield 10, 3) := by decide +kernel
theorem dX6_trade_47 : decode cX6_trade 47 = .ok (.invokevirtual 60, 3) := by decide +kernel
theorem dX6_trade_50 : decode cX6_trade 50 = .ok (.aload_n 0, 1) := by decide +kernel
theorem dX6_trade_51 : decode cX6_trade 51 = .ok (.iload_n 1, 1) := by decide +kernel
theorem dX6_trade_52 : decode cX6_trade 52 = .ok (.iload_n 2, 1) := by decide +kernel
theorem dX6_trade_53 : decode cX6_trade 53 = .ok (.iload_n 3, 1) := by decide +kernel
theorem dX6_trade_54 : decode cX6_trade 54 = .ok (.iload 4, 2) := by decide +kernel
theorem dX6_trade_56 : decode cX6_trade 56 = .ok (.iload 5, 2) := by decide +kernel
theorem dX6_trade_58 : decode cX6_trade 58 = .ok (.iload 6, 2) := by decide +kernel
theorem dX6_trade_60 : decode cX6_trade 60 = .ok (.invokevirtual 89, 3) := by decide +kernel
theorem dX6_trade_63 : decode cX6_trade 63 = .ok (.istore 7, 2) := by decide +kernel
theorem dX6_trade_65 : decode cX6_trade 65 = .ok (.iload 7, 2) := by decide +kernel
theorem dX6_trade_67 : decode cX6_trade 67 = .ok (.ifCond .eq 19, 3) := by decide +kernel
theorem dX6_trade_70 : decode cX6_trade 70 = .ok (.aload_n 0, 1) := by decide +kernel
theorem dX6_trade_71 : decode cX6_trade 71 = .ok (.getfield 10, 3) := by decide +kernel
theorem dX6_trade_74 : decode cX6_trade 74 = .ok (.dup, 1) := by decide +kernel
theorem dX6_trade_75 : decode cX6_trade 75 = .ok (.getfield 93, 3) := by decide +kernel
theorem dX6_trade_78 : decode cX6_trade 78 = .ok (.iconst 1, 1) := by decide +kernel
theorem dX6_trade_79 : decode cX6_trade 79 = .ok (.iadd, 1) := by decide +kernel
theorem dX6_trade_80 : decode cX6_trade 80 = .ok (.putfield 93, 3) := by decide +kernel
theorem dX6_trade_83 : decode cX6_trade 83 = .ok (.iload 7, 2) := by decide +kernel
theorem dX6_trade_85 : decode cX6_trade 85 = .ok (.ireturn, 1) := by decide +kernel
theorem dX6_trade_86 : decode cX6_trade 86 = .ok (.aload_n 0, 1) := by decide +kernel
theorem dX6_trade_87 : decode cX6_trade 87 = .ok (.getfield 10, 3) := by decide +kernel
theorem dX6_trade_90 : decode cX6_trade 90 = .ok (.iload_n 1, 1) := by decide +kernel
theorem dX6_trade_91 : decode cX6_trade 91 = .ok (.iload 4, 2) := by decide +kernel
theorem dX6_trade_93 : decode cX6_trade 93 = .ok (.iload_n 2, 1) := by decide +kernel
theorem dX6_trade_94 : decode cX6_trade 94 = .ok (.iload_n 3, 1) := by decide +kernel
theorem dX6_trade_95 : decode cX6_trade 95 = .ok (.invokevirtual 97, 3) := by decide +kernel
theorem dX6_trade_98 : decode cX6_trade 98 = .ok (.aload_n 0, 1) := by decide +kernel
theorem dX6_trade_99 : decode cX6_trade 99 = .ok (.getfield 10, 3) := by decide +kernel
theorem dX6_trade_102 : decode cX6_trade 102 = .ok (.iload 4, 2) := by decide +kernel
theorem dX6_trade_104 : decode cX6_trade 104 = .ok (.iload_n 1, 1) := by decide +kernel
theorem dX6_trade_105 : decode cX6_trade 105 = .ok (.iload 5, 2) := by decide +kernel
theorem dX6_trade_107 : decode cX6_trade 107 = .ok (.iload 6, 2) := by decide +kernel
theorem dX6_trade_109 : decode cX6_trade 109 = .ok (.invokevirtual 97, 3) := by decide +kernel
theorem dX6_trade_112 : decode cX6_trade 112 = .ok (.aload_n 0, 1) := by decide +kernel
theorem dX6_trade_113 : decode cX6_trade 113 = .ok (.getfield 10, 3) := by decide +kernel
theorem dX6_trade_116 : decode cX6_trade 116 = .ok (.dup, 1) := by decide +kernel
theorem dX6_trade_117 : decode cX6_trade 117 = .ok (.getfield 101, 3) := by decide +kernel
theorem dX6_trade_120 : decode cX6_trade 120 = .ok (.iconst 1, 1) := by decide +kernel
theorem dX6_trade_121 : decode cX6_trade 121 = .ok (.iadd, 1) := by decide +kernel
theorem dX6_trade_122 : decode cX6_trade 122 = .ok (.putfield 101, 3) := by decide +kernel
theorem dX6_trade_125 : decode cX6_trade 125 = .ok (.iconst 0, 1) := by decide +kernel
theorem dX6_trade_126 : decode cX6_trade 126 = .ok (.ireturn, 1) := by decide +kernel
theorem dX6_worth_0 : decode cX6_worth 0 = .ok (.iload_n 1, 1) := by decide +kernel
theorem dX6_worth_1 : decode cX6_worth 1 = .ok (.invokestatic 79, 3) := by decide +kernel
theorem dX6_worth_4 : decode cX6_worth 4 = .ok (.iload_n 2, 1) := by decide +kernel
theorem dX6_worth_5 : decode cX6_worth 5 = .ok (.iconst 1, 1) := by decide +kernel
theorem dX6_worth_6 : decode cX6_worth 6 = .ok (.bipush 9, 2) := by decide +kernel
theorem dX6_worth_8 : decode cX6_worth 8 = .ok (.invokestatic 85, 3) := by decide +kernel
theorem dX6_worth_11 : decode cX6_worth 11 = .ok (.aload_n 0, 1) := by decide +kernel
theorem dX6_worth_12 : decode cX6_worth 12 = .ok (.getfield 19, 3) := by decide +kernel
theorem dX6_worth_15 : decode cX6_worth 15 = .ok (.aload_n 0, 1) := by decide +kernel
theorem dX6_worth_16 : decode cX6_worth 16 = .ok (.getfield 10, 3) := by decide +kernel
theorem dX6_worth_19 : decode cX6_worth 19 = .ok (.invokevirtual 60, 3) := by decide +kernel
theorem dX6_worth_22 : decode cX6_worth 22 = .ok (.aload_n 0, 1) := by decide +kernel
theorem dX6_worth_23 : decode cX6_worth 23 = .ok (.getfield 10, 3) := by decide +kernel
theorem dX6_worth_26 : decode cX6_worth 26 = .ok (.getfield 104, 3) := by decide +kernel
theorem dX6_worth_29 : decode cX6_worth 29 = .ok (.iload_n 1, 1) := by decide +kernel
theorem dX6_worth_30 : decode cX6_worth 30 = .ok (.iaload, 1) := by decide +kernel
theorem dX6_worth_31 : decode cX6_worth 31 = .ok (.istore_n 3, 1) := by decide +kernel
theorem dX6_worth_32 : decode cX6_worth 32 = .ok (.aload_n 0, 1) := by decide +kernel
theorem dX6_worth_33 : decode cX6_worth 33 = .ok (.getfield 10, 3) := by decide +kernel
theorem dX6_worth_36 : decode cX6_worth 36 = .ok (.getfield 104, 3) := by decide +kernel
theorem dX6_worth_39 : decode cX6_worth 39 = .ok (.iload_n 1, 1) := by decide +kernel
theorem dX6_worth_40 : decode cX6_worth 40 = .ok (.iload_n 2, 1) := by decide +kernel
theorem dX6_worth_41 : decode cX6_worth 41 = .ok (.iastore, 1) := by decide +kernel
theorem dX6_worth_42 : decode cX6_worth 42 = .ok (.iload_n 3, 1) := by decide +kernel
theorem dX6_worth_43 : decode cX6_worth 43 = .ok (.ireturn, 1) := by decide +kernel
theorem dX6_set_0 : decode cX6_set 0 = .ok (.iload_n 1, 1) := by decide +kernel
theorem dX6_set_1 : decode cX6_set 1 = .ok (.iconst 0, 1) := by decide +kernel
theorem dX6_set_2 : decode cX6_set 2 = .ok (.bipush 9, 2) := by decide +kernel
theorem dX6_set_4 : decode cX6_set 4 = .ok (.invokestatic 85, 3) := by decide +kernel
theorem dX6_set_7 : decode cX6_set 7 = .ok (.aload_n 0, 1) := by decide +kernel
theorem dX6_set_8 : decode cX6_set 8 = .ok (.getfield 19, 3) := by decide +kernel
theorem dX6_set_11 : decode cX6_set 11 = .ok (.aload_n 0, 1) := by decide +kernel
theorem dX6_set_12 : decode cX6_set 12 = .ok (.getfield 10, 3) := by decide +kernel
theorem dX6_set_15 : decode cX6_set 15 = .ok (.invokevirtual 60, 3) := by decide +kernel
theorem dX6_set_18 : decode cX6_set 18 = .ok (.aload_n 0, 1) := by decide +kernel
theorem dX6_set_19 : decode cX6_set 19 = .ok (.getfield 10, 3) := by decide +kernel
theorem dX6_set_22 : decode cX6_set 22 = .ok (.getfield 107, 3) := by decide +kernel
theorem dX6_set_25 : decode cX6_set 25 = .ok (.istore_n 2, 1) := by decide +kernel
theorem dX6_set_26 : decode cX6_set 26 = .ok (.aload_n 0, 1) := by decide +kernel
theorem dX6_set_27 : decode cX6_set 27 = .ok (.getfield 10, 3) := by decide +kernel
theorem dX6_set_30 : decode cX6_set 30 = .ok (.iload_n 1, 1) := by decide +kernel
theorem dX6_set_31 : decode cX6_set 31 = .ok (.putfield 107, 3) := by decide +kernel
theorem dX6_set_34 : decode cX6_set 34 = .ok (.iload_n 2, 1) := by decide +kernel
theorem dX6_set_35 : decode cX6_set 35 = .ok (.ireturn, 1) := by decide +kernel
theorem dX6_promise_0 : decode cX6_promise 0 = .ok (.iload_n 1, 1) := by decide +kernel
theorem dX6_promise_1 : decode cX6_promise 1 = .ok (.invokestatic 68, 3) := by decide +kernel
theorem dX6_promise_4 : decode cX6_promise 4 = .ok (.iload_n 2, 1) := by decide +kernel
theorem dX6_promise_5 : decode cX6_promise 5 = .ok (.invokestatic 68, 3) := by decide +kernel
theorem dX6_promise_8 : decode cX6_promise 8 = .ok (.iload_n 1, 1) := by decide +kernel
theorem dX6_promise_9 : decode cX6_promise 9 = .ok (.iload_n 2, 1) := by decide +kernel
theorem dX6_promise_10 : decode cX6_promise 10 = .ok (.invokestatic 82, 3) := by decide +kernel
theorem dX6_promise_13 : decode cX6_promise 13 = .ok (.iload_n 3, 1) := by decide +kernel
theorem dX6_promise_14 : decode cX6_promise 14 = .ok (.iconst 1, 1) := by decide +kernel
theorem dX6_promise_15 : decode cX6_promise 15 = .ok (.bipush 99, 2) := by decide +kernel
theorem dX6_promise_17 : decode cX6_promise 17 = .ok (.invokestatic 85, 3) := by decide +kernel
theorem dX6_promise_20 : decode cX6_promise 20 = .ok (.iload 4, 2) := by decide +kernel
theorem dX6_promise_22 : decode cX6_promise 22 = .ok (.iconst 0, 1) := by decide +kernel
theorem dX6_promise_23 : decode cX6_promise 23 = .ok (.bipush 9, 2) := by decide +kernel
theorem dX6_promise_25 : decode cX6_promise 25 = .ok (.invokestatic 85, 3) := by decide +kernel
theorem dX6_promise_28 : decode cX6_promise 28 = .ok (.aload_n 0, 1) := by decide +kernel
theorem dX6_promise_29 : decode cX6_promise 29 = .ok (.getfield 19, 3) := by decide +kernel
theorem dX6_promise_32 : decode cX6_promise 32 = .ok (.aload_n 0, 1) := by decide +kernel
theorem dX6_promise_33 : decode cX6_promise 33 = .ok (.getfield 10, 3) := by decide +kernel
theorem dX6_promise_36 : decode cX6_promise 36 = .ok (.invokevirtual 60, 3) := by decide +kernel
theorem dX6_promise_39 : decode cX6_promise 39 = .ok (.aload_n 0, 1) := by decide +kernel
theorem dX6_promise_40 : decode cX6_promise 40 = .ok (.getfield 10, 3) := by decide +kernel
theorem dX6_promise_43 : decode cX6_promise 43 = .ok (.iload_n 1, 1) := by decide +kernel
theorem dX6_promise_44 : decode cX6_promise 44 = .ok (.iload_n 2, 1) := by decide +kernel
theorem dX6_promise_45 : decode cX6_promise 45 = .ok (.iload_n 3, 1) := by decide +kernel
theorem dX6_promise_46 : decode cX6_promise 46 = .ok (.iload 4, 2) := by decide +kernel
theorem dX6_promise_48 : decode cX6_promise 48 = .ok (.invokevirtual 110, 3) := by decide +kernel
theorem dX6_promise_51 : decode cX6_promise 51 = .ok (.ireturn, 1) := by decide +kernel
theorem dX6_fulfil_0 : decode cX6_fulfil 0 = .ok (.aload_n 0, 1) := by decide +kernel
theorem dX6_fulfil_1 : decode cX6_fulfil 1 = .ok (.iload_n 1, 1) := by decide +kernel
theorem dX6_fulfil_2 : decode cX6_fulfil 2 = .ok (.invokevirtual 114, 3) := by decide +kernel
theorem dX6_fulfil_5 : decode cX6_fulfil 5 = .ok (.aload_n 0, 1) := by decide +kernel
theorem dX6_fulfil_6 : decode cX6_fulfil 6 = .ok (.getfield 19, 3) := by decide +kernel
theorem dX6_fulfil_9 : decode cX6_fulfil 9 = .ok (.aload_n 0, 1) := by decide +kernel
theorem dX6_fulfil_10 : decode cX6_fulfil 10 = .ok (.getfield 10, 3) := by decide +kernel
theorem dX6_fulfil_13 : decode cX6_fulfil 13 = .ok (.invokevirtual 60, 3) := by decide +kernel
theorem dX6_fulfil_16 : decode cX6_fulfil 16 = .ok (.aload_n 0, 1) := by decide +kernel
theorem dX6_fulfil_17 : decode cX6_fulfil 17 = .ok (.iload_n 1, 1) := by decide +kernel
theorem dX6_fulfil_18 : decode cX6_fulfil 18 = .ok (.invokevirtual 117, 3) := by decide +kernel
theorem dX6_fulfil_21 : decode cX6_fulfil 21 = .ok (.ireturn, 1) := by decide +kernel
theorem dX6_append_0 : decode cX6_append 0 = .ok (.iload_n 1, 1) := by decide +kernel
theorem dX6_append_1 : decode cX6_append 1 = .ok (.bipush 33, 2) := by decide +kernel
theorem dX6_append_3 : decode cX6_append 3 = .ok (.bipush 126, 2) := by decide +kernel
theorem dX6_append_5 : decode cX6_append 5 = .ok (.invokestatic 85, 3) := by decide +kernel
theorem dX6_append_8 : decode cX6_append 8 = .ok (.aload_n 0, 1) := by decide +kernel
theorem dX6_append_9 : decode cX6_append 9 = .ok (.getfield 33, 3) := by decide +kernel
theorem dX6_append_12 : decode cX6_append 12 = .ok (.getfield 121, 3) := by decide +kernel
theorem dX6_append_15 : decode cX6_append 15 = .ok (.bipush 60, 2) := by decide +kernel
theorem dX6_append_17 : decode cX6_append 17 = .ok (.if_icmp .lt 13, 3) := by decide +kernel
theorem dX6_append_20 : decode cX6_append 20 = .ok (.new 53, 3) := by decide +kernel
theorem dX6_append_23 : decode cX6_append 23 = .ok (.dup, 1) := by decide +kernel
theorem dX6_append_24 : decode cX6_append 24 = .ok (.ldc 124, 2) := by decide +kernel
theorem dX6_append_26 : decode cX6_append 26 = .ok (.invokespecial 57, 3) := by decide +kernel
theorem dX6_append_29 : decode cX6_append 29 = .ok (.athrow, 1) := by decide +kernel
theorem dX6_append_30 : decode cX6_append 30 = .ok (.aload_n 0, 1) := by decide +kernel
theorem dX6_append_31 : decode cX6_append 31 = .ok (.getfield 33, 3) := by decide +kernel
theorem dX6_append_34 : decode cX6_append 34 = .ok (.iload_n 1, 1) := by decide +kernel
theorem dX6_append_35 : decode cX6_append 35 = .ok (.i2c, 1) := by decide +kernel
theorem dX6_append_36 : decode cX6_append 36 = .ok (.invokevirtual 126, 3) := by decide +kernel
theorem dX6_append_39 : decode cX6_append 39 = .ok (.aload_n 0, 1) := by decide +kernel
theorem dX6_append_40 : decode cX6_append 40 = .ok (.getfield 33, 3) := by decide +kernel
theorem dX6_append_43 : decode cX6_append 43 = .ok (.getfield 121, 3) := by decide +kernel
theorem dX6_append_46 : decode cX6_append 46 = .ok (.ireturn, 1) := by decide +kernel
theorem dX6_clearBuffer_0 : decode cX6_clearBuffer 0 = .ok (.aload_n 0, 1) := by decide +kernel
theorem dX6_clearBuffer_1 : decode cX6_clearBuffer 1 = .ok (.getfield 33, 3) := by decide +kernel
theorem dX6_clearBuffer_4 : decode cX6_clearBuffer 4 = .ok (.getfield 121, 3) := by decide +kernel
theorem dX6_clearBuffer_7 : decode cX6_clearBuffer 7 = .ok (.istore_n 1, 1) := by decide +kernel
theorem dX6_clearBuffer_8 : decode cX6_clearBuffer 8 = .ok (.aload_n 0, 1) := by decide +kernel
theorem dX6_clearBuffer_9 : decode cX6_clearBuffer 9 = .ok (.getfield 33, 3) := by decide +kernel
theorem dX6_clearBuffer_12 : decode cX6_clearBuffer 12 = .ok (.iconst 0, 1) := by decide +kernel
theorem dX6_clearBuffer_13 : decode cX6_clearBuffer 13 = .ok (.putfield 121, 3) := by decide +kernel
theorem dX6_clearBuffer_16 : decode cX6_clearBuffer 16 = .ok (.iload_n 1, 1) := by decide +kernel
theorem dX6_clearBuffer_17 : decode cX6_clearBuffer 17 = .ok (.ireturn, 1) := by decide +kernel
theorem dX6_firstError_0 : decode cX6_firstError 0 = .ok (.aload_n 0, 1) := by decide +kernel
theorem dX6_firstError_1 : decode cX6_firstError 1 = .ok (.getfield 33, 3) := by decide +kernel
theorem dX6_firstError_4 : decode cX6_firstError 4 = .ok (.invokevirtual 130, 3) := by decide +kernel
theorem dX6_firstError_7 : decode cX6_firstError 7 = .ok (.ireturn, 1) := by decide +kernel
theorem dX6_run_0 : decode cX6_run 0 = .ok (.aload_n 0, 1) := by decide +kernel
theorem dX6_run_1 : decode cX6_run 1 = .ok (.getfield 33, 3) := by decide +kernel
theorem dX6_run_4 : decode cX6_run 4 = .ok (.invokevirtual 133, 3) := by decide +kernel
theorem dX6_run_7 : decode cX6_run 7 = .ok (.ifCond .ne 13, 3) := by decide +kernel
theorem dX6_run_10 : decode cX6_run 10 = .ok (.new 136, 3) := by decide +kernel
theorem dX6_run_13 : decode cX6_run 13 = .ok (.dup, 1) := by decide +kernel
theorem dX6_run_14 : decode cX6_run 14 = .ok (.ldc 138, 2) := by decide +kernel
theorem dX6_run_16 : decode cX6_run 16 = .ok (.invokespecial 140, 3) := by decide +kernel
theorem dX6_run_19 : decode cX6_run 19 = .ok (.athrow, 1) := by decide +kernel
theorem dX6_run_20 : decode cX6_run 20 = .ok (.aload_n 0, 1) := by decide +kernel
theorem dX6_run_21 : decode cX6_run 21 = .ok (.getfield 19, 3) := by decide +kernel
theorem dX6_run_24 : decode cX6_run 24 = .ok (.aload_n 0, 1) := by decide +kernel
theorem dX6_run_25 : decode cX6_run 25 = .ok (.getfield 10, 3) := by decide +kernel
theorem dX6_run_28 : decode cX6_run 28 = .ok (.invokevirtual 60, 3) := by decide +kernel
theorem dX6_run_31 : decode cX6_run 31 = .ok (.iconst 0, 1) := by decide +kernel
theorem dX6_run_32 : decode cX6_run 32 = .ok (.istore_n 1, 1) := by decide +kernel
theorem dX6_run_33 : decode cX6_run 33 = .ok (.iconst 0, 1) := by decide +kernel
theorem dX6_run_34 : decode cX6_run 34 = .ok (.istore_n 2, 1) := by decide +kernel
theorem dX6_run_35 : decode cX6_run 35 = .ok (.iload_n 2, 1) := by decide +kernel
theorem dX6_run_36 : decode cX6_run 36 = .ok (.aload_n 0, 1) := by decide +kernel
theorem dX6_run_37 : decode cX6_run 37 = .ok (.getfield 33, 3) := by decide +kernel
theorem dX6_run_40 : decode cX6_run 40 = .ok (.getfield 121, 3) := by decide +kernel
theorem dX6_run_43 : decode cX6_run 43 = .ok (.if_icmp .ge 26, 3) := by decide +kernel
theorem dX6_run_46 : decode cX6_run 46 = .ok (.aload_n 0, 1) := by decide +kernel
theorem dX6_run_47 : decode cX6_run 47 = .ok (.iload_n 2, 1) := by decide +kernel
theorem dX6_run_48 : decode cX6_run 48 = .ok (.invokevirtual 141, 3) := by decide +kernel
theorem dX6_run_51 : decode cX6_run 51 = .ok (.ifCond .eq 18, 3) := by decide +kernel
theorem dX6_run_54 : decode cX6_run 54 = .ok (.iinc 1 1, 3) := by decide +kernel
theorem dX6_run_57 : decode cX6_run 57 = .ok (.aload_n 0, 1) := by decide +kernel
theorem dX6_run_58 : decode cX6_run 58 = .ok (.getfield 33, 3) := by decide +kernel
theorem dX6_run_61 : decode cX6_run 61 = .ok (.iload_n 2, 1) := by decide +kernel
theorem dX6_run_62 : decode cX6_run 62 = .ok (.invokevirtual 145, 3) := by decide +kernel
theorem dX6_run_65 : decode cX6_run 65 = .ok (.istore_n 2, 1) := by decide +kernel
theorem dX6_run_66 : decode cX6_run 66 = .ok (.goto (-31), 3) := by decide +kernel
theorem dX6_run_69 : decode cX6_run 69 = .ok (.aload_n 0, 1) := by decide +kernel
theorem dX6_run_70 : decode cX6_run 70 = .ok (.getfield 33, 3) := by decide +kernel
theorem dX6_run_73 : decode cX6_run 73 = .ok (.iconst 0, 1) := by decide +kernel
theorem dX6_run_74 : decode cX6_run 74 = .ok (.putfield 121, 3) := by decide +kernel
theorem dX6_run_77 : decode cX6_run 77 = .ok (.iload_n 1, 1) := by decide +kernel
theorem dX6_run_78 : decode cX6_run 78 = .ok (.ireturn, 1) := by decide +kernel
theorem dX6_keep_0 : decode cX6_keep 0 = .ok (.iload_n 1, 1) := by decide +kernel
theorem dX6_keep_1 : decode cX6_keep 1 = .ok (.iconst 0, 1) := by decide +kernel
theorem dX6_keep_2 : decode cX6_keep 2 = .ok (.iconst 1, 1) := by decide +kernel
theorem dX6_keep_3 : decode cX6_keep 3 = .ok (.invokestatic 85, 3) := by decide +kernel
theorem dX6_keep_6 : decode cX6_keep 6 = .ok (.aload_n 0, 1) := by decide +kernel
theorem dX6_keep_7 : decode cX6_keep 7 = .ok (.getfield 37, 3) := by decide +kernel
theorem dX6_keep_10 : decode cX6_keep 10 = .ok (.iload_n 1, 1) := by decide +kernel
theorem dX6_keep_11 : decode cX6_keep 11 = .ok (.aaload, 1) := by decide +kernel
theorem dX6_keep_12 : decode cX6_keep 12 = .ok (.aload_n 0, 1) := by decide +kernel
theorem dX6_keep_13 : decode cX6_keep 13 = .ok (.getfield 10, 3) := by decide +kernel
theorem dX6_keep_16 : decode cX6_keep 16 = .ok (.invokevirtual 148, 3) := by decide +kernel
theorem dX6_keep_19 : decode cX6_keep 19 = .ok (.aload_n 0, 1) := by decide +kernel
theorem dX6_keep_20 : decode cX6_keep 20 = .ok (.getfield 41, 3) := by decide +kernel
theorem dX6_keep_23 : decode cX6_keep 23 = .ok (.iload_n 1, 1) := by decide +kernel
theorem dX6_keep_24 : decode cX6_keep 24 = .ok (.iconst 1, 1) := by decide +kernel
theorem dX6_keep_25 : decode cX6_keep 25 = .ok (.bastore, 1) := by decide +kernel
theorem dX6_keep_26 : decode cX6_keep 26 = .ok (.aload_n 0, 1) := by decide +kernel
theorem dX6_keep_27 : decode cX6_keep 27 = .ok (.getfield 10, 3) := by decide +kernel
theorem dX6_keep_30 : decode cX6_keep 30 = .ok (.getfield 151, 3) := by decide +kernel
theorem dX6_keep_33 : decode cX6_keep 33 = .ok (.ireturn, 1) := by decide +kernel
theorem dX6_goBack_0 : decode cX6_goBack 0 = .ok (.iload_n 1, 1) := by decide +kernel
theorem dX6_goBack_1 : decode cX6_goBack 1 = .ok (.iconst 0, 1) := by decide +kernel
theorem dX6_goBack_2 : decode cX6_goBack 2 = .ok (.iconst 1, 1) := by decide +kernel
theorem dX6_goBack_3 : decode cX6_goBack 3 = .ok (.invokestatic 85, 3) := by decide +kernel
theorem dX6_goBack_6 : decode cX6_goBack 6 = .ok (.aload_n 0, 1) := by decide +kernel
theorem dX6_goBack_7 : decode cX6_goBack 7 = .ok (.getfield 41, 3) := by decide +kernel
theorem dX6_goBack_10 : decode cX6_goBack 10 = .ok (.iload_n 1, 1) := by decide +kernel
theorem dX6_goBack_11 : decode cX6_goBack 11 = .ok (.baload, 1) := by decide +kernel
theorem dX6_goBack_12 : decode cX6_goBack 12 = .ok (.ifCond .ne 13, 3) := by decide +kernel
theorem dX6_goBack_15 : decode cX6_goBack 15 = .ok (.new 53, 3) := by decide +kernel
theorem dX6_goBack_18 : decode cX6_goBack 18 = .ok (.dup, 1) := by decide +kernel
theorem dX6_goBack_19 : decode cX6_goBack 19 = .ok (.ldc 154, 2) := by decide +kernel
theorem dX6_goBack_21 : decode cX6_goBack 21 = .ok (.invokespecial 57, 3) := by decide +kernel
theorem dX6_goBack_24 : decode cX6_goBack 24 = .ok (.athrow, 1) := by decide +kernel
theorem dX6_goBack_25 : decode cX6_goBack 25 = .ok (.aload_n 0, 1) := by decide +kernel
theorem dX6_goBack_26 : decode cX6_goBack 26 = .ok (.getfield 19, 3) := by decide +kernel
theorem dX6_goBack_29 : decode cX6_goBack 29 = .ok (.aload_n 0, 1) := by decide +kernel
theorem dX6_goBack_30 : decode cX6_goBack 30 = .ok (.getfield 10, 3) := by decide +kernel
theorem dX6_goBack_33 : decode cX6_goBack 33 = .ok (.invokevirtual 60, 3) := by decide +kernel
theorem dX6_goBack_36 : decode cX6_goBack 36 = .ok (.aload_n 0, 1) := by decide +kernel
theorem dX6_goBack_37 : decode cX6_goBack 37 = .ok (.getfield 10, 3) := by decide +kernel
theorem dX6_goBack_40 : decode cX6_goBack 40 = .ok (.aload_n 0, 1) := by decide +kernel
theorem dX6_goBack_41 : decode cX6_goBack 41 = .ok (.getfield 37, 3) := by decide +kernel
theorem dX6_goBack_44 : decode cX6_goBack 44 = .ok (.iload_n 1, 1) := by decide +kernel
theorem dX6_goBack_45 : decode cX6_goBack 45 = .ok (.aaload, 1) := by decide +kernel
theorem dX6_goBack_46 : decode cX6_goBack 46 = .ok (.invokevirtual 148, 3) := by decide +kernel
theorem dX6_goBack_49 : decode cX6_goBack 49 = .ok (.aload_n 0, 1) := by decide +kernel
theorem dX6_goBack_50 : decode cX6_goBack 50 = .ok (.getfield 10, 3) := by decide +kernel
theorem dX6_goBack_53 : decode cX6_goBack 53 = .ok (.getfield 151, 3) := by decide +kernel
theorem dX6_goBack_56 : decode cX6_goBack 56 = .ok (.ireturn, 1) := by decide +kernel
theorem dX6_undo_0 : decode cX6_undo 0 = .ok (.aload_n 0, 1) := by decide +kernel
theorem dX6_undo_1 : decode cX6_undo 1 = .ok (.getfield 19, 3) := by decide +kernel
theorem dX6_undo_4 : decode cX6_undo 4 = .ok (.getfield 156, 3) := by decide +kernel
theorem dX6_undo_7 : decode cX6_undo 7 = .ok (.ifCond .gt 13, 3) := by decide +kernel
theorem dX6_undo_10 : decode cX6_undo 10 = .ok (.new 53, 3) := by decide +kernel
theorem dX6_undo_13 : decode cX6_undo 13 = .ok (.dup, 1) := by decide +kernel
theorem dX6_undo_14 : decode cX6_undo 14 = .ok (.ldc 159, 2) := by decide +kernel
theorem dX6_undo_16 : decode cX6_undo 16 = .ok (.invokespecial 57, 3) := by decide +kernel
theorem dX6_undo_19 : decode cX6_undo 19 = .ok (.athrow, 1) := by decide +kernel
theorem dX6_undo_20 : decode cX6_undo 20 = .ok (.aload_n 0, 1) := by decide +kernel
theorem dX6_undo_21 : decode cX6_undo 21 = .ok (.getfield 19, 3) := by decide +kernel
theorem dX6_undo_24 : decode cX6_undo 24 = .ok (.aload_n 0, 1) := by decide +kernel
theorem dX6_undo_25 : decode cX6_undo 25 = .ok (.getfield 10, 3) := by decide +kernel
theorem dX6_undo_28 : decode cX6_undo 28 = .ok (.invokevirtual 161, 3) := by decide +kernel
theorem dX6_undo_31 : decode cX6_undo 31 = .ok (.aload_n 0, 1) := by decide +kernel
theorem dX6_undo_32 : decode cX6_undo 32 = .ok (.getfield 19, 3) := by decide +kernel
theorem dX6_undo_35 : decode cX6_undo 35 = .ok (.getfield 156, 3) := by decide +kernel
theorem dX6_undo_38 : decode cX6_undo 38 = .ok (.ireturn, 1) := by decide +kernel
theorem dX6_caps_0 : decode cX6_caps 0 = .ok (.iload_n 1, 1) := by decide +kernel
theorem dX6_caps_1 : decode cX6_caps 1 = .ok (.invokestatic 68, 3) := by decide +kernel
theorem dX6_caps_4 : decode cX6_caps 4 = .ok (.iload_n 2, 1) := by decide +kernel
theorem dX6_caps_5 : decode cX6_caps 5 = .ok (.invokestatic 79, 3) := by decide +kernel
theorem dX6_caps_8 : decode cX6_caps 8 = .ok (.aload_n 0, 1) := by decide +kernel
theorem dX6_caps_9 : decode cX6_caps 9 = .ok (.getfield 10, 3) := by decide +kernel
theorem dX6_caps_12 : decode cX6_caps 12 = .ok (.iload_n 1, 1) := by decide +kernel
theorem dX6_caps_13 : decode cX6_caps 13 = .ok (.iload_n 2, 1) := by decide +kernel
theorem dX6_caps_14 : decode cX6_caps 14 = .ok (.invokevirtual 164, 3) := by decide +kernel
theorem dX6_caps_17 : decode cX6_caps 17 = .ok (.ireturn, 1) := by decide +kernel
theorem dX6_islanderOf_0 : decode cX6_islanderOf 0 = .ok (.iload_n 1, 1) := by decide +kernel
theorem dX6_islanderOf_1 : decode cX6_islanderOf 1 = .ok (.invokestatic 68, 3) := by decide +kernel
theorem dX6_islanderOf_4 : decode cX6_islanderOf 4 = .ok (.iload_n 2, 1) := by decide +kernel
theorem dX6_islanderOf_5 : decode cX6_islanderOf 5 = .ok (.tableswitch 83 0 4 #[35, 44, 54, 63, 73], 35) := by decide +kernel
theorem dX6_islanderOf_40 : decode cX6_islanderOf 40 = .ok (.aload_n 0, 1) := by decide +kernel
theorem dX6_islanderOf_41 : decode cX6_islanderOf 41 = .ok (.getfield 10, 3) := by decide +kernel
theorem dX6_islanderOf_44 : decode cX6_islanderOf 44 = .ok (.iload_n 1, 1) := by decide +kernel
theorem dX6_islanderOf_45 : decode cX6_islanderOf 45 = .ok (.invokevirtual 168, 3) := by decide +kernel
theorem dX6_islanderOf_48 : decode cX6_islanderOf 48 = .ok (.ireturn, 1) := by decide +kernel
theorem dX6_islanderOf_49 : decode cX6_islanderOf 49 = .ok (.aload_n 0, 1) := by decide +kernel
theorem dX6_islanderOf_50 : decode cX6_islanderOf 50 = .ok (.getfield 10, 3) := by decide +kernel
theorem dX6_islanderOf_53 : decode cX6_islanderOf 53 = .ok (.getfield 76, 3) := by decide +kernel
theorem dX6_islanderOf_56 : decode cX6_islanderOf 56 = .ok (.iload_n 1, 1) := by decide +kernel
theorem dX6_islanderOf_57 : decode cX6_islanderOf 57 = .ok (.iaload, 1) := by decide +kernel
theorem dX6_islanderOf_58 : decode cX6_islanderOf 58 = .ok (.ireturn, 1) := by decide +kernel
theorem dX6_islanderOf_59 : decode cX6_islanderOf 59 = .ok (.aload_n 0, 1) := by decide +kernel
theorem dX6_islanderOf_60 : decode cX6_islanderOf 60 = .ok (.getfield 10, 3) := by decide +kernel
theorem dX6_islanderOf_63 : decode cX6_islanderOf 63 = .ok (.iload_n 1, 1) := by decide +kernel
theorem dX6_islanderOf_64 : decode cX6_islanderOf 64 = .ok (.invokevirtual 171, 3) := by decide +kernel
theorem dX6_islanderOf_67 : decode cX6_islanderOf 67 = .ok (.ireturn, 1) := by decide +kernel
theorem dX6_islanderOf_68 : decode cX6_islanderOf 68 = .ok (.aload_n 0, 1) := by decide +kernel
theorem dX6_islanderOf_69 : decode cX6_islanderOf 69 = .ok (.getfield 10, 3) := by decide +kernel
theorem dX6_islanderOf_72 : decode cX6_islanderOf 72 = .ok (.iconst 0, 1) := by decide +kernel
theorem dX6_islanderOf_73 : decode cX6_islanderOf 73 = .ok (.iload_n 1, 1) := by decide +kernel
theorem dX6_islanderOf_74 : decode cX6_islanderOf 74 = .ok (.invokevirtual 174, 3) := by decide +kernel
theorem dX6_islanderOf_77 : decode cX6_islanderOf 77 = .ok (.ireturn, 1) := by decide +kernel
theorem dX6_islanderOf_78 : decode cX6_islanderOf 78 = .ok (.aload_n 0, 1) := by decide +kernel
theorem dX6_islanderOf_79 : decode cX6_islanderOf 79 = .ok (.getfield 10, 3) := by decide +kernel
theorem dX6_islanderOf_82 : decode cX6_islanderOf 82 = .ok (.iconst 1, 1) := by decide +kernel
theorem dX6_islanderOf_83 : decode cX6_islanderOf 83 = .ok (.iload_n 1, 1) := by decide +kernel
theorem dX6_islanderOf_84 : decode cX6_islanderOf 84 = .ok (.invokevirtual 174, 3) := by decide +kernel
theorem dX6_islanderOf_87 : decode cX6_islanderOf 87 = .ok (.ireturn, 1) := by decide +kernel
theorem dX6_islanderOf_88 : decode cX6_islanderOf 88 = .ok (.new 136, 3) := by decide +kernel
theorem dX6_islanderOf_91 : decode cX6_islanderOf 91 = .ok (.dup, 1) := by decide +kernel
theorem dX6_islanderOf_92 : decode cX6_islanderOf 92 = .ok (.ldc 177, 2) := by decide +kernel
theorem dX6_islanderOf_94 : decode cX6_islanderOf 94 = .ok (.invokespecial 140, 3) := by decide +kernel
theorem dX6_islanderOf_97 : decode cX6_islanderOf 97 = .ok (.athrow, 1) := by decide +kernel
theorem dX6_promiseOf_0 : decode cX6_promiseOf 0 = .ok (.aload_n 0, 1) := by decide +kernel
theorem dX6_promiseOf_1 : decode cX6_promiseOf 1 = .ok (.iload_n 1, 1) := by decide +kernel
theorem dX6_promiseOf_2 : decode cX6_promiseOf 2 = .ok (.invokevirtual 114, 3) := by decide +kernel
theorem dX6_promiseOf_5 : decode cX6_promiseOf 5 = .ok (.iload_n 2, 1) := by decide +kernel
theorem dX6_promiseOf_6 : decode cX6_promiseOf 6 = .ok (.iconst 0, 1) := by decide +kernel
theorem dX6_promiseOf_7 : decode cX6_promiseOf 7 = .ok (.iconst 4, 1) := by decide +kernel
theorem dX6_promiseOf_8 : decode cX6_promiseOf 8 = .ok (.invokestatic 85, 3) := by decide +kernel
theorem dX6_promiseOf_11 : decode cX6_promiseOf 11 = .ok (.iload_n 2, 1) := by decide +kernel
theorem dX6_promiseOf_12 : decode cX6_promiseOf 12 = .ok (.iconst 4, 1) := by decide +kernel
theorem dX6_promiseOf_13 : decode cX6_promiseOf 13 = .ok (.if_icmp .ge 13, 3) := by decide +kernel
theorem dX6_promiseOf_16 : decode cX6_promiseOf 16 = .ok (.aload_n 0, 1) := by decide +kernel
theorem dX6_promiseOf_17 : decode cX6_promiseOf 17 = .ok (.getfield 10, 3) := by decide +kernel
theorem dX6_promiseOf_20 : decode cX6_promiseOf 20 = .ok (.iload_n 1, 1) := by decide +kernel
theorem dX6_promiseOf_21 : decode cX6_promiseOf 21 = .ok (.iload_n 2, 1) := by decide +kernel
theorem dX6_promiseOf_22 : decode cX6_promiseOf 22 = .ok (.invokevirtual 179, 3) := by decide +kernel
theorem dX6_promiseOf_25 : decode cX6_promiseOf 25 = .ok (.ireturn, 1) := by decide +kernel
theorem dX6_promiseOf_26 : decode cX6_promiseOf 26 = .ok (.aload_n 0, 1) := by decide +kernel
theorem dX6_promiseOf_27 : decode cX6_promiseOf 27 = .ok (.getfield 26, 3) := by decide +kernel
theorem dX6_promiseOf_30 : decode cX6_promiseOf 30 = .ok (.aload_n 0, 1) := by decide +kernel
theorem dX6_promiseOf_31 : decode cX6_promiseOf 31 = .ok (.getfield 10, 3) := by decide +kernel
theorem dX6_promiseOf_34 : decode cX6_promiseOf 34 = .ok (.aload_n 0, 1) := by decide +kernel
theorem dX6_promiseOf_35 : decode cX6_promiseOf 35 = .ok (.getfield 10, 3) := by decide +kernel
theorem dX6_promiseOf_38 : decode cX6_promiseOf 38 = .ok (.iload_n 1, 1) := by decide +kernel
theorem dX6_promiseOf_39 : decode cX6_promiseOf 39 = .ok (.iconst 0, 1) := by decide +kernel
theorem dX6_promiseOf_40 : decode cX6_promiseOf 40 = .ok (.invokevirtual 179, 3) := by decide +kernel
theorem dX6_promiseOf_43 : decode cX6_promiseOf 43 = .ok (.aload_n 0, 1) := by decide +kernel
theorem dX6_promiseOf_44 : decode cX6_promiseOf 44 = .ok (.getfield 10, 3) := by decide +kernel
theorem dX6_promiseOf_47 : decode cX6_promiseOf 47 = .ok (.iload_n 1, 1) := by decide +kernel
theorem dX6_promiseOf_48 : decode cX6_promiseOf 48 = .ok (.iconst 2, 1) := by decide +kernel
theorem dX6_promiseOf_49 : decode cX6_promiseOf 49 = .ok (.invokevirtual 179, 3) := by decide +kernel
theorem dX6_promiseOf_52 : decode cX6_promiseOf 52 = .ok (.invokevirtual 182, 3) := by decide +kernel
theorem dX6_promiseOf_55 : decode cX6_promiseOf 55 = .ok (.ireturn, 1) := by decide +kernel
theorem dX6_owed_0 : decode cX6_owed 0 = .ok (.iload_n 1, 1) := by decide +kernel
theorem dX6_owed_1 : decode cX6_owed 1 = .ok (.invokestatic 68, 3) := by decide +kernel
theorem dX6_owed_4 : decode cX6_owed 4 = .ok (.iload_n 2, 1) := by decide +kernel
theorem dX6_owed_5 : decode cX6_owed 5 = .ok (.invokestatic 68, 3) := by decide +kernel
theorem dX6_owed_8 : decode cX6_owed 8 = .ok (.iconst 0, 1) := by decide +kernel
theorem dX6_owed_9 : decode cX6_owed 9 = .ok (.istore_n 3, 1) := by decide +kernel
theorem dX6_owed_10 : decode cX6_owed 10 = .ok (.iconst 0, 1) := by decide +kernel
theorem dX6_owed_11 : decode cX6_owed 11 = .ok (.istore 4, 2) := by decide +kernel
theorem dX6_owed_13 : decode cX6_owed 13 = .ok (.iload 4, 2) := by decide +kernel
theorem dX6_owed_15 : decode cX6_owed 15 = .ok (.aload_n 0, 1) := by decide +kernel
theorem dX6_owed_16 : decode cX6_owed 16 = .ok (.getfield 10, 3) := by decide +kernel
theorem dX6_owed_19 : decode cX6_owed 19 = .ok (.getfield 186, 3) := by decide +kernel
theorem dX6_owed_22 : decode cX6_owed 22 = .ok (.if_icmp .ge 50, 3) := by decide +kernel
theorem dX6_owed_25 : decode cX6_owed 25 = .ok (.aload_n 0, 1) := by decide +kernel
theorem dX6_owed_26 : decode cX6_owed 26 = .ok (.getfield 10, 3) := by decide +kernel
theorem dX6_owed_29 : decode cX6_owed 29 = .ok (.iload 4, 2) := by decide +kernel
theorem dX6_owed_31 : decode cX6_owed 31 = .ok (.iconst 0, 1) := by decide +kernel
theorem dX6_owed_32 : decode cX6_owed 32 = .ok (.invokevirtual 179, 3) := by decide +kernel
theorem dX6_owed_35 : decode cX6_owed 35 = .ok (.iload_n 1, 1) := by decide +kernel
theorem dX6_owed_36 : decode cX6_owed 36 = .ok (.if_icmp .ne 30, 3) := by decide +kernel
theorem dX6_owed_39 : decode cX6_owed 39 = .ok (.aload_n 0, 1) := by decide +kernel
theorem dX6_owed_40 : decode cX6_owed 40 = .ok (.getfield 10, 3) := by decide +kernel
theorem dX6_owed_43 : decode cX6_owed 43 = .ok (.iload 4, 2) := by decide +kernel
theorem dX6_owed_45 : decode cX6_owed 45 = .ok (.iconst 1, 1) := by decide +kernel
theorem dX6_owed_46 : decode cX6_owed 46 = .ok (.invokevirtual 179, 3) := by decide +kernel
theorem dX6_owed_49 : decode cX6_owed 49 = .ok (.iload_n 2, 1) := by decide +kernel
theorem dX6_owed_50 : decode cX6_owed 50 = .ok (.if_icmp .ne 16, 3) := by decide +kernel
theorem dX6_owed_53 : decode cX6_owed 53 = .ok (.iload_n 3, 1) := by decide +kernel
theorem dX6_owed_54 : decode cX6_owed 54 = .ok (.aload_n 0, 1) := by decide +kernel
theorem dX6_owed_55 : decode cX6_owed 55 = .ok (.getfield 10, 3) := by decide +kernel
theorem dX6_owed_58 : decode cX6_owed 58 = .ok (.iload 4, 2) := by decide +kernel
theorem dX6_owed_60 : decode cX6_owed 60 = .ok (.iconst 2, 1) := by decide +kernel
theorem dX6_owed_61 : decode cX6_owed 61 = .ok (.invokevirtual 179, 3) := by decide +kernel
theorem dX6_owed_64 : decode cX6_owed 64 = .ok (.iadd, 1) := by decide +kernel
theorem dX6_owed_65 : decode cX6_owed 65 = .ok (.istore_n 3, 1) := by decide +kernel
theorem dX6_owed_66 : decode cX6_owed 66 = .ok (.iinc 4 1, 3) := by decide +kernel
theorem dX6_owed_69 : decode cX6_owed 69 = .ok (.goto (-56), 3) := by decide +kernel
theorem dX6_owed_72 : decode cX6_owed 72 = .ok (.iload_n 3, 1) := by decide +kernel
theorem dX6_owed_73 : decode cX6_owed 73 = .ok (.ireturn, 1) := by decide +kernel
theorem dX6_count_0 : decode cX6_count 0 = .ok (.iload_n 1, 1) := by decide +kernel
theorem dX6_count_1 : decode cX6_count 1 = .ok (.tableswitch 135 0 9 #[55, 63, 71, 79, 87, 95, 103, 111, 119, 127], 55) := by decide +kernel
theorem dX6_count_56 : decode cX6_count 56 = .ok (.aload_n 0, 1) := by decide +kernel
theorem dX6_count_57 : decode cX6_count 57 = .ok (.getfield 10, 3) := by decide +kernel
theorem dX6_count_60 : decode cX6_count 60 = .ok (.getfield 151, 3) := by decide +kernel
theorem dX6_count_63 : decode cX6_count 63 = .ok (.ireturn, 1) := by decide +kernel
theorem dX6_count_64 : decode cX6_count 64 = .ok (.aload_n 0, 1) := by decide +kernel
theorem dX6_count_65 : decode cX6_count 65 = .ok (.getfield 10, 3) := by decide +kernel
theorem dX6_count_68 : decode cX6_count 68 = .ok (.invokevirtual 189, 3) := by decide +kernel
theorem dX6_count_71 : decode cX6_count 71 = .ok (.ireturn, 1) := by decide +kernel
theorem dX6_count_72 : decode cX6_count 72 = .ok (.aload_n 0, 1) := by decide +kernel
theorem dX6_count_73 : decode cX6_count 73 = .ok (.getfield 10, 3) := by decide +kernel
theorem dX6_count_76 : decode cX6_count 76 = .ok (.invokevirtual 192, 3) := by decide +kernel
theorem dX6_count_79 : decode cX6_count 79 = .ok (.ireturn, 1) := by decide +kernel
theorem dX6_count_80 : decode cX6_count 80 = .ok (.aload_n 0, 1) := by decide +kernel
theorem dX6_count_81 : decode cX6_count 81 = .ok (.getfield 10, 3) := by decide +kernel
theorem dX6_count_84 : decode cX6_count 84 = .ok (.getfield 186, 3) := by decide +kernel
theorem dX6_count_87 : decode cX6_count 87 = .ok (.ireturn, 1) := by decide +kernel
theorem dX6_count_88 : decode cX6_count 88 = .ok (.aload_n 0, 1) := by decide +kernel
theorem dX6_count_89 : decode cX6_count 89 = .ok (.getfield 10, 3) := by decide +kernel
theorem dX6_count_92 : decode cX6_count 92 = .ok (.getfield 101, 3) := by decide +kernel
theorem dX6_count_95 : decode cX6_count 95 = .ok (.ireturn, 1) := by decide +kernel
theorem dX6_count_96 : decode cX6_count 96 = .ok (.aload_n 0, 1) := by decide +kernel
theorem dX6_count_97 : decode cX6_count 97 = .ok (.getfield 10, 3) := by decide +kernel
theorem dX6_count_100 : decode cX6_count 100 = .ok (.getfield 195, 3) := by decide +kernel
theorem dX6_count_103 : decode cX6_count 103 = .ok (.ireturn, 1) := by decide +kernel
theorem dX6_count_104 : decode cX6_count 104 = .ok (.aload_n 0, 1) := by decide +kernel
theorem dX6_count_105 : decode cX6_count 105 = .ok (.getfield 10, 3) := by decide +kernel
theorem dX6_count_108 : decode cX6_count 108 = .ok (.getfield 198, 3) := by decide +kernel
theorem dX6_count_111 : decode cX6_count 111 = .ok (.ireturn, 1) := by decide +kernel
theorem dX6_count_112 : decode cX6_count 112 = .ok (.aload_n 0, 1) := by decide +kernel
theorem dX6_count_113 : decode cX6_count 113 = .ok (.getfield 10, 3) := by decide +kernel
theorem dX6_count_116 : decode cX6_count 116 = .ok (.getfield 93, 3) := by decide +kernel
theorem dX6_count_119 : decode cX6_count 119 = .ok (.ireturn, 1) := by decide +kernel
theorem dX6_count_120 : decode cX6_count 120 = .ok (.aload_n 0, 1) := by decide +kernel
theorem dX6_count_121 : decode cX6_count 121 = .ok (.getfield 10, 3) := by decide +kernel
theorem dX6_count_124 : decode cX6_count 124 = .ok (.getfield 107, 3) := by decide +kernel
theorem dX6_count_127 : decode cX6_count 127 = .ok (.ireturn, 1) := by decide +kernel
theorem dX6_count_128 : decode cX6_count 128 = .ok (.aload_n 0, 1) := by decide +kernel
theorem dX6_count_129 : decode cX6_count 129 = .ok (.getfield 19, 3) := by decide +kernel
theorem dX6_count_132 : decode cX6_count 132 = .ok (.getfield 156, 3) := by decide +kernel
theorem dX6_count_135 : decode cX6_count 135 = .ok (.ireturn, 1) := by decide +kernel
theorem dX6_count_136 : decode cX6_count 136 = .ok (.new 136, 3) := by decide +kernel
theorem dX6_count_139 : decode cX6_count 139 = .ok (.dup, 1) := by decide +kernel
theorem dX6_count_140 : decode cX6_count 140 = .ok (.ldc 201, 2) := by decide +kernel
theorem dX6_count_142 : decode cX6_count 142 = .ok (.invokespecial 140, 3) := by decide +kernel
theorem dX6_count_145 : decode cX6_count 145 = .ok (.athrow, 1) := by decide +kernel
theorem dX6_where_0 : decode cX6_where 0 = .ok (.iload_n 1, 1) := by decide +kernel
theorem dX6_where_1 : decode cX6_where 1 = .ok (.invokestatic 68, 3) := by decide +kernel
theorem dX6_where_4 : decode cX6_where 4 = .ok (.iload_n 2, 1) := by decide +kernel
theorem dX6_where_5 : decode cX6_where 5 = .ok (.iconst 0, 1) := by decide +kernel
theorem dX6_where_6 : decode cX6_where 6 = .ok (.sipush 1000, 3) := by decide +kernel
theorem dX6_where_9 : decode cX6_where 9 = .ok (.invokestatic 85, 3) := by decide +kernel
theorem dX6_where_12 : decode cX6_where 12 = .ok (.iload_n 3, 1) := by decide +kernel
theorem dX6_where_13 : decode cX6_where 13 = .ok (.iconst 0, 1) := by decide +kernel
theorem dX6_where_14 : decode cX6_where 14 = .ok (.iconst 1, 1) := by decide +kernel
theorem dX6_where_15 : decode cX6_where 15 = .ok (.invokestatic 85, 3) := by decide +kernel
theorem dX6_where_18 : decode cX6_where 18 = .ok (.iload_n 3, 1) := by decide +kernel
theorem dX6_where_19 : decode cX6_where 19 = .ok (.ifCond .ne 13, 3) := by decide +kernel
theorem dX6_where_22 : decode cX6_where 22 = .ok (.aload_n 0, 1) := by decide +kernel
theorem dX6_where_23 : decode cX6_where 23 = .ok (.getfield 10, 3) := by decide +kernel
theorem dX6_where_26 : decode cX6_where 26 = .ok (.iload_n 1, 1) := by decide +kernel
theorem dX6_where_27 : decode cX6_where 27 = .ok (.iload_n 2, 1) := by decide +kernel
theorem dX6_where_28 : decode cX6_where 28 = .ok (.invokevirtual 203, 3) := by decide +kernel
theorem dX6_where_31 : decode cX6_where 31 = .ok (.ireturn, 1) := by decide +kernel
theorem dX6_where_32 : decode cX6_where 32 = .ok (.aload_n 0, 1) := by decide +kernel
theorem dX6_where_33 : decode cX6_where 33 = .ok (.getfield 10, 3) := by decide +kernel
theorem dX6_where_36 : decode cX6_where 36 = .ok (.iload_n 1, 1) := by decide +kernel
theorem dX6_where_37 : decode cX6_where 37 = .ok (.invokevirtual 171, 3) := by decide +kernel
theorem dX6_where_40 : decode cX6_where 40 = .ok (.istore 4, 2) := by decide +kernel
theorem dX6_where_42 : decode cX6_where 42 = .ok (.aload_n 0, 1) := by decide +kernel
theorem dX6_where_43 : decode cX6_where 43 = .ok (.getfield 10, 3) := by decide +kernel
theorem dX6_where_46 : decode cX6_where 46 = .ok (.iload_n 1, 1) := by decide +kernel
theorem dX6_where_47 : decode cX6_where 47 = .ok (.iload 4, 2) := by decide +kernel
theorem dX6_where_49 : decode cX6_where 49 = .ok (.ifCond .le 10, 3) := by decide +kernel
theorem dX6_where_52 : decode cX6_where 52 = .ok (.iload_n 2, 1) := by decide +kernel
theorem dX6_where_53 : decode cX6_where 53 = .ok (.iload 4, 2) := by decide +kernel
theorem dX6_where_55 : decode cX6_where 55 = .ok (.irem, 1) := by decide +kernel
theorem dX6_where_56 : decode cX6_where 56 = .ok (.goto 4, 3) := by decide +kernel
theorem dX6_where_59 : decode cX6_where 59 = .ok (.iconst 0, 1) := by decide +kernel
theorem dX6_where_60 : decode cX6_where 60 = .ok (.invokevirtual 203, 3) := by decide +kernel
theorem dX6_where_63 : decode cX6_where 63 = .ok (.ireturn, 1) := by decide +kernel
theorem dX6_homeIn_0 : decode cX6_homeIn 0 = .ok (.iload_n 1, 1) := by decide +kernel
theorem dX6_homeIn_1 : decode cX6_homeIn 1 = .ok (.iconst 0, 1) := by decide +kernel
theorem dX6_homeIn_2 : decode cX6_homeIn 2 = .ok (.iconst 1, 1) := by decide +kernel
theorem dX6_homeIn_3 : decode cX6_homeIn 3 = .ok (.invokestatic 85, 3) := by decide +kernel
theorem dX6_homeIn_6 : decode cX6_homeIn 6 = .ok (.iload_n 1, 1) := by decide +kernel
theorem dX6_homeIn_7 : decode cX6_homeIn 7 = .ok (.ifCond .ne 10, 3) := by decide +kernel
theorem dX6_homeIn_10 : decode cX6_homeIn 10 = .ok (.aload_n 0, 1) := by decide +kernel
theorem dX6_homeIn_11 : decode cX6_homeIn 11 = .ok (.invokevirtual 206, 3) := by decide +kernel
theorem dX6_homeIn_14 : decode cX6_homeIn 14 = .ok (.goto 7, 3) := by decide +kernel
theorem dX6_homeIn_17 : decode cX6_homeIn 17 = .ok (.aload_n 0, 1) := by decide +kernel
theorem dX6_homeIn_18 : decode cX6_homeIn 18 = .ok (.invokevirtual 209, 3) := by decide +kernel
theorem dX6_homeIn_21 : decode cX6_homeIn 21 = .ok (.ireturn, 1) := by decide +kernel
theorem dX6_fewest_0 : decode cX6_fewest 0 = .ok (.iload_n 1, 1) := by decide +kernel
theorem dX6_fewest_1 : decode cX6_fewest 1 = .ok (.invokestatic 68, 3) := by decide +kernel
theorem dX6_fewest_4 : decode cX6_fewest 4 = .ok (.iload_n 2, 1) := by decide +kernel
theorem dX6_fewest_5 : decode cX6_fewest 5 = .ok (.iconst 1, 1) := by decide +kernel
theorem dX6_fewest_6 : decode cX6_fewest 6 = .ok (.bipush 99, 2) := by decide +kernel
theorem dX6_fewest_8 : decode cX6_fewest 8 = .ok (.invokestatic 85, 3) := by decide +kernel
theorem dX6_fewest_11 : decode cX6_fewest 11 = .ok (.iload_n 3, 1) := by decide +kernel
theorem dX6_fewest_12 : decode cX6_fewest 12 = .ok (.iconst 0, 1) := by decide +kernel
theorem dX6_fewest_13 : decode cX6_fewest 13 = .ok (.iconst 1, 1) := by decide +kernel
theorem dX6_fewest_14 : decode cX6_fewest 14 = .ok (.invokestatic 85, 3) := by decide +kernel
theorem dX6_fewest_17 : decode cX6_fewest 17 = .ok (.iload_n 3, 1) := by decide +kernel
theorem dX6_fewest_18 : decode cX6_fewest 18 = .ok (.ifCond .ne 19, 3) := by decide +kernel
theorem dX6_fewest_21 : decode cX6_fewest 21 = .ok (.aload_n 0, 1) := by decide +kernel
theorem dX6_fewest_22 : decode cX6_fewest 22 = .ok (.getfield 26, 3) := by decide +kernel
theorem dX6_fewest_25 : decode cX6_fewest 25 = .ok (.aload_n 0, 1) := by decide +kernel
theorem dX6_fewest_26 : decode cX6_fewest 26 = .ok (.getfield 10, 3) := by decide +kernel
theorem dX6_fewest_29 : decode cX6_fewest 29 = .ok (.iload_n 1, 1) := by decide +kernel
theorem dX6_fewest_30 : decode cX6_fewest 30 = .ok (.iload_n 2, 1) := by decide +kernel
theorem dX6_fewest_31 : decode cX6_fewest 31 = .ok (.invokevirtual 182, 3) := by decide +kernel
theorem dX6_fewest_34 : decode cX6_fewest 34 = .ok (.goto 16, 3) := by decide +kernel
theorem dX6_fewest_37 : decode cX6_fewest 37 = .ok (.aload_n 0, 1) := by decide +kernel
theorem dX6_fewest_38 : decode cX6_fewest 38 = .ok (.getfield 26, 3) := by decide +kernel
theorem dX6_fewest_41 : decode cX6_fewest 41 = .ok (.aload_n 0, 1) := by decide +kernel
theorem dX6_fewest_42 : decode cX6_fewest 42 = .ok (.getfield 10, 3) := by decide +kernel
theorem dX6_fewest_45 : decode cX6_fewest 45 = .ok (.iload_n 1, 1) := by decide +kernel
theorem dX6_fewest_46 : decode cX6_fewest 46 = .ok (.iload_n 2, 1) := by decide +kernel
theorem dX6_fewest_47 : decode cX6_fewest 47 = .ok (.invokevirtual 212, 3) := by decide +kernel
theorem dX6_fewest_50 : decode cX6_fewest 50 = .ok (.ireturn, 1) := by decide +kernel
theorem dX6_richest_0 : decode cX6_richest 0 = .ok (.iconst 0, 1) := by decide +kernel
theorem dX6_richest_1 : decode cX6_richest 1 = .ok (.istore_n 1, 1) := by decide +kernel
theorem dX6_richest_2 : decode cX6_richest 2 = .ok (.iconst 1, 1) := by decide +kernel
theorem dX6_richest_3 : decode cX6_richest 3 = .ok (.istore_n 2, 1) := by decide +kernel
theorem dX6_richest_4 : decode cX6_richest 4 = .ok (.iload_n 2, 1) := by decide +kernel
theorem dX6_richest_5 : decode cX6_richest 5 = .ok (.bipush 8, 2) := by decide +kernel
theorem dX6_richest_7 : decode cX6_richest 7 = .ok (.if_icmp .ge 30, 3) := by decide +kernel
theorem dX6_richest_10 : decode cX6_richest 10 = .ok (.aload_n 0, 1) := by decide +kernel
theorem dX6_richest_11 : decode cX6_richest 11 = .ok (.getfield 10, 3) := by decide +kernel
theorem dX6_richest_14 : decode cX6_richest 14 = .ok (.iload_n 2, 1) := by decide +kernel
theorem dX6_richest_15 : decode cX6_richest 15 = .ok (.invokevirtual 168, 3) := by decide +kernel
theorem dX6_richest_18 : decode cX6_richest 18 = .ok (.aload_n 0, 1) := by decide +kernel
theorem dX6_richest_19 : decode cX6_richest 19 = .ok (.getfield 10, 3) := by decide +kernel
theorem dX6_richest_22 : decode cX6_richest 22 = .ok (.iload_n 1, 1) := by decide +kernel
theorem dX6_richest_23 : decode cX6_richest 23 = .ok (.invokevirtual 168, 3) := by decide +kernel
theorem dX6_richest_26 : decode cX6_richest 26 = .ok (.if_icmp .le 5, 3) := by decide +kernel
theorem dX6_richest_29 : decode cX6_richest 29 = .ok (.iload_n 2, 1) := by decide +kernel
theorem dX6_richest_30 : decode cX6_richest 30 = .ok (.istore_n 1, 1) := by decide +kernel
theorem dX6_richest_31 : decode cX6_richest 31 = .ok (.iinc 2 1, 3) := by decide +kernel
theorem dX6_richest_34 : decode cX6_richest 34 = .ok (.goto (-30), 3) := by decide +kernel
theorem dX6_richest_37 : decode cX6_richest 37 = .ok (.iload_n 1, 1) := by decide +kernel
theorem dX6_richest_38 : decode cX6_richest 38 = .ok (.ireturn, 1) := by decide +kernel
theorem dX6_canKeepIn_0 : decode cX6_canKeepIn 0 = .ok (.aload_n 0, 1) := by decide +kernel
theorem dX6_canKeepIn_1 : decode cX6_canKeepIn 1 = .ok (.iload_n 1, 1) := by decide +kernel
theorem dX6_canKeepIn_2 : decode cX6_canKeepIn 2 = .ok (.invokevirtual 114, 3) := by decide +kernel
theorem dX6_canKeepIn_5 : decode cX6_canKeepIn 5 = .ok (.aload_n 0, 1) := by decide +kernel
theorem dX6_canKeepIn_6 : decode cX6_canKeepIn 6 = .ok (.getfield 10, 3) := by decide +kernel
theorem dX6_canKeepIn_9 : decode cX6_canKeepIn 9 = .ok (.iload_n 1, 1) := by decide +kernel
theorem dX6_canKeepIn_10 : decode cX6_canKeepIn 10 = .ok (.iconst 2, 1) := by decide +kernel
theorem dX6_canKeepIn_11 : decode cX6_canKeepIn 11 = .ok (.invokevirtual 179, 3) := by decide +kernel
theorem dX6_canKeepIn_14 : decode cX6_canKeepIn 14 = .ok (.istore_n 2, 1) := by decide +kernel
theorem dX6_canKeepIn_15 : decode cX6_canKeepIn 15 = .ok (.aload_n 0, 1) := by decide +kernel
theorem dX6_canKeepIn_16 : decode cX6_canKeepIn 16 = .ok (.getfield 10, 3) := by decide +kernel
theorem dX6_canKeepIn_19 : decode cX6_canKeepIn 19 = .ok (.iload_n 1, 1) := by decide +kernel
theorem dX6_canKeepIn_20 : decode cX6_canKeepIn 20 = .ok (.iconst 3, 1) := by decide +kernel
theorem dX6_canKeepIn_21 : decode cX6_canKeepIn 21 = .ok (.invokevirtual 179, 3) := by decide +kernel
theorem dX6_canKeepIn_24 : decode cX6_canKeepIn 24 = .ok (.sipush 9999, 3) := by decide +kernel
theorem dX6_canKeepIn_27 : decode cX6_canKeepIn 27 = .ok (.invokestatic 215, 3) := by decide +kernel
theorem dX6_canKeepIn_30 : decode cX6_canKeepIn 30 = .ok (.istore_n 3, 1) := by decide +kernel
theorem dX6_canKeepIn_31 : decode cX6_canKeepIn 31 = .ok (.aload_n 0, 1) := by decide +kernel
theorem dX6_canKeepIn_32 : decode cX6_canKeepIn 32 = .ok (.getfield 10, 3) := by decide +kernel
theorem dX6_canKeepIn_35 : decode cX6_canKeepIn 35 = .ok (.iload_n 1, 1) := by decide +kernel
theorem dX6_canKeepIn_36 : decode cX6_canKeepIn 36 = .ok (.iconst 0, 1) := by decide +kernel
theorem dX6_canKeepIn_37 : decode cX6_canKeepIn 37 = .ok (.invokevirtual 179, 3) := by decide +kernel
theorem dX6_canKeepIn_40 : decode cX6_canKeepIn 40 = .ok (.istore 4, 2) := by decide +kernel
theorem dX6_canKeepIn_42 : decode cX6_canKeepIn 42 = .ok (.iconst 0, 1) := by decide +kernel
theorem dX6_canKeepIn_43 : decode cX6_canKeepIn 43 = .ok (.istore 5, 2) := by decide +kernel
theorem dX6_canKeepIn_45 : decode cX6_canKeepIn 45 = .ok (.iload 5, 2) := by decide +kernel
theorem dX6_canKeepIn_47 : decode cX6_canKeepIn 47 = .ok (.iload_n 3, 1) := by decide +kernel
theorem dX6_canKeepIn_48 : decode cX6_canKeepIn 48 = .ok (.aload_n 0, 1) := by decide +kernel
theorem dX6_canKeepIn_49 : decode cX6_canKeepIn 49 = .ok (.getfield 10, 3) := by decide +kernel
theorem dX6_canKeepIn_52 : decode cX6_canKeepIn 52 = .ok (.getfield 151, 3) := by decide +kernel
theorem dX6_canKeepIn_55 : decode cX6_canKeepIn 55 = .ok (.isub, 1) := by decide +kernel
theorem dX6_canKeepIn_56 : decode cX6_canKeepIn 56 = .ok (.if_icmp .gt 41, 3) := by decide +kernel
theorem dX6_canKeepIn_59 : decode cX6_canKeepIn 59 = .ok (.aload_n 0, 1) := by decide +kernel
theorem dX6_canKeepIn_60 : decode cX6_canKeepIn 60 = .ok (.getfield 26, 3) := by decide +kernel
theorem dX6_canKeepIn_63 : decode cX6_canKeepIn 63 = .ok (.aload_n 0, 1) := by decide +kernel
theorem dX6_canKeepIn_64 : decode cX6_canKeepIn 64 = .ok (.getfield 10, 3) := by decide +kernel
theorem dX6_canKeepIn_67 : decode cX6_canKeepIn 67 = .ok (.iload 4, 2) := by decide +kernel
theorem dX6_canKeepIn_69 : decode cX6_canKeepIn 69 = .ok (.iload_n 2, 1) := by decide +kernel
theorem dX6_canKeepIn_70 : decode cX6_canKeepIn 70 = .ok (.invokevirtual 182, 3) := by decide +kernel
theorem dX6_canKeepIn_73 : decode cX6_canKeepIn 73 = .ok (.iconst (-1), 1) := by decide +kernel
theorem dX6_canKeepIn_74 : decode cX6_canKeepIn 74 = .ok (.if_icmp .eq 6, 3) := by decide +kernel
theorem dX6_canKeepIn_77 : decode cX6_canKeepIn 77 = .ok (.iload 5, 2) := by decide +kernel
theorem dX6_canKeepIn_79 : decode cX6_canKeepIn 79 = .ok (.ireturn, 1) := by decide +kernel
theorem dX6_canKeepIn_80 : decode cX6_canKeepIn 80 = .ok (.aload_n 0, 1) := by decide +kernel
theorem dX6_canKeepIn_81 : decode cX6_canKeepIn 81 = .ok (.getfield 10, 3) := by decide +kernel
theorem dX6_canKeepIn_84 : decode cX6_canKeepIn 84 = .ok (.iload 4, 2) := by decide +kernel
theorem dX6_canKeepIn_86 : decode cX6_canKeepIn 86 = .ok (.invokevirtual 220, 3) := by decide +kernel
theorem dX6_canKeepIn_89 : decode cX6_canKeepIn 89 = .ok (.istore 4, 2) := by decide +kernel
theorem dX6_canKeepIn_91 : decode cX6_canKeepIn 91 = .ok (.iinc 5 1, 3) := by decide +kernel
theorem dX6_canKeepIn_94 : decode cX6_canKeepIn 94 = .ok (.goto (-49), 3) := by decide +kernel
theorem dX6_canKeepIn_97 : decode cX6_canKeepIn 97 = .ok (.iconst (-1), 1) := by decide +kernel
theorem dX6_canKeepIn_98 : decode cX6_canKeepIn 98 = .ok (.ireturn, 1) := by decide +kernel
theorem dX6_richShare_0 : decode cX6_richShare 0 = .ok (.aload_n 0, 1) := by decide +kernel
theorem dX6_richShare_1 : decode cX6_richShare 1 = .ok (.getfield 10, 3) := by decide +kernel
theorem dX6_richShare_4 : decode cX6_richShare 4 = .ok (.invokevirtual 192, 3) := by decide +kernel
theorem dX6_richShare_7 : decode cX6_richShare 7 = .ok (.istore_n 1, 1) := by decide +kernel
theorem dX6_richShare_8 : decode cX6_richShare 8 = .ok (.iload_n 1, 1) := by decide +kernel
theorem dX6_richShare_9 : decode cX6_richShare 9 = .ok (.ifCond .le 21, 3) := by decide +kernel
theorem dX6_richShare_12 : decode cX6_richShare 12 = .ok (.aload_n 0, 1) := by decide +kernel
theorem dX6_richShare_13 : decode cX6_richShare 13 = .ok (.getfield 10, 3) := by decide +kernel
theorem dX6_richShare_16 : decode cX6_richShare 16 = .ok (.aload_n 0, 1) := by decide +kernel
theorem dX6_richShare_17 : decode cX6_richShare 17 = .ok (.invokevirtual 223, 3) := by decide +kernel
theorem dX6_richShare_20 : decode cX6_richShare 20 = .ok (.invokevirtual 168, 3) := by decide +kernel
theorem dX6_richShare_23 : decode cX6_richShare 23 = .ok (.i2d, 1) := by decide +kernel
theorem dX6_richShare_24 : decode cX6_richShare 24 = .ok (.iload_n 1, 1) := by decide +kernel
theorem dX6_richShare_25 : decode cX6_richShare 25 = .ok (.i2d, 1) := by decide +kernel
theorem dX6_richShare_26 : decode cX6_richShare 26 = .ok (.ddiv, 1) := by decide +kernel
theorem dX6_richShare_27 : decode cX6_richShare 27 = .ok (.goto 4, 3) := by decide +kernel
theorem dX6_richShare_30 : decode cX6_richShare 30 = .ok (.dconst 0, 1) := by decide +kernel
theorem dX6_richShare_31 : decode cX6_richShare 31 = .ok (.dreturn, 1) := by decide +kernel
theorem dX6_digest_0 : decode cX6_digest 0 = .ok (.ldc2_w 226, 3) := by decide +kernel
theorem dX6_digest_3 : decode cX6_digest 3 = .ok (.lstore_n 1, 1) := by decide +kernel
theorem dX6_digest_4 : decode cX6_digest 4 = .ok (.iconst 0, 1) := by decide +kernel
theorem dX6_digest_5 : decode cX6_digest 5 = .ok (.istore_n 3, 1) := by decide +kernel
theorem dX6_digest_6 : decode cX6_digest 6 = .ok (.iload_n 3, 1) := by decide +kernel
theorem dX6_digest_7 : decode cX6_digest 7 = .ok (.bipush 9, 2) := by decide +kernel
theorem dX6_digest_9 : decode cX6_digest 9 = .ok (.if_icmp .gt 20, 3) := by decide +kernel
theorem dX6_digest_12 : decode cX6_digest 12 = .ok (.lload_n 1, 1) := by decide +kernel
theorem dX6_digest_13 : decode cX6_digest 13 = .ok (.aload_n 0, 1) := by decide +kernel
theorem dX6_digest_14 : decode cX6_digest 14 = .ok (.iload_n 3, 1) := by decide +kernel
theorem dX6_digest_15 : decode cX6_digest 15 = .ok (.invokevirtual 228, 3) := by decide +kernel
theorem dX6_digest_18 : decode cX6_digest 18 = .ok (.i2l, 1) := by decide +kernel
theorem dX6_digest_19 : decode cX6_digest 19 = .ok (.invokestatic 231, 3) := by decide +kernel
theorem dX6_digest_22 : decode cX6_digest 22 = .ok (.lstore_n 1, 1) := by decide +kernel
theorem dX6_digest_23 : decode cX6_digest 23 = .ok (.iinc 3 1, 3) := by decide +kernel
theorem dX6_digest_26 : decode cX6_digest 26 = .ok (.goto (-20), 3) := by decide +kernel
theorem dX6_digest_29 : decode cX6_digest 29 = .ok (.iconst 0, 1) := by decide +kernel
theorem dX6_digest_30 : decode cX6_digest 30 = .ok (.istore_n 3, 1) := by decide +kernel
theorem dX6_digest_31 : decode cX6_digest 31 = .ok (.iload_n 3, 1) := by decide +kernel
theorem dX6_digest_32 : decode cX6_digest 32 = .ok (.iconst 4, 1) := by decide +kernel
theorem dX6_digest_33 : decode cX6_digest 33 = .ok (.if_icmp .ge 24, 3) := by decide +kernel
theorem dX6_digest_36 : decode cX6_digest 36 = .ok (.lload_n 1, 1) := by decide +kernel
theorem dX6_digest_37 : decode cX6_digest 37 = .ok (.aload_n 0, 1) := by decide +kernel
theorem dX6_digest_38 : decode cX6_digest 38 = .ok (.getfield 10, 3) := by decide +kernel
theorem dX6_digest_41 : decode cX6_digest 41 = .ok (.getfield 104, 3) := by decide +kernel
theorem dX6_digest_44 : decode cX6_digest 44 = .ok (.iload_n 3, 1) := by decide +kernel
theorem dX6_digest_45 : decode cX6_digest 45 = .ok (.iaload, 1) := by decide +kernel
theorem dX6_digest_46 : decode cX6_digest 46 = .ok (.i2l, 1) := by decide +kernel
theorem dX6_digest_47 : decode cX6_digest 47 = .ok (.invokestatic 231, 3) := by decide +kernel
theorem dX6_digest_50 : decode cX6_digest 50 = .ok (.lstore_n 1, 1) := by decide +kernel
theorem dX6_digest_51 : decode cX6_digest 51 = .ok (.iinc 3 1, 3) := by decide +kernel
theorem dX6_digest_54 : decode cX6_digest 54 = .ok (.goto (-23), 3) := by decide +kernel
theorem dX6_digest_57 : decode cX6_digest 57 = .ok (.iconst 0, 1) := by decide +kernel
theorem dX6_digest_58 : decode cX6_digest 58 = .ok (.istore_n 3, 1) := by decide +kernel
theorem dX6_digest_59 : decode cX6_digest 59 = .ok (.iload_n 3, 1) := by decide +kernel
theorem dX6_digest_60 : decode cX6_digest 60 = .ok (.bipush 8, 2) := by decide +kernel
theorem dX6_digest_62 : decode cX6_digest 62 = .ok (.if_icmp .ge 16, 3) := by decide +kernel
theorem dX6_digest_65 : decode cX6_digest 65 = .ok (.aload_n 0, 1) := by decide +kernel
theorem dX6_digest_66 : decode cX6_digest 66 = .ok (.lload_n 1, 1) := by decide +kernel
theorem dX6_digest_67 : decode cX6_digest 67 = .ok (.iload_n 3, 1) := by decide +kernel
theorem dX6_digest_68 : decode cX6_digest 68 = .ok (.invokevirtual 235, 3) := by decide +kernel
theorem dX6_digest_71 : decode cX6_digest 71 = .ok (.lstore_n 1, 1) := by decide +kernel
theorem dX6_digest_72 : decode cX6_digest 72 = .ok (.iinc 3 1, 3) := by decide +kernel
theorem dX6_digest_75 : decode cX6_digest 75 = .ok (.goto (-16), 3) := by decide +kernel
theorem dX6_digest_78 : decode cX6_digest 78 = .ok (.iconst 0, 1) := by decide +kernel
theorem dX6_digest_79 : decode cX6_digest 79 = .ok (.istore_n 3, 1) := by decide +kernel
theorem dX6_digest_80 : decode cX6_digest 80 = .ok (.iload_n 3, 1) := by decide +kernel
theorem dX6_digest_81 : decode cX6_digest 81 = .ok (.aload_n 0, 1) := by decide +kernel
theorem dX6_digest_82 : decode cX6_digest 82 = .ok (.getfield 10, 3) := by decide +kernel
theorem dX6_digest_85 : decode cX6_digest 85 = .ok (.getfield 186, 3) := by decide +kernel
theorem dX6_digest_88 : decode cX6_digest 88 = .ok (.if_icmp .ge 16, 3) := by decide +kernel
theorem dX6_digest_91 : decode cX6_digest 91 = .ok (.aload_n 0, 1) := by decide +kernel
theorem dX6_digest_92 : decode cX6_digest 92 = .ok (.lload_n 1, 1) := by decide +kernel
theorem dX6_digest_93 : decode cX6_digest 93 = .ok (.iload_n 3, 1) := by decide +kernel
theorem dX6_digest_94 : decode cX6_digest 94 = .ok (.invokevirtual 239, 3) := by decide +kernel
theorem dX6_digest_97 : decode cX6_digest 97 = .ok (.lstore_n 1, 1) := by decide +kernel
theorem dX6_digest_98 : decode cX6_digest 98 = .ok (.iinc 3 1, 3) := by decide +kernel
theorem dX6_digest_101 : decode cX6_digest 101 = .ok (.goto (-21), 3) := by decide +kernel
theorem dX6_digest_104 : decode cX6_digest 104 = .ok (.lload_n 1, 1) := by decide +kernel
theorem dX6_digest_105 : decode cX6_digest 105 = .ok (.aload_n 0, 1) := by decide +kernel
theorem dX6_digest_106 : decode cX6_digest 106 = .ok (.iconst 0, 1) := by decide +kernel
theorem dX6_digest_107 : decode cX6_digest 107 = .ok (.invokevirtual 242, 3) := by decide +kernel
theorem dX6_digest_110 : decode cX6_digest 110 = .ok (.i2l, 1) := by decide +kernel
theorem dX6_digest_111 : decode cX6_digest 111 = .ok (.invokestatic 231, 3) := by decide +kernel
theorem dX6_digest_114 : decode cX6_digest 114 = .ok (.lstore_n 1, 1) := by decide +kernel
theorem dX6_digest_115 : decode cX6_digest 115 = .ok (.lload_n 1, 1) := by decide +kernel
theorem dX6_digest_116 : decode cX6_digest 116 = .ok (.aload_n 0, 1) := by decide +kernel
theorem dX6_digest_117 : decode cX6_digest 117 = .ok (.iconst 1, 1) := by decide +kernel
theorem dX6_digest_118 : decode cX6_digest 118 = .ok (.invokevirtual 242, 3) := by decide +kernel
theorem dX6_digest_121 : decode cX6_digest 121 = .ok (.i2l, 1) := by decide +kernel
theorem dX6_digest_122 : decode cX6_digest 122 = .ok (.invokestatic 231, 3) := by decide +kernel
theorem dX6_digest_125 : decode cX6_digest 125 = .ok (.lstore_n 1, 1) := by decide +kernel
theorem dX6_digest_126 : decode cX6_digest 126 = .ok (.lload_n 1, 1) := by decide +kernel
theorem dX6_digest_127 : decode cX6_digest 127 = .ok (.aload_n 0, 1) := by decide +kernel
theorem dX6_digest_128 : decode cX6_digest 128 = .ok (.invokevirtual 223, 3) := by decide +kernel
theorem dX6_digest_131 : decode cX6_digest 131 = .ok (.i2l, 1) := by decide +kernel
theorem dX6_digest_132 : decode cX6_digest 132 = .ok (.invokestatic 231, 3) := by decide +kernel
theorem dX6_digest_135 : decode cX6_digest 135 = .ok (.lstore_n 1, 1) := by decide +kernel
theorem dX6_digest_136 : decode cX6_digest 136 = .ok (.lload_n 1, 1) := by decide +kernel
theorem dX6_digest_137 : decode cX6_digest 137 = .ok (.aload_n 0, 1) := by decide +kernel
theorem dX6_digest_138 : decode cX6_digest 138 = .ok (.invokevirtual 245, 3) := by decide +kernel
theorem dX6_digest_141 : decode cX6_digest 141 = .ok (.invokestatic 249, 3) := by decide +kernel
theorem dX6_digest_144 : decode cX6_digest 144 = .ok (.invokestatic 231, 3) := by decide +kernel
theorem dX6_digest_147 : decode cX6_digest 147 = .ok (.lstore_n 1, 1) := by decide +kernel
theorem dX6_digest_148 : decode cX6_digest 148 = .ok (.iconst 0, 1) := by decide +kernel
theorem dX6_digest_149 : decode cX6_digest 149 = .ok (.istore_n 3, 1) := by decide +kernel
theorem dX6_digest_150 : decode cX6_digest 150 = .ok (.iload_n 3, 1) := by decide +kernel
theorem dX6_digest_151 : decode cX6_digest 151 = .ok (.iconst 2, 1) := by decide +kernel
theorem dX6_digest_152 : decode cX6_digest 152 = .ok (.if_icmp .ge 28, 3) := by decide +kernel
theorem dX6_digest_155 : decode cX6_digest 155 = .ok (.lload_n 1, 1) := by decide +kernel
theorem dX6_digest_156 : decode cX6_digest 156 = .ok (.aload_n 0, 1) := by decide +kernel
theorem dX6_digest_157 : decode cX6_digest 157 = .ok (.getfield 41, 3) := by decide +kernel
theorem dX6_digest_160 : decode cX6_digest 160 = .ok (.iload_n 3, 1) := by decide +kernel
theorem dX6_digest_161 : decode cX6_digest 161 = .ok (.baload, 1) := by decide +kernel
theorem dX6_digest_162 : decode cX6_digest 162 = .ok (.ifCond .eq 7, 3) := by decide +kernel
theorem dX6_digest_165 : decode cX6_digest 165 = .ok (.lconst 1, 1) := by decide +kernel
theorem dX6_digest_166 : decode cX6_digest 166 = .ok (.goto 4, 3) := by decide +kernel
theorem dX6_digest_169 : decode cX6_digest 169 = .ok (.lconst 0, 1) := by decide +kernel
theorem dX6_digest_170 : decode cX6_digest 170 = .ok (.invokestatic 231, 3) := by decide +kernel
theorem dX6_digest_173 : decode cX6_digest 173 = .ok (.lstore_n 1, 1) := by decide +kernel
theorem dX6_digest_174 : decode cX6_digest 174 = .ok (.iinc 3 1, 3) := by decide +kernel
theorem dX6_digest_177 : decode cX6_digest 177 = .ok (.goto (-27), 3) := by decide +kernel
theorem dX6_digest_180 : decode cX6_digest 180 = .ok (.lload_n 1, 1) := by decide +kernel
theorem dX6_digest_181 : decode cX6_digest 181 = .ok (.aload_n 0, 1) := by decide +kernel
theorem dX6_digest_182 : decode cX6_digest 182 = .ok (.getfield 33, 3) := by decide +kernel
theorem dX6_digest_185 : decode cX6_digest 185 = .ok (.getfield 121, 3) := by decide +kernel
theorem dX6_digest_188 : decode cX6_digest 188 = .ok (.i2l, 1) := by decide +kernel
theorem dX6_digest_189 : decode cX6_digest 189 = .ok (.invokestatic 231, 3) := by decide +kernel
theorem dX6_digest_192 : decode cX6_digest 192 = .ok (.lstore_n 1, 1) := by decide +kernel
theorem dX6_digest_193 : decode cX6_digest 193 = .ok (.iconst 0, 1) := by decide +kernel
theorem dX6_digest_194 : decode cX6_digest 194 = .ok (.istore_n 3, 1) := by decide +kernel
theorem dX6_digest_195 : decode cX6_digest 195 = .ok (.iload_n 3, 1) := by decide +kernel
theorem dX6_digest_196 : decode cX6_digest 196 = .ok (.aload_n 0, 1) := by decide +kernel
theorem dX6_digest_197 : decode cX6_digest 197 = .ok (.getfield 33, 3) := by decide +kernel
theorem dX6_digest_200 : decode cX6_digest 200 = .ok (.getfield 121, 3) := by decide +kernel
theorem dX6_digest_203 : decode cX6_digest 203 = .ok (.if_icmp .ge 23, 3) := by decide +kernel
theorem dX6_digest_206 : decode cX6_digest 206 = .ok (.lload_n 1, 1) := by decide +kernel
theorem dX6_digest_207 : decode cX6_digest 207 = .ok (.aload_n 0, 1) := by decide +kernel
theorem dX6_digest_208 : decode cX6_digest 208 = .ok (.getfield 33, 3) := by decide +kernel
theorem dX6_digest_211 : decode cX6_digest 211 = .ok (.iload_n 3, 1) := by decide +kernel
theorem dX6_digest_212 : decode cX6_digest 212 = .ok (.invokevirtual 253, 3) := by decide +kernel
theorem dX6_digest_215 : decode cX6_digest 215 = .ok (.i2l, 1) := by decide +kernel
theorem dX6_digest_216 : decode cX6_digest 216 = .ok (.invokestatic 231, 3) := by decide +kernel
theorem dX6_digest_219 : decode cX6_digest 219 = .ok (.lstore_n 1, 1) := by decide +kernel
theorem dX6_digest_220 : decode cX6_digest 220 = .ok (.iinc 3 1, 3) := by decide +kernel
theorem dX6_digest_223 : decode cX6_digest 223 = .ok (.goto (-28), 3) := by decide +kernel
theorem dX6_digest_226 : decode cX6_digest 226 = .ok (.lload_n 1, 1) := by decide +kernel
theorem dX6_digest_227 : decode cX6_digest 227 = .ok (.lreturn, 1) := by decide +kernel
theorem dX6_mixed_0 : decode cX6_mixed 0 = .ok (.ldc2_w 257, 3) := by decide +kernel
theorem dX6_mixed_3 : decode cX6_mixed 3 = .ok (.lload_n 0, 1) := by decide +kernel
theorem dX6_mixed_4 : decode cX6_mixed 4 = .ok (.lmul, 1) := by decide +kernel
theorem dX6_mixed_5 : decode cX6_mixed 5 = .ok (.lload_n 2, 1) := by decide +kernel
theorem dX6_mixed_6 : decode cX6_mixed 6 = .ok (.ladd, 1) := by decide +kernel
theorem dX6_mixed_7 : decode cX6_mixed 7 = .ok (.lreturn, 1) := by decide +kernel
theorem dX6_withIslander_0 : decode cX6_withIslander 0 = .ok (.lload_n 1, 1) := by decide +kernel
theorem dX6_withIslander_1 : decode cX6_withIslander 1 = .ok (.lstore 4, 2) := by decide +kernel
theorem dX6_withIslander_3 : decode cX6_withIslander 3 = .ok (.iconst 0, 1) := by decide +kernel
theorem dX6_withIslander_4 : decode cX6_withIslander 4 = .ok (.istore 6, 2) := by decide +kernel
theorem dX6_withIslander_6 : decode cX6_withIslander 6 = .ok (.iload 6, 2) := by decide +kernel
theorem dX6_withIslander_8 : decode cX6_withIslander 8 = .ok (.iconst 4, 1) := by decide +kernel
theorem dX6_withIslander_9 : decode cX6_withIslander 9 = .ok (.if_icmp .ge 24, 3) := by decide +kernel
theorem dX6_withIslander_12 : decode cX6_withIslander 12 = .ok (.lload 4, 2) := by decide +kernel
theorem dX6_withIslander_14 : decode cX6_withIslander 14 = .ok (.aload_n 0, 1) := by decide +kernel
theorem dX6_withIslander_15 : decode cX6_withIslander 15 = .ok (.iload_n 3, 1) := by decide +kernel
theorem dX6_withIslander_16 : decode cX6_withIslander 16 = .ok (.iload 6, 2) := by decide +kernel
theorem dX6_withIslander_18 : decode cX6_withIslander 18 = .ok (.invokevirtual 259, 3) := by decide +kernel
theorem dX6_withIslander_21 : decode cX6_withIslander 21 = .ok (.i2l, 1) := by decide +kernel
theorem dX6_withIslander_22 : decode cX6_withIslander 22 = .ok (.invokestatic 231, 3) := by decide +kernel
theorem dX6_withIslander_25 : decode cX6_withIslander 25 = .ok (.lstore 4, 2) := by decide +kernel
theorem dX6_withIslander_27 : decode cX6_withIslander 27 = .ok (.iinc 6 1, 3) := by decide +kernel
theorem dX6_withIslander_30 : decode cX6_withIslander 30 = .ok (.goto (-24), 3) := by decide +kernel
theorem dX6_withIslander_33 : decode cX6_withIslander 33 = .ok (.iconst 0, 1) := by decide +kernel
theorem dX6_withIslander_34 : decode cX6_withIslander 34 = .ok (.istore 6, 2) := by decide +kernel
theorem dX6_withIslander_36 : decode cX6_withIslander 36 = .ok (.iload 6, 2) := by decide +kernel
theorem dX6_withIslander_38 : decode cX6_withIslander 38 = .ok (.iconst 4, 1) := by decide +kernel
theorem dX6_withIslander_39 : decode cX6_withIslander 39 = .ok (.if_icmp .gt 24, 3) := by decide +kernel
theorem dX6_withIslander_42 : decode cX6_withIslander 42 = .ok (.lload 4, 2) := by decide +kernel
theorem dX6_withIslander_44 : decode cX6_withIslander 44 = .ok (.aload_n 0, 1) := by decide +kernel
theorem dX6_withIslander_45 : decode cX6_withIslander 45 = .ok (.iload_n 3, 1) := by decide +kernel
theorem dX6_withIslander_46 : decode cX6_withIslander 46 = .ok (.iload 6, 2) := by decide +kernel
theorem dX6_withIslander_48 : decode cX6_withIslander 48 = .ok (.invokevirtual 262, 3) := by decide +kernel
theorem dX6_withIslander_51 : decode cX6_withIslander 51 = .ok (.i2l, 1) := by decide +kernel
theorem dX6_withIslander_52 : decode cX6_withIslander 52 = .ok (.invokestatic 231, 3) := by decide +kernel
theorem dX6_withIslander_55 : decode cX6_withIslander 55 = .ok (.lstore 4, 2) := by decide +kernel
theorem dX6_withIslander_57 : decode cX6_withIslander 57 = .ok (.iinc 6 1, 3) := by decide +kernel
theorem dX6_withIslander_60 : decode cX6_withIslander 60 = .ok (.goto (-24), 3) := by decide +kernel
theorem dX6_withIslander_63 : decode cX6_withIslander 63 = .ok (.lload 4, 2) := by decide +kernel
theorem dX6_withIslander_65 : decode cX6_withIslander 65 = .ok (.aload_n 0, 1) := by decide +kernel
theorem dX6_withIslander_66 : decode cX6_withIslander 66 = .ok (.iload_n 3, 1) := by decide +kernel
theorem dX6_withIslander_67 : decode cX6_withIslander 67 = .ok (.bipush 7, 2) := by decide +kernel
theorem dX6_withIslander_69 : decode cX6_withIslander 69 = .ok (.iconst 0, 1) := by decide +kernel
theorem dX6_withIslander_70 : decode cX6_withIslander 70 = .ok (.invokevirtual 265, 3) := by decide +kernel
theorem dX6_withIslander_73 : decode cX6_withIslander 73 = .ok (.i2l, 1) := by decide +kernel
theorem dX6_withIslander_74 : decode cX6_withIslander 74 = .ok (.invokestatic 231, 3) := by decide +kernel
theorem dX6_withIslander_77 : decode cX6_withIslander 77 = .ok (.lstore 4, 2) := by decide +kernel
theorem dX6_withIslander_79 : decode cX6_withIslander 79 = .ok (.lload 4, 2) := by decide +kernel
theorem dX6_withIslander_81 : decode cX6_withIslander 81 = .ok (.aload_n 0, 1) := by decide +kernel
theorem dX6_withIslander_82 : decode cX6_withIslander 82 = .ok (.iload_n 3, 1) := by decide +kernel
theorem dX6_withIslander_83 : decode cX6_withIslander 83 = .ok (.bipush 7, 2) := by decide +kernel
theorem dX6_withIslander_85 : decode cX6_withIslander 85 = .ok (.iconst 1, 1) := by decide +kernel
theorem dX6_withIslander_86 : decode cX6_withIslander 86 = .ok (.invokevirtual 265, 3) := by decide +kernel
theorem dX6_withIslander_89 : decode cX6_withIslander 89 = .ok (.i2l, 1) := by decide +kernel
theorem dX6_withIslander_90 : decode cX6_withIslander 90 = .ok (.invokestatic 231, 3) := by decide +kernel
theorem dX6_withIslander_93 : decode cX6_withIslander 93 = .ok (.lstore 4, 2) := by decide +kernel
theorem dX6_withIslander_95 : decode cX6_withIslander 95 = .ok (.lload 4, 2) := by decide +kernel
theorem dX6_withIslander_97 : decode cX6_withIslander 97 = .ok (.aload_n 0, 1) := by decide +kernel
theorem dX6_withIslander_98 : decode cX6_withIslander 98 = .ok (.iload_n 3, 1) := by decide +kernel
theorem dX6_withIslander_99 : decode cX6_withIslander 99 = .ok (.bipush 17, 2) := by decide +kernel
theorem dX6_withIslander_101 : decode cX6_withIslander 101 = .ok (.iconst 0, 1) := by decide +kernel
theorem dX6_withIslander_102 : decode cX6_withIslander 102 = .ok (.invokevirtual 269, 3) := by decide +kernel
theorem dX6_withIslander_105 : decode cX6_withIslander 105 = .ok (.i2l, 1) := by decide +kernel
theorem dX6_withIslander_106 : decode cX6_withIslander 106 = .ok (.invokestatic 231, 3) := by decide +kernel
theorem dX6_withIslander_109 : decode cX6_withIslander 109 = .ok (.lstore 4, 2) := by decide +kernel
theorem dX6_withIslander_111 : decode cX6_withIslander 111 = .ok (.lload 4, 2) := by decide +kernel
theorem dX6_withIslander_113 : decode cX6_withIslander 113 = .ok (.aload_n 0, 1) := by decide +kernel
theorem dX6_withIslander_114 : decode cX6_withIslander 114 = .ok (.iload_n 3, 1) := by decide +kernel
theorem dX6_withIslander_115 : decode cX6_withIslander 115 = .ok (.bipush 17, 2) := by decide +kernel
theorem dX6_withIslander_117 : decode cX6_withIslander 117 = .ok (.iconst 1, 1) := by decide +kernel
theorem dX6_withIslander_118 : decode cX6_withIslander 118 = .ok (.invokevirtual 269, 3) := by decide +kernel
theorem dX6_withIslander_121 : decode cX6_withIslander 121 = .ok (.i2l, 1) := by decide +kernel
theorem dX6_withIslander_122 : decode cX6_withIslander 122 = .ok (.invokestatic 231, 3) := by decide +kernel
theorem dX6_withIslander_125 : decode cX6_withIslander 125 = .ok (.lstore 4, 2) := by decide +kernel
theorem dX6_withIslander_127 : decode cX6_withIslander 127 = .ok (.iconst 0, 1) := by decide +kernel
theorem dX6_withIslander_128 : decode cX6_withIslander 128 = .ok (.istore 6, 2) := by decide +kernel
theorem dX6_withIslander_130 : decode cX6_withIslander 130 = .ok (.iload 6, 2) := by decide +kernel
theorem dX6_withIslander_132 : decode cX6_withIslander 132 = .ok (.bipush 8, 2) := by decide +kernel
theorem dX6_withIslander_134 : decode cX6_withIslander 134 = .ok (.if_icmp .ge 24, 3) := by decide +kernel
theorem dX6_withIslander_137 : decode cX6_withIslander 137 = .ok (.lload 4, 2) := by decide +kernel
theorem dX6_withIslander_139 : decode cX6_withIslander 139 = .ok (.aload_n 0, 1) := by decide +kernel
theorem dX6_withIslander_140 : decode cX6_withIslander 140 = .ok (.iload_n 3, 1) := by decide +kernel
theorem dX6_withIslander_141 : decode cX6_withIslander 141 = .ok (.iload 6, 2) := by decide +kernel
theorem dX6_withIslander_143 : decode cX6_withIslander 143 = .ok (.invokevirtual 272, 3) := by decide +kernel
theorem dX6_withIslander_146 : decode cX6_withIslander 146 = .ok (.i2l, 1) := by decide +kernel
theorem dX6_withIslander_147 : decode cX6_withIslander 147 = .ok (.invokestatic 231, 3) := by decide +kernel
theorem dX6_withIslander_150 : decode cX6_withIslander 150 = .ok (.lstore 4, 2) := by decide +kernel
theorem dX6_withIslander_152 : decode cX6_withIslander 152 = .ok (.iinc 6 1, 3) := by decide +kernel
theorem dX6_withIslander_155 : decode cX6_withIslander 155 = .ok (.goto (-25), 3) := by decide +kernel
theorem dX6_withIslander_158 : decode cX6_withIslander 158 = .ok (.lload 4, 2) := by decide +kernel
theorem dX6_withIslander_160 : decode cX6_withIslander 160 = .ok (.lreturn, 1) := by decide +kernel
theorem dX6_withPromise_0 : decode cX6_withPromise 0 = .ok (.lload_n 1, 1) := by decide +kernel
theorem dX6_withPromise_1 : decode cX6_withPromise 1 = .ok (.lstore 4, 2) := by decide +kernel
theorem dX6_withPromise_3 : decode cX6_withPromise 3 = .ok (.iconst 0, 1) := by decide +kernel
theorem dX6_withPromise_4 : decode cX6_withPromise 4 = .ok (.istore 6, 2) := by decide +kernel
theorem dX6_withPromise_6 : decode cX6_withPromise 6 = .ok (.iload 6, 2) := by decide +kernel
theorem dX6_withPromise_8 : decode cX6_withPromise 8 = .ok (.iconst 4, 1) := by decide +kernel
theorem dX6_withPromise_9 : decode cX6_withPromise 9 = .ok (.if_icmp .gt 24, 3) := by decide +kernel
theorem dX6_withPromise_12 : decode cX6_withPromise 12 = .ok (.lload 4, 2) := by decide +kernel
theorem dX6_withPromise_14 : decode cX6_withPromise 14 = .ok (.aload_n 0, 1) := by decide +kernel
theorem dX6_withPromise_15 : decode cX6_withPromise 15 = .ok (.iload_n 3, 1) := by decide +kernel
theorem dX6_withPromise_16 : decode cX6_withPromise 16 = .ok (.iload 6, 2) := by decide +kernel
theorem dX6_withPromise_18 : decode cX6_withPromise 18 = .ok (.invokevirtual 275, 3) := by decide +kernel
theorem dX6_withPromise_21 : decode cX6_withPromise 21 = .ok (.i2l, 1) := by decide +kernel
theorem dX6_withPromise_22 : decode cX6_withPromise 22 = .ok (.invokestatic 231, 3) := by decide +kernel
theorem dX6_withPromise_25 : decode cX6_withPromise 25 = .ok (.lstore 4, 2) := by decide +kernel
theorem dX6_withPromise_27 : decode cX6_withPromise 27 = .ok (.iinc 6 1, 3) := by decide +kernel
theorem dX6_withPromise_30 : decode cX6_withPromise 30 = .ok (.goto (-24), 3) := by decide +kernel
theorem dX6_withPromise_33 : decode cX6_withPromise 33 = .ok (.lload 4, 2) := by decide +kernel
theorem dX6_withPromise_35 : decode cX6_withPromise 35 = .ok (.aload_n 0, 1) := by decide +kernel
theorem dX6_withPromise_36 : decode cX6_withPromise 36 = .ok (.iload_n 3, 1) := by decide +kernel
theorem dX6_withPromise_37 : decode cX6_withPromise 37 = .ok (.invokevirtual 278, 3) := by decide +kernel
theorem dX6_withPromise_40 : decode cX6_withPromise 40 = .ok (.i2l, 1) := by decide +kernel
theorem dX6_withPromise_41 : decode cX6_withPromise 41 = .ok (.invokestatic 231, 3) := by decide +kernel
theorem dX6_withPromise_44 : decode cX6_withPromise 44 = .ok (.lreturn, 1) := by decide +kernel
theorem dX6_bitsOfShare_0 : decode cX6_bitsOfShare 0 = .ok (.dload_n 0, 1) := by decide +kernel
theorem dX6_bitsOfShare_1 : decode cX6_bitsOfShare 1 = .ok (.dconst 0, 1) := by decide +kernel
theorem dX6_bitsOfShare_2 : decode cX6_bitsOfShare 2 = .ok (.dcmp .g, 1) := by decide +kernel
theorem dX6_bitsOfShare_3 : decode cX6_bitsOfShare 3 = .ok (.ifCond .gt 5, 3) := by decide +kernel
theorem dX6_bitsOfShare_6 : decode cX6_bitsOfShare 6 = .ok (.lconst 0, 1) := by decide +kernel
theorem dX6_bitsOfShare_7 : decode cX6_bitsOfShare 7 = .ok (.lreturn, 1) := by decide +kernel
theorem dX6_bitsOfShare_8 : decode cX6_bitsOfShare 8 = .ok (.dload_n 0, 1) := by decide +kernel
theorem dX6_bitsOfShare_9 : decode cX6_bitsOfShare 9 = .ok (.dstore_n 2, 1) := by decide +kernel
theorem dX6_bitsOfShare_10 : decode cX6_bitsOfShare 10 = .ok (.sipush 1023, 3) := by decide +kernel
theorem dX6_bitsOfShare_13 : decode cX6_bitsOfShare 13 = .ok (.istore 4, 2) := by decide +kernel
theorem dX6_bitsOfShare_15 : decode cX6_bitsOfShare 15 = .ok (.dload_n 2, 1) := by decide +kernel
theorem dX6_bitsOfShare_16 : decode cX6_bitsOfShare 16 = .ok (.dconst 1, 1) := by decide +kernel
theorem dX6_bitsOfShare_17 : decode cX6_bitsOfShare 17 = .ok (.dcmp .g, 1) := by decide +kernel
theorem dX6_bitsOfShare_18 : decode cX6_bitsOfShare 18 = .ok (.ifCond .ge 21, 3) := by decide +kernel
theorem dX6_bitsOfShare_21 : decode cX6_bitsOfShare 21 = .ok (.iload 4, 2) := by decide +kernel
theorem dX6_bitsOfShare_23 : decode cX6_bitsOfShare 23 = .ok (.iconst 1, 1) := by decide +kernel
theorem dX6_bitsOfShare_24 : decode cX6_bitsOfShare 24 = .ok (.if_icmp .le 15, 3) := by decide +kernel
theorem dX6_bitsOfShare_27 : decode cX6_bitsOfShare 27 = .ok (.dload_n 2, 1) := by decide +kernel
theorem dX6_bitsOfShare_28 : decode cX6_bitsOfShare 28 = .ok (.ldc2_w 281, 3) := by decide +kernel
theorem dX6_bitsOfShare_31 : decode cX6_bitsOfShare 31 = .ok (.dmul, 1) := by decide +kernel
theorem dX6_bitsOfShare_32 : decode cX6_bitsOfShare 32 = .ok (.dstore_n 2, 1) := by decide +kernel
theorem dX6_bitsOfShare_33 : decode cX6_bitsOfShare 33 = .ok (.iinc 4 (-1), 3) := by decide +kernel
theorem dX6_bitsOfShare_36 : decode cX6_bitsOfShare 36 = .ok (.goto (-21), 3) := by decide +kernel
theorem dX6_bitsOfShare_39 : decode cX6_bitsOfShare 39 = .ok (.dload_n 2, 1) := by decide +kernel
theorem dX6_bitsOfShare_40 : decode cX6_bitsOfShare 40 = .ok (.dconst 1, 1) := by decide +kernel
theorem dX6_bitsOfShare_41 : decode cX6_bitsOfShare 41 = .ok (.dsub, 1) := by decide +kernel
theorem dX6_bitsOfShare_42 : decode cX6_bitsOfShare 42 = .ok (.ldc2_w 283, 3) := by decide +kernel
theorem dX6_bitsOfShare_45 : decode cX6_bitsOfShare 45 = .ok (.dmul, 1) := by decide +kernel
theorem dX6_bitsOfShare_46 : decode cX6_bitsOfShare 46 = .ok (.d2l, 1) := by decide +kernel
theorem dX6_bitsOfShare_47 : decode cX6_bitsOfShare 47 = .ok (.lstore 5, 2) := by decide +kernel
theorem dX6_bitsOfShare_49 : decode cX6_bitsOfShare 49 = .ok (.iload 4, 2) := by decide +kernel
theorem dX6_bitsOfShare_51 : decode cX6_bitsOfShare 51 = .ok (.i2l, 1) := by decide +kernel
theorem dX6_bitsOfShare_52 : decode cX6_bitsOfShare 52 = .ok (.bipush 52, 2) := by decide +kernel
theorem dX6_bitsOfShare_54 : decode cX6_bitsOfShare 54 = .ok (.lshl, 1) := by decide +kernel
theorem dX6_bitsOfShare_55 : decode cX6_bitsOfShare 55 = .ok (.lload 5, 2) := by decide +kernel
theorem dX6_bitsOfShare_57 : decode cX6_bitsOfShare 57 = .ok (.ladd, 1) := by decide +kernel
theorem dX6_bitsOfShare_58 : decode cX6_bitsOfShare 58 = .ok (.lreturn, 1) := by decide +kernel
theorem dX6_reasonAgainst_0 : decode cX6_reasonAgainst 0 = .ok (.aload_n 0, 1) := by decide +kernel
theorem dX6_reasonAgainst_1 : decode cX6_reasonAgainst 1 = .ok (.getfield 10, 3) := by decide +kernel
theorem dX6_reasonAgainst_4 : decode cX6_reasonAgainst 4 = .ok (.iload_n 1, 1) := by decide +kernel
theorem dX6_reasonAgainst_5 : decode cX6_reasonAgainst 5 = .ok (.iload_n 2, 1) := by decide +kernel
theorem dX6_reasonAgainst_6 : decode cX6_reasonAgainst 6 = .ok (.invokevirtual 164, 3) := by decide +kernel
theorem dX6_reasonAgainst_9 : decode cX6_reasonAgainst 9 = .ok (.iload_n 3, 1) := by decide +kernel
theorem dX6_reasonAgainst_10 : decode cX6_reasonAgainst 10 = .ok (.if_icmp .ge 5, 3) := by decide +kernel
theorem dX6_reasonAgainst_13 : decode cX6_reasonAgainst 13 = .ok (.iconst 1, 1) := by decide +kernel
theorem dX6_reasonAgainst_14 : decode cX6_reasonAgainst 14 = .ok (.ireturn, 1) := by decide +kernel
theorem dX6_reasonAgainst_15 : decode cX6_reasonAgainst 15 = .ok (.aload_n 0, 1) := by decide +kernel
theorem dX6_reasonAgainst_16 : decode cX6_reasonAgainst 16 = .ok (.getfield 10, 3) := by decide +kernel
theorem dX6_reasonAgainst_19 : decode cX6_reasonAgainst 19 = .ok (.iload 4, 2) := by decide +kernel
theorem dX6_reasonAgainst_21 : decode cX6_reasonAgainst 21 = .ok (.iload 5, 2) := by decide +kernel
theorem dX6_reasonAgainst_23 : decode cX6_reasonAgainst 23 = .ok (.invokevirtual 164, 3) := by decide +kernel
theorem dX6_reasonAgainst_26 : decode cX6_reasonAgainst 26 = .ok (.iload 6, 2) := by decide +kernel
theorem dX6_reasonAgainst_28 : decode cX6_reasonAgainst 28 = .ok (.if_icmp .ge 5, 3) := by decide +kernel
theorem dX6_reasonAgainst_31 : decode cX6_reasonAgainst 31 = .ok (.iconst 2, 1) := by decide +kernel
theorem dX6_reasonAgainst_32 : decode cX6_reasonAgainst 32 = .ok (.ireturn, 1) := by decide +kernel
theorem dX6_reasonAgainst_33 : decode cX6_reasonAgainst 33 = .ok (.iload_n 3, 1) := by decide +kernel
theorem dX6_reasonAgainst_34 : decode cX6_reasonAgainst 34 = .ok (.aload_n 0, 1) := by decide +kernel
theorem dX6_reasonAgainst_35 : decode cX6_reasonAgainst 35 = .ok (.getfield 10, 3) := by decide +kernel
theorem dX6_reasonAgainst_38 : decode cX6_reasonAgainst 38 = .ok (.getfield 104, 3) := by decide +kernel
theorem dX6_reasonAgainst_41 : decode cX6_reasonAgainst 41 = .ok (.iload_n 2, 1) := by decide +kernel
theorem dX6_reasonAgainst_42 : decode cX6_reasonAgainst 42 = .ok (.iaload, 1) := by decide +kernel
theorem dX6_reasonAgainst_43 : decode cX6_reasonAgainst 43 = .ok (.imul, 1) := by decide +kernel
theorem dX6_reasonAgainst_44 : decode cX6_reasonAgainst 44 = .ok (.iload 6, 2) := by decide +kernel
theorem dX6_reasonAgainst_46 : decode cX6_reasonAgainst 46 = .ok (.aload_n 0, 1) := by decide +kernel
theorem dX6_reasonAgainst_47 : decode cX6_reasonAgainst 47 = .ok (.getfield 10, 3) := by decide +kernel
theorem dX6_reasonAgainst_50 : decode cX6_reasonAgainst 50 = .ok (.getfield 104, 3) := by decide +kernel
theorem dX6_reasonAgainst_53 : decode cX6_reasonAgainst 53 = .ok (.iload 5, 2) := by decide +kernel
theorem dX6_reasonAgainst_55 : decode cX6_reasonAgainst 55 = .ok (.iaload, 1) := by decide +kernel
theorem dX6_reasonAgainst_56 : decode cX6_reasonAgainst 56 = .ok (.imul, 1) := by decide +kernel
theorem dX6_reasonAgainst_57 : decode cX6_reasonAgainst 57 = .ok (.isub, 1) := by decide +kernel
theorem dX6_reasonAgainst_58 : decode cX6_reasonAgainst 58 = .ok (.istore 7, 2) := by decide +kernel
theorem dX6_reasonAgainst_60 : decode cX6_reasonAgainst 60 = .ok (.iload 7, 2) := by decide +kernel
theorem dX6_reasonAgainst_62 : decode cX6_reasonAgainst 62 = .ok (.invokestatic 285, 3) := by decide +kernel
theorem dX6_reasonAgainst_65 : decode cX6_reasonAgainst 65 = .ok (.aload_n 0, 1) := by decide +kernel
theorem dX6_reasonAgainst_66 : decode cX6_reasonAgainst 66 = .ok (.getfield 10, 3) := by decide +kernel
theorem dX6_reasonAgainst_69 : decode cX6_reasonAgainst 69 = .ok (.getfield 107, 3) := by decide +kernel
theorem dX6_reasonAgainst_72 : decode cX6_reasonAgainst 72 = .ok (.if_icmp .le 7, 3) := by decide +kernel
theorem dX6_reasonAgainst_75 : decode cX6_reasonAgainst 75 = .ok (.iconst 3, 1) := by decide +kernel
theorem dX6_reasonAgainst_76 : decode cX6_reasonAgainst 76 = .ok (.goto 4, 3) := by decide +kernel
theorem dX6_reasonAgainst_79 : decode cX6_reasonAgainst 79 = .ok (.iconst 0, 1) := by decide +kernel
theorem dX6_reasonAgainst_80 : decode cX6_reasonAgainst 80 = .ok (.ireturn, 1) := by decide +kernel
theorem dX6_keepPromise_0 : decode cX6_keepPromise 0 = .ok (.aload_n 0, 1) := by decide +kernel
theorem dX6_keepPromise_1 : decode cX6_keepPromise 1 = .ok (.getfield 10, 3) := by decide +kernel
theorem dX6_keepPromise_4 : decode cX6_keepPromise 4 = .ok (.iload_n 1, 1) := by decide +kernel
theorem dX6_keepPromise_5 : decode cX6_keepPromise 5 = .ok (.iconst 0, 1) := by decide +kernel
theorem dX6_keepPromise_6 : decode cX6_keepPromise 6 = .ok (.invokevirtual 179, 3) := by decide +kernel
theorem dX6_keepPromise_9 : decode cX6_keepPromise 9 = .ok (.istore_n 2, 1) := by decide +kernel
theorem dX6_keepPromise_10 : decode cX6_keepPromise 10 = .ok (.aload_n 0, 1) := by decide +kernel
theorem dX6_keepPromise_11 : decode cX6_keepPromise 11 = .ok (.getfield 10, 3) := by decide +kernel
theorem dX6_keepPromise_14 : decode cX6_keepPromise 14 = .ok (.iload_n 1, 1) := by decide +kernel
theorem dX6_keepPromise_15 : decode cX6_keepPromise 15 = .ok (.iconst 1, 1) := by decide +kernel
theorem dX6_keepPromise_16 : decode cX6_keepPromise 16 = .ok (.invokevirtual 179, 3) := by decide +kernel
theorem dX6_keepPromise_19 : decode cX6_keepPromise 19 = .ok (.istore_n 3, 1) := by decide +kernel
theorem dX6_keepPromise_20 : decode cX6_keepPromise 20 = .ok (.aload_n 0, 1) := by decide +kernel
theorem dX6_keepPromise_21 : decode cX6_keepPromise 21 = .ok (.getfield 26, 3) := by decide +kernel
theorem dX6_keepPromise_24 : decode cX6_keepPromise 24 = .ok (.aload_n 0, 1) := by decide +kernel
theorem dX6_keepPromise_25 : decode cX6_keepPromise 25 = .ok (.getfield 10, 3) := by decide +kernel
theorem dX6_keepPromise_28 : decode cX6_keepPromise 28 = .ok (.iload_n 2, 1) := by decide +kernel
theorem dX6_keepPromise_29 : decode cX6_keepPromise 29 = .ok (.aload_n 0, 1) := by decide +kernel
theorem dX6_keepPromise_30 : decode cX6_keepPromise 30 = .ok (.getfield 10, 3) := by decide +kernel
theorem dX6_keepPromise_33 : decode cX6_keepPromise 33 = .ok (.iload_n 1, 1) := by decide +kernel
theorem dX6_keepPromise_34 : decode cX6_keepPromise 34 = .ok (.iconst 2, 1) := by decide +kernel
theorem dX6_keepPromise_35 : decode cX6_keepPromise 35 = .ok (.invokevirtual 179, 3) := by decide +kernel
theorem dX6_keepPromise_38 : decode cX6_keepPromise 38 = .ok (.invokevirtual 212, 3) := by decide +kernel
theorem dX6_keepPromise_41 : decode cX6_keepPromise 41 = .ok (.istore 4, 2) := by decide +kernel
theorem dX6_keepPromise_43 : decode cX6_keepPromise 43 = .ok (.iload 4, 2) := by decide +kernel
theorem dX6_keepPromise_45 : decode cX6_keepPromise 45 = .ok (.iconst (-1), 1) := by decide +kernel
theorem dX6_keepPromise_46 : decode cX6_keepPromise 46 = .ok (.if_icmp .ne 18, 3) := by decide +kernel
theorem dX6_keepPromise_49 : decode cX6_keepPromise 49 = .ok (.aload_n 0, 1) := by decide +kernel
theorem dX6_keepPromise_50 : decode cX6_keepPromise 50 = .ok (.getfield 10, 3) := by decide +kernel
theorem dX6_keepPromise_53 : decode cX6_keepPromise 53 = .ok (.dup, 1) := by decide +kernel
theorem dX6_keepPromise_54 : decode cX6_keepPromise 54 = .ok (.getfield 93, 3) := by decide +kernel
theorem dX6_keepPromise_57 : decode cX6_keepPromise 57 = .ok (.iconst 1, 1) := by decide +kernel
theorem dX6_keepPromise_58 : decode cX6_keepPromise 58 = .ok (.iadd, 1) := by decide +kernel
theorem dX6_keepPromise_59 : decode cX6_keepPromise 59 = .ok (.putfield 93, 3) := by decide +kernel
theorem dX6_keepPromise_62 : decode cX6_keepPromise 62 = .ok (.iconst (-1), 1) := by decide +kernel
theorem dX6_keepPromise_63 : decode cX6_keepPromise 63 = .ok (.ireturn, 1) := by decide +kernel
theorem dX6_keepPromise_64 : decode cX6_keepPromise 64 = .ok (.iconst 0, 1) := by decide +kernel
theorem dX6_keepPromise_65 : decode cX6_keepPromise 65 = .ok (.istore 5, 2) := by decide +kernel
theorem dX6_keepPromise_67 : decode cX6_keepPromise 67 = .ok (.iload 5, 2) := by decide +kernel
theorem dX6_keepPromise_69 : decode cX6_keepPromise 69 = .ok (.iconst 4, 1) := by decide +kernel
theorem dX6_keepPromise_70 : decode cX6_keepPromise 70 = .ok (.if_icmp .ge 30, 3) := by decide +kernel
theorem dX6_keepPromise_73 : decode cX6_keepPromise 73 = .ok (.aload_n 0, 1) := by decide +kernel
theorem dX6_keepPromise_74 : decode cX6_keepPromise 74 = .ok (.getfield 10, 3) := by decide +kernel
theorem dX6_keepPromise_77 : decode cX6_keepPromise 77 = .ok (.iload_n 2, 1) := by decide +kernel
theorem dX6_keepPromise_78 : decode cX6_keepPromise 78 = .ok (.iload_n 3, 1) := by decide +kernel
theorem dX6_keepPromise_79 : decode cX6_keepPromise 79 = .ok (.iload 5, 2) := by decide +kernel
theorem dX6_keepPromise_81 : decode cX6_keepPromise 81 = .ok (.aload_n 0, 1) := by decide +kernel
theorem dX6_keepPromise_82 : decode cX6_keepPromise 82 = .ok (.getfield 26, 3) := by decide +kernel
theorem dX6_keepPromise_85 : decode cX6_keepPromise 85 = .ok (.getfield 288, 3) := by decide +kernel
theorem dX6_keepPromise_88 : decode cX6_keepPromise 88 = .ok (.iload 5, 2) := by decide +kernel
theorem dX6_keepPromise_90 : decode cX6_keepPromise 90 = .ok (.iaload, 1) := by decide +kernel
theorem dX6_keepPromise_91 : decode cX6_keepPromise 91 = .ok (.invokevirtual 97, 3) := by decide +kernel
theorem dX6_keepPromise_94 : decode cX6_keepPromise 94 = .ok (.iinc 5 1, 3) := by decide +kernel
theorem dX6_keepPromise_97 : decode cX6_keepPromise 97 = .ok (.goto (-30), 3) := by decide +kernel
theorem dX6_keepPromise_100 : decode cX6_keepPromise 100 = .ok (.aload_n 0, 1) := by decide +kernel
theorem dX6_keepPromise_101 : decode cX6_keepPromise 101 = .ok (.getfield 10, 3) := by decide +kernel
theorem dX6_keepPromise_104 : decode cX6_keepPromise 104 = .ok (.iload_n 1, 1) := by decide +kernel
theorem dX6_keepPromise_105 : decode cX6_keepPromise 105 = .ok (.invokevirtual 291, 3) := by decide +kernel
theorem dX6_keepPromise_108 : decode cX6_keepPromise 108 = .ok (.aload_n 0, 1) := by decide +kernel
theorem dX6_keepPromise_109 : decode cX6_keepPromise 109 = .ok (.getfield 10, 3) := by decide +kernel
theorem dX6_keepPromise_112 : decode cX6_keepPromise 112 = .ok (.dup, 1) := by decide +kernel
theorem dX6_keepPromise_113 : decode cX6_keepPromise 113 = .ok (.getfield 195, 3) := by decide +kernel
theorem dX6_keepPromise_116 : decode cX6_keepPromise 116 = .ok (.iconst 1, 1) := by decide +kernel
theorem dX6_keepPromise_117 : decode cX6_keepPromise 117 = .ok (.iadd, 1) := by decide +kernel
theorem dX6_keepPromise_118 : decode cX6_keepPromise 118 = .ok (.putfield 195, 3) := by decide +kernel
theorem dX6_keepPromise_121 : decode cX6_keepPromise 121 = .ok (.iload 4, 2) := by decide +kernel
theorem dX6_keepPromise_123 : decode cX6_keepPromise 123 = .ok (.ireturn, 1) := by decide +kernel
theorem dX6_isDone_0 : decode cX6_isDone 0 = .ok (.aload_n 0, 1) := by decide +kernel
theorem dX6_isDone_1 : decode cX6_isDone 1 = .ok (.getfield 33, 3) := by decide +kernel
theorem dX6_isDone_4 : decode cX6_isDone 4 = .ok (.iload_n 1, 1) := by decide +kernel
theorem dX6_isDone_5 : decode cX6_isDone 5 = .ok (.iconst 1, 1) := by decide +kernel
theorem dX6_isDone_6 : decode cX6_isDone 6 = .ok (.iadd, 1) := by decide +kernel
theorem dX6_isDone_7 : decode cX6_isDone 7 = .ok (.invokevirtual 294, 3) := by decide +kernel
theorem dX6_isDone_10 : decode cX6_isDone 10 = .ok (.istore_n 2, 1) := by decide +kernel
theorem dX6_isDone_11 : decode cX6_isDone 11 = .ok (.aload_n 0, 1) := by decide +kernel
theorem dX6_isDone_12 : decode cX6_isDone 12 = .ok (.getfield 33, 3) := by decide +kernel
theorem dX6_isDone_15 : decode cX6_isDone 15 = .ok (.iload_n 1, 1) := by decide +kernel
theorem dX6_isDone_16 : decode cX6_isDone 16 = .ok (.iconst 2, 1) := by decide +kernel
theorem dX6_isDone_17 : decode cX6_isDone 17 = .ok (.iadd, 1) := by decide +kernel
theorem dX6_isDone_18 : decode cX6_isDone 18 = .ok (.invokevirtual 294, 3) := by decide +kernel
theorem dX6_isDone_21 : decode cX6_isDone 21 = .ok (.istore_n 3, 1) := by decide +kernel
theorem dX6_isDone_22 : decode cX6_isDone 22 = .ok (.aload_n 0, 1) := by decide +kernel
theorem dX6_isDone_23 : decode cX6_isDone 23 = .ok (.getfield 33, 3) := by decide +kernel
theorem dX6_isDone_26 : decode cX6_isDone 26 = .ok (.iload_n 1, 1) := by decide +kernel
theorem dX6_isDone_27 : decode cX6_isDone 27 = .ok (.invokevirtual 253, 3) := by decide +kernel
theorem dX6_isDone_30 : decode cX6_isDone 30 = .ok (.lookupswitch 85 #[(112, 50), (115, 34), (120, 39)], 34) := by decide +kernel
theorem dX6_isDone_64 : decode cX6_isDone 64 = .ok (.aload_n 0, 1) := by decide +kernel
theorem dX6_isDone_65 : decode cX6_isDone 65 = .ok (.invokevirtual 297, 3) := by decide +kernel
theorem dX6_isDone_68 : decode cX6_isDone 68 = .ok (.ireturn, 1) := by decide +kernel
theorem dX6_isDone_69 : decode cX6_isDone 69 = .ok (.aload_n 0, 1) := by decide +kernel
theorem dX6_isDone_70 : decode cX6_isDone 70 = .ok (.getfield 10, 3) := by decide +kernel
theorem dX6_isDone_73 : decode cX6_isDone 73 = .ok (.iload_n 2, 1) := by decide +kernel
theorem dX6_isDone_74 : decode cX6_isDone 74 = .ok (.iload_n 3, 1) := by decide +kernel
theorem dX6_isDone_75 : decode cX6_isDone 75 = .ok (.invokevirtual 72, 3) := by decide +kernel
theorem dX6_isDone_78 : decode cX6_isDone 78 = .ok (.iconst 1, 1) := by decide +kernel
theorem dX6_isDone_79 : decode cX6_isDone 79 = .ok (.ireturn, 1) := by decide +kernel
theorem dX6_isDone_80 : decode cX6_isDone 80 = .ok (.aload_n 0, 1) := by decide +kernel
theorem dX6_isDone_81 : decode cX6_isDone 81 = .ok (.getfield 10, 3) := by decide +kernel
theorem dX6_isDone_84 : decode cX6_isDone 84 = .ok (.iload_n 2, 1) := by decide +kernel
theorem dX6_isDone_85 : decode cX6_isDone 85 = .ok (.iload_n 3, 1) := by decide +kernel
theorem dX6_isDone_86 : decode cX6_isDone 86 = .ok (.aload_n 0, 1) := by decide +kernel
theorem dX6_isDone_87 : decode cX6_isDone 87 = .ok (.getfield 33, 3) := by decide +kernel
theorem dX6_isDone_90 : decode cX6_isDone 90 = .ok (.iload_n 1, 1) := by decide +kernel
theorem dX6_isDone_91 : decode cX6_isDone 91 = .ok (.invokevirtual 300, 3) := by decide +kernel
theorem dX6_isDone_94 : decode cX6_isDone 94 = .ok (.aload_n 0, 1) := by decide +kernel
theorem dX6_isDone_95 : decode cX6_isDone 95 = .ok (.getfield 33, 3) := by decide +kernel
theorem dX6_isDone_98 : decode cX6_isDone 98 = .ok (.iload_n 1, 1) := by decide +kernel
theorem dX6_isDone_99 : decode cX6_isDone 99 = .ok (.invokevirtual 303, 3) := by decide +kernel
theorem dX6_isDone_102 : decode cX6_isDone 102 = .ok (.invokevirtual 110, 3) := by decide +kernel
theorem dX6_isDone_105 : decode cX6_isDone 105 = .ok (.iconst (-1), 1) := by decide +kernel
theorem dX6_isDone_106 : decode cX6_isDone 106 = .ok (.if_icmp .eq 7, 3) := by decide +kernel
theorem dX6_isDone_109 : decode cX6_isDone 109 = .ok (.iconst 1, 1) := by decide +kernel
theorem dX6_isDone_110 : decode cX6_isDone 110 = .ok (.goto 4, 3) := by decide +kernel
theorem dX6_isDone_113 : decode cX6_isDone 113 = .ok (.iconst 0, 1) := by decide +kernel
theorem dX6_isDone_114 : decode cX6_isDone 114 = .ok (.ireturn, 1) := by decide +kernel
theorem dX6_isDone_115 : decode cX6_isDone 115 = .ok (.iload_n 2, 1) := by decide +kernel
theorem dX6_isDone_116 : decode cX6_isDone 116 = .ok (.aload_n 0, 1) := by decide +kernel
theorem dX6_isDone_117 : decode cX6_isDone 117 = .ok (.getfield 10, 3) := by decide +kernel
theorem dX6_isDone_120 : decode cX6_isDone 120 = .ok (.getfield 186, 3) := by decide +kernel
theorem dX6_isDone_123 : decode cX6_isDone 123 = .ok (.if_icmp .ge 16, 3) := by decide +kernel
theorem dX6_isDone_126 : decode cX6_isDone 126 = .ok (.aload_n 0, 1) := by decide +kernel
theorem dX6_isDone_127 : decode cX6_isDone 127 = .ok (.iload_n 2, 1) := by decide +kernel
theorem dX6_isDone_128 : decode cX6_isDone 128 = .ok (.invokevirtual 117, 3) := by decide +kernel
theorem dX6_isDone_131 : decode cX6_isDone 131 = .ok (.iconst (-1), 1) := by decide +kernel
theorem dX6_isDone_132 : decode cX6_isDone 132 = .ok (.if_icmp .eq 7, 3) := by decide +kernel
theorem dX6_isDone_135 : decode cX6_isDone 135 = .ok (.iconst 1, 1) := by decide +kernel
theorem dX6_isDone_136 : decode cX6_isDone 136 = .ok (.goto 4, 3) := by decide +kernel
theorem dX6_isDone_139 : decode cX6_isDone 139 = .ok (.iconst 0, 1) := by decide +kernel
theorem dX6_isDone_140 : decode cX6_isDone 140 = .ok (.ireturn, 1) := by decide +kernel
theorem dX6_isStormDone_0 : decode cX6_isStormDone 0 = .ok (.aload_n 0, 1) := by decide +kernel
theorem dX6_isStormDone_1 : decode cX6_isStormDone 1 = .ok (.getfield 10, 3) := by decide +kernel
theorem dX6_isStormDone_4 : decode cX6_isStormDone 4 = .ok (.invokevirtual 49, 3) := by decide +kernel
theorem dX6_isStormDone_7 : decode cX6_isStormDone 7 = .ok (.ifCond .ne 5, 3) := by decide +kernel
theorem dX6_isStormDone_10 : decode cX6_isStormDone 10 = .ok (.iconst 0, 1) := by decide +kernel
theorem dX6_isStormDone_11 : decode cX6_isStormDone 11 = .ok (.ireturn, 1) := by decide +kernel
theorem dX6_isStormDone_12 : decode cX6_isStormDone 12 = .ok (.aload_n 0, 1) := by decide +kernel
theorem dX6_isStormDone_13 : decode cX6_isStormDone 13 = .ok (.getfield 10, 3) := by decide +kernel
theorem dX6_isStormDone_16 : decode cX6_isStormDone 16 = .ok (.invokevirtual 64, 3) := by decide +kernel
theorem dX6_isStormDone_19 : decode cX6_isStormDone 19 = .ok (.pop, 1) := by decide +kernel
theorem dX6_isStormDone_20 : decode cX6_isStormDone 20 = .ok (.iconst 1, 1) := by decide +kernel
theorem dX6_isStormDone_21 : decode cX6_isStormDone 21 = .ok (.ireturn, 1) := by decide +kernel
theorem dX6_homeByCircles_0 : decode cX6_homeByCircles 0 = .ok (.iconst 1, 1) := by decide +kernel
theorem dX6_homeByCircles_1 : decode cX6_homeByCircles 1 = .ok (.istore_n 1, 1) := by decide +kernel
theorem dX6_homeByCircles_2 : decode cX6_homeByCircles 2 = .ok (.iconst 0, 1) := by decide +kernel
theorem dX6_homeByCircles_3 : decode cX6_homeByCircles 3 = .ok (.istore_n 2, 1) := by decide +kernel
theorem dX6_homeByCircles_4 : decode cX6_homeByCircles 4 = .ok (.iload_n 2, 1) := by decide +kernel
theorem dX6_homeByCircles_5 : decode cX6_homeByCircles 5 = .ok (.bipush 8, 2) := by decide +kernel
theorem dX6_homeByCircles_7 : decode cX6_homeByCircles 7 = .ok (.if_icmp .ge 22, 3) := by decide +kernel
theorem dX6_homeByCircles_10 : decode cX6_homeByCircles 10 = .ok (.iload_n 1, 1) := by decide +kernel
theorem dX6_homeByCircles_11 : decode cX6_homeByCircles 11 = .ok (.aload_n 0, 1) := by decide +kernel
theorem dX6_homeByCircles_12 : decode cX6_homeByCircles 12 = .ok (.getfield 10, 3) := by decide +kernel
theorem dX6_homeByCircles_15 : decode cX6_homeByCircles 15 = .ok (.iload_n 2, 1) := by decide +kernel
theorem dX6_homeByCircles_16 : decode cX6_homeByCircles 16 = .ok (.invokevirtual 171, 3) := by decide +kernel
theorem dX6_homeByCircles_19 : decode cX6_homeByCircles 19 = .ok (.invokestatic 306, 3) := by decide +kernel
theorem dX6_homeByCircles_22 : decode cX6_homeByCircles 22 = .ok (.istore_n 1, 1) := by decide +kernel
theorem dX6_homeByCircles_23 : decode cX6_homeByCircles 23 = .ok (.iinc 2 1, 3) := by decide +kernel
theorem dX6_homeByCircles_26 : decode cX6_homeByCircles 26 = .ok (.goto (-22), 3) := by decide +kernel
theorem dX6_homeByCircles_29 : decode cX6_homeByCircles 29 = .ok (.iload_n 1, 1) := by decide +kernel
theorem dX6_homeByCircles_30 : decode cX6_homeByCircles 30 = .ok (.ireturn, 1) := by decide +kernel
theorem dX6_homeByTrying_0 : decode cX6_homeByTrying 0 = .ok (.iconst 0, 1) := by decide +kernel
theorem dX6_homeByTrying_1 : decode cX6_homeByTrying 1 = .ok (.istore_n 1, 1) := by decide +kernel
theorem dX6_homeByTrying_2 : decode cX6_homeByTrying 2 = .ok (.iload_n 1, 1) := by decide +kernel
theorem dX6_homeByTrying_3 : decode cX6_homeByTrying 3 = .ok (.bipush 8, 2) := by decide +kernel
theorem dX6_homeByTrying_5 : decode cX6_homeByTrying 5 = .ok (.if_icmp .ge 16, 3) := by decide +kernel
theorem dX6_homeByTrying_8 : decode cX6_homeByTrying 8 = .ok (.aload_n 0, 1) := by decide +kernel
theorem dX6_homeByTrying_9 : decode cX6_homeByTrying 9 = .ok (.getfield 45, 3) := by decide +kernel
theorem dX6_homeByTrying_12 : decode cX6_homeByTrying 12 = .ok (.iload_n 1, 1) := by decide +kernel
theorem dX6_homeByTrying_13 : decode cX6_homeByTrying 13 = .ok (.iload_n 1, 1) := by decide +kernel
theorem dX6_homeByTrying_14 : decode cX6_homeByTrying 14 = .ok (.iastore, 1) := by decide +kernel
theorem dX6_homeByTrying_15 : decode cX6_homeByTrying 15 = .ok (.iinc 1 1, 3) := by decide +kernel
theorem dX6_homeByTrying_18 : decode cX6_homeByTrying 18 = .ok (.goto (-16), 3) := by decide +kernel
theorem dX6_homeByTrying_21 : decode cX6_homeByTrying 21 = .ok (.iconst 0, 1) := by decide +kernel
theorem dX6_homeByTrying_22 : decode cX6_homeByTrying 22 = .ok (.istore_n 1, 1) := by decide +kernel
theorem dX6_homeByTrying_23 : decode cX6_homeByTrying 23 = .ok (.iinc 1 1, 3) := by decide +kernel
theorem dX6_homeByTrying_26 : decode cX6_homeByTrying 26 = .ok (.iconst 0, 1) := by decide +kernel
theorem dX6_homeByTrying_27 : decode cX6_homeByTrying 27 = .ok (.istore_n 2, 1) := by decide +kernel
theorem dX6_homeByTrying_28 : decode cX6_homeByTrying 28 = .ok (.iload_n 2, 1) := by decide +kernel
theorem dX6_homeByTrying_29 : decode cX6_homeByTrying 29 = .ok (.bipush 8, 2) := by decide +kernel
theorem dX6_homeByTrying_31 : decode cX6_homeByTrying 31 = .ok (.if_icmp .ge 29, 3) := by decide +kernel
theorem dX6_homeByTrying_34 : decode cX6_homeByTrying 34 = .ok (.aload_n 0, 1) := by decide +kernel
theorem dX6_homeByTrying_35 : decode cX6_homeByTrying 35 = .ok (.getfield 45, 3) := by decide +kernel
theorem dX6_homeByTrying_38 : decode cX6_homeByTrying 38 = .ok (.iload_n 2, 1) := by decide +kernel
theorem dX6_homeByTrying_39 : decode cX6_homeByTrying 39 = .ok (.aload_n 0, 1) := by decide +kernel
theorem dX6_homeByTrying_40 : decode cX6_homeByTrying 40 = .ok (.getfield 10, 3) := by decide +kernel
theorem dX6_homeByTrying_43 : decode cX6_homeByTrying 43 = .ok (.aload_n 0, 1) := by decide +kernel
theorem dX6_homeByTrying_44 : decode cX6_homeByTrying 44 = .ok (.getfield 45, 3) := by decide +kernel
theorem dX6_homeByTrying_47 : decode cX6_homeByTrying 47 = .ok (.iload_n 2, 1) := by decide +kernel
theorem dX6_homeByTrying_48 : decode cX6_homeByTrying 48 = .ok (.iaload, 1) := by decide +kernel
theorem dX6_homeByTrying_49 : decode cX6_homeByTrying 49 = .ok (.iconst 1, 1) := by decide +kernel
theorem dX6_homeByTrying_50 : decode cX6_homeByTrying 50 = .ok (.invokevirtual 203, 3) := by decide +kernel
theorem dX6_homeByTrying_53 : decode cX6_homeByTrying 53 = .ok (.iastore, 1) := by decide +kernel
theorem dX6_homeByTrying_54 : decode cX6_homeByTrying 54 = .ok (.iinc 2 1, 3) := by decide +kernel
theorem dX6_homeByTrying_57 : decode cX6_homeByTrying 57 = .ok (.goto (-29), 3) := by decide +kernel
theorem dX6_homeByTrying_60 : decode cX6_homeByTrying 60 = .ok (.aload_n 0, 1) := by decide +kernel
theorem dX6_homeByTrying_61 : decode cX6_homeByTrying 61 = .ok (.invokevirtual 309, 3) := by decide +kernel
theorem dX6_homeByTrying_64 : decode cX6_homeByTrying 64 = .ok (.ifCond .ne 10, 3) := by decide +kernel
theorem dX6_homeByTrying_67 : decode cX6_homeByTrying 67 = .ok (.iload_n 1, 1) := by decide +kernel
theorem dX6_homeByTrying_68 : decode cX6_homeByTrying 68 = .ok (.sipush 1000, 3) := by decide +kernel
theorem dX6_homeByTrying_71 : decode cX6_homeByTrying 71 = .ok (.if_icmp .lt (-48), 3) := by decide +kernel
theorem dX6_homeByTrying_74 : decode cX6_homeByTrying 74 = .ok (.iload_n 1, 1) := by decide +kernel
theorem dX6_homeByTrying_75 : decode cX6_homeByTrying 75 = .ok (.ireturn, 1) := by decide +kernel
theorem dX6_areHome_0 : decode cX6_areHome 0 = .ok (.iconst 0, 1) := by decide +kernel
theorem dX6_areHome_1 : decode cX6_areHome 1 = .ok (.istore_n 1, 1) := by decide +kernel
theorem dX6_areHome_2 : decode cX6_areHome 2 = .ok (.iload_n 1, 1) := by decide +kernel
theorem dX6_areHome_3 : decode cX6_areHome 3 = .ok (.bipush 8, 2) := by decide +kernel
theorem dX6_areHome_5 : decode cX6_areHome 5 = .ok (.if_icmp .ge 21, 3) := by decide +kernel
theorem dX6_areHome_8 : decode cX6_areHome 8 = .ok (.aload_n 0, 1) := by decide +kernel
theorem dX6_areHome_9 : decode cX6_areHome 9 = .ok (.getfield 45, 3) := by decide +kernel
theorem dX6_areHome_12 : decode cX6_areHome 12 = .ok (.iload_n 1, 1) := by decide +kernel
theorem dX6_areHome_13 : decode cX6_areHome 13 = .ok (.iaload, 1) := by decide +kernel
theorem dX6_areHome_14 : decode cX6_areHome 14 = .ok (.iload_n 1, 1) := by decide +kernel
theorem dX6_areHome_15 : decode cX6_areHome 15 = .ok (.if_icmp .eq 5, 3) := by decide +kernel
theorem dX6_areHome_18 : decode cX6_areHome 18 = .ok (.iconst 0, 1) := by decide +kernel
theorem dX6_areHome_19 : decode cX6_areHome 19 = .ok (.ireturn, 1) := by decide +kernel
theorem dX6_areHome_20 : decode cX6_areHome 20 = .ok (.iinc 1 1, 3) := by decide +kernel
theorem dX6_areHome_23 : decode cX6_areHome 23 = .ok (.goto (-21), 3) := by decide +kernel
theorem dX6_areHome_26 : decode cX6_areHome 26 = .ok (.iconst 1, 1) := by decide +kernel
theorem dX6_areHome_27 : decode cX6_areHome 27 = .ok (.ireturn, 1) := by decide +kernel
theorem dX6_leastCommonMultiple_0 : decode cX6_leastCommonMultiple 0 = .ok (.iload_n 0, 1) := by decide +kernel
theorem dX6_leastCommonMultiple_1 : decode cX6_leastCommonMultiple 1 = .ok (.istore_n 2, 1) := by decide +kernel
theorem dX6_leastCommonMultiple_2 : decode cX6_leastCommonMultiple 2 = .ok (.iconst 1, 1) := by decide +kernel
theorem dX6_leastCommonMultiple_3 : decode cX6_leastCommonMultiple 3 = .ok (.istore_n 3, 1) := by decide +kernel
theorem dX6_leastCommonMultiple_4 : decode cX6_leastCommonMultiple 4 = .ok (.iload_n 3, 1) := by decide +kernel
theorem dX6_leastCommonMultiple_5 : decode cX6_leastCommonMultiple 5 = .ok (.iload_n 1, 1) := by decide +kernel
theorem dX6_leastCommonMultiple_6 : decode cX6_leastCommonMultiple 6 = .ok (.if_icmp .ge 23, 3) := by decide +kernel
theorem dX6_leastCommonMultiple_9 : decode cX6_leastCommonMultiple 9 = .ok (.iload_n 1, 1) := by decide +kernel
theorem dX6_leastCommonMultiple_10 : decode cX6_leastCommonMultiple 10 = .ok (.ifCond .le 19, 3) := by decide +kernel
theorem dX6_leastCommonMultiple_13 : decode cX6_leastCommonMultiple 13 = .ok (.iload_n 2, 1) := by decide +kernel
theorem dX6_leastCommonMultiple_14 : decode cX6_leastCommonMultiple 14 = .ok (.iload_n 1, 1) := by decide +kernel
theorem dX6_leastCommonMultiple_15 : decode cX6_leastCommonMultiple 15 = .ok (.irem, 1) := by decide +kernel
theorem dX6_leastCommonMultiple_16 : decode cX6_leastCommonMultiple 16 = .ok (.ifCond .eq 13, 3) := by decide +kernel
theorem dX6_leastCommonMultiple_19 : decode cX6_leastCommonMultiple 19 = .ok (.iload_n 2, 1) := by decide +kernel
theorem dX6_leastCommonMultiple_20 : decode cX6_leastCommonMultiple 20 = .ok (.iload_n 0, 1) := by decide +kernel
theorem dX6_leastCommonMultiple_21 : decode cX6_leastCommonMultiple 21 = .ok (.iadd, 1) := by decide +kernel
theorem dX6_leastCommonMultiple_22 : decode cX6_leastCommonMultiple 22 = .ok (.istore_n 2, 1) := by decide +kernel
theorem dX6_leastCommonMultiple_23 : decode cX6_leastCommonMultiple 23 = .ok (.iinc 3 1, 3) := by decide +kernel
theorem dX6_leastCommonMultiple_26 : decode cX6_leastCommonMultiple 26 = .ok (.goto (-22), 3) := by decide +kernel
theorem dX6_leastCommonMultiple_29 : decode cX6_leastCommonMultiple 29 = .ok (.iload_n 2, 1) := by decide +kernel
theorem dX6_leastCommonMultiple_30 : decode cX6_leastCommonMultiple 30 = .ok (.ireturn, 1) := by decide +kernel
theorem dX6_needIslander_0 : decode cX6_needIslander 0 = .ok (.iload_n 0, 1) := by decide +kernel
theorem dX6_needIslander_1 : decode cX6_needIslander 1 = .ok (.ifCond .lt 9, 3) := by decide +kernel
theorem dX6_needIslander_4 : decode cX6_needIslander 4 = .ok (.iload_n 0, 1) := by decide +kernel
theorem dX6_needIslander_5 : decode cX6_needIslander 5 = .ok (.bipush 8, 2) := by decide +kernel
theorem dX6_needIslander_7 : decode cX6_needIslander 7 = .ok (.if_icmp .lt 14, 3) := by decide +kernel
theorem dX6_needIslander_10 : decode cX6_needIslander 10 = .ok (.new 312, 3) := by decide +kernel
theorem dX6_needIslander_13 : decode cX6_needIslander 13 = .ok (.dup, 1) := by decide +kernel
theorem dX6_needIslander_14 : decode cX6_needIslander 14 = .ok (.ldc_w 314, 3) := by decide +kernel
theorem dX6_needIslander_17 : decode cX6_needIslander 17 = .ok (.invokespecial 316, 3) := by decide +kernel
theorem dX6_needIslander_20 : decode cX6_needIslander 20 = .ok (.athrow, 1) := by decide +kernel
theorem dX6_needIslander_21 : decode cX6_needIslander 21 = .ok (.return_, 1) := by decide +kernel
theorem dX6_needColour_0 : decode cX6_needColour 0 = .ok (.iload_n 0, 1) := by decide +kernel
theorem dX6_needColour_1 : decode cX6_needColour 1 = .ok (.ifCond .lt 8, 3) := by decide +kernel
theorem dX6_needColour_4 : decode cX6_needColour 4 = .ok (.iload_n 0, 1) := by decide +kernel
theorem dX6_needColour_5 : decode cX6_needColour 5 = .ok (.iconst 4, 1) := by decide +kernel
theorem dX6_needColour_6 : decode cX6_needColour 6 = .ok (.if_icmp .lt 14, 3) := by decide +kernel
theorem dX6_needColour_9 : decode cX6_needColour 9 = .ok (.new 312, 3) := by decide +kernel
theorem dX6_needColour_12 : decode cX6_needColour 12 = .ok (.dup, 1) := by decide +kernel
theorem dX6_needColour_13 : decode cX6_needColour 13 = .ok (.ldc_w 317, 3) := by decide +kernel
theorem dX6_needColour_16 : decode cX6_needColour 16 = .ok (.invokespecial 316, 3) := by decide +kernel
theorem dX6_needColour_19 : decode cX6_needColour 19 = .ok (.athrow, 1) := by decide +kernel
theorem dX6_needColour_20 : decode cX6_needColour 20 = .ok (.return_, 1) := by decide +kernel
theorem dX6_needPromise_0 : decode cX6_needPromise 0 = .ok (.iload_n 1, 1) := by decide +kernel
theorem dX6_needPromise_1 : decode cX6_needPromise 1 = .ok (.ifCond .lt 14, 3) := by decide +kernel
theorem dX6_needPromise_4 : decode cX6_needPromise 4 = .ok (.iload_n 1, 1) := by decide +kernel
theorem dX6_needPromise_5 : decode cX6_needPromise 5 = .ok (.aload_n 0, 1) := by decide +kernel
theorem dX6_needPromise_6 : decode cX6_needPromise 6 = .ok (.getfield 10, 3) := by decide +kernel
theorem dX6_needPromise_9 : decode cX6_needPromise 9 = .ok (.getfield 186, 3) := by decide +kernel
theorem dX6_needPromise_12 : decode cX6_needPromise 12 = .ok (.if_icmp .lt 14, 3) := by decide +kernel
theorem dX6_needPromise_15 : decode cX6_needPromise 15 = .ok (.new 312, 3) := by decide +kernel
theorem dX6_needPromise_18 : decode cX6_needPromise 18 = .ok (.dup, 1) := by decide +kernel
theorem dX6_needPromise_19 : decode cX6_needPromise 19 = .ok (.ldc_w 319, 3) := by decide +kernel
theorem dX6_needPromise_22 : decode cX6_needPromise 22 = .ok (.invokespecial 316, 3) := by decide +kernel
theorem dX6_needPromise_25 : decode cX6_needPromise 25 = .ok (.athrow, 1) := by decide +kernel
theorem dX6_needPromise_26 : decode cX6_needPromise 26 = .ok (.return_, 1) := by decide +kernel
theorem dX6_needOthers_0 : decode cX6_needOthers 0 = .ok (.iload_n 0, 1) := by decide +kernel
theorem dX6_needOthers_1 : decode cX6_needOthers 1 = .ok (.iload_n 1, 1) := by decide +kernel
theorem dX6_needOthers_2 : decode cX6_needOthers 2 = .ok (.if_icmp .ne 14, 3) := by decide +kernel
theorem dX6_needOthers_5 : decode cX6_needOthers 5 = .ok (.new 136, 3) := by decide +kernel
theorem dX6_needOthers_8 : decode cX6_needOthers 8 = .ok (.dup, 1) := by decide +kernel
theorem dX6_needOthers_9 : decode cX6_needOthers 9 = .ok (.ldc_w 321, 3) := by decide +kernel
theorem dX6_needOthers_12 : decode cX6_needOthers 12 = .ok (.invokespecial 140, 3) := by decide +kernel
theorem dX6_needOthers_15 : decode cX6_needOthers 15 = .ok (.athrow, 1) := by decide +kernel
theorem dX6_needOthers_16 : decode cX6_needOthers 16 = .ok (.return_, 1) := by decide +kernel
theorem dX6_needRange_0 : decode cX6_needRange 0 = .ok (.iload_n 0, 1) := by decide +kernel
theorem dX6_needRange_1 : decode cX6_needRange 1 = .ok (.iload_n 1, 1) := by decide +kernel
theorem dX6_needRange_2 : decode cX6_needRange 2 = .ok (.if_icmp .lt 8, 3) := by decide +kernel
theorem dX6_needRange_5 : decode cX6_needRange 5 = .ok (.iload_n 0, 1) := by decide +kernel
theorem dX6_needRange_6 : decode cX6_needRange 6 = .ok (.iload_n 2, 1) := by decide +kernel
theorem dX6_needRange_7 : decode cX6_needRange 7 = .ok (.if_icmp .le 14, 3) := by decide +kernel
theorem dX6_needRange_10 : decode cX6_needRange 10 = .ok (.new 136, 3) := by decide +kernel
theorem dX6_needRange_13 : decode cX6_needRange 13 = .ok (.dup, 1) := by decide +kernel
theorem dX6_needRange_14 : decode cX6_needRange 14 = .ok (.ldc_w 323, 3) := by decide +kernel
theorem dX6_needRange_17 : decode cX6_needRange 17 = .ok (.invokespecial 140, 3) := by decide +kernel
theorem dX6_needRange_20 : decode cX6_needRange 20 = .ok (.athrow, 1) := by decide +kernel
theorem dX6_needRange_21 : decode cX6_needRange 21 = .ok (.return_, 1) := by decide +kernel
end
section
theorem dX7_init_0 : decode cX7_init 0 = .ok (.aload_n 0, 1) := by decide +kernel
theorem dX7_init_1 : decode cX7_init 1 = .ok (.invokespecial 1, 3) := by decide +kernel
theorem dX7_init_4 : decode cX7_init 4 = .ok (.aload_n 0, 1) := by decide +kernel
theorem dX7_init_5 : decode cX7_init 5 = .ok (.bipush 83, 2) := by decide +kernel
theorem dX7_init_7 : decode cX7_init 7 = .ok (.newarray .int, 2) := by decide +kernel
theorem dX7_init_9 : decode cX7_init 9 = .ok (.putfield 7, 3) := by decide +kernel
theorem dX7_init_12 : decode cX7_init 12 = .ok (.aload_n 0, 1) := by decide +kernel
theorem dX7_init_13 : decode cX7_init 13 = .ok (.sipush 498, 3) := by decide +kernel
theorem dX7_init_16 : decode cX7_init 16 = .ok (.newarray .int, 2) := by decide +kernel
theorem dX7_init_18 : decode cX7_init 18 = .ok (.putfield 13, 3) := by decide +kernel
theorem dX7_init_21 : decode cX7_init 21 = .ok (.aload_n 0, 1) := by decide +kernel
theorem dX7_init_22 : decode cX7_init 22 = .ok (.sipush 166, 3) := by decide +kernel
theorem dX7_init_25 : decode cX7_init 25 = .ok (.newarray .int, 2) := by decide +kernel
theorem dX7_init_27 : decode cX7_init 27 = .ok (.putfield 16, 3) := by decide +kernel
theorem dX7_init_30 : decode cX7_init 30 = .ok (.aload_n 0, 1) := by decide +kernel
theorem dX7_init_31 : decode cX7_init 31 = .ok (.iconst 2, 1) := by decide +kernel
theorem dX7_init_32 : decode cX7_init 32 = .ok (.newarray .boolean, 2) := by decide +kernel
theorem dX7_init_34 : decode cX7_init 34 = .ok (.putfield 19, 3) := by decide +kernel
theorem dX7_init_37 : decode cX7_init 37 = .ok (.aload_n 0, 1) := by decide +kernel
theorem dX7_init_38 : decode cX7_init 38 = .ok (.bipush 60, 2) := by decide +kernel
theorem dX7_init_40 : decode cX7_init 40 = .ok (.newarray .int, 2) := by decide +kernel
theorem dX7_init_42 : decode cX7_init 42 = .ok (.putfield 23, 3) := by decide +kernel
theorem dX7_init_45 : decode cX7_init 45 = .ok (.aload_n 0, 1) := by decide +kernel
theorem dX7_init_46 : decode cX7_init 46 = .ok (.iconst 4, 1) := by decide +kernel
theorem dX7_init_47 : decode cX7_init 47 = .ok (.newarray .int, 2) := by decide +kernel
theorem dX7_init_49 : decode cX7_init 49 = .ok (.putfield 26, 3) := by decide +kernel
theorem dX7_init_52 : decode cX7_init 52 = .ok (.aload_n 0, 1) := by decide +kernel
theorem dX7_init_53 : decode cX7_init 53 = .ok (.bipush 32, 2) := by decide +kernel
theorem dX7_init_55 : decode cX7_init 55 = .ok (.newarray .int, 2) := by decide +kernel
theorem dX7_init_57 : decode cX7_init 57 = .ok (.putfield 29, 3) := by decide +kernel
theorem dX7_init_60 : decode cX7_init 60 = .ok (.aload_n 0, 1) := by decide +kernel
theorem dX7_init_61 : decode cX7_init 61 = .ok (.iconst 4, 1) := by decide +kernel
theorem dX7_init_62 : decode cX7_init 62 = .ok (.newarray .int, 2) := by decide +kernel
theorem dX7_init_64 : decode cX7_init 64 = .ok (.putfield 32, 3) := by decide +kernel
theorem dX7_init_67 : decode cX7_init 67 = .ok (.aload_n 0, 1) := by decide +kernel
theorem dX7_init_68 : decode cX7_init 68 = .ok (.getfield 7, 3) := by decide +kernel
theorem dX7_init_71 : decode cX7_init 71 = .ok (.bipush 7, 2) := by decide +kernel
theorem dX7_init_73 : decode cX7_init 73 = .ok (.iconst 1, 1) := by decide +kernel
theorem dX7_init_74 : decode cX7_init 74 = .ok (.iastore, 1) := by decide +kernel
theorem dX7_init_75 : decode cX7_init 75 = .ok (.aload_n 0, 1) := by decide +kernel
theorem dX7_init_76 : decode cX7_init 76 = .ok (.getfield 7, 3) := by decide +kernel
theorem dX7_init_79 : decode cX7_init 79 = .ok (.bipush 8, 2) := by decide +kernel
theorem dX7_init_81 : decode cX7_init 81 = .ok (.iconst 2, 1) := by decide +kernel
theorem dX7_init_82 : decode cX7_init 82 = .ok (.iastore, 1) := by decide +kernel
theorem dX7_init_83 : decode cX7_init 83 = .ok (.aload_n 0, 1) := by decide +kernel
theorem dX7_init_84 : decode cX7_init 84 = .ok (.getfield 7, 3) := by decide +kernel
theorem dX7_init_87 : decode cX7_init 87 = .ok (.bipush 9, 2) := by decide +kernel
theorem dX7_init_89 : decode cX7_init 89 = .ok (.iconst 5, 1) := by decide +kernel
theorem dX7_init_90 : decode cX7_init 90 = .ok (.iastore, 1) := by decide +kernel
theorem dX7_init_91 : decode cX7_init 91 = .ok (.aload_n 0, 1) := by decide +kernel
theorem dX7_init_92 : decode cX7_init 92 = .ok (.getfield 7, 3) := by decide +kernel
theorem dX7_init_95 : decode cX7_init 95 = .ok (.bipush 10, 2) := by decide +kernel
theorem dX7_init_97 : decode cX7_init 97 = .ok (.bipush 9, 2) := by decide +kernel
theorem dX7_init_99 : decode cX7_init 99 = .ok (.iastore, 1) := by decide +kernel
theorem dX7_init_100 : decode cX7_init 100 = .ok (.iconst 0, 1) := by decide +kernel
theorem dX7_init_101 : decode cX7_init 101 = .ok (.istore_n 1, 1) := by decide +kernel
theorem dX7_init_102 : decode cX7_init 102 = .ok (.iload_n 1, 1) := by decide +kernel
theorem dX7_init_103 : decode cX7_init 103 = .ok (.bipush 8, 2) := by decide +kernel
theorem dX7_init_105 : decode cX7_init 105 = .ok (.if_icmp .ge 41, 3) := by decide +kernel
theorem dX7_init_108 : decode cX7_init 108 = .ok (.aload_n 0, 1) := by decide +kernel
theorem dX7_init_109 : decode cX7_init 109 = .ok (.getfield 7, 3) := by decide +kernel
theorem dX7_init_112 : decode cX7_init 112 = .ok (.bipush 11, 2) := by decide +kernel
theorem dX7_init_114 : decode cX7_init 114 = .ok (.iload_n 1, 1) := by decide +kernel
theorem dX7_init_115 : decode cX7_init 115 = .ok (.iadd, 1) := by decide +kernel
theorem dX7_init_116 : decode cX7_init 116 = .ok (.iload_n 1, 1) := by decide +kernel
theorem dX7_init_117 : decode cX7_init 117 = .ok (.iconst 1, 1) := by decide +kernel
theorem dX7_init_118 : decode cX7_init 118 = .ok (.iadd, 1) := by decide +kernel
theorem dX7_init_119 : decode cX7_init 119 = .ok (.bipush 8, 2) := by decide +kernel
theorem dX7_init_121 : decode cX7_init 121 = .ok (.irem, 1) := by decide +kernel
theorem dX7_init_122 : decode cX7_init 122 = .ok (.iastore, 1) := by decide +kernel
theorem dX7_init_123 : decode cX7_init 123 = .ok (.aload_n 0, 1) := by decide +kernel
theorem dX7_init_124 : decode cX7_init 124 = .ok (.getfield 7, 3) := by decide +kernel
theorem dX7_init_127 : decode cX7_init 127 = .ok (.bipush 19, 2) := by decide +kernel
theorem dX7_init_129 : decode cX7_init 129 = .ok (.iconst 4, 1) := by decide +kernel
theorem dX7_init_130 : decode cX7_init 130 = .ok (.iload_n 1, 1) := by decide +kernel
theorem dX7_init_131 : decode cX7_init 131 = .ok (.imul, 1) := by decide +kernel
theorem dX7_init_132 : decode cX7_init 132 = .ok (.iadd, 1) := by decide +kernel
theorem dX7_init_133 : decode cX7_init 133 = .ok (.iload_n 1, 1) := by decide +kernel
theorem dX7_init_134 : decode cX7_init 134 = .ok (.iconst 4, 1) := by decide +kernel
theorem dX7_init_135 : decode cX7_init 135 = .ok (.irem, 1) := by decide +kernel
theorem dX7_init_136 : decode cX7_init 136 = .ok (.iadd, 1) := by decide +kernel
theorem dX7_init_137 : decode cX7_init 137 = .ok (.bipush 10, 2) := by decide +kernel
theorem dX7_init_139 : decode cX7_init 139 = .ok (.iastore, 1) := by decide +kernel
theorem dX7_init_140 : decode cX7_init 140 = .ok (.iinc 1 1, 3) := by decide +kernel
theorem dX7_init_143 : decode cX7_init 143 = .ok (.goto (-41), 3) := by decide +kernel
theorem dX7_init_146 : decode cX7_init 146 = .ok (.return_, 1) := by decide +kernel
theorem dX7_thrown_0 : decode cX7_thrown 0 = .ok (.aload_n 0, 1) := by decide +kernel
theorem dX7_thrown_1 : decode cX7_thrown 1 = .ok (.getfield 35, 3) := by decide +kernel
theorem dX7_thrown_4 : decode cX7_thrown 4 = .ok (.ireturn, 1) := by decide +kernel
theorem dX7_holds_0 : decode cX7_holds 0 = .ok (.aload_n 0, 1) := by decide +kernel
theorem dX7_holds_1 : decode cX7_holds 1 = .ok (.iload_n 1, 1) := by decide +kernel
theorem dX7_holds_2 : decode cX7_holds 2 = .ok (.putfield 35, 3) := by decide +kernel
theorem dX7_holds_5 : decode cX7_holds 5 = .ok (.iload_n 1, 1) := by decide +kernel
theorem dX7_holds_6 : decode cX7_holds 6 = .ok (.ifCond .ne 7, 3) := by decide +kernel
theorem dX7_holds_9 : decode cX7_holds 9 = .ok (.iconst 1, 1) := by decide +kernel
theorem dX7_holds_10 : decode cX7_holds 10 = .ok (.goto 4, 3) := by decide +kernel
theorem dX7_holds_13 : decode cX7_holds 13 = .ok (.iconst 0, 1) := by decide +kernel
theorem dX7_holds_14 : decode cX7_holds 14 = .ok (.ireturn, 1) := by decide +kernel
theorem dX7_in_0 : decode cX7_in 0 = .ok (.iload_n 0, 1) := by decide +kernel
theorem dX7_in_1 : decode cX7_in 1 = .ok (.iload_n 1, 1) := by decide +kernel
theorem dX7_in_2 : decode cX7_in 2 = .ok (.if_icmp .lt 12, 3) := by decide +kernel
theorem dX7_in_5 : decode cX7_in 5 = .ok (.iload_n 0, 1) := by decide +kernel
theorem dX7_in_6 : decode cX7_in 6 = .ok (.iload_n 2, 1) := by decide +kernel
theorem dX7_in_7 : decode cX7_in 7 = .ok (.if_icmp .gt 7, 3) := by decide +kernel
theorem dX7_in_10 : decode cX7_in 10 = .ok (.iconst 1, 1) := by decide +kernel
theorem dX7_in_11 : decode cX7_in 11 = .ok (.goto 4, 3) := by decide +kernel
theorem dX7_in_14 : decode cX7_in 14 = .ok (.iconst 0, 1) := by decide +kernel
theorem dX7_in_15 : decode cX7_in 15 = .ok (.ireturn, 1) := by decide +kernel
theorem dX7_isIslander_0 : decode cX7_isIslander 0 = .ok (.iload_n 0, 1) := by decide +kernel
theorem dX7_isIslander_1 : decode cX7_isIslander 1 = .ok (.iconst 0, 1) := by decide +kernel
theorem dX7_isIslander_2 : decode cX7_isIslander 2 = .ok (.bipush 7, 2) := by decide +kernel
theorem dX7_isIslander_4 : decode cX7_isIslander 4 = .ok (.invokestatic 39, 3) := by decide +kernel
theorem dX7_isIslander_7 : decode cX7_isIslander 7 = .ok (.ireturn, 1) := by decide +kernel
theorem dX7_isColour_0 : decode cX7_isColour 0 = .ok (.iload_n 0, 1) := by decide +kernel
theorem dX7_isColour_1 : decode cX7_isColour 1 = .ok (.iconst 0, 1) := by decide +kernel
theorem dX7_isColour_2 : decode cX7_isColour 2 = .ok (.iconst 3, 1) := by decide +kernel
theorem dX7_isColour_3 : decode cX7_isColour 3 = .ok (.invokestatic 39, 3) := by decide +kernel
theorem dX7_isColour_6 : decode cX7_isColour 6 = .ok (.ireturn, 1) := by decide +kernel
theorem dX7_isSlot_0 : decode cX7_isSlot 0 = .ok (.iload_n 0, 1) := by decide +kernel
theorem dX7_isSlot_1 : decode cX7_isSlot 1 = .ok (.iconst 0, 1) := by decide +kernel
theorem dX7_isSlot_2 : decode cX7_isSlot 2 = .ok (.iconst 1, 1) := by decide +kernel
theorem dX7_isSlot_3 : decode cX7_isSlot 3 = .ok (.invokestatic 39, 3) := by decide +kernel
theorem dX7_isSlot_6 : decode cX7_isSlot 6 = .ok (.ireturn, 1) := by decide +kernel
theorem dX7_isPromise_0 : decode cX7_isPromise 0 = .ok (.iload_n 1, 1) := by decide +kernel
theorem dX7_isPromise_1 : decode cX7_isPromise 1 = .ok (.iconst 0, 1) := by decide +kernel
theorem dX7_isPromise_2 : decode cX7_isPromise 2 = .ok (.aload_n 0, 1) := by decide +kernel
theorem dX7_isPromise_3 : decode cX7_isPromise 3 = .ok (.getfield 7, 3) := by decide +kernel
theorem dX7_isPromise_6 : decode cX7_isPromise 6 = .ok (.iconst 1, 1) := by decide +kernel
theorem dX7_isPromise_7 : decode cX7_isPromise 7 = .ok (.iaload, 1) := by decide +kernel
theorem dX7_isPromise_8 : decode cX7_isPromise 8 = .ok (.iconst 1, 1) := by decide +kernel
theorem dX7_isPromise_9 : decode cX7_isPromise 9 = .ok (.isub, 1) := by decide +kernel
theorem dX7_isPromise_10 : decode cX7_isPromise 10 = .ok (.invokestatic 39, 3) := by decide +kernel
theorem dX7_isPromise_13 : decode cX7_isPromise 13 = .ok (.ireturn, 1) := by decide +kernel
theorem dX7_of_0 : decode cX7_of 0 = .ok (.aload_n 0, 1) := by decide +kernel
theorem dX7_of_1 : decode cX7_of 1 = .ok (.getfield 7, 3) := by decide +kernel
theorem dX7_of_4 : decode cX7_of 4 = .ok (.bipush 51, 2) := by decide +kernel
theorem dX7_of_6 : decode cX7_of 6 = .ok (.iconst 4, 1) := by decide +kernel
theorem dX7_of_7 : decode cX7_of 7 = .ok (.iload_n 1, 1) := by decide +kernel
theorem dX7_of_8 : decode cX7_of 8 = .ok (.imul, 1) := by decide +kernel
theorem dX7_of_9 : decode cX7_of 9 = .ok (.iadd, 1) := by decide +kernel
theorem dX7_of_10 : decode cX7_of 10 = .ok (.iload_n 2, 1) := by decide +kernel
theorem dX7_of_11 : decode cX7_of 11 = .ok (.iadd, 1) := by decide +kernel
theorem dX7_of_12 : decode cX7_of 12 = .ok (.iaload, 1) := by decide +kernel
theorem dX7_of_13 : decode cX7_of 13 = .ok (.ireturn, 1) := by decide +kernel
theorem dX7_copy_0 : decode cX7_copy 0 = .ok (.iconst 0, 1) := by decide +kernel
theorem dX7_copy_1 : decode cX7_copy 1 = .ok (.istore 4, 2) := by decide +kernel
theorem dX7_copy_3 : decode cX7_copy 3 = .ok (.iload 4, 2) := by decide +kernel
theorem dX7_copy_5 : decode cX7_copy 5 = .ok (.bipush 83, 2) := by decide +kernel
theorem dX7_copy_7 : decode cX7_copy 7 = .ok (.if_icmp .ge 21, 3) := by decide +kernel
theorem dX7_copy_10 : decode cX7_copy 10 = .ok (.aload_n 2, 1) := by decide +kernel
theorem dX7_copy_11 : decode cX7_copy 11 = .ok (.iload_n 3, 1) := by decide +kernel
theorem dX7_copy_12 : decode cX7_copy 12 = .ok (.iload 4, 2) := by decide +kernel
theorem dX7_copy_14 : decode cX7_copy 14 = .ok (.iadd, 1) := by decide +kernel
theorem dX7_copy_15 : decode cX7_copy 15 = .ok (.aload_n 0, 1) := by decide +kernel
theorem dX7_copy_16 : decode cX7_copy 16 = .ok (.iload_n 1, 1) := by decide +kernel
theorem dX7_copy_17 : decode cX7_copy 17 = .ok (.iload 4, 2) := by decide +kernel
theorem dX7_copy_19 : decode cX7_copy 19 = .ok (.iadd, 1) := by decide +kernel
theorem dX7_copy_20 : decode cX7_copy 20 = .ok (.iaload, 1) := by decide +kernel
theorem dX7_copy_21 : decode cX7_copy 21 = .ok (.iastore, 1) := by decide +kernel
theorem dX7_copy_22 : decode cX7_copy 22 = .ok (.iinc 4 1, 3) := by decide +kernel
theorem dX7_copy_25 : decode cX7_copy 25 = .ok (.goto (-22), 3) := by decide +kernel
theorem dX7_copy_28 : decode cX7_copy 28 = .ok (.return_, 1) := by decide +kernel
theorem dX7_save_0 : decode cX7_save 0 = .ok (.aload_n 0, 1) := by decide +kernel
theorem dX7_save_1 : decode cX7_save 1 = .ok (.getfield 43, 3) := by decide +kernel
theorem dX7_save_4 : decode cX7_save 4 = .ok (.bipush 6, 2) := by decide +kernel
theorem dX7_save_6 : decode cX7_save 6 = .ok (.if_icmp .ne 43, 3) := by decide +kernel
theorem dX7_save_9 : decode cX7_save 9 = .ok (.iconst 0, 1) := by decide +kernel
theorem dX7_save_10 : decode cX7_save 10 = .ok (.istore_n 1, 1) := by decide +kernel
theorem dX7_save_11 : decode cX7_save 11 = .ok (.iload_n 1, 1) := by decide +kernel
theorem dX7_save_12 : decode cX7_save 12 = .ok (.sipush 415, 3) := by decide +kernel
theorem dX7_save_15 : decode cX7_save 15 = .ok (.if_icmp .ge 24, 3) := by decide +kernel
theorem dX7_save_18 : decode cX7_save 18 = .ok (.aload_n 0, 1) := by decide +kernel
theorem dX7_save_19 : decode cX7_save 19 = .ok (.getfield 13, 3) := by decide +kernel
theorem dX7_save_22 : decode cX7_save 22 = .ok (.iload_n 1, 1) := by decide +kernel
theorem dX7_save_23 : decode cX7_save 23 = .ok (.aload_n 0, 1) := by decide +kernel
theorem dX7_save_24 : decode cX7_save 24 = .ok (.getfield 13, 3) := by decide +kernel
theorem dX7_save_27 : decode cX7_save 27 = .ok (.bipush 83, 2) := by decide +kernel
theorem dX7_save_29 : decode cX7_save 29 = .ok (.iload_n 1, 1) := by decide +kernel
theorem dX7_save_30 : decode cX7_save 30 = .ok (.iadd, 1) := by decide +kernel
theorem dX7_save_31 : decode cX7_save 31 = .ok (.iaload, 1) := by decide +kernel
theorem dX7_save_32 : decode cX7_save 32 = .ok (.iastore, 1) := by decide +kernel
theorem dX7_save_33 : decode cX7_save 33 = .ok (.iinc 1 1, 3) := by decide +kernel
theorem dX7_save_36 : decode cX7_save 36 = .ok (.goto (-25), 3) := by decide +kernel
theorem dX7_save_39 : decode cX7_save 39 = .ok (.aload_n 0, 1) := by decide +kernel
theorem dX7_save_40 : decode cX7_save 40 = .ok (.dup, 1) := by decide +kernel
theorem dX7_save_41 : decode cX7_save 41 = .ok (.getfield 43, 3) := by decide +kernel
theorem dX7_save_44 : decode cX7_save 44 = .ok (.iconst 1, 1) := by decide +kernel
theorem dX7_save_45 : decode cX7_save 45 = .ok (.isub, 1) := by decide +kernel
theorem dX7_save_46 : decode cX7_save 46 = .ok (.putfield 43, 3) := by decide +kernel
theorem dX7_save_49 : decode cX7_save 49 = .ok (.aload_n 0, 1) := by decide +kernel
theorem dX7_save_50 : decode cX7_save 50 = .ok (.getfield 7, 3) := by decide +kernel
theorem dX7_save_53 : decode cX7_save 53 = .ok (.iconst 0, 1) := by decide +kernel
theorem dX7_save_54 : decode cX7_save 54 = .ok (.aload_n 0, 1) := by decide +kernel
theorem dX7_save_55 : decode cX7_save 55 = .ok (.getfield 13, 3) := by decide +kernel
theorem dX7_save_58 : decode cX7_save 58 = .ok (.bipush 83, 2) := by decide +kernel
theorem dX7_save_60 : decode cX7_save 60 = .ok (.aload_n 0, 1) := by decide +kernel
theorem dX7_save_61 : decode cX7_save 61 = .ok (.getfield 43, 3) := by decide +kernel
theorem dX7_save_64 : decode cX7_save 64 = .ok (.imul, 1) := by decide +kernel
theorem dX7_save_65 : decode cX7_save 65 = .ok (.invokestatic 46, 3) := by decide +kernel
theorem dX7_save_68 : decode cX7_save 68 = .ok (.aload_n 0, 1) := by decide +kernel
theorem dX7_save_69 : decode cX7_save 69 = .ok (.dup, 1) := by decide +kernel
theorem dX7_save_70 : decode cX7_save 70 = .ok (.getfield 43, 3) := by decide +kernel
theorem dX7_save_73 : decode cX7_save 73 = .ok (.iconst 1, 1) := by decide +kernel
theorem dX7_save_74 : decode cX7_save 74 = .ok (.iadd, 1) := by decide +kernel
theorem dX7_save_75 : decode cX7_save 75 = .ok (.putfield 43, 3) := by decide +kernel
theorem dX7_save_78 : decode cX7_save 78 = .ok (.return_, 1) := by decide +kernel
theorem dX7_capsOf_0 : decode cX7_capsOf 0 = .ok (.aload_n 0, 1) := by decide +kernel
theorem dX7_capsOf_1 : decode cX7_capsOf 1 = .ok (.getfield 7, 3) := by decide +kernel
theorem dX7_capsOf_4 : decode cX7_capsOf 4 = .ok (.bipush 19, 2) := by decide +kernel
theorem dX7_capsOf_6 : decode cX7_capsOf 6 = .ok (.iconst 4, 1) := by decide +kernel
theorem dX7_capsOf_7 : decode cX7_capsOf 7 = .ok (.iload_n 1, 1) := by decide +kernel
theorem dX7_capsOf_8 : decode cX7_capsOf 8 = .ok (.imul, 1) := by decide +kernel
theorem dX7_capsOf_9 : decode cX7_capsOf 9 = .ok (.iadd, 1) := by decide +kernel
theorem dX7_capsOf_10 : decode cX7_capsOf 10 = .ok (.iload_n 2, 1) := by decide +kernel
theorem dX7_capsOf_11 : decode cX7_capsOf 11 = .ok (.iadd, 1) := by decide +kernel
theorem dX7_capsOf_12 : decode cX7_capsOf 12 = .ok (.iaload, 1) := by decide +kernel
theorem dX7_capsOf_13 : decode cX7_capsOf 13 = .ok (.ireturn, 1) := by decide +kernel
theorem dX7_worthOf_0 : decode cX7_worthOf 0 = .ok (.iconst 0, 1) := by decide +kernel
theorem dX7_worthOf_1 : decode cX7_worthOf 1 = .ok (.istore_n 2, 1) := by decide +kernel
theorem dX7_worthOf_2 : decode cX7_worthOf 2 = .ok (.iconst 0, 1) := by decide +kernel
theorem dX7_worthOf_3 : decode cX7_worthOf 3 = .ok (.istore_n 3, 1) := by decide +kernel
theorem dX7_worthOf_4 : decode cX7_worthOf 4 = .ok (.iload_n 3, 1) := by decide +kernel
theorem dX7_worthOf_5 : decode cX7_worthOf 5 = .ok (.iconst 4, 1) := by decide +kernel
theorem dX7_worthOf_6 : decode cX7_worthOf 6 = .ok (.if_icmp .ge 28, 3) := by decide +kernel
theorem dX7_worthOf_9 : decode cX7_worthOf 9 = .ok (.iload_n 2, 1) := by decide +kernel
theorem dX7_worthOf_10 : decode cX7_worthOf 10 = .ok (.aload_n 0, 1) := by decide +kernel
theorem dX7_worthOf_11 : decode cX7_worthOf 11 = .ok (.iload_n 1, 1) := by decide +kernel
theorem dX7_worthOf_12 : decode cX7_worthOf 12 = .ok (.iload_n 3, 1) := by decide +kernel
theorem dX7_worthOf_13 : decode cX7_worthOf 13 = .ok (.invokevirtual 50, 3) := by decide +kernel
theorem dX7_worthOf_16 : decode cX7_worthOf 16 = .ok (.aload_n 0, 1) := by decide +kernel
theorem dX7_worthOf_17 : decode cX7_worthOf 17 = .ok (.getfield 7, 3) := by decide +kernel
theorem dX7_worthOf_20 : decode cX7_worthOf 20 = .ok (.bipush 7, 2) := by decide +kernel
theorem dX7_worthOf_22 : decode cX7_worthOf 22 = .ok (.iload_n 3, 1) := by decide +kernel
theorem dX7_worthOf_23 : decode cX7_worthOf 23 = .ok (.iadd, 1) := by decide +kernel
theorem dX7_worthOf_24 : decode cX7_worthOf 24 = .ok (.iaload, 1) := by decide +kernel
theorem dX7_worthOf_25 : decode cX7_worthOf 25 = .ok (.imul, 1) := by decide +kernel
theorem dX7_worthOf_26 : decode cX7_worthOf 26 = .ok (.iadd, 1) := by decide +kernel
theorem dX7_worthOf_27 : decode cX7_worthOf 27 = .ok (.istore_n 2, 1) := by decide +kernel
theorem dX7_worthOf_28 : decode cX7_worthOf 28 = .ok (.iinc 3 1, 3) := by decide +kernel
theorem dX7_worthOf_31 : decode cX7_worthOf 31 = .ok (.goto (-27), 3) := by decide +kernel
theorem dX7_worthOf_34 : decode cX7_worthOf 34 = .ok (.iload_n 2, 1) := by decide +kernel
theorem dX7_worthOf_35 : decode cX7_worthOf 35 = .ok (.ireturn, 1) := by decide +kernel
theorem dX7_less_0 : decode cX7_less 0 = .ok (.iload_n 0, 1) := by decide +kernel
theorem dX7_less_1 : decode cX7_less 1 = .ok (.iload_n 1, 1) := by decide +kernel
theorem dX7_less_2 : decode cX7_less 2 = .ok (.if_icmp .ge 7, 3) := by decide +kernel
theorem dX7_less_5 : decode cX7_less 5 = .ok (.iload_n 0, 1) := by decide +kernel
theorem dX7_less_6 : decode cX7_less 6 = .ok (.goto 4, 3) := by decide +kernel
theorem dX7_less_9 : decode cX7_less 9 = .ok (.iload_n 1, 1) := by decide +kernel
theorem dX7_less_10 : decode cX7_less 10 = .ok (.ireturn, 1) := by decide +kernel
theorem dX7_most_0 : decode cX7_most 0 = .ok (.aload_n 0, 1) := by decide +kernel
theorem dX7_most_1 : decode cX7_most 1 = .ok (.iload_n 1, 1) := by decide +kernel
theorem dX7_most_2 : decode cX7_most 2 = .ok (.iload_n 2, 1) := by decide +kernel
theorem dX7_most_3 : decode cX7_most 3 = .ok (.invokevirtual 50, 3) := by decide +kernel
theorem dX7_most_6 : decode cX7_most 6 = .ok (.iload_n 3, 1) := by decide +kernel
theorem dX7_most_7 : decode cX7_most 7 = .ok (.aload_n 0, 1) := by decide +kernel
theorem dX7_most_8 : decode cX7_most 8 = .ok (.getfield 7, 3) := by decide +kernel
theorem dX7_most_11 : decode cX7_most 11 = .ok (.bipush 7, 2) := by decide +kernel
theorem dX7_most_13 : decode cX7_most 13 = .ok (.iload_n 2, 1) := by decide +kernel
theorem dX7_most_14 : decode cX7_most 14 = .ok (.iadd, 1) := by decide +kernel
theorem dX7_most_15 : decode cX7_most 15 = .ok (.iaload, 1) := by decide +kernel
theorem dX7_most_16 : decode cX7_most 16 = .ok (.idiv, 1) := by decide +kernel
theorem dX7_most_17 : decode cX7_most 17 = .ok (.invokestatic 54, 3) := by decide +kernel
theorem dX7_most_20 : decode cX7_most 20 = .ok (.ireturn, 1) := by decide +kernel
theorem dX7_payFrom_0 : decode cX7_payFrom 0 = .ok (.iconst (-1), 1) := by decide +kernel
theorem dX7_payFrom_1 : decode cX7_payFrom 1 = .ok (.istore_n 3, 1) := by decide +kernel
theorem dX7_payFrom_2 : decode cX7_payFrom 2 = .ok (.aload_n 0, 1) := by decide +kernel
theorem dX7_payFrom_3 : decode cX7_payFrom 3 = .ok (.iload_n 1, 1) := by decide +kernel
theorem dX7_payFrom_4 : decode cX7_payFrom 4 = .ok (.iconst 3, 1) := by decide +kernel
theorem dX7_payFrom_5 : decode cX7_payFrom 5 = .ok (.iload_n 2, 1) := by decide +kernel
theorem dX7_payFrom_6 : decode cX7_payFrom 6 = .ok (.invokevirtual 57, 3) := by decide +kernel
theorem dX7_payFrom_9 : decode cX7_payFrom 9 = .ok (.istore 4, 2) := by decide +kernel
theorem dX7_payFrom_11 : decode cX7_payFrom 11 = .ok (.iload 4, 2) := by decide +kernel
theorem dX7_payFrom_13 : decode cX7_payFrom 13 = .ok (.ifCond .lt 192, 3) := by decide +kernel
theorem dX7_payFrom_16 : decode cX7_payFrom 16 = .ok (.iload_n 2, 1) := by decide +kernel
theorem dX7_payFrom_17 : decode cX7_payFrom 17 = .ok (.iload 4, 2) := by decide +kernel
theorem dX7_payFrom_19 : decode cX7_payFrom 19 = .ok (.aload_n 0, 1) := by decide +kernel
theorem dX7_payFrom_20 : decode cX7_payFrom 20 = .ok (.getfield 7, 3) := by decide +kernel
theorem dX7_payFrom_23 : decode cX7_payFrom 23 = .ok (.bipush 10, 2) := by decide +kernel
theorem dX7_payFrom_25 : decode cX7_payFrom 25 = .ok (.iaload, 1) := by decide +kernel
theorem dX7_payFrom_26 : decode cX7_payFrom 26 = .ok (.imul, 1) := by decide +kernel
theorem dX7_payFrom_27 : decode cX7_payFrom 27 = .ok (.isub, 1) := by decide +kernel
theorem dX7_payFrom_28 : decode cX7_payFrom 28 = .ok (.istore 5, 2) := by decide +kernel
theorem dX7_payFrom_30 : decode cX7_payFrom 30 = .ok (.aload_n 0, 1) := by decide +kernel
theorem dX7_payFrom_31 : decode cX7_payFrom 31 = .ok (.iload_n 1, 1) := by decide +kernel
theorem dX7_payFrom_32 : decode cX7_payFrom 32 = .ok (.iconst 2, 1) := by decide +kernel
theorem dX7_payFrom_33 : decode cX7_payFrom 33 = .ok (.iload 5, 2) := by decide +kernel
theorem dX7_payFrom_35 : decode cX7_payFrom 35 = .ok (.invokevirtual 57, 3) := by decide +kernel
theorem dX7_payFrom_38 : decode cX7_payFrom 38 = .ok (.istore 6, 2) := by decide +kernel
theorem dX7_payFrom_40 : decode cX7_payFrom 40 = .ok (.iload 6, 2) := by decide +kernel
theorem dX7_payFrom_42 : decode cX7_payFrom 42 = .ok (.ifCond .lt 157, 3) := by decide +kernel
theorem dX7_payFrom_45 : decode cX7_payFrom 45 = .ok (.iload 5, 2) := by decide +kernel
theorem dX7_payFrom_47 : decode cX7_payFrom 47 = .ok (.iload 6, 2) := by decide +kernel
theorem dX7_payFrom_49 : decode cX7_payFrom 49 = .ok (.aload_n 0, 1) := by decide +kernel
theorem dX7_payFrom_50 : decode cX7_payFrom 50 = .ok (.getfield 7, 3) := by decide +kernel
theorem dX7_payFrom_53 : decode cX7_payFrom 53 = .ok (.bipush 9, 2) := by decide +kernel
theorem dX7_payFrom_55 : decode cX7_payFrom 55 = .ok (.iaload, 1) := by decide +kernel
theorem dX7_payFrom_56 : decode cX7_payFrom 56 = .ok (.imul, 1) := by decide +kernel
theorem dX7_payFrom_57 : decode cX7_payFrom 57 = .ok (.isub, 1) := by decide +kernel
theorem dX7_payFrom_58 : decode cX7_payFrom 58 = .ok (.istore 7, 2) := by decide +kernel
theorem dX7_payFrom_60 : decode cX7_payFrom 60 = .ok (.aload_n 0, 1) := by decide +kernel
theorem dX7_payFrom_61 : decode cX7_payFrom 61 = .ok (.iload_n 1, 1) := by decide +kernel
theorem dX7_payFrom_62 : decode cX7_payFrom 62 = .ok (.iconst 1, 1) := by decide +kernel
theorem dX7_payFrom_63 : decode cX7_payFrom 63 = .ok (.iload 7, 2) := by decide +kernel
theorem dX7_payFrom_65 : decode cX7_payFrom 65 = .ok (.invokevirtual 57, 3) := by decide +kernel
theorem dX7_payFrom_68 : decode cX7_payFrom 68 = .ok (.istore 8, 2) := by decide +kernel
theorem dX7_payFrom_70 : decode cX7_payFrom 70 = .ok (.iload 8, 2) := by decide +kernel
theorem dX7_payFrom_72 : decode cX7_payFrom 72 = .ok (.ifCond .lt 121, 3) := by decide +kernel
theorem dX7_payFrom_75 : decode cX7_payFrom 75 = .ok (.iload 7, 2) := by decide +kernel
theorem dX7_payFrom_77 : decode cX7_payFrom 77 = .ok (.iload 8, 2) := by decide +kernel
theorem dX7_payFrom_79 : decode cX7_payFrom 79 = .ok (.aload_n 0, 1) := by decide +kernel
theorem dX7_payFrom_80 : decode cX7_payFrom 80 = .ok (.getfield 7, 3) := by decide +kernel
theorem dX7_payFrom_83 : decode cX7_payFrom 83 = .ok (.bipush 8, 2) := by decide +kernel
theorem dX7_payFrom_85 : decode cX7_payFrom 85 = .ok (.iaload, 1) := by decide +kernel
theorem dX7_payFrom_86 : decode cX7_payFrom 86 = .ok (.imul, 1) := by decide +kernel
theorem dX7_payFrom_87 : decode cX7_payFrom 87 = .ok (.isub, 1) := by decide +kernel
theorem dX7_payFrom_88 : decode cX7_payFrom 88 = .ok (.istore 9, 2) := by decide +kernel
theorem dX7_payFrom_90 : decode cX7_payFrom 90 = .ok (.iload 9, 2) := by decide +kernel
theorem dX7_payFrom_92 : decode cX7_payFrom 92 = .ok (.aload_n 0, 1) := by decide +kernel
theorem dX7_payFrom_93 : decode cX7_payFrom 93 = .ok (.getfield 7, 3) := by decide +kernel
theorem dX7_payFrom_96 : decode cX7_payFrom 96 = .ok (.bipush 7, 2) := by decide +kernel
theorem dX7_payFrom_98 : decode cX7_payFrom 98 = .ok (.iaload, 1) := by decide +kernel
theorem dX7_payFrom_99 : decode cX7_payFrom 99 = .ok (.idiv, 1) := by decide +kernel
theorem dX7_payFrom_100 : decode cX7_payFrom 100 = .ok (.istore 10, 2) := by decide +kernel
theorem dX7_payFrom_102 : decode cX7_payFrom 102 = .ok (.iload 4, 2) := by decide +kernel
theorem dX7_payFrom_104 : decode cX7_payFrom 104 = .ok (.iload 6, 2) := by decide +kernel
theorem dX7_payFrom_106 : decode cX7_payFrom 106 = .ok (.iadd, 1) := by decide +kernel
theorem dX7_payFrom_107 : decode cX7_payFrom 107 = .ok (.iload 8, 2) := by decide +kernel
theorem dX7_payFrom_109 : decode cX7_payFrom 109 = .ok (.iadd, 1) := by decide +kernel
theorem dX7_payFrom_110 : decode cX7_payFrom 110 = .ok (.iload 10, 2) := by decide +kernel
theorem dX7_payFrom_112 : decode cX7_payFrom 112 = .ok (.iadd, 1) := by decide +kernel
theorem dX7_payFrom_113 : decode cX7_payFrom 113 = .ok (.istore 11, 2) := by decide +kernel
theorem dX7_payFrom_115 : decode cX7_payFrom 115 = .ok (.iload 10, 2) := by decide +kernel
theorem dX7_payFrom_117 : decode cX7_payFrom 117 = .ok (.aload_n 0, 1) := by decide +kernel
theorem dX7_payFrom_118 : decode cX7_payFrom 118 = .ok (.getfield 7, 3) := by decide +kernel
theorem dX7_payFrom_121 : decode cX7_payFrom 121 = .ok (.bipush 7, 2) := by decide +kernel
theorem dX7_payFrom_123 : decode cX7_payFrom 123 = .ok (.iaload, 1) := by decide +kernel
theorem dX7_payFrom_124 : decode cX7_payFrom 124 = .ok (.imul, 1) := by decide +kernel
theorem dX7_payFrom_125 : decode cX7_payFrom 125 = .ok (.iload 9, 2) := by decide +kernel
theorem dX7_payFrom_127 : decode cX7_payFrom 127 = .ok (.if_icmp .ne 60, 3) := by decide +kernel
theorem dX7_payFrom_130 : decode cX7_payFrom 130 = .ok (.iload 10, 2) := by decide +kernel
theorem dX7_payFrom_132 : decode cX7_payFrom 132 = .ok (.aload_n 0, 1) := by decide +kernel
theorem dX7_payFrom_133 : decode cX7_payFrom 133 = .ok (.iload_n 1, 1) := by decide +kernel
theorem dX7_payFrom_134 : decode cX7_payFrom 134 = .ok (.iconst 0, 1) := by decide +kernel
theorem dX7_payFrom_135 : decode cX7_payFrom 135 = .ok (.invokevirtual 50, 3) := by decide +kernel
theorem dX7_payFrom_138 : decode cX7_payFrom 138 = .ok (.if_icmp .gt 49, 3) := by decide +kernel
theorem dX7_payFrom_141 : decode cX7_payFrom 141 = .ok (.iload_n 3, 1) := by decide +kernel
theorem dX7_payFrom_142 : decode cX7_payFrom 142 = .ok (.iconst (-1), 1) := by decide +kernel
theorem dX7_payFrom_143 : decode cX7_payFrom 143 = .ok (.if_icmp .eq 9, 3) := by decide +kernel
theorem dX7_payFrom_146 : decode cX7_payFrom 146 = .ok (.iload 11, 2) := by decide +kernel
theorem dX7_payFrom_148 : decode cX7_payFrom 148 = .ok (.iload_n 3, 1) := by decide +kernel
theorem dX7_payFrom_149 : decode cX7_payFrom 149 = .ok (.if_icmp .ge 38, 3) := by decide +kernel
theorem dX7_payFrom_152 : decode cX7_payFrom 152 = .ok (.iload 11, 2) := by decide +kernel
theorem dX7_payFrom_154 : decode cX7_payFrom 154 = .ok (.istore_n 3, 1) := by decide +kernel
theorem dX7_payFrom_155 : decode cX7_payFrom 155 = .ok (.aload_n 0, 1) := by decide +kernel
theorem dX7_payFrom_156 : decode cX7_payFrom 156 = .ok (.getfield 26, 3) := by decide +kernel
theorem dX7_payFrom_159 : decode cX7_payFrom 159 = .ok (.iconst 0, 1) := by decide +kernel
theorem dX7_payFrom_160 : decode cX7_payFrom 160 = .ok (.iload 10, 2) := by decide +kernel
theorem dX7_payFrom_162 : decode cX7_payFrom 162 = .ok (.iastore, 1) := by decide +kernel
theorem dX7_payFrom_163 : decode cX7_payFrom 163 = .ok (.aload_n 0, 1) := by decide +kernel
theorem dX7_payFrom_164 : decode cX7_payFrom 164 = .ok (.getfield 26, 3) := by decide +kernel
theorem dX7_payFrom_167 : decode cX7_payFrom 167 = .ok (.iconst 1, 1) := by decide +kernel
theorem dX7_payFrom_168 : decode cX7_payFrom 168 = .ok (.iload 8, 2) := by decide +kernel
theorem dX7_payFrom_170 : decode cX7_payFrom 170 = .ok (.iastore, 1) := by decide +kernel
theorem dX7_payFrom_171 : decode cX7_payFrom 171 = .ok (.aload_n 0, 1) := by decide +kernel
theorem dX7_payFrom_172 : decode cX7_payFrom 172 = .ok (.getfield 26, 3) := by decide +kernel
theorem dX7_payFrom_175 : decode cX7_payFrom 175 = .ok (.iconst 2, 1) := by decide +kernel
theorem dX7_payFrom_176 : decode cX7_payFrom 176 = .ok (.iload 6, 2) := by decide +kernel
theorem dX7_payFrom_178 : decode cX7_payFrom 178 = .ok (.iastore, 1) := by decide +kernel
theorem dX7_payFrom_179 : decode cX7_payFrom 179 = .ok (.aload_n 0, 1) := by decide +kernel
theorem dX7_payFrom_180 : decode cX7_payFrom 180 = .ok (.getfield 26, 3) := by decide +kernel
theorem dX7_payFrom_183 : decode cX7_payFrom 183 = .ok (.iconst 3, 1) := by decide +kernel
theorem dX7_payFrom_184 : decode cX7_payFrom 184 = .ok (.iload 4, 2) := by decide +kernel
theorem dX7_payFrom_186 : decode cX7_payFrom 186 = .ok (.iastore, 1) := by decide +kernel
theorem dX7_payFrom_187 : decode cX7_payFrom 187 = .ok (.iinc 8 (-1), 3) := by decide +kernel
theorem dX7_payFrom_190 : decode cX7_payFrom 190 = .ok (.goto (-120), 3) := by decide +kernel
theorem dX7_payFrom_193 : decode cX7_payFrom 193 = .ok (.iinc 6 (-1), 3) := by decide +kernel
theorem dX7_payFrom_196 : decode cX7_payFrom 196 = .ok (.goto (-156), 3) := by decide +kernel
theorem dX7_payFrom_199 : decode cX7_payFrom 199 = .ok (.iinc 4 (-1), 3) := by decide +kernel
theorem dX7_payFrom_202 : decode cX7_payFrom 202 = .ok (.goto (-191), 3) := by decide +kernel
theorem dX7_payFrom_205 : decode cX7_payFrom 205 = .ok (.iload_n 3, 1) := by decide +kernel
theorem dX7_payFrom_206 : decode cX7_payFrom 206 = .ok (.ireturn, 1) := by decide +kernel
theorem dX7_payOf_0 : decode cX7_payOf 0 = .ok (.aload_n 0, 1) := by decide +kernel
theorem dX7_payOf_1 : decode cX7_payOf 1 = .ok (.aload_n 0, 1) := by decide +kernel
theorem dX7_payOf_2 : decode cX7_payOf 2 = .ok (.iload_n 1, 1) := by decide +kernel
theorem dX7_payOf_3 : decode cX7_payOf 3 = .ok (.iconst 0, 1) := by decide +kernel
theorem dX7_payOf_4 : decode cX7_payOf 4 = .ok (.invokevirtual 61, 3) := by decide +kernel
theorem dX7_payOf_7 : decode cX7_payOf 7 = .ok (.aload_n 0, 1) := by decide +kernel
theorem dX7_payOf_8 : decode cX7_payOf 8 = .ok (.iload_n 1, 1) := by decide +kernel
theorem dX7_payOf_9 : decode cX7_payOf 9 = .ok (.iconst 2, 1) := by decide +kernel
theorem dX7_payOf_10 : decode cX7_payOf 10 = .ok (.invokevirtual 61, 3) := by decide +kernel
theorem dX7_payOf_13 : decode cX7_payOf 13 = .ok (.invokevirtual 64, 3) := by decide +kernel
theorem dX7_payOf_16 : decode cX7_payOf 16 = .ok (.ireturn, 1) := by decide +kernel
theorem dX7_whereIs_0 : decode cX7_whereIs 0 = .ok (.iload_n 1, 1) := by decide +kernel
theorem dX7_whereIs_1 : decode cX7_whereIs 1 = .ok (.istore_n 3, 1) := by decide +kernel
theorem dX7_whereIs_2 : decode cX7_whereIs 2 = .ok (.iconst 0, 1) := by decide +kernel
theorem dX7_whereIs_3 : decode cX7_whereIs 3 = .ok (.istore 4, 2) := by decide +kernel
theorem dX7_whereIs_5 : decode cX7_whereIs 5 = .ok (.iload 4, 2) := by decide +kernel
theorem dX7_whereIs_7 : decode cX7_whereIs 7 = .ok (.iload_n 2, 1) := by decide +kernel
theorem dX7_whereIs_8 : decode cX7_whereIs 8 = .ok (.if_icmp .ge 19, 3) := by decide +kernel
theorem dX7_whereIs_11 : decode cX7_whereIs 11 = .ok (.aload_n 0, 1) := by decide +kernel
theorem dX7_whereIs_12 : decode cX7_whereIs 12 = .ok (.getfield 7, 3) := by decide +kernel
theorem dX7_whereIs_15 : decode cX7_whereIs 15 = .ok (.bipush 11, 2) := by decide +kernel
theorem dX7_whereIs_17 : decode cX7_whereIs 17 = .ok (.iload_n 3, 1) := by decide +kernel
theorem dX7_whereIs_18 : decode cX7_whereIs 18 = .ok (.iadd, 1) := by decide +kernel
theorem dX7_whereIs_19 : decode cX7_whereIs 19 = .ok (.iaload, 1) := by decide +kernel
theorem dX7_whereIs_20 : decode cX7_whereIs 20 = .ok (.istore_n 3, 1) := by decide +kernel
theorem dX7_whereIs_21 : decode cX7_whereIs 21 = .ok (.iinc 4 1, 3) := by decide +kernel
theorem dX7_whereIs_24 : decode cX7_whereIs 24 = .ok (.goto (-19), 3) := by decide +kernel
theorem dX7_whereIs_27 : decode cX7_whereIs 27 = .ok (.iload_n 3, 1) := by decide +kernel
theorem dX7_whereIs_28 : decode cX7_whereIs 28 = .ok (.ireturn, 1) := by decide +kernel
theorem dX7_whoseComes_0 : decode cX7_whoseComes 0 = .ok (.iconst 0, 1) := by decide +kernel
theorem dX7_whoseComes_1 : decode cX7_whoseComes 1 = .ok (.istore_n 3, 1) := by decide +kernel
theorem dX7_whoseComes_2 : decode cX7_whoseComes 2 = .ok (.iconst 0, 1) := by decide +kernel
theorem dX7_whoseComes_3 : decode cX7_whoseComes 3 = .ok (.istore 4, 2) := by decide +kernel
theorem dX7_whoseComes_5 : decode cX7_whoseComes 5 = .ok (.iload 4, 2) := by decide +kernel
theorem dX7_whoseComes_7 : decode cX7_whoseComes 7 = .ok (.bipush 8, 2) := by decide +kernel
theorem dX7_whoseComes_9 : decode cX7_whoseComes 9 = .ok (.if_icmp .ge 27, 3) := by decide +kernel
theorem dX7_whoseComes_12 : decode cX7_whoseComes 12 = .ok (.aload_n 0, 1) := by decide +kernel
theorem dX7_whoseComes_13 : decode cX7_whoseComes 13 = .ok (.iload 4, 2) := by decide +kernel
theorem dX7_whoseComes_15 : decode cX7_whoseComes 15 = .ok (.iload_n 2, 1) := by decide +kernel
theorem dX7_whoseComes_16 : decode cX7_whoseComes 16 = .ok (.invokevirtual 67, 3) := by decide +kernel
theorem dX7_whoseComes_19 : decode cX7_whoseComes 19 = .ok (.iload_n 1, 1) := by decide +kernel
theorem dX7_whoseComes_20 : decode cX7_whoseComes 20 = .ok (.if_icmp .ne 8, 3) := by decide +kernel
theorem dX7_whoseComes_23 : decode cX7_whoseComes 23 = .ok (.iload 4, 2) := by decide +kernel
theorem dX7_whoseComes_25 : decode cX7_whoseComes 25 = .ok (.goto 4, 3) := by decide +kernel
theorem dX7_whoseComes_28 : decode cX7_whoseComes 28 = .ok (.iload_n 3, 1) := by decide +kernel
theorem dX7_whoseComes_29 : decode cX7_whoseComes 29 = .ok (.istore_n 3, 1) := by decide +kernel
theorem dX7_whoseComes_30 : decode cX7_whoseComes 30 = .ok (.iinc 4 1, 3) := by decide +kernel
theorem dX7_whoseComes_33 : decode cX7_whoseComes 33 = .ok (.goto (-28), 3) := by decide +kernel
theorem dX7_whoseComes_36 : decode cX7_whoseComes 36 = .ok (.iload_n 3, 1) := by decide +kernel
theorem dX7_whoseComes_37 : decode cX7_whoseComes 37 = .ok (.ireturn, 1) := by decide +kernel
theorem dX7_circle_0 : decode cX7_circle 0 = .ok (.iconst 1, 1) := by decide +kernel
theorem dX7_circle_1 : decode cX7_circle 1 = .ok (.istore_n 2, 1) := by decide +kernel
theorem dX7_circle_2 : decode cX7_circle 2 = .ok (.aload_n 0, 1) := by decide +kernel
theorem dX7_circle_3 : decode cX7_circle 3 = .ok (.iload_n 1, 1) := by decide +kernel
theorem dX7_circle_4 : decode cX7_circle 4 = .ok (.iload_n 2, 1) := by decide +kernel
theorem dX7_circle_5 : decode cX7_circle 5 = .ok (.invokevirtual 67, 3) := by decide +kernel
theorem dX7_circle_8 : decode cX7_circle 8 = .ok (.iload_n 1, 1) := by decide +kernel
theorem dX7_circle_9 : decode cX7_circle 9 = .ok (.if_icmp .eq 9, 3) := by decide +kernel
theorem dX7_circle_12 : decode cX7_circle 12 = .ok (.iinc 2 1, 3) := by decide +kernel
theorem dX7_circle_15 : decode cX7_circle 15 = .ok (.goto (-13), 3) := by decide +kernel
theorem dX7_circle_18 : decode cX7_circle 18 = .ok (.iload_n 2, 1) := by decide +kernel
theorem dX7_circle_19 : decode cX7_circle 19 = .ok (.ireturn, 1) := by decide +kernel
theorem dX7_home_0 : decode cX7_home 0 = .ok (.iconst 0, 1) := by decide +kernel
theorem dX7_home_1 : decode cX7_home 1 = .ok (.istore_n 1, 1) := by decide +kernel
theorem dX7_home_2 : decode cX7_home 2 = .ok (.iconst 0, 1) := by decide +kernel
theorem dX7_home_3 : decode cX7_home 3 = .ok (.istore_n 2, 1) := by decide +kernel
theorem dX7_home_4 : decode cX7_home 4 = .ok (.iload_n 2, 1) := by decide +kernel
theorem dX7_home_5 : decode cX7_home 5 = .ok (.ifCond .ne 45, 3) := by decide +kernel
theorem dX7_home_8 : decode cX7_home 8 = .ok (.iinc 1 1, 3) := by decide +kernel
theorem dX7_home_11 : decode cX7_home 11 = .ok (.iconst 1, 1) := by decide +kernel
theorem dX7_home_12 : decode cX7_home 12 = .ok (.istore_n 2, 1) := by decide +kernel
theorem dX7_home_13 : decode cX7_home 13 = .ok (.iconst 0, 1) := by decide +kernel
theorem dX7_home_14 : decode cX7_home 14 = .ok (.istore_n 3, 1) := by decide +kernel
theorem dX7_home_15 : decode cX7_home 15 = .ok (.iload_n 3, 1) := by decide +kernel
theorem dX7_home_16 : decode cX7_home 16 = .ok (.bipush 8, 2) := by decide +kernel
theorem dX7_home_18 : decode cX7_home 18 = .ok (.if_icmp .ge 29, 3) := by decide +kernel
theorem dX7_home_21 : decode cX7_home 21 = .ok (.iload_n 2, 1) := by decide +kernel
theorem dX7_home_22 : decode cX7_home 22 = .ok (.ifCond .eq 17, 3) := by decide +kernel
theorem dX7_home_25 : decode cX7_home 25 = .ok (.iload_n 1, 1) := by decide +kernel
theorem dX7_home_26 : decode cX7_home 26 = .ok (.aload_n 0, 1) := by decide +kernel
theorem dX7_home_27 : decode cX7_home 27 = .ok (.iload_n 3, 1) := by decide +kernel
theorem dX7_home_28 : decode cX7_home 28 = .ok (.invokevirtual 70, 3) := by decide +kernel
theorem dX7_home_31 : decode cX7_home 31 = .ok (.irem, 1) := by decide +kernel
theorem dX7_home_32 : decode cX7_home 32 = .ok (.ifCond .ne 7, 3) := by decide +kernel
theorem dX7_home_35 : decode cX7_home 35 = .ok (.iconst 1, 1) := by decide +kernel
theorem dX7_home_36 : decode cX7_home 36 = .ok (.goto 4, 3) := by decide +kernel
theorem dX7_home_39 : decode cX7_home 39 = .ok (.iconst 0, 1) := by decide +kernel
theorem dX7_home_40 : decode cX7_home 40 = .ok (.istore_n 2, 1) := by decide +kernel
theorem dX7_home_41 : decode cX7_home 41 = .ok (.iinc 3 1, 3) := by decide +kernel
theorem dX7_home_44 : decode cX7_home 44 = .ok (.goto (-29), 3) := by decide +kernel
theorem dX7_home_47 : decode cX7_home 47 = .ok (.goto (-43), 3) := by decide +kernel
theorem dX7_home_50 : decode cX7_home 50 = .ok (.iload_n 1, 1) := by decide +kernel
theorem dX7_home_51 : decode cX7_home 51 = .ok (.ireturn, 1) := by decide +kernel
theorem dX7_drop_0 : decode cX7_drop 0 = .ok (.aload_n 0, 1) := by decide +kernel
theorem dX7_drop_1 : decode cX7_drop 1 = .ok (.getfield 7, 3) := by decide +kernel
theorem dX7_drop_4 : decode cX7_drop 4 = .ok (.iconst 1, 1) := by decide +kernel
theorem dX7_drop_5 : decode cX7_drop 5 = .ok (.dup2, 1) := by decide +kernel
theorem dX7_drop_6 : decode cX7_drop 6 = .ok (.iaload, 1) := by decide +kernel
theorem dX7_drop_7 : decode cX7_drop 7 = .ok (.iconst 1, 1) := by decide +kernel
theorem dX7_drop_8 : decode cX7_drop 8 = .ok (.isub, 1) := by decide +kernel
theorem dX7_drop_9 : decode cX7_drop 9 = .ok (.iastore, 1) := by decide +kernel
theorem dX7_drop_10 : decode cX7_drop 10 = .ok (.bipush 51, 2) := by decide +kernel
theorem dX7_drop_12 : decode cX7_drop 12 = .ok (.iconst 4, 1) := by decide +kernel
theorem dX7_drop_13 : decode cX7_drop 13 = .ok (.iload_n 1, 1) := by decide +kernel
theorem dX7_drop_14 : decode cX7_drop 14 = .ok (.imul, 1) := by decide +kernel
theorem dX7_drop_15 : decode cX7_drop 15 = .ok (.iadd, 1) := by decide +kernel
theorem dX7_drop_16 : decode cX7_drop 16 = .ok (.istore_n 2, 1) := by decide +kernel
theorem dX7_drop_17 : decode cX7_drop 17 = .ok (.iload_n 2, 1) := by decide +kernel
theorem dX7_drop_18 : decode cX7_drop 18 = .ok (.bipush 51, 2) := by decide +kernel
theorem dX7_drop_20 : decode cX7_drop 20 = .ok (.iconst 4, 1) := by decide +kernel
theorem dX7_drop_21 : decode cX7_drop 21 = .ok (.aload_n 0, 1) := by decide +kernel
theorem dX7_drop_22 : decode cX7_drop 22 = .ok (.getfield 7, 3) := by decide +kernel
theorem dX7_drop_25 : decode cX7_drop 25 = .ok (.iconst 1, 1) := by decide +kernel
theorem dX7_drop_26 : decode cX7_drop 26 = .ok (.iaload, 1) := by decide +kernel
theorem dX7_drop_27 : decode cX7_drop 27 = .ok (.imul, 1) := by decide +kernel
theorem dX7_drop_28 : decode cX7_drop 28 = .ok (.iadd, 1) := by decide +kernel
theorem dX7_drop_29 : decode cX7_drop 29 = .ok (.if_icmp .ge 23, 3) := by decide +kernel
theorem dX7_drop_32 : decode cX7_drop 32 = .ok (.aload_n 0, 1) := by decide +kernel
theorem dX7_drop_33 : decode cX7_drop 33 = .ok (.getfield 7, 3) := by decide +kernel
theorem dX7_drop_36 : decode cX7_drop 36 = .ok (.iload_n 2, 1) := by decide +kernel
theorem dX7_drop_37 : decode cX7_drop 37 = .ok (.aload_n 0, 1) := by decide +kernel
theorem dX7_drop_38 : decode cX7_drop 38 = .ok (.getfield 7, 3) := by decide +kernel
theorem dX7_drop_41 : decode cX7_drop 41 = .ok (.iload_n 2, 1) := by decide +kernel
theorem dX7_drop_42 : decode cX7_drop 42 = .ok (.iconst 4, 1) := by decide +kernel
theorem dX7_drop_43 : decode cX7_drop 43 = .ok (.iadd, 1) := by decide +kernel
theorem dX7_drop_44 : decode cX7_drop 44 = .ok (.iaload, 1) := by decide +kernel
theorem dX7_drop_45 : decode cX7_drop 45 = .ok (.iastore, 1) := by decide +kernel
theorem dX7_drop_46 : decode cX7_drop 46 = .ok (.iinc 2 1, 3) := by decide +kernel
theorem dX7_drop_49 : decode cX7_drop 49 = .ok (.goto (-32), 3) := by decide +kernel
theorem dX7_drop_52 : decode cX7_drop 52 = .ok (.return_, 1) := by decide +kernel
theorem dX7_doStorm_0 : decode cX7_doStorm 0 = .ok (.iconst 0, 1) := by decide +kernel
theorem dX7_doStorm_1 : decode cX7_doStorm 1 = .ok (.istore_n 1, 1) := by decide +kernel
theorem dX7_doStorm_2 : decode cX7_doStorm 2 = .ok (.iload_n 1, 1) := by decide +kernel
theorem dX7_doStorm_3 : decode cX7_doStorm 3 = .ok (.bipush 32, 2) := by decide +kernel
theorem dX7_doStorm_5 : decode cX7_doStorm 5 = .ok (.if_icmp .ge 24, 3) := by decide +kernel
theorem dX7_doStorm_8 : decode cX7_doStorm 8 = .ok (.aload_n 0, 1) := by decide +kernel
theorem dX7_doStorm_9 : decode cX7_doStorm 9 = .ok (.getfield 29, 3) := by decide +kernel
theorem dX7_doStorm_12 : decode cX7_doStorm 12 = .ok (.iload_n 1, 1) := by decide +kernel
theorem dX7_doStorm_13 : decode cX7_doStorm 13 = .ok (.aload_n 0, 1) := by decide +kernel
theorem dX7_doStorm_14 : decode cX7_doStorm 14 = .ok (.getfield 7, 3) := by decide +kernel
theorem dX7_doStorm_17 : decode cX7_doStorm 17 = .ok (.bipush 19, 2) := by decide +kernel
theorem dX7_doStorm_19 : decode cX7_doStorm 19 = .ok (.iload_n 1, 1) := by decide +kernel
theorem dX7_doStorm_20 : decode cX7_doStorm 20 = .ok (.iadd, 1) := by decide +kernel
theorem dX7_doStorm_21 : decode cX7_doStorm 21 = .ok (.iaload, 1) := by decide +kernel
theorem dX7_doStorm_22 : decode cX7_doStorm 22 = .ok (.iastore, 1) := by decide +kernel
theorem dX7_doStorm_23 : decode cX7_doStorm 23 = .ok (.iinc 1 1, 3) := by decide +kernel
theorem dX7_doStorm_26 : decode cX7_doStorm 26 = .ok (.goto (-24), 3) := by decide +kernel
theorem dX7_doStorm_29 : decode cX7_doStorm 29 = .ok (.iconst 0, 1) := by decide +kernel
theorem dX7_doStorm_30 : decode cX7_doStorm 30 = .ok (.istore_n 1, 1) := by decide +kernel
theorem dX7_doStorm_31 : decode cX7_doStorm 31 = .ok (.iload_n 1, 1) := by decide +kernel
theorem dX7_doStorm_32 : decode cX7_doStorm 32 = .ok (.bipush 32, 2) := by decide +kernel
theorem dX7_doStorm_34 : decode cX7_doStorm 34 = .ok (.if_icmp .ge 40, 3) := by decide +kernel
theorem dX7_doStorm_37 : decode cX7_doStorm 37 = .ok (.aload_n 0, 1) := by decide +kernel
theorem dX7_doStorm_38 : decode cX7_doStorm 38 = .ok (.getfield 7, 3) := by decide +kernel
theorem dX7_doStorm_41 : decode cX7_doStorm 41 = .ok (.bipush 19, 2) := by decide +kernel
theorem dX7_doStorm_43 : decode cX7_doStorm 43 = .ok (.iconst 4, 1) := by decide +kernel
theorem dX7_doStorm_44 : decode cX7_doStorm 44 = .ok (.aload_n 0, 1) := by decide +kernel
theorem dX7_doStorm_45 : decode cX7_doStorm 45 = .ok (.getfield 7, 3) := by decide +kernel
theorem dX7_doStorm_48 : decode cX7_doStorm 48 = .ok (.bipush 11, 2) := by decide +kernel
theorem dX7_doStorm_50 : decode cX7_doStorm 50 = .ok (.iload_n 1, 1) := by decide +kernel
theorem dX7_doStorm_51 : decode cX7_doStorm 51 = .ok (.iconst 4, 1) := by decide +kernel
theorem dX7_doStorm_52 : decode cX7_doStorm 52 = .ok (.idiv, 1) := by decide +kernel
theorem dX7_doStorm_53 : decode cX7_doStorm 53 = .ok (.iadd, 1) := by decide +kernel
theorem dX7_doStorm_54 : decode cX7_doStorm 54 = .ok (.iaload, 1) := by decide +kernel
theorem dX7_doStorm_55 : decode cX7_doStorm 55 = .ok (.imul, 1) := by decide +kernel
theorem dX7_doStorm_56 : decode cX7_doStorm 56 = .ok (.iadd, 1) := by decide +kernel
theorem dX7_doStorm_57 : decode cX7_doStorm 57 = .ok (.iload_n 1, 1) := by decide +kernel
theorem dX7_doStorm_58 : decode cX7_doStorm 58 = .ok (.iconst 4, 1) := by decide +kernel
theorem dX7_doStorm_59 : decode cX7_doStorm 59 = .ok (.irem, 1) := by decide +kernel
theorem dX7_doStorm_60 : decode cX7_doStorm 60 = .ok (.iadd, 1) := by decide +kernel
theorem dX7_doStorm_61 : decode cX7_doStorm 61 = .ok (.aload_n 0, 1) := by decide +kernel
theorem dX7_doStorm_62 : decode cX7_doStorm 62 = .ok (.getfield 29, 3) := by decide +kernel
theorem dX7_doStorm_65 : decode cX7_doStorm 65 = .ok (.iload_n 1, 1) := by decide +kernel
theorem dX7_doStorm_66 : decode cX7_doStorm 66 = .ok (.iaload, 1) := by decide +kernel
theorem dX7_doStorm_67 : decode cX7_doStorm 67 = .ok (.iastore, 1) := by decide +kernel
theorem dX7_doStorm_68 : decode cX7_doStorm 68 = .ok (.iinc 1 1, 3) := by decide +kernel
theorem dX7_doStorm_71 : decode cX7_doStorm 71 = .ok (.goto (-40), 3) := by decide +kernel
theorem dX7_doStorm_74 : decode cX7_doStorm 74 = .ok (.aload_n 0, 1) := by decide +kernel
theorem dX7_doStorm_75 : decode cX7_doStorm 75 = .ok (.getfield 7, 3) := by decide +kernel
theorem dX7_doStorm_78 : decode cX7_doStorm 78 = .ok (.iconst 0, 1) := by decide +kernel
theorem dX7_doStorm_79 : decode cX7_doStorm 79 = .ok (.dup2, 1) := by decide +kernel
theorem dX7_doStorm_80 : decode cX7_doStorm 80 = .ok (.iaload, 1) := by decide +kernel
theorem dX7_doStorm_81 : decode cX7_doStorm 81 = .ok (.iconst 1, 1) := by decide +kernel
theorem dX7_doStorm_82 : decode cX7_doStorm 82 = .ok (.iadd, 1) := by decide +kernel
theorem dX7_doStorm_83 : decode cX7_doStorm 83 = .ok (.iastore, 1) := by decide +kernel
theorem dX7_doStorm_84 : decode cX7_doStorm 84 = .ok (.iconst 0, 1) := by decide +kernel
theorem dX7_doStorm_85 : decode cX7_doStorm 85 = .ok (.istore_n 1, 1) := by decide +kernel
theorem dX7_doStorm_86 : decode cX7_doStorm 86 = .ok (.aload_n 0, 1) := by decide +kernel
theorem dX7_doStorm_87 : decode cX7_doStorm 87 = .ok (.getfield 7, 3) := by decide +kernel
theorem dX7_doStorm_90 : decode cX7_doStorm 90 = .ok (.iconst 1, 1) := by decide +kernel
theorem dX7_doStorm_91 : decode cX7_doStorm 91 = .ok (.iaload, 1) := by decide +kernel
theorem dX7_doStorm_92 : decode cX7_doStorm 92 = .ok (.iconst 1, 1) := by decide +kernel
theorem dX7_doStorm_93 : decode cX7_doStorm 93 = .ok (.isub, 1) := by decide +kernel
theorem dX7_doStorm_94 : decode cX7_doStorm 94 = .ok (.istore_n 2, 1) := by decide +kernel
theorem dX7_doStorm_95 : decode cX7_doStorm 95 = .ok (.iload_n 2, 1) := by decide +kernel
theorem dX7_doStorm_96 : decode cX7_doStorm 96 = .ok (.ifCond .lt 32, 3) := by decide +kernel
theorem dX7_doStorm_99 : decode cX7_doStorm 99 = .ok (.aload_n 0, 1) := by decide +kernel
theorem dX7_doStorm_100 : decode cX7_doStorm 100 = .ok (.iload_n 2, 1) := by decide +kernel
theorem dX7_doStorm_101 : decode cX7_doStorm 101 = .ok (.iconst 3, 1) := by decide +kernel
theorem dX7_doStorm_102 : decode cX7_doStorm 102 = .ok (.invokevirtual 61, 3) := by decide +kernel
theorem dX7_doStorm_105 : decode cX7_doStorm 105 = .ok (.aload_n 0, 1) := by decide +kernel
theorem dX7_doStorm_106 : decode cX7_doStorm 106 = .ok (.getfield 7, 3) := by decide +kernel
theorem dX7_doStorm_109 : decode cX7_doStorm 109 = .ok (.iconst 0, 1) := by decide +kernel
theorem dX7_doStorm_110 : decode cX7_doStorm 110 = .ok (.iaload, 1) := by decide +kernel
theorem dX7_doStorm_111 : decode cX7_doStorm 111 = .ok (.if_icmp .ge 11, 3) := by decide +kernel
theorem dX7_doStorm_114 : decode cX7_doStorm 114 = .ok (.aload_n 0, 1) := by decide +kernel
theorem dX7_doStorm_115 : decode cX7_doStorm 115 = .ok (.iload_n 2, 1) := by decide +kernel
theorem dX7_doStorm_116 : decode cX7_doStorm 116 = .ok (.invokevirtual 74, 3) := by decide +kernel
theorem dX7_doStorm_119 : decode cX7_doStorm 119 = .ok (.iinc 1 1, 3) := by decide +kernel
theorem dX7_doStorm_122 : decode cX7_doStorm 122 = .ok (.iinc 2 (-1), 3) := by decide +kernel
theorem dX7_doStorm_125 : decode cX7_doStorm 125 = .ok (.goto (-30), 3) := by decide +kernel
theorem dX7_doStorm_128 : decode cX7_doStorm 128 = .ok (.aload_n 0, 1) := by decide +kernel
theorem dX7_doStorm_129 : decode cX7_doStorm 129 = .ok (.getfield 7, 3) := by decide +kernel
theorem dX7_doStorm_132 : decode cX7_doStorm 132 = .ok (.iconst 4, 1) := by decide +kernel
theorem dX7_doStorm_133 : decode cX7_doStorm 133 = .ok (.dup2, 1) := by decide +kernel
theorem dX7_doStorm_134 : decode cX7_doStorm 134 = .ok (.iaload, 1) := by decide +kernel
theorem dX7_doStorm_135 : decode cX7_doStorm 135 = .ok (.iload_n 1, 1) := by decide +kernel
theorem dX7_doStorm_136 : decode cX7_doStorm 136 = .ok (.iadd, 1) := by decide +kernel
theorem dX7_doStorm_137 : decode cX7_doStorm 137 = .ok (.iastore, 1) := by decide +kernel
theorem dX7_doStorm_138 : decode cX7_doStorm 138 = .ok (.iload_n 1, 1) := by decide +kernel
theorem dX7_doStorm_139 : decode cX7_doStorm 139 = .ok (.ireturn, 1) := by decide +kernel
theorem dX7_doCross_0 : decode cX7_doCross 0 = .ok (.aload_n 0, 1) := by decide +kernel
theorem dX7_doCross_1 : decode cX7_doCross 1 = .ok (.getfield 7, 3) := by decide +kernel
theorem dX7_doCross_4 : decode cX7_doCross 4 = .ok (.bipush 11, 2) := by decide +kernel
theorem dX7_doCross_6 : decode cX7_doCross 6 = .ok (.iload_n 1, 1) := by decide +kernel
theorem dX7_doCross_7 : decode cX7_doCross 7 = .ok (.iadd, 1) := by decide +kernel
theorem dX7_doCross_8 : decode cX7_doCross 8 = .ok (.iaload, 1) := by decide +kernel
theorem dX7_doCross_9 : decode cX7_doCross 9 = .ok (.istore_n 3, 1) := by decide +kernel
theorem dX7_doCross_10 : decode cX7_doCross 10 = .ok (.aload_n 0, 1) := by decide +kernel
theorem dX7_doCross_11 : decode cX7_doCross 11 = .ok (.getfield 7, 3) := by decide +kernel
theorem dX7_doCross_14 : decode cX7_doCross 14 = .ok (.bipush 11, 2) := by decide +kernel
theorem dX7_doCross_16 : decode cX7_doCross 16 = .ok (.iload_n 1, 1) := by decide +kernel
theorem dX7_doCross_17 : decode cX7_doCross 17 = .ok (.iadd, 1) := by decide +kernel
theorem dX7_doCross_18 : decode cX7_doCross 18 = .ok (.aload_n 0, 1) := by decide +kernel
theorem dX7_doCross_19 : decode cX7_doCross 19 = .ok (.getfield 7, 3) := by decide +kernel
theorem dX7_doCross_22 : decode cX7_doCross 22 = .ok (.bipush 11, 2) := by decide +kernel
theorem dX7_doCross_24 : decode cX7_doCross 24 = .ok (.iload_n 2, 1) := by decide +kernel
theorem dX7_doCross_25 : decode cX7_doCross 25 = .ok (.iadd, 1) := by decide +kernel
theorem dX7_doCross_26 : decode cX7_doCross 26 = .ok (.iaload, 1) := by decide +kernel
theorem dX7_doCross_27 : decode cX7_doCross 27 = .ok (.iastore, 1) := by decide +kernel
theorem dX7_doCross_28 : decode cX7_doCross 28 = .ok (.aload_n 0, 1) := by decide +kernel
theorem dX7_doCross_29 : decode cX7_doCross 29 = .ok (.getfield 7, 3) := by decide +kernel
theorem dX7_doCross_32 : decode cX7_doCross 32 = .ok (.bipush 11, 2) := by decide +kernel
theorem dX7_doCross_34 : decode cX7_doCross 34 = .ok (.iload_n 2, 1) := by decide +kernel
theorem dX7_doCross_35 : decode cX7_doCross 35 = .ok (.iadd, 1) := by decide +kernel
theorem dX7_doCross_36 : decode cX7_doCross 36 = .ok (.iload_n 3, 1) := by decide +kernel
theorem dX7_doCross_37 : decode cX7_doCross 37 = .ok (.iastore, 1) := by decide +kernel
theorem dX7_doCross_38 : decode cX7_doCross 38 = .ok (.aload_n 0, 1) := by decide +kernel
theorem dX7_doCross_39 : decode cX7_doCross 39 = .ok (.getfield 7, 3) := by decide +kernel
theorem dX7_doCross_42 : decode cX7_doCross 42 = .ok (.bipush 11, 2) := by decide +kernel
theorem dX7_doCross_44 : decode cX7_doCross 44 = .ok (.iload_n 1, 1) := by decide +kernel
theorem dX7_doCross_45 : decode cX7_doCross 45 = .ok (.iadd, 1) := by decide +kernel
theorem dX7_doCross_46 : decode cX7_doCross 46 = .ok (.iaload, 1) := by decide +kernel
theorem dX7_doCross_47 : decode cX7_doCross 47 = .ok (.ireturn, 1) := by decide +kernel
theorem dX7_give_0 : decode cX7_give 0 = .ok (.aload_n 0, 1) := by decide +kernel
theorem dX7_give_1 : decode cX7_give 1 = .ok (.getfield 7, 3) := by decide +kernel
theorem dX7_give_4 : decode cX7_give 4 = .ok (.bipush 19, 2) := by decide +kernel
theorem dX7_give_6 : decode cX7_give 6 = .ok (.iconst 4, 1) := by decide +kernel
theorem dX7_give_7 : decode cX7_give 7 = .ok (.iload_n 1, 1) := by decide +kernel
theorem dX7_give_8 : decode cX7_give 8 = .ok (.imul, 1) := by decide +kernel
theorem dX7_give_9 : decode cX7_give 9 = .ok (.iadd, 1) := by decide +kernel
theorem dX7_give_10 : decode cX7_give 10 = .ok (.iload_n 3, 1) := by decide +kernel
theorem dX7_give_11 : decode cX7_give 11 = .ok (.iadd, 1) := by decide +kernel
theorem dX7_give_12 : decode cX7_give 12 = .ok (.dup2, 1) := by decide +kernel
theorem dX7_give_13 : decode cX7_give 13 = .ok (.iaload, 1) := by decide +kernel
theorem dX7_give_14 : decode cX7_give 14 = .ok (.iload 4, 2) := by decide +kernel
theorem dX7_give_16 : decode cX7_give 16 = .ok (.isub, 1) := by decide +kernel
theorem dX7_give_17 : decode cX7_give 17 = .ok (.iastore, 1) := by decide +kernel
theorem dX7_give_18 : decode cX7_give 18 = .ok (.aload_n 0, 1) := by decide +kernel
theorem dX7_give_19 : decode cX7_give 19 = .ok (.getfield 7, 3) := by decide +kernel
theorem dX7_give_22 : decode cX7_give 22 = .ok (.bipush 19, 2) := by decide +kernel
theorem dX7_give_24 : decode cX7_give 24 = .ok (.iconst 4, 1) := by decide +kernel
theorem dX7_give_25 : decode cX7_give 25 = .ok (.iload_n 2, 1) := by decide +kernel
theorem dX7_give_26 : decode cX7_give 26 = .ok (.imul, 1) := by decide +kernel
theorem dX7_give_27 : decode cX7_give 27 = .ok (.iadd, 1) := by decide +kernel
theorem dX7_give_28 : decode cX7_give 28 = .ok (.iload_n 3, 1) := by decide +kernel
theorem dX7_give_29 : decode cX7_give 29 = .ok (.iadd, 1) := by decide +kernel
theorem dX7_give_30 : decode cX7_give 30 = .ok (.dup2, 1) := by decide +kernel
theorem dX7_give_31 : decode cX7_give 31 = .ok (.iaload, 1) := by decide +kernel
theorem dX7_give_32 : decode cX7_give 32 = .ok (.iload 4, 2) := by decide +kernel
theorem dX7_give_34 : decode cX7_give 34 = .ok (.iadd, 1) := by decide +kernel
theorem dX7_give_35 : decode cX7_give 35 = .ok (.iastore, 1) := by decide +kernel
theorem dX7_give_36 : decode cX7_give 36 = .ok (.return_, 1) := by decide +kernel
theorem dX7_refuse_0 : decode cX7_refuse 0 = .ok (.aload_n 0, 1) := by decide +kernel
theorem dX7_refuse_1 : decode cX7_refuse 1 = .ok (.getfield 7, 3) := by decide +kernel
theorem dX7_refuse_4 : decode cX7_refuse 4 = .ok (.iconst 5, 1) := by decide +kernel
theorem dX7_refuse_5 : decode cX7_refuse 5 = .ok (.dup2, 1) := by decide +kernel
theorem dX7_refuse_6 : decode cX7_refuse 6 = .ok (.iaload, 1) := by decide +kernel
theorem dX7_refuse_7 : decode cX7_refuse 7 = .ok (.iconst 1, 1) := by decide +kernel
theorem dX7_refuse_8 : decode cX7_refuse 8 = .ok (.iadd, 1) := by decide +kernel
theorem dX7_refuse_9 : decode cX7_refuse 9 = .ok (.iastore, 1) := by decide +kernel
theorem dX7_refuse_10 : decode cX7_refuse 10 = .ok (.iload_n 1, 1) := by decide +kernel
theorem dX7_refuse_11 : decode cX7_refuse 11 = .ok (.ireturn, 1) := by decide +kernel
theorem dX7_doPromise_0 : decode cX7_doPromise 0 = .ok (.aload_n 0, 1) := by decide +kernel
theorem dX7_doPromise_1 : decode cX7_doPromise 1 = .ok (.getfield 7, 3) := by decide +kernel
theorem dX7_doPromise_4 : decode cX7_doPromise 4 = .ok (.iconst 1, 1) := by decide +kernel
theorem dX7_doPromise_5 : decode cX7_doPromise 5 = .ok (.iaload, 1) := by decide +kernel
theorem dX7_doPromise_6 : decode cX7_doPromise 6 = .ok (.bipush 8, 2) := by decide +kernel
theorem dX7_doPromise_8 : decode cX7_doPromise 8 = .ok (.if_icmp .ne 9, 3) := by decide +kernel
theorem dX7_doPromise_11 : decode cX7_doPromise 11 = .ok (.aload_n 0, 1) := by decide +kernel
theorem dX7_doPromise_12 : decode cX7_doPromise 12 = .ok (.iconst (-1), 1) := by decide +kernel
theorem dX7_doPromise_13 : decode cX7_doPromise 13 = .ok (.invokevirtual 78, 3) := by decide +kernel
theorem dX7_doPromise_16 : decode cX7_doPromise 16 = .ok (.ireturn, 1) := by decide +kernel
theorem dX7_doPromise_17 : decode cX7_doPromise 17 = .ok (.bipush 51, 2) := by decide +kernel
theorem dX7_doPromise_19 : decode cX7_doPromise 19 = .ok (.iconst 4, 1) := by decide +kernel
theorem dX7_doPromise_20 : decode cX7_doPromise 20 = .ok (.aload_n 0, 1) := by decide +kernel
theorem dX7_doPromise_21 : decode cX7_doPromise 21 = .ok (.getfield 7, 3) := by decide +kernel
theorem dX7_doPromise_24 : decode cX7_doPromise 24 = .ok (.iconst 1, 1) := by decide +kernel
theorem dX7_doPromise_25 : decode cX7_doPromise 25 = .ok (.iaload, 1) := by decide +kernel
theorem dX7_doPromise_26 : decode cX7_doPromise 26 = .ok (.imul, 1) := by decide +kernel
theorem dX7_doPromise_27 : decode cX7_doPromise 27 = .ok (.iadd, 1) := by decide +kernel
theorem dX7_doPromise_28 : decode cX7_doPromise 28 = .ok (.istore 5, 2) := by decide +kernel
theorem dX7_doPromise_30 : decode cX7_doPromise 30 = .ok (.aload_n 0, 1) := by decide +kernel
theorem dX7_doPromise_31 : decode cX7_doPromise 31 = .ok (.getfield 7, 3) := by decide +kernel
theorem dX7_doPromise_34 : decode cX7_doPromise 34 = .ok (.iload 5, 2) := by decide +kernel
theorem dX7_doPromise_36 : decode cX7_doPromise 36 = .ok (.iconst 0, 1) := by decide +kernel
theorem dX7_doPromise_37 : decode cX7_doPromise 37 = .ok (.iadd, 1) := by decide +kernel
theorem dX7_doPromise_38 : decode cX7_doPromise 38 = .ok (.iload_n 1, 1) := by decide +kernel
theorem dX7_doPromise_39 : decode cX7_doPromise 39 = .ok (.iastore, 1) := by decide +kernel
theorem dX7_doPromise_40 : decode cX7_doPromise 40 = .ok (.aload_n 0, 1) := by decide +kernel
theorem dX7_doPromise_41 : decode cX7_doPromise 41 = .ok (.getfield 7, 3) := by decide +kernel
theorem dX7_doPromise_44 : decode cX7_doPromise 44 = .ok (.iload 5, 2) := by decide +kernel
theorem dX7_doPromise_46 : decode cX7_doPromise 46 = .ok (.iconst 1, 1) := by decide +kernel
theorem dX7_doPromise_47 : decode cX7_doPromise 47 = .ok (.iadd, 1) := by decide +kernel
theorem dX7_doPromise_48 : decode cX7_doPromise 48 = .ok (.iload_n 2, 1) := by decide +kernel
theorem dX7_doPromise_49 : decode cX7_doPromise 49 = .ok (.iastore, 1) := by decide +kernel
theorem dX7_doPromise_50 : decode cX7_doPromise 50 = .ok (.aload_n 0, 1) := by decide +kernel
theorem dX7_doPromise_51 : decode cX7_doPromise 51 = .ok (.getfield 7, 3) := by decide +kernel
theorem dX7_doPromise_54 : decode cX7_doPromise 54 = .ok (.iload 5, 2) := by decide +kernel
theorem dX7_doPromise_56 : decode cX7_doPromise 56 = .ok (.iconst 2, 1) := by decide +kernel
theorem dX7_doPromise_57 : decode cX7_doPromise 57 = .ok (.iadd, 1) := by decide +kernel
theorem dX7_doPromise_58 : decode cX7_doPromise 58 = .ok (.iload_n 3, 1) := by decide +kernel
theorem dX7_doPromise_59 : decode cX7_doPromise 59 = .ok (.iastore, 1) := by decide +kernel
theorem dX7_doPromise_60 : decode cX7_doPromise 60 = .ok (.aload_n 0, 1) := by decide +kernel
theorem dX7_doPromise_61 : decode cX7_doPromise 61 = .ok (.getfield 7, 3) := by decide +kernel
theorem dX7_doPromise_64 : decode cX7_doPromise 64 = .ok (.iload 5, 2) := by decide +kernel
theorem dX7_doPromise_66 : decode cX7_doPromise 66 = .ok (.iconst 3, 1) := by decide +kernel
theorem dX7_doPromise_67 : decode cX7_doPromise 67 = .ok (.iadd, 1) := by decide +kernel
theorem dX7_doPromise_68 : decode cX7_doPromise 68 = .ok (.aload_n 0, 1) := by decide +kernel
theorem dX7_doPromise_69 : decode cX7_doPromise 69 = .ok (.getfield 7, 3) := by decide +kernel
theorem dX7_doPromise_72 : decode cX7_doPromise 72 = .ok (.iconst 0, 1) := by decide +kernel
theorem dX7_doPromise_73 : decode cX7_doPromise 73 = .ok (.iaload, 1) := by decide +kernel
theorem dX7_doPromise_74 : decode cX7_doPromise 74 = .ok (.iload 4, 2) := by decide +kernel
theorem dX7_doPromise_76 : decode cX7_doPromise 76 = .ok (.iadd, 1) := by decide +kernel
theorem dX7_doPromise_77 : decode cX7_doPromise 77 = .ok (.iastore, 1) := by decide +kernel
theorem dX7_doPromise_78 : decode cX7_doPromise 78 = .ok (.aload_n 0, 1) := by decide +kernel
theorem dX7_doPromise_79 : decode cX7_doPromise 79 = .ok (.getfield 7, 3) := by decide +kernel
theorem dX7_doPromise_82 : decode cX7_doPromise 82 = .ok (.iconst 1, 1) := by decide +kernel
theorem dX7_doPromise_83 : decode cX7_doPromise 83 = .ok (.dup2, 1) := by decide +kernel
theorem dX7_doPromise_84 : decode cX7_doPromise 84 = .ok (.iaload, 1) := by decide +kernel
theorem dX7_doPromise_85 : decode cX7_doPromise 85 = .ok (.iconst 1, 1) := by decide +kernel
theorem dX7_doPromise_86 : decode cX7_doPromise 86 = .ok (.iadd, 1) := by decide +kernel
theorem dX7_doPromise_87 : decode cX7_doPromise 87 = .ok (.iastore, 1) := by decide +kernel
theorem dX7_doPromise_88 : decode cX7_doPromise 88 = .ok (.aload_n 0, 1) := by decide +kernel
theorem dX7_doPromise_89 : decode cX7_doPromise 89 = .ok (.getfield 7, 3) := by decide +kernel
theorem dX7_doPromise_92 : decode cX7_doPromise 92 = .ok (.iconst 1, 1) := by decide +kernel
theorem dX7_doPromise_93 : decode cX7_doPromise 93 = .ok (.iaload, 1) := by decide +kernel
theorem dX7_doPromise_94 : decode cX7_doPromise 94 = .ok (.iconst 1, 1) := by decide +kernel
theorem dX7_doPromise_95 : decode cX7_doPromise 95 = .ok (.isub, 1) := by decide +kernel
theorem dX7_doPromise_96 : decode cX7_doPromise 96 = .ok (.ireturn, 1) := by decide +kernel
theorem dX7_doFulfil_0 : decode cX7_doFulfil 0 = .ok (.aload_n 0, 1) := by decide +kernel
theorem dX7_doFulfil_1 : decode cX7_doFulfil 1 = .ok (.iload_n 1, 1) := by decide +kernel
theorem dX7_doFulfil_2 : decode cX7_doFulfil 2 = .ok (.invokevirtual 81, 3) := by decide +kernel
theorem dX7_doFulfil_5 : decode cX7_doFulfil 5 = .ok (.istore_n 2, 1) := by decide +kernel
theorem dX7_doFulfil_6 : decode cX7_doFulfil 6 = .ok (.iload_n 2, 1) := by decide +kernel
theorem dX7_doFulfil_7 : decode cX7_doFulfil 7 = .ok (.iconst (-1), 1) := by decide +kernel
theorem dX7_doFulfil_8 : decode cX7_doFulfil 8 = .ok (.if_icmp .ne 9, 3) := by decide +kernel
theorem dX7_doFulfil_11 : decode cX7_doFulfil 11 = .ok (.aload_n 0, 1) := by decide +kernel
theorem dX7_doFulfil_12 : decode cX7_doFulfil 12 = .ok (.iconst (-1), 1) := by decide +kernel
theorem dX7_doFulfil_13 : decode cX7_doFulfil 13 = .ok (.invokevirtual 78, 3) := by decide +kernel
theorem dX7_doFulfil_16 : decode cX7_doFulfil 16 = .ok (.ireturn, 1) := by decide +kernel
theorem dX7_doFulfil_17 : decode cX7_doFulfil 17 = .ok (.iconst 0, 1) := by decide +kernel
theorem dX7_doFulfil_18 : decode cX7_doFulfil 18 = .ok (.istore_n 3, 1) := by decide +kernel
theorem dX7_doFulfil_19 : decode cX7_doFulfil 19 = .ok (.iload_n 3, 1) := by decide +kernel
theorem dX7_doFulfil_20 : decode cX7_doFulfil 20 = .ok (.iconst 4, 1) := by decide +kernel
theorem dX7_doFulfil_21 : decode cX7_doFulfil 21 = .ok (.if_icmp .ge 32, 3) := by decide +kernel
theorem dX7_doFulfil_24 : decode cX7_doFulfil 24 = .ok (.aload_n 0, 1) := by decide +kernel
theorem dX7_doFulfil_25 : decode cX7_doFulfil 25 = .ok (.aload_n 0, 1) := by decide +kernel
theorem dX7_doFulfil_26 : decode cX7_doFulfil 26 = .ok (.iload_n 1, 1) := by decide +kernel
theorem dX7_doFulfil_27 : decode cX7_doFulfil 27 = .ok (.iconst 0, 1) := by decide +kernel
theorem dX7_doFulfil_28 : decode cX7_doFulfil 28 = .ok (.invokevirtual 61, 3) := by decide +kernel
theorem dX7_doFulfil_31 : decode cX7_doFulfil 31 = .ok (.aload_n 0, 1) := by decide +kernel
theorem dX7_doFulfil_32 : decode cX7_doFulfil 32 = .ok (.iload_n 1, 1) := by decide +kernel
theorem dX7_doFulfil_33 : decode cX7_doFulfil 33 = .ok (.iconst 1, 1) := by decide +kernel
theorem dX7_doFulfil_34 : decode cX7_doFulfil 34 = .ok (.invokevirtual 61, 3) := by decide +kernel
theorem dX7_doFulfil_37 : decode cX7_doFulfil 37 = .ok (.iload_n 3, 1) := by decide +kernel
theorem dX7_doFulfil_38 : decode cX7_doFulfil 38 = .ok (.aload_n 0, 1) := by decide +kernel
theorem dX7_doFulfil_39 : decode cX7_doFulfil 39 = .ok (.getfield 26, 3) := by decide +kernel
theorem dX7_doFulfil_42 : decode cX7_doFulfil 42 = .ok (.iload_n 3, 1) := by decide +kernel
theorem dX7_doFulfil_43 : decode cX7_doFulfil 43 = .ok (.iaload, 1) := by decide +kernel
theorem dX7_doFulfil_44 : decode cX7_doFulfil 44 = .ok (.invokevirtual 84, 3) := by decide +kernel
theorem dX7_doFulfil_47 : decode cX7_doFulfil 47 = .ok (.iinc 3 1, 3) := by decide +kernel
theorem dX7_doFulfil_50 : decode cX7_doFulfil 50 = .ok (.goto (-31), 3) := by decide +kernel
theorem dX7_doFulfil_53 : decode cX7_doFulfil 53 = .ok (.aload_n 0, 1) := by decide +kernel
theorem dX7_doFulfil_54 : decode cX7_doFulfil 54 = .ok (.iload_n 1, 1) := by decide +kernel
theorem dX7_doFulfil_55 : decode cX7_doFulfil 55 = .ok (.invokevirtual 74, 3) := by decide +kernel
theorem dX7_doFulfil_58 : decode cX7_doFulfil 58 = .ok (.aload_n 0, 1) := by decide +kernel
theorem dX7_doFulfil_59 : decode cX7_doFulfil 59 = .ok (.getfield 7, 3) := by decide +kernel
theorem dX7_doFulfil_62 : decode cX7_doFulfil 62 = .ok (.iconst 3, 1) := by decide +kernel
theorem dX7_doFulfil_63 : decode cX7_doFulfil 63 = .ok (.dup2, 1) := by decide +kernel
theorem dX7_doFulfil_64 : decode cX7_doFulfil 64 = .ok (.iaload, 1) := by decide +kernel
theorem dX7_doFulfil_65 : decode cX7_doFulfil 65 = .ok (.iconst 1, 1) := by decide +kernel
theorem dX7_doFulfil_66 : decode cX7_doFulfil 66 = .ok (.iadd, 1) := by decide +kernel
theorem dX7_doFulfil_67 : decode cX7_doFulfil 67 = .ok (.iastore, 1) := by decide +kernel
theorem dX7_doFulfil_68 : decode cX7_doFulfil 68 = .ok (.iload_n 2, 1) := by decide +kernel
theorem dX7_doFulfil_69 : decode cX7_doFulfil 69 = .ok (.ireturn, 1) := by decide +kernel
theorem dX7_promiseError_0 : decode cX7_promiseError 0 = .ok (.iload_n 0, 1) := by decide +kernel
theorem dX7_promiseError_1 : decode cX7_promiseError 1 = .ok (.invokestatic 88, 3) := by decide +kernel
theorem dX7_promiseError_4 : decode cX7_promiseError 4 = .ok (.ifCond .eq 10, 3) := by decide +kernel
theorem dX7_promiseError_7 : decode cX7_promiseError 7 = .ok (.iload_n 1, 1) := by decide +kernel
theorem dX7_promiseError_8 : decode cX7_promiseError 8 = .ok (.invokestatic 88, 3) := by decide +kernel
theorem dX7_promiseError_11 : decode cX7_promiseError 11 = .ok (.ifCond .ne 7, 3) := by decide +kernel
theorem dX7_promiseError_14 : decode cX7_promiseError 14 = .ok (.iconst 1, 1) := by decide +kernel
theorem dX7_promiseError_15 : decode cX7_promiseError 15 = .ok (.goto 33, 3) := by decide +kernel
theorem dX7_promiseError_18 : decode cX7_promiseError 18 = .ok (.iload_n 0, 1) := by decide +kernel
theorem dX7_promiseError_19 : decode cX7_promiseError 19 = .ok (.iload_n 1, 1) := by decide +kernel
theorem dX7_promiseError_20 : decode cX7_promiseError 20 = .ok (.if_icmp .eq 23, 3) := by decide +kernel
theorem dX7_promiseError_23 : decode cX7_promiseError 23 = .ok (.iload_n 2, 1) := by decide +kernel
theorem dX7_promiseError_24 : decode cX7_promiseError 24 = .ok (.iconst 1, 1) := by decide +kernel
theorem dX7_promiseError_25 : decode cX7_promiseError 25 = .ok (.bipush 99, 2) := by decide +kernel
theorem dX7_promiseError_27 : decode cX7_promiseError 27 = .ok (.invokestatic 39, 3) := by decide +kernel
theorem dX7_promiseError_30 : decode cX7_promiseError 30 = .ok (.ifCond .eq 13, 3) := by decide +kernel
theorem dX7_promiseError_33 : decode cX7_promiseError 33 = .ok (.iload_n 3, 1) := by decide +kernel
theorem dX7_promiseError_34 : decode cX7_promiseError 34 = .ok (.iconst 0, 1) := by decide +kernel
theorem dX7_promiseError_35 : decode cX7_promiseError 35 = .ok (.bipush 9, 2) := by decide +kernel
theorem dX7_promiseError_37 : decode cX7_promiseError 37 = .ok (.invokestatic 39, 3) := by decide +kernel
theorem dX7_promiseError_40 : decode cX7_promiseError 40 = .ok (.ifCond .ne 7, 3) := by decide +kernel
theorem dX7_promiseError_43 : decode cX7_promiseError 43 = .ok (.iconst 2, 1) := by decide +kernel
theorem dX7_promiseError_44 : decode cX7_promiseError 44 = .ok (.goto 4, 3) := by decide +kernel
theorem dX7_promiseError_47 : decode cX7_promiseError 47 = .ok (.iconst 0, 1) := by decide +kernel
theorem dX7_promiseError_48 : decode cX7_promiseError 48 = .ok (.ireturn, 1) := by decide +kernel
theorem dX7_storm_0 : decode cX7_storm 0 = .ok (.aload_n 0, 1) := by decide +kernel
theorem dX7_storm_1 : decode cX7_storm 1 = .ok (.aload_n 0, 1) := by decide +kernel
theorem dX7_storm_2 : decode cX7_storm 2 = .ok (.getfield 7, 3) := by decide +kernel
theorem dX7_storm_5 : decode cX7_storm 5 = .ok (.iconst 0, 1) := by decide +kernel
theorem dX7_storm_6 : decode cX7_storm 6 = .ok (.iaload, 1) := by decide +kernel
theorem dX7_storm_7 : decode cX7_storm 7 = .ok (.sipush 9999, 3) := by decide +kernel
theorem dX7_storm_10 : decode cX7_storm 10 = .ok (.if_icmp .ne 7, 3) := by decide +kernel
theorem dX7_storm_13 : decode cX7_storm 13 = .ok (.iconst 1, 1) := by decide +kernel
theorem dX7_storm_14 : decode cX7_storm 14 = .ok (.goto 4, 3) := by decide +kernel
theorem dX7_storm_17 : decode cX7_storm 17 = .ok (.iconst 0, 1) := by decide +kernel
theorem dX7_storm_18 : decode cX7_storm 18 = .ok (.invokevirtual 92, 3) := by decide +kernel
theorem dX7_storm_21 : decode cX7_storm 21 = .ok (.ifCond .ne 5, 3) := by decide +kernel
theorem dX7_storm_24 : decode cX7_storm 24 = .ok (.iconst 0, 1) := by decide +kernel
theorem dX7_storm_25 : decode cX7_storm 25 = .ok (.ireturn, 1) := by decide +kernel
theorem dX7_storm_26 : decode cX7_storm 26 = .ok (.aload_n 0, 1) := by decide +kernel
theorem dX7_storm_27 : decode cX7_storm 27 = .ok (.invokevirtual 95, 3) := by decide +kernel
theorem dX7_storm_30 : decode cX7_storm 30 = .ok (.aload_n 0, 1) := by decide +kernel
theorem dX7_storm_31 : decode cX7_storm 31 = .ok (.invokevirtual 98, 3) := by decide +kernel
theorem dX7_storm_34 : decode cX7_storm 34 = .ok (.ireturn, 1) := by decide +kernel
theorem dX7_cross_0 : decode cX7_cross 0 = .ok (.aload_n 0, 1) := by decide +kernel
theorem dX7_cross_1 : decode cX7_cross 1 = .ok (.iload_n 1, 1) := by decide +kernel
theorem dX7_cross_2 : decode cX7_cross 2 = .ok (.invokestatic 88, 3) := by decide +kernel
theorem dX7_cross_5 : decode cX7_cross 5 = .ok (.ifCond .eq 14, 3) := by decide +kernel
theorem dX7_cross_8 : decode cX7_cross 8 = .ok (.iload_n 2, 1) := by decide +kernel
theorem dX7_cross_9 : decode cX7_cross 9 = .ok (.invokestatic 88, 3) := by decide +kernel
theorem dX7_cross_12 : decode cX7_cross 12 = .ok (.ifCond .eq 7, 3) := by decide +kernel
theorem dX7_cross_15 : decode cX7_cross 15 = .ok (.iconst 0, 1) := by decide +kernel
theorem dX7_cross_16 : decode cX7_cross 16 = .ok (.goto 4, 3) := by decide +kernel
theorem dX7_cross_19 : decode cX7_cross 19 = .ok (.iconst 1, 1) := by decide +kernel
theorem dX7_cross_20 : decode cX7_cross 20 = .ok (.invokevirtual 92, 3) := by decide +kernel
theorem dX7_cross_23 : decode cX7_cross 23 = .ok (.ifCond .ne 5, 3) := by decide +kernel
theorem dX7_cross_26 : decode cX7_cross 26 = .ok (.iconst 0, 1) := by decide +kernel
theorem dX7_cross_27 : decode cX7_cross 27 = .ok (.ireturn, 1) := by decide +kernel
theorem dX7_cross_28 : decode cX7_cross 28 = .ok (.aload_n 0, 1) := by decide +kernel
theorem dX7_cross_29 : decode cX7_cross 29 = .ok (.invokevirtual 95, 3) := by decide +kernel
theorem dX7_cross_32 : decode cX7_cross 32 = .ok (.aload_n 0, 1) := by decide +kernel
theorem dX7_cross_33 : decode cX7_cross 33 = .ok (.iload_n 1, 1) := by decide +kernel
theorem dX7_cross_34 : decode cX7_cross 34 = .ok (.iload_n 2, 1) := by decide +kernel
theorem dX7_cross_35 : decode cX7_cross 35 = .ok (.invokevirtual 102, 3) := by decide +kernel
theorem dX7_cross_38 : decode cX7_cross 38 = .ok (.ireturn, 1) := by decide +kernel
theorem dX7_reasonOf_0 : decode cX7_reasonOf 0 = .ok (.iload_n 3, 1) := by decide +kernel
theorem dX7_reasonOf_1 : decode cX7_reasonOf 1 = .ok (.aload_n 0, 1) := by decide +kernel
theorem dX7_reasonOf_2 : decode cX7_reasonOf 2 = .ok (.getfield 7, 3) := by decide +kernel
theorem dX7_reasonOf_5 : decode cX7_reasonOf 5 = .ok (.bipush 7, 2) := by decide +kernel
theorem dX7_reasonOf_7 : decode cX7_reasonOf 7 = .ok (.iload_n 2, 1) := by decide +kernel
theorem dX7_reasonOf_8 : decode cX7_reasonOf 8 = .ok (.iadd, 1) := by decide +kernel
theorem dX7_reasonOf_9 : decode cX7_reasonOf 9 = .ok (.iaload, 1) := by decide +kernel
theorem dX7_reasonOf_10 : decode cX7_reasonOf 10 = .ok (.imul, 1) := by decide +kernel
theorem dX7_reasonOf_11 : decode cX7_reasonOf 11 = .ok (.iload 6, 2) := by decide +kernel
theorem dX7_reasonOf_13 : decode cX7_reasonOf 13 = .ok (.aload_n 0, 1) := by decide +kernel
theorem dX7_reasonOf_14 : decode cX7_reasonOf 14 = .ok (.getfield 7, 3) := by decide +kernel
theorem dX7_reasonOf_17 : decode cX7_reasonOf 17 = .ok (.bipush 7, 2) := by decide +kernel
theorem dX7_reasonOf_19 : decode cX7_reasonOf 19 = .ok (.iload 5, 2) := by decide +kernel
theorem dX7_reasonOf_21 : decode cX7_reasonOf 21 = .ok (.iadd, 1) := by decide +kernel
theorem dX7_reasonOf_22 : decode cX7_reasonOf 22 = .ok (.iaload, 1) := by decide +kernel
theorem dX7_reasonOf_23 : decode cX7_reasonOf 23 = .ok (.imul, 1) := by decide +kernel
theorem dX7_reasonOf_24 : decode cX7_reasonOf 24 = .ok (.isub, 1) := by decide +kernel
theorem dX7_reasonOf_25 : decode cX7_reasonOf 25 = .ok (.istore 7, 2) := by decide +kernel
theorem dX7_reasonOf_27 : decode cX7_reasonOf 27 = .ok (.aload_n 0, 1) := by decide +kernel
theorem dX7_reasonOf_28 : decode cX7_reasonOf 28 = .ok (.iload_n 1, 1) := by decide +kernel
theorem dX7_reasonOf_29 : decode cX7_reasonOf 29 = .ok (.iload_n 2, 1) := by decide +kernel
theorem dX7_reasonOf_30 : decode cX7_reasonOf 30 = .ok (.invokevirtual 50, 3) := by decide +kernel
theorem dX7_reasonOf_33 : decode cX7_reasonOf 33 = .ok (.iload_n 3, 1) := by decide +kernel
theorem dX7_reasonOf_34 : decode cX7_reasonOf 34 = .ok (.if_icmp .ge 7, 3) := by decide +kernel
theorem dX7_reasonOf_37 : decode cX7_reasonOf 37 = .ok (.iconst 1, 1) := by decide +kernel
theorem dX7_reasonOf_38 : decode cX7_reasonOf 38 = .ok (.goto 48, 3) := by decide +kernel
theorem dX7_reasonOf_41 : decode cX7_reasonOf 41 = .ok (.aload_n 0, 1) := by decide +kernel
theorem dX7_reasonOf_42 : decode cX7_reasonOf 42 = .ok (.iload 4, 2) := by decide +kernel
theorem dX7_reasonOf_44 : decode cX7_reasonOf 44 = .ok (.iload 5, 2) := by decide +kernel
theorem dX7_reasonOf_46 : decode cX7_reasonOf 46 = .ok (.invokevirtual 50, 3) := by decide +kernel
theorem dX7_reasonOf_49 : decode cX7_reasonOf 49 = .ok (.iload 6, 2) := by decide +kernel
theorem dX7_reasonOf_51 : decode cX7_reasonOf 51 = .ok (.if_icmp .ge 7, 3) := by decide +kernel
theorem dX7_reasonOf_54 : decode cX7_reasonOf 54 = .ok (.iconst 2, 1) := by decide +kernel
theorem dX7_reasonOf_55 : decode cX7_reasonOf 55 = .ok (.goto 31, 3) := by decide +kernel
theorem dX7_reasonOf_58 : decode cX7_reasonOf 58 = .ok (.iload 7, 2) := by decide +kernel
theorem dX7_reasonOf_60 : decode cX7_reasonOf 60 = .ok (.aload_n 0, 1) := by decide +kernel
theorem dX7_reasonOf_61 : decode cX7_reasonOf 61 = .ok (.getfield 7, 3) := by decide +kernel
theorem dX7_reasonOf_64 : decode cX7_reasonOf 64 = .ok (.bipush 6, 2) := by decide +kernel
theorem dX7_reasonOf_66 : decode cX7_reasonOf 66 = .ok (.iaload, 1) := by decide +kernel
theorem dX7_reasonOf_67 : decode cX7_reasonOf 67 = .ok (.ineg, 1) := by decide +kernel
theorem dX7_reasonOf_68 : decode cX7_reasonOf 68 = .ok (.aload_n 0, 1) := by decide +kernel
theorem dX7_reasonOf_69 : decode cX7_reasonOf 69 = .ok (.getfield 7, 3) := by decide +kernel
theorem dX7_reasonOf_72 : decode cX7_reasonOf 72 = .ok (.bipush 6, 2) := by decide +kernel
theorem dX7_reasonOf_74 : decode cX7_reasonOf 74 = .ok (.iaload, 1) := by decide +kernel
theorem dX7_reasonOf_75 : decode cX7_reasonOf 75 = .ok (.invokestatic 39, 3) := by decide +kernel
theorem dX7_reasonOf_78 : decode cX7_reasonOf 78 = .ok (.ifCond .eq 7, 3) := by decide +kernel
theorem dX7_reasonOf_81 : decode cX7_reasonOf 81 = .ok (.iconst 0, 1) := by decide +kernel
theorem dX7_reasonOf_82 : decode cX7_reasonOf 82 = .ok (.goto 4, 3) := by decide +kernel
theorem dX7_reasonOf_85 : decode cX7_reasonOf 85 = .ok (.iconst 3, 1) := by decide +kernel
theorem dX7_reasonOf_86 : decode cX7_reasonOf 86 = .ok (.ireturn, 1) := by decide +kernel
theorem dX7_trade_0 : decode cX7_trade 0 = .ok (.iload_n 1, 1) := by decide +kernel
theorem dX7_trade_1 : decode cX7_trade 1 = .ok (.invokestatic 88, 3) := by decide +kernel
theorem dX7_trade_4 : decode cX7_trade 4 = .ok (.ifCond .eq 30, 3) := by decide +kernel
theorem dX7_trade_7 : decode cX7_trade 7 = .ok (.iload 4, 2) := by decide +kernel
theorem dX7_trade_9 : decode cX7_trade 9 = .ok (.invokestatic 88, 3) := by decide +kernel
theorem dX7_trade_12 : decode cX7_trade 12 = .ok (.ifCond .eq 22, 3) := by decide +kernel
theorem dX7_trade_15 : decode cX7_trade 15 = .ok (.iload_n 2, 1) := by decide +kernel
theorem dX7_trade_16 : decode cX7_trade 16 = .ok (.invokestatic 105, 3) := by decide +kernel
theorem dX7_trade_19 : decode cX7_trade 19 = .ok (.ifCond .eq 15, 3) := by decide +kernel
theorem dX7_trade_22 : decode cX7_trade 22 = .ok (.iload 5, 2) := by decide +kernel
theorem dX7_trade_24 : decode cX7_trade 24 = .ok (.invokestatic 105, 3) := by decide +kernel
theorem dX7_trade_27 : decode cX7_trade 27 = .ok (.ifCond .eq 7, 3) := by decide +kernel
theorem dX7_trade_30 : decode cX7_trade 30 = .ok (.iconst 1, 1) := by decide +kernel
theorem dX7_trade_31 : decode cX7_trade 31 = .ok (.goto 4, 3) := by decide +kernel
theorem dX7_trade_34 : decode cX7_trade 34 = .ok (.iconst 0, 1) := by decide +kernel
theorem dX7_trade_35 : decode cX7_trade 35 = .ok (.istore 7, 2) := by decide +kernel
theorem dX7_trade_37 : decode cX7_trade 37 = .ok (.aload_n 0, 1) := by decide +kernel
theorem dX7_trade_38 : decode cX7_trade 38 = .ok (.iload 7, 2) := by decide +kernel
theorem dX7_trade_40 : decode cX7_trade 40 = .ok (.ifCond .ne 7, 3) := by decide +kernel
theorem dX7_trade_43 : decode cX7_trade 43 = .ok (.iconst 1, 1) := by decide +kernel
theorem dX7_trade_44 : decode cX7_trade 44 = .ok (.goto 35, 3) := by decide +kernel
theorem dX7_trade_47 : decode cX7_trade 47 = .ok (.iload_n 1, 1) := by decide +kernel
theorem dX7_trade_48 : decode cX7_trade 48 = .ok (.iload 4, 2) := by decide +kernel
theorem dX7_trade_50 : decode cX7_trade 50 = .ok (.if_icmp .eq 24, 3) := by decide +kernel
theorem dX7_trade_53 : decode cX7_trade 53 = .ok (.iload_n 3, 1) := by decide +kernel
theorem dX7_trade_54 : decode cX7_trade 54 = .ok (.iconst 0, 1) := by decide +kernel
theorem dX7_trade_55 : decode cX7_trade 55 = .ok (.bipush 99, 2) := by decide +kernel
theorem dX7_trade_57 : decode cX7_trade 57 = .ok (.invokestatic 39, 3) := by decide +kernel
theorem dX7_trade_60 : decode cX7_trade 60 = .ok (.ifCond .eq 14, 3) := by decide +kernel
theorem dX7_trade_63 : decode cX7_trade 63 = .ok (.iload 6, 2) := by decide +kernel
theorem dX7_trade_65 : decode cX7_trade 65 = .ok (.iconst 0, 1) := by decide +kernel
theorem dX7_trade_66 : decode cX7_trade 66 = .ok (.bipush 99, 2) := by decide +kernel
theorem dX7_trade_68 : decode cX7_trade 68 = .ok (.invokestatic 39, 3) := by decide +kernel
theorem dX7_trade_71 : decode cX7_trade 71 = .ok (.ifCond .ne 7, 3) := by decide +kernel
theorem dX7_trade_74 : decode cX7_trade 74 = .ok (.iconst 2, 1) := by decide +kernel
theorem dX7_trade_75 : decode cX7_trade 75 = .ok (.goto 4, 3) := by decide +kernel
theorem dX7_trade_78 : decode cX7_trade 78 = .ok (.iconst 0, 1) := by decide +kernel
theorem dX7_trade_79 : decode cX7_trade 79 = .ok (.invokevirtual 92, 3) := by decide +kernel
theorem dX7_trade_82 : decode cX7_trade 82 = .ok (.ifCond .ne 5, 3) := by decide +kernel
theorem dX7_trade_85 : decode cX7_trade 85 = .ok (.iconst 0, 1) := by decide +kernel
theorem dX7_trade_86 : decode cX7_trade 86 = .ok (.ireturn, 1) := by decide +kernel
theorem dX7_trade_87 : decode cX7_trade 87 = .ok (.aload_n 0, 1) := by decide +kernel
theorem dX7_trade_88 : decode cX7_trade 88 = .ok (.invokevirtual 95, 3) := by decide +kernel
theorem dX7_trade_91 : decode cX7_trade 91 = .ok (.aload_n 0, 1) := by decide +kernel
theorem dX7_trade_92 : decode cX7_trade 92 = .ok (.iload_n 1, 1) := by decide +kernel
theorem dX7_trade_93 : decode cX7_trade 93 = .ok (.iload_n 2, 1) := by decide +kernel
theorem dX7_trade_94 : decode cX7_trade 94 = .ok (.iload_n 3, 1) := by decide +kernel
theorem dX7_trade_95 : decode cX7_trade 95 = .ok (.iload 4, 2) := by decide +kernel
theorem dX7_trade_97 : decode cX7_trade 97 = .ok (.iload 5, 2) := by decide +kernel
theorem dX7_trade_99 : decode cX7_trade 99 = .ok (.iload 6, 2) := by decide +kernel
theorem dX7_trade_101 : decode cX7_trade 101 = .ok (.invokevirtual 108, 3) := by decide +kernel
theorem dX7_trade_104 : decode cX7_trade 104 = .ok (.istore 8, 2) := by decide +kernel
theorem dX7_trade_106 : decode cX7_trade 106 = .ok (.iload 8, 2) := by decide +kernel
theorem dX7_trade_108 : decode cX7_trade 108 = .ok (.ifCond .le 10, 3) := by decide +kernel
theorem dX7_trade_111 : decode cX7_trade 111 = .ok (.aload_n 0, 1) := by decide +kernel
theorem dX7_trade_112 : decode cX7_trade 112 = .ok (.iload 8, 2) := by decide +kernel
theorem dX7_trade_114 : decode cX7_trade 114 = .ok (.invokevirtual 78, 3) := by decide +kernel
theorem dX7_trade_117 : decode cX7_trade 117 = .ok (.ireturn, 1) := by decide +kernel
theorem dX7_trade_118 : decode cX7_trade 118 = .ok (.aload_n 0, 1) := by decide +kernel
theorem dX7_trade_119 : decode cX7_trade 119 = .ok (.iload_n 1, 1) := by decide +kernel
theorem dX7_trade_120 : decode cX7_trade 120 = .ok (.iload 4, 2) := by decide +kernel
theorem dX7_trade_122 : decode cX7_trade 122 = .ok (.iload_n 2, 1) := by decide +kernel
theorem dX7_trade_123 : decode cX7_trade 123 = .ok (.iload_n 3, 1) := by decide +kernel
theorem dX7_trade_124 : decode cX7_trade 124 = .ok (.invokevirtual 84, 3) := by decide +kernel
theorem dX7_trade_127 : decode cX7_trade 127 = .ok (.aload_n 0, 1) := by decide +kernel
theorem dX7_trade_128 : decode cX7_trade 128 = .ok (.iload 4, 2) := by decide +kernel
theorem dX7_trade_130 : decode cX7_trade 130 = .ok (.iload_n 1, 1) := by decide +kernel
theorem dX7_trade_131 : decode cX7_trade 131 = .ok (.iload 5, 2) := by decide +kernel
theorem dX7_trade_133 : decode cX7_trade 133 = .ok (.iload 6, 2) := by decide +kernel
theorem dX7_trade_135 : decode cX7_trade 135 = .ok (.invokevirtual 84, 3) := by decide +kernel
theorem dX7_trade_138 : decode cX7_trade 138 = .ok (.aload_n 0, 1) := by decide +kernel
theorem dX7_trade_139 : decode cX7_trade 139 = .ok (.getfield 7, 3) := by decide +kernel
theorem dX7_trade_142 : decode cX7_trade 142 = .ok (.iconst 2, 1) := by decide +kernel
theorem dX7_trade_143 : decode cX7_trade 143 = .ok (.dup2, 1) := by decide +kernel
theorem dX7_trade_144 : decode cX7_trade 144 = .ok (.iaload, 1) := by decide +kernel
theorem dX7_trade_145 : decode cX7_trade 145 = .ok (.iconst 1, 1) := by decide +kernel
theorem dX7_trade_146 : decode cX7_trade 146 = .ok (.iadd, 1) := by decide +kernel
theorem dX7_trade_147 : decode cX7_trade 147 = .ok (.iastore, 1) := by decide +kernel
theorem dX7_trade_148 : decode cX7_trade 148 = .ok (.iconst 0, 1) := by decide +kernel
theorem dX7_trade_149 : decode cX7_trade 149 = .ok (.ireturn, 1) := by decide +kernel
theorem dX7_worth_0 : decode cX7_worth 0 = .ok (.aload_n 0, 1) := by decide +kernel
theorem dX7_worth_1 : decode cX7_worth 1 = .ok (.iload_n 1, 1) := by decide +kernel
theorem dX7_worth_2 : decode cX7_worth 2 = .ok (.invokestatic 105, 3) := by decide +kernel
theorem dX7_worth_5 : decode cX7_worth 5 = .ok (.ifCond .ne 7, 3) := by decide +kernel
theorem dX7_worth_8 : decode cX7_worth 8 = .ok (.iconst 1, 1) := by decide +kernel
theorem dX7_worth_9 : decode cX7_worth 9 = .ok (.goto 18, 3) := by decide +kernel
theorem dX7_worth_12 : decode cX7_worth 12 = .ok (.iload_n 2, 1) := by decide +kernel
theorem dX7_worth_13 : decode cX7_worth 13 = .ok (.iconst 1, 1) := by decide +kernel
theorem dX7_worth_14 : decode cX7_worth 14 = .ok (.bipush 9, 2) := by decide +kernel
theorem dX7_worth_16 : decode cX7_worth 16 = .ok (.invokestatic 39, 3) := by decide +kernel
theorem dX7_worth_19 : decode cX7_worth 19 = .ok (.ifCond .eq 7, 3) := by decide +kernel
theorem dX7_worth_22 : decode cX7_worth 22 = .ok (.iconst 0, 1) := by decide +kernel
theorem dX7_worth_23 : decode cX7_worth 23 = .ok (.goto 4, 3) := by decide +kernel
theorem dX7_worth_26 : decode cX7_worth 26 = .ok (.iconst 2, 1) := by decide +kernel
theorem dX7_worth_27 : decode cX7_worth 27 = .ok (.invokevirtual 92, 3) := by decide +kernel
theorem dX7_worth_30 : decode cX7_worth 30 = .ok (.ifCond .ne 5, 3) := by decide +kernel
theorem dX7_worth_33 : decode cX7_worth 33 = .ok (.iconst 0, 1) := by decide +kernel
theorem dX7_worth_34 : decode cX7_worth 34 = .ok (.ireturn, 1) := by decide +kernel
theorem dX7_worth_35 : decode cX7_worth 35 = .ok (.aload_n 0, 1) := by decide +kernel
theorem dX7_worth_36 : decode cX7_worth 36 = .ok (.invokevirtual 95, 3) := by decide +kernel
theorem dX7_worth_39 : decode cX7_worth 39 = .ok (.aload_n 0, 1) := by decide +kernel
theorem dX7_worth_40 : decode cX7_worth 40 = .ok (.getfield 7, 3) := by decide +kernel
theorem dX7_worth_43 : decode cX7_worth 43 = .ok (.bipush 7, 2) := by decide +kernel
theorem dX7_worth_45 : decode cX7_worth 45 = .ok (.iload_n 1, 1) := by decide +kernel
theorem dX7_worth_46 : decode cX7_worth 46 = .ok (.iadd, 1) := by decide +kernel
theorem dX7_worth_47 : decode cX7_worth 47 = .ok (.iaload, 1) := by decide +kernel
theorem dX7_worth_48 : decode cX7_worth 48 = .ok (.istore_n 3, 1) := by decide +kernel
theorem dX7_worth_49 : decode cX7_worth 49 = .ok (.aload_n 0, 1) := by decide +kernel
theorem dX7_worth_50 : decode cX7_worth 50 = .ok (.getfield 7, 3) := by decide +kernel
theorem dX7_worth_53 : decode cX7_worth 53 = .ok (.bipush 7, 2) := by decide +kernel
theorem dX7_worth_55 : decode cX7_worth 55 = .ok (.iload_n 1, 1) := by decide +kernel
theorem dX7_worth_56 : decode cX7_worth 56 = .ok (.iadd, 1) := by decide +kernel
theorem dX7_worth_57 : decode cX7_worth 57 = .ok (.iload_n 2, 1) := by decide +kernel
theorem dX7_worth_58 : decode cX7_worth 58 = .ok (.iastore, 1) := by decide +kernel
theorem dX7_worth_59 : decode cX7_worth 59 = .ok (.iload_n 3, 1) := by decide +kernel
theorem dX7_worth_60 : decode cX7_worth 60 = .ok (.ireturn, 1) := by decide +kernel
theorem dX7_set_0 : decode cX7_set 0 = .ok (.aload_n 0, 1) := by decide +kernel
theorem dX7_set_1 : decode cX7_set 1 = .ok (.iload_n 1, 1) := by decide +kernel
theorem dX7_set_2 : decode cX7_set 2 = .ok (.iconst 0, 1) := by decide +kernel
theorem dX7_set_3 : decode cX7_set 3 = .ok (.bipush 9, 2) := by decide +kernel
theorem dX7_set_5 : decode cX7_set 5 = .ok (.invokestatic 39, 3) := by decide +kernel
theorem dX7_set_8 : decode cX7_set 8 = .ok (.ifCond .eq 7, 3) := by decide +kernel
theorem dX7_set_11 : decode cX7_set 11 = .ok (.iconst 0, 1) := by decide +kernel
theorem dX7_set_12 : decode cX7_set 12 = .ok (.goto 4, 3) := by decide +kernel
theorem dX7_set_15 : decode cX7_set 15 = .ok (.iconst 1, 1) := by decide +kernel
theorem dX7_set_16 : decode cX7_set 16 = .ok (.invokevirtual 92, 3) := by decide +kernel
theorem dX7_set_19 : decode cX7_set 19 = .ok (.ifCond .ne 5, 3) := by decide +kernel
theorem dX7_set_22 : decode cX7_set 22 = .ok (.iconst 0, 1) := by decide +kernel
theorem dX7_set_23 : decode cX7_set 23 = .ok (.ireturn, 1) := by decide +kernel
theorem dX7_set_24 : decode cX7_set 24 = .ok (.aload_n 0, 1) := by decide +kernel
theorem dX7_set_25 : decode cX7_set 25 = .ok (.invokevirtual 95, 3) := by decide +kernel
theorem dX7_set_28 : decode cX7_set 28 = .ok (.aload_n 0, 1) := by decide +kernel
theorem dX7_set_29 : decode cX7_set 29 = .ok (.getfield 7, 3) := by decide +kernel
theorem dX7_set_32 : decode cX7_set 32 = .ok (.bipush 6, 2) := by decide +kernel
theorem dX7_set_34 : decode cX7_set 34 = .ok (.iaload, 1) := by decide +kernel
theorem dX7_set_35 : decode cX7_set 35 = .ok (.istore_n 2, 1) := by decide +kernel
theorem dX7_set_36 : decode cX7_set 36 = .ok (.aload_n 0, 1) := by decide +kernel
theorem dX7_set_37 : decode cX7_set 37 = .ok (.getfield 7, 3) := by decide +kernel
theorem dX7_set_40 : decode cX7_set 40 = .ok (.bipush 6, 2) := by decide +kernel
theorem dX7_set_42 : decode cX7_set 42 = .ok (.iload_n 1, 1) := by decide +kernel
theorem dX7_set_43 : decode cX7_set 43 = .ok (.iastore, 1) := by decide +kernel
theorem dX7_set_44 : decode cX7_set 44 = .ok (.iload_n 2, 1) := by decide +kernel
theorem dX7_set_45 : decode cX7_set 45 = .ok (.ireturn, 1) := by decide +kernel
theorem dX7_promise_0 : decode cX7_promise 0 = .ok (.aload_n 0, 1) := by decide +kernel
theorem dX7_promise_1 : decode cX7_promise 1 = .ok (.iload_n 1, 1) := by decide +kernel
theorem dX7_promise_2 : decode cX7_promise 2 = .ok (.iload_n 2, 1) := by decide +kernel
theorem dX7_promise_3 : decode cX7_promise 3 = .ok (.iload_n 3, 1) := by decide +kernel
theorem dX7_promise_4 : decode cX7_promise 4 = .ok (.iload 4, 2) := by decide +kernel
theorem dX7_promise_6 : decode cX7_promise 6 = .ok (.invokestatic 112, 3) := by decide +kernel
theorem dX7_promise_9 : decode cX7_promise 9 = .ok (.invokevirtual 92, 3) := by decide +kernel
theorem dX7_promise_12 : decode cX7_promise 12 = .ok (.ifCond .ne 5, 3) := by decide +kernel
theorem dX7_promise_15 : decode cX7_promise 15 = .ok (.iconst 0, 1) := by decide +kernel
theorem dX7_promise_16 : decode cX7_promise 16 = .ok (.ireturn, 1) := by decide +kernel
theorem dX7_promise_17 : decode cX7_promise 17 = .ok (.aload_n 0, 1) := by decide +kernel
theorem dX7_promise_18 : decode cX7_promise 18 = .ok (.invokevirtual 95, 3) := by decide +kernel
theorem dX7_promise_21 : decode cX7_promise 21 = .ok (.aload_n 0, 1) := by decide +kernel
theorem dX7_promise_22 : decode cX7_promise 22 = .ok (.iload_n 1, 1) := by decide +kernel
theorem dX7_promise_23 : decode cX7_promise 23 = .ok (.iload_n 2, 1) := by decide +kernel
theorem dX7_promise_24 : decode cX7_promise 24 = .ok (.iload_n 3, 1) := by decide +kernel
theorem dX7_promise_25 : decode cX7_promise 25 = .ok (.iload 4, 2) := by decide +kernel
theorem dX7_promise_27 : decode cX7_promise 27 = .ok (.invokevirtual 116, 3) := by decide +kernel
theorem dX7_promise_30 : decode cX7_promise 30 = .ok (.ireturn, 1) := by decide +kernel
theorem dX7_fulfil_0 : decode cX7_fulfil 0 = .ok (.aload_n 0, 1) := by decide +kernel
theorem dX7_fulfil_1 : decode cX7_fulfil 1 = .ok (.aload_n 0, 1) := by decide +kernel
theorem dX7_fulfil_2 : decode cX7_fulfil 2 = .ok (.iload_n 1, 1) := by decide +kernel
theorem dX7_fulfil_3 : decode cX7_fulfil 3 = .ok (.invokevirtual 119, 3) := by decide +kernel
theorem dX7_fulfil_6 : decode cX7_fulfil 6 = .ok (.ifCond .eq 7, 3) := by decide +kernel
theorem dX7_fulfil_9 : decode cX7_fulfil 9 = .ok (.iconst 0, 1) := by decide +kernel
theorem dX7_fulfil_10 : decode cX7_fulfil 10 = .ok (.goto 4, 3) := by decide +kernel
theorem dX7_fulfil_13 : decode cX7_fulfil 13 = .ok (.iconst 1, 1) := by decide +kernel
theorem dX7_fulfil_14 : decode cX7_fulfil 14 = .ok (.invokevirtual 92, 3) := by decide +kernel
theorem dX7_fulfil_17 : decode cX7_fulfil 17 = .ok (.ifCond .ne 5, 3) := by decide +kernel
theorem dX7_fulfil_20 : decode cX7_fulfil 20 = .ok (.iconst 0, 1) := by decide +kernel
theorem dX7_fulfil_21 : decode cX7_fulfil 21 = .ok (.ireturn, 1) := by decide +kernel
theorem dX7_fulfil_22 : decode cX7_fulfil 22 = .ok (.aload_n 0, 1) := by decide +kernel
theorem dX7_fulfil_23 : decode cX7_fulfil 23 = .ok (.invokevirtual 95, 3) := by decide +kernel
theorem dX7_fulfil_26 : decode cX7_fulfil 26 = .ok (.aload_n 0, 1) := by decide +kernel
theorem dX7_fulfil_27 : decode cX7_fulfil 27 = .ok (.iload_n 1, 1) := by decide +kernel
theorem dX7_fulfil_28 : decode cX7_fulfil 28 = .ok (.invokevirtual 122, 3) := by decide +kernel
theorem dX7_fulfil_31 : decode cX7_fulfil 31 = .ok (.ireturn, 1) := by decide +kernel
theorem dX7_append_0 : decode cX7_append 0 = .ok (.aload_n 0, 1) := by decide +kernel
theorem dX7_append_1 : decode cX7_append 1 = .ok (.iload_n 1, 1) := by decide +kernel
theorem dX7_append_2 : decode cX7_append 2 = .ok (.bipush 33, 2) := by decide +kernel
theorem dX7_append_4 : decode cX7_append 4 = .ok (.bipush 126, 2) := by decide +kernel
theorem dX7_append_6 : decode cX7_append 6 = .ok (.invokestatic 39, 3) := by decide +kernel
theorem dX7_append_9 : decode cX7_append 9 = .ok (.ifCond .ne 7, 3) := by decide +kernel
theorem dX7_append_12 : decode cX7_append 12 = .ok (.iconst 1, 1) := by decide +kernel
theorem dX7_append_13 : decode cX7_append 13 = .ok (.goto 17, 3) := by decide +kernel
theorem dX7_append_16 : decode cX7_append 16 = .ok (.aload_n 0, 1) := by decide +kernel
theorem dX7_append_17 : decode cX7_append 17 = .ok (.getfield 125, 3) := by decide +kernel
theorem dX7_append_20 : decode cX7_append 20 = .ok (.bipush 60, 2) := by decide +kernel
theorem dX7_append_22 : decode cX7_append 22 = .ok (.if_icmp .ne 7, 3) := by decide +kernel
theorem dX7_append_25 : decode cX7_append 25 = .ok (.iconst 2, 1) := by decide +kernel
theorem dX7_append_26 : decode cX7_append 26 = .ok (.goto 4, 3) := by decide +kernel
theorem dX7_append_29 : decode cX7_append 29 = .ok (.iconst 0, 1) := by decide +kernel
theorem dX7_append_30 : decode cX7_append 30 = .ok (.invokevirtual 92, 3) := by decide +kernel
theorem dX7_append_33 : decode cX7_append 33 = .ok (.ifCond .ne 5, 3) := by decide +kernel
theorem dX7_append_36 : decode cX7_append 36 = .ok (.iconst 0, 1) := by decide +kernel
theorem dX7_append_37 : decode cX7_append 37 = .ok (.ireturn, 1) := by decide +kernel
theorem dX7_append_38 : decode cX7_append 38 = .ok (.aload_n 0, 1) := by decide +kernel
theorem dX7_append_39 : decode cX7_append 39 = .ok (.getfield 23, 3) := by decide +kernel
theorem dX7_append_42 : decode cX7_append 42 = .ok (.aload_n 0, 1) := by decide +kernel
theorem dX7_append_43 : decode cX7_append 43 = .ok (.getfield 125, 3) := by decide +kernel
theorem dX7_append_46 : decode cX7_append 46 = .ok (.iload_n 1, 1) := by decide +kernel
theorem dX7_append_47 : decode cX7_append 47 = .ok (.iastore, 1) := by decide +kernel
theorem dX7_append_48 : decode cX7_append 48 = .ok (.aload_n 0, 1) := by decide +kernel
theorem dX7_append_49 : decode cX7_append 49 = .ok (.dup, 1) := by decide +kernel
theorem dX7_append_50 : decode cX7_append 50 = .ok (.getfield 125, 3) := by decide +kernel
theorem dX7_append_53 : decode cX7_append 53 = .ok (.iconst 1, 1) := by decide +kernel
theorem dX7_append_54 : decode cX7_append 54 = .ok (.iadd, 1) := by decide +kernel
theorem dX7_append_55 : decode cX7_append 55 = .ok (.putfield 125, 3) := by decide +kernel
theorem dX7_append_58 : decode cX7_append 58 = .ok (.aload_n 0, 1) := by decide +kernel
theorem dX7_append_59 : decode cX7_append 59 = .ok (.getfield 125, 3) := by decide +kernel
theorem dX7_append_62 : decode cX7_append 62 = .ok (.ireturn, 1) := by decide +kernel
theorem dX7_clearBuffer_0 : decode cX7_clearBuffer 0 = .ok (.aload_n 0, 1) := by decide +kernel
theorem dX7_clearBuffer_1 : decode cX7_clearBuffer 1 = .ok (.iconst 0, 1) := by decide +kernel
theorem dX7_clearBuffer_2 : decode cX7_clearBuffer 2 = .ok (.putfield 35, 3) := by decide +kernel
theorem dX7_clearBuffer_5 : decode cX7_clearBuffer 5 = .ok (.aload_n 0, 1) := by decide +kernel
theorem dX7_clearBuffer_6 : decode cX7_clearBuffer 6 = .ok (.getfield 125, 3) := by decide +kernel
theorem dX7_clearBuffer_9 : decode cX7_clearBuffer 9 = .ok (.istore_n 1, 1) := by decide +kernel
theorem dX7_clearBuffer_10 : decode cX7_clearBuffer 10 = .ok (.aload_n 0, 1) := by decide +kernel
theorem dX7_clearBuffer_11 : decode cX7_clearBuffer 11 = .ok (.iconst 0, 1) := by decide +kernel
theorem dX7_clearBuffer_12 : decode cX7_clearBuffer 12 = .ok (.putfield 125, 3) := by decide +kernel
theorem dX7_clearBuffer_15 : decode cX7_clearBuffer 15 = .ok (.iload_n 1, 1) := by decide +kernel
theorem dX7_clearBuffer_16 : decode cX7_clearBuffer 16 = .ok (.ireturn, 1) := by decide +kernel
theorem dX7_isNext_0 : decode cX7_isNext 0 = .ok (.aload_n 0, 1) := by decide +kernel
theorem dX7_isNext_1 : decode cX7_isNext 1 = .ok (.getfield 128, 3) := by decide +kernel
theorem dX7_isNext_4 : decode cX7_isNext 4 = .ok (.aload_n 0, 1) := by decide +kernel
theorem dX7_isNext_5 : decode cX7_isNext 5 = .ok (.getfield 125, 3) := by decide +kernel
theorem dX7_isNext_8 : decode cX7_isNext 8 = .ok (.if_icmp .ge 24, 3) := by decide +kernel
theorem dX7_isNext_11 : decode cX7_isNext 11 = .ok (.aload_n 0, 1) := by decide +kernel
theorem dX7_isNext_12 : decode cX7_isNext 12 = .ok (.getfield 23, 3) := by decide +kernel
theorem dX7_isNext_15 : decode cX7_isNext 15 = .ok (.aload_n 0, 1) := by decide +kernel
theorem dX7_isNext_16 : decode cX7_isNext 16 = .ok (.getfield 128, 3) := by decide +kernel
theorem dX7_isNext_19 : decode cX7_isNext 19 = .ok (.iaload, 1) := by decide +kernel
theorem dX7_isNext_20 : decode cX7_isNext 20 = .ok (.iload_n 1, 1) := by decide +kernel
theorem dX7_isNext_21 : decode cX7_isNext 21 = .ok (.iload_n 2, 1) := by decide +kernel
theorem dX7_isNext_22 : decode cX7_isNext 22 = .ok (.invokestatic 39, 3) := by decide +kernel
theorem dX7_isNext_25 : decode cX7_isNext 25 = .ok (.ifCond .eq 7, 3) := by decide +kernel
theorem dX7_isNext_28 : decode cX7_isNext 28 = .ok (.iconst 1, 1) := by decide +kernel
theorem dX7_isNext_29 : decode cX7_isNext 29 = .ok (.goto 4, 3) := by decide +kernel
theorem dX7_isNext_32 : decode cX7_isNext 32 = .ok (.iconst 0, 1) := by decide +kernel
theorem dX7_isNext_33 : decode cX7_isNext 33 = .ok (.ireturn, 1) := by decide +kernel
theorem dX7_takes_0 : decode cX7_takes 0 = .ok (.aload_n 0, 1) := by decide +kernel
theorem dX7_takes_1 : decode cX7_takes 1 = .ok (.iload_n 1, 1) := by decide +kernel
theorem dX7_takes_2 : decode cX7_takes 2 = .ok (.iload_n 1, 1) := by decide +kernel
theorem dX7_takes_3 : decode cX7_takes 3 = .ok (.invokevirtual 131, 3) := by decide +kernel
theorem dX7_takes_6 : decode cX7_takes 6 = .ok (.istore_n 2, 1) := by decide +kernel
theorem dX7_takes_7 : decode cX7_takes 7 = .ok (.aload_n 0, 1) := by decide +kernel
theorem dX7_takes_8 : decode cX7_takes 8 = .ok (.dup, 1) := by decide +kernel
theorem dX7_takes_9 : decode cX7_takes 9 = .ok (.getfield 128, 3) := by decide +kernel
theorem dX7_takes_12 : decode cX7_takes 12 = .ok (.iload_n 2, 1) := by decide +kernel
theorem dX7_takes_13 : decode cX7_takes 13 = .ok (.ifCond .eq 7, 3) := by decide +kernel
theorem dX7_takes_16 : decode cX7_takes 16 = .ok (.iconst 1, 1) := by decide +kernel
theorem dX7_takes_17 : decode cX7_takes 17 = .ok (.goto 4, 3) := by decide +kernel
theorem dX7_takes_20 : decode cX7_takes 20 = .ok (.iconst 0, 1) := by decide +kernel
theorem dX7_takes_21 : decode cX7_takes 21 = .ok (.iadd, 1) := by decide +kernel
theorem dX7_takes_22 : decode cX7_takes 22 = .ok (.putfield 128, 3) := by decide +kernel
theorem dX7_takes_25 : decode cX7_takes 25 = .ok (.iload_n 2, 1) := by decide +kernel
theorem dX7_takes_26 : decode cX7_takes 26 = .ok (.ireturn, 1) := by decide +kernel
theorem dX7_readDigit_0 : decode cX7_readDigit 0 = .ok (.aload_n 0, 1) := by decide +kernel
theorem dX7_readDigit_1 : decode cX7_readDigit 1 = .ok (.bipush 48, 2) := by decide +kernel
theorem dX7_readDigit_3 : decode cX7_readDigit 3 = .ok (.bipush 48, 2) := by decide +kernel
theorem dX7_readDigit_5 : decode cX7_readDigit 5 = .ok (.iload_n 2, 1) := by decide +kernel
theorem dX7_readDigit_6 : decode cX7_readDigit 6 = .ok (.iadd, 1) := by decide +kernel
theorem dX7_readDigit_7 : decode cX7_readDigit 7 = .ok (.invokevirtual 131, 3) := by decide +kernel
theorem dX7_readDigit_10 : decode cX7_readDigit 10 = .ok (.istore_n 3, 1) := by decide +kernel
theorem dX7_readDigit_11 : decode cX7_readDigit 11 = .ok (.aload_n 0, 1) := by decide +kernel
theorem dX7_readDigit_12 : decode cX7_readDigit 12 = .ok (.getfield 32, 3) := by decide +kernel
theorem dX7_readDigit_15 : decode cX7_readDigit 15 = .ok (.iload_n 1, 1) := by decide +kernel
theorem dX7_readDigit_16 : decode cX7_readDigit 16 = .ok (.iload_n 3, 1) := by decide +kernel
theorem dX7_readDigit_17 : decode cX7_readDigit 17 = .ok (.ifCond .eq 18, 3) := by decide +kernel
theorem dX7_readDigit_20 : decode cX7_readDigit 20 = .ok (.aload_n 0, 1) := by decide +kernel
theorem dX7_readDigit_21 : decode cX7_readDigit 21 = .ok (.getfield 23, 3) := by decide +kernel
theorem dX7_readDigit_24 : decode cX7_readDigit 24 = .ok (.aload_n 0, 1) := by decide +kernel
theorem dX7_readDigit_25 : decode cX7_readDigit 25 = .ok (.getfield 128, 3) := by decide +kernel
theorem dX7_readDigit_28 : decode cX7_readDigit 28 = .ok (.iaload, 1) := by decide +kernel
theorem dX7_readDigit_29 : decode cX7_readDigit 29 = .ok (.bipush 48, 2) := by decide +kernel
theorem dX7_readDigit_31 : decode cX7_readDigit 31 = .ok (.isub, 1) := by decide +kernel
theorem dX7_readDigit_32 : decode cX7_readDigit 32 = .ok (.goto 4, 3) := by decide +kernel
theorem dX7_readDigit_35 : decode cX7_readDigit 35 = .ok (.iconst 0, 1) := by decide +kernel
theorem dX7_readDigit_36 : decode cX7_readDigit 36 = .ok (.iastore, 1) := by decide +kernel
theorem dX7_readDigit_37 : decode cX7_readDigit 37 = .ok (.aload_n 0, 1) := by decide +kernel
theorem dX7_readDigit_38 : decode cX7_readDigit 38 = .ok (.dup, 1) := by decide +kernel
theorem dX7_readDigit_39 : decode cX7_readDigit 39 = .ok (.getfield 128, 3) := by decide +kernel
theorem dX7_readDigit_42 : decode cX7_readDigit 42 = .ok (.iload_n 3, 1) := by decide +kernel
theorem dX7_readDigit_43 : decode cX7_readDigit 43 = .ok (.ifCond .eq 7, 3) := by decide +kernel
theorem dX7_readDigit_46 : decode cX7_readDigit 46 = .ok (.iconst 1, 1) := by decide +kernel
theorem dX7_readDigit_47 : decode cX7_readDigit 47 = .ok (.goto 4, 3) := by decide +kernel
theorem dX7_readDigit_50 : decode cX7_readDigit 50 = .ok (.iconst 0, 1) := by decide +kernel
theorem dX7_readDigit_51 : decode cX7_readDigit 51 = .ok (.iadd, 1) := by decide +kernel
theorem dX7_readDigit_52 : decode cX7_readDigit 52 = .ok (.putfield 128, 3) := by decide +kernel
theorem dX7_readDigit_55 : decode cX7_readDigit 55 = .ok (.iload_n 3, 1) := by decide +kernel
theorem dX7_readDigit_56 : decode cX7_readDigit 56 = .ok (.ireturn, 1) := by decide +kernel
theorem dX7_readOther_0 : decode cX7_readOther 0 = .ok (.aload_n 0, 1) := by decide +kernel
theorem dX7_readOther_1 : decode cX7_readOther 1 = .ok (.bipush 48, 2) := by decide +kernel
theorem dX7_readOther_3 : decode cX7_readOther 3 = .ok (.aload_n 0, 1) := by decide +kernel
theorem dX7_readOther_4 : decode cX7_readOther 4 = .ok (.getfield 32, 3) := by decide +kernel
theorem dX7_readOther_7 : decode cX7_readOther 7 = .ok (.iconst 0, 1) := by decide +kernel
theorem dX7_readOther_8 : decode cX7_readOther 8 = .ok (.iaload, 1) := by decide +kernel
theorem dX7_readOther_9 : decode cX7_readOther 9 = .ok (.iadd, 1) := by decide +kernel
theorem dX7_readOther_10 : decode cX7_readOther 10 = .ok (.bipush 48, 2) := by decide +kernel
theorem dX7_readOther_12 : decode cX7_readOther 12 = .ok (.aload_n 0, 1) := by decide +kernel
theorem dX7_readOther_13 : decode cX7_readOther 13 = .ok (.getfield 32, 3) := by decide +kernel
theorem dX7_readOther_16 : decode cX7_readOther 16 = .ok (.iconst 0, 1) := by decide +kernel
theorem dX7_readOther_17 : decode cX7_readOther 17 = .ok (.iaload, 1) := by decide +kernel
theorem dX7_readOther_18 : decode cX7_readOther 18 = .ok (.iadd, 1) := by decide +kernel
theorem dX7_readOther_19 : decode cX7_readOther 19 = .ok (.invokevirtual 131, 3) := by decide +kernel
theorem dX7_readOther_22 : decode cX7_readOther 22 = .ok (.ifCond .ne 17, 3) := by decide +kernel
theorem dX7_readOther_25 : decode cX7_readOther 25 = .ok (.aload_n 0, 1) := by decide +kernel
theorem dX7_readOther_26 : decode cX7_readOther 26 = .ok (.iconst 1, 1) := by decide +kernel
theorem dX7_readOther_27 : decode cX7_readOther 27 = .ok (.bipush 7, 2) := by decide +kernel
theorem dX7_readOther_29 : decode cX7_readOther 29 = .ok (.invokevirtual 135, 3) := by decide +kernel
theorem dX7_readOther_32 : decode cX7_readOther 32 = .ok (.ifCond .eq 7, 3) := by decide +kernel
theorem dX7_readOther_35 : decode cX7_readOther 35 = .ok (.iconst 1, 1) := by decide +kernel
theorem dX7_readOther_36 : decode cX7_readOther 36 = .ok (.goto 4, 3) := by decide +kernel
theorem dX7_readOther_39 : decode cX7_readOther 39 = .ok (.iconst 0, 1) := by decide +kernel
theorem dX7_readOther_40 : decode cX7_readOther 40 = .ok (.ireturn, 1) := by decide +kernel
theorem dX7_readSum_0 : decode cX7_readSum 0 = .ok (.aload_n 0, 1) := by decide +kernel
theorem dX7_readSum_1 : decode cX7_readSum 1 = .ok (.bipush 49, 2) := by decide +kernel
theorem dX7_readSum_3 : decode cX7_readSum 3 = .ok (.bipush 57, 2) := by decide +kernel
theorem dX7_readSum_5 : decode cX7_readSum 5 = .ok (.invokevirtual 131, 3) := by decide +kernel
theorem dX7_readSum_8 : decode cX7_readSum 8 = .ok (.ifCond .ne 5, 3) := by decide +kernel
theorem dX7_readSum_11 : decode cX7_readSum 11 = .ok (.iconst 0, 1) := by decide +kernel
theorem dX7_readSum_12 : decode cX7_readSum 12 = .ok (.ireturn, 1) := by decide +kernel
theorem dX7_readSum_13 : decode cX7_readSum 13 = .ok (.aload_n 0, 1) := by decide +kernel
theorem dX7_readSum_14 : decode cX7_readSum 14 = .ok (.getfield 32, 3) := by decide +kernel
theorem dX7_readSum_17 : decode cX7_readSum 17 = .ok (.iconst 2, 1) := by decide +kernel
theorem dX7_readSum_18 : decode cX7_readSum 18 = .ok (.aload_n 0, 1) := by decide +kernel
theorem dX7_readSum_19 : decode cX7_readSum 19 = .ok (.getfield 23, 3) := by decide +kernel
theorem dX7_readSum_22 : decode cX7_readSum 22 = .ok (.aload_n 0, 1) := by decide +kernel
theorem dX7_readSum_23 : decode cX7_readSum 23 = .ok (.getfield 128, 3) := by decide +kernel
theorem dX7_readSum_26 : decode cX7_readSum 26 = .ok (.iaload, 1) := by decide +kernel
theorem dX7_readSum_27 : decode cX7_readSum 27 = .ok (.bipush 48, 2) := by decide +kernel
theorem dX7_readSum_29 : decode cX7_readSum 29 = .ok (.isub, 1) := by decide +kernel
theorem dX7_readSum_30 : decode cX7_readSum 30 = .ok (.iastore, 1) := by decide +kernel
theorem dX7_readSum_31 : decode cX7_readSum 31 = .ok (.aload_n 0, 1) := by decide +kernel
theorem dX7_readSum_32 : decode cX7_readSum 32 = .ok (.dup, 1) := by decide +kernel
theorem dX7_readSum_33 : decode cX7_readSum 33 = .ok (.getfield 128, 3) := by decide +kernel
theorem dX7_readSum_36 : decode cX7_readSum 36 = .ok (.iconst 1, 1) := by decide +kernel
theorem dX7_readSum_37 : decode cX7_readSum 37 = .ok (.iadd, 1) := by decide +kernel
theorem dX7_readSum_38 : decode cX7_readSum 38 = .ok (.putfield 128, 3) := by decide +kernel
theorem dX7_readSum_41 : decode cX7_readSum 41 = .ok (.aload_n 0, 1) := by decide +kernel
theorem dX7_readSum_42 : decode cX7_readSum 42 = .ok (.bipush 48, 2) := by decide +kernel
theorem dX7_readSum_44 : decode cX7_readSum 44 = .ok (.bipush 57, 2) := by decide +kernel
theorem dX7_readSum_46 : decode cX7_readSum 46 = .ok (.invokevirtual 131, 3) := by decide +kernel
theorem dX7_readSum_49 : decode cX7_readSum 49 = .ok (.ifCond .eq 41, 3) := by decide +kernel
theorem dX7_readSum_52 : decode cX7_readSum 52 = .ok (.aload_n 0, 1) := by decide +kernel
theorem dX7_readSum_53 : decode cX7_readSum 53 = .ok (.getfield 32, 3) := by decide +kernel
theorem dX7_readSum_56 : decode cX7_readSum 56 = .ok (.iconst 2, 1) := by decide +kernel
theorem dX7_readSum_57 : decode cX7_readSum 57 = .ok (.bipush 10, 2) := by decide +kernel
theorem dX7_readSum_59 : decode cX7_readSum 59 = .ok (.aload_n 0, 1) := by decide +kernel
theorem dX7_readSum_60 : decode cX7_readSum 60 = .ok (.getfield 32, 3) := by decide +kernel
theorem dX7_readSum_63 : decode cX7_readSum 63 = .ok (.iconst 2, 1) := by decide +kernel
theorem dX7_readSum_64 : decode cX7_readSum 64 = .ok (.iaload, 1) := by decide +kernel
theorem dX7_readSum_65 : decode cX7_readSum 65 = .ok (.imul, 1) := by decide +kernel
theorem dX7_readSum_66 : decode cX7_readSum 66 = .ok (.aload_n 0, 1) := by decide +kernel
theorem dX7_readSum_67 : decode cX7_readSum 67 = .ok (.getfield 23, 3) := by decide +kernel
theorem dX7_readSum_70 : decode cX7_readSum 70 = .ok (.aload_n 0, 1) := by decide +kernel
theorem dX7_readSum_71 : decode cX7_readSum 71 = .ok (.getfield 128, 3) := by decide +kernel
theorem dX7_readSum_74 : decode cX7_readSum 74 = .ok (.iaload, 1) := by decide +kernel
theorem dX7_readSum_75 : decode cX7_readSum 75 = .ok (.iadd, 1) := by decide +kernel
theorem dX7_readSum_76 : decode cX7_readSum 76 = .ok (.bipush 48, 2) := by decide +kernel
theorem dX7_readSum_78 : decode cX7_readSum 78 = .ok (.isub, 1) := by decide +kernel
theorem dX7_readSum_79 : decode cX7_readSum 79 = .ok (.iastore, 1) := by decide +kernel
theorem dX7_readSum_80 : decode cX7_readSum 80 = .ok (.aload_n 0, 1) := by decide +kernel
theorem dX7_readSum_81 : decode cX7_readSum 81 = .ok (.dup, 1) := by decide +kernel
theorem dX7_readSum_82 : decode cX7_readSum 82 = .ok (.getfield 128, 3) := by decide +kernel
theorem dX7_readSum_85 : decode cX7_readSum 85 = .ok (.iconst 1, 1) := by decide +kernel
theorem dX7_readSum_86 : decode cX7_readSum 86 = .ok (.iadd, 1) := by decide +kernel
theorem dX7_readSum_87 : decode cX7_readSum 87 = .ok (.putfield 128, 3) := by decide +kernel
theorem dX7_readSum_90 : decode cX7_readSum 90 = .ok (.iconst 1, 1) := by decide +kernel
theorem dX7_readSum_91 : decode cX7_readSum 91 = .ok (.ireturn, 1) := by decide +kernel
theorem dX7_readOrder_0 : decode cX7_readOrder 0 = .ok (.aload_n 0, 1) := by decide +kernel
theorem dX7_readOrder_1 : decode cX7_readOrder 1 = .ok (.aload_n 0, 1) := by decide +kernel
theorem dX7_readOrder_2 : decode cX7_readOrder 2 = .ok (.getfield 128, 3) := by decide +kernel
theorem dX7_readOrder_5 : decode cX7_readOrder 5 = .ok (.aload_n 0, 1) := by decide +kernel
theorem dX7_readOrder_6 : decode cX7_readOrder 6 = .ok (.getfield 125, 3) := by decide +kernel
theorem dX7_readOrder_9 : decode cX7_readOrder 9 = .ok (.if_icmp .ge 15, 3) := by decide +kernel
theorem dX7_readOrder_12 : decode cX7_readOrder 12 = .ok (.aload_n 0, 1) := by decide +kernel
theorem dX7_readOrder_13 : decode cX7_readOrder 13 = .ok (.getfield 23, 3) := by decide +kernel
theorem dX7_readOrder_16 : decode cX7_readOrder 16 = .ok (.aload_n 0, 1) := by decide +kernel
theorem dX7_readOrder_17 : decode cX7_readOrder 17 = .ok (.getfield 128, 3) := by decide +kernel
theorem dX7_readOrder_20 : decode cX7_readOrder 20 = .ok (.iaload, 1) := by decide +kernel
theorem dX7_readOrder_21 : decode cX7_readOrder 21 = .ok (.goto 4, 3) := by decide +kernel
theorem dX7_readOrder_24 : decode cX7_readOrder 24 = .ok (.iconst 0, 1) := by decide +kernel
theorem dX7_readOrder_25 : decode cX7_readOrder 25 = .ok (.putfield 138, 3) := by decide +kernel
theorem dX7_readOrder_28 : decode cX7_readOrder 28 = .ok (.aload_n 0, 1) := by decide +kernel
theorem dX7_readOrder_29 : decode cX7_readOrder 29 = .ok (.dup, 1) := by decide +kernel
theorem dX7_readOrder_30 : decode cX7_readOrder 30 = .ok (.getfield 128, 3) := by decide +kernel
theorem dX7_readOrder_33 : decode cX7_readOrder 33 = .ok (.iconst 1, 1) := by decide +kernel
theorem dX7_readOrder_34 : decode cX7_readOrder 34 = .ok (.iadd, 1) := by decide +kernel
theorem dX7_readOrder_35 : decode cX7_readOrder 35 = .ok (.putfield 128, 3) := by decide +kernel
theorem dX7_readOrder_38 : decode cX7_readOrder 38 = .ok (.aload_n 0, 1) := by decide +kernel
theorem dX7_readOrder_39 : decode cX7_readOrder 39 = .ok (.getfield 138, 3) := by decide +kernel
theorem dX7_readOrder_42 : decode cX7_readOrder 42 = .ok (.lookupswitch 136 #[(107, 128), (112, 70), (115, 42), (120, 44)], 42) := by decide +kernel
theorem dX7_readOrder_84 : decode cX7_readOrder 84 = .ok (.iconst 1, 1) := by decide +kernel
theorem dX7_readOrder_85 : decode cX7_readOrder 85 = .ok (.ireturn, 1) := by decide +kernel
theorem dX7_readOrder_86 : decode cX7_readOrder 86 = .ok (.aload_n 0, 1) := by decide +kernel
theorem dX7_readOrder_87 : decode cX7_readOrder 87 = .ok (.iconst 0, 1) := by decide +kernel
theorem dX7_readOrder_88 : decode cX7_readOrder 88 = .ok (.bipush 7, 2) := by decide +kernel
theorem dX7_readOrder_90 : decode cX7_readOrder 90 = .ok (.invokevirtual 135, 3) := by decide +kernel
theorem dX7_readOrder_93 : decode cX7_readOrder 93 = .ok (.ifCond .eq 17, 3) := by decide +kernel
theorem dX7_readOrder_96 : decode cX7_readOrder 96 = .ok (.aload_n 0, 1) := by decide +kernel
theorem dX7_readOrder_97 : decode cX7_readOrder 97 = .ok (.iconst 1, 1) := by decide +kernel
theorem dX7_readOrder_98 : decode cX7_readOrder 98 = .ok (.bipush 7, 2) := by decide +kernel
theorem dX7_readOrder_100 : decode cX7_readOrder 100 = .ok (.invokevirtual 135, 3) := by decide +kernel
theorem dX7_readOrder_103 : decode cX7_readOrder 103 = .ok (.ifCond .eq 7, 3) := by decide +kernel
theorem dX7_readOrder_106 : decode cX7_readOrder 106 = .ok (.iconst 1, 1) := by decide +kernel
theorem dX7_readOrder_107 : decode cX7_readOrder 107 = .ok (.goto 4, 3) := by decide +kernel
theorem dX7_readOrder_110 : decode cX7_readOrder 110 = .ok (.iconst 0, 1) := by decide +kernel
theorem dX7_readOrder_111 : decode cX7_readOrder 111 = .ok (.ireturn, 1) := by decide +kernel
theorem dX7_readOrder_112 : decode cX7_readOrder 112 = .ok (.aload_n 0, 1) := by decide +kernel
theorem dX7_readOrder_113 : decode cX7_readOrder 113 = .ok (.iconst 0, 1) := by decide +kernel
theorem dX7_readOrder_114 : decode cX7_readOrder 114 = .ok (.bipush 7, 2) := by decide +kernel
theorem dX7_readOrder_116 : decode cX7_readOrder 116 = .ok (.invokevirtual 135, 3) := by decide +kernel
theorem dX7_readOrder_119 : decode cX7_readOrder 119 = .ok (.ifCond .eq 49, 3) := by decide +kernel
theorem dX7_readOrder_122 : decode cX7_readOrder 122 = .ok (.aload_n 0, 1) := by decide +kernel
theorem dX7_readOrder_123 : decode cX7_readOrder 123 = .ok (.invokevirtual 141, 3) := by decide +kernel
theorem dX7_readOrder_126 : decode cX7_readOrder 126 = .ok (.ifCond .eq 42, 3) := by decide +kernel
theorem dX7_readOrder_129 : decode cX7_readOrder 129 = .ok (.aload_n 0, 1) := by decide +kernel
theorem dX7_readOrder_130 : decode cX7_readOrder 130 = .ok (.bipush 61, 2) := by decide +kernel
theorem dX7_readOrder_132 : decode cX7_readOrder 132 = .ok (.invokevirtual 145, 3) := by decide +kernel
theorem dX7_readOrder_135 : decode cX7_readOrder 135 = .ok (.ifCond .eq 33, 3) := by decide +kernel
theorem dX7_readOrder_138 : decode cX7_readOrder 138 = .ok (.aload_n 0, 1) := by decide +kernel
theorem dX7_readOrder_139 : decode cX7_readOrder 139 = .ok (.invokevirtual 148, 3) := by decide +kernel
theorem dX7_readOrder_142 : decode cX7_readOrder 142 = .ok (.ifCond .eq 26, 3) := by decide +kernel
theorem dX7_readOrder_145 : decode cX7_readOrder 145 = .ok (.aload_n 0, 1) := by decide +kernel
theorem dX7_readOrder_146 : decode cX7_readOrder 146 = .ok (.bipush 47, 2) := by decide +kernel
theorem dX7_readOrder_148 : decode cX7_readOrder 148 = .ok (.invokevirtual 145, 3) := by decide +kernel
theorem dX7_readOrder_151 : decode cX7_readOrder 151 = .ok (.ifCond .eq 17, 3) := by decide +kernel
theorem dX7_readOrder_154 : decode cX7_readOrder 154 = .ok (.aload_n 0, 1) := by decide +kernel
theorem dX7_readOrder_155 : decode cX7_readOrder 155 = .ok (.iconst 3, 1) := by decide +kernel
theorem dX7_readOrder_156 : decode cX7_readOrder 156 = .ok (.bipush 9, 2) := by decide +kernel
theorem dX7_readOrder_158 : decode cX7_readOrder 158 = .ok (.invokevirtual 135, 3) := by decide +kernel
theorem dX7_readOrder_161 : decode cX7_readOrder 161 = .ok (.ifCond .eq 7, 3) := by decide +kernel
theorem dX7_readOrder_164 : decode cX7_readOrder 164 = .ok (.iconst 1, 1) := by decide +kernel
theorem dX7_readOrder_165 : decode cX7_readOrder 165 = .ok (.goto 4, 3) := by decide +kernel
theorem dX7_readOrder_168 : decode cX7_readOrder 168 = .ok (.iconst 0, 1) := by decide +kernel
theorem dX7_readOrder_169 : decode cX7_readOrder 169 = .ok (.ireturn, 1) := by decide +kernel
theorem dX7_readOrder_170 : decode cX7_readOrder 170 = .ok (.aload_n 0, 1) := by decide +kernel
theorem dX7_readOrder_171 : decode cX7_readOrder 171 = .ok (.iconst 0, 1) := by decide +kernel
theorem dX7_readOrder_172 : decode cX7_readOrder 172 = .ok (.bipush 7, 2) := by decide +kernel
theorem dX7_readOrder_174 : decode cX7_readOrder 174 = .ok (.invokevirtual 135, 3) := by decide +kernel
theorem dX7_readOrder_177 : decode cX7_readOrder 177 = .ok (.ireturn, 1) := by decide +kernel
theorem dX7_readOrder_178 : decode cX7_readOrder 178 = .ok (.aload_n 0, 1) := by decide +kernel
theorem dX7_readOrder_179 : decode cX7_readOrder 179 = .ok (.dup, 1) := by decide +kernel
theorem dX7_readOrder_180 : decode cX7_readOrder 180 = .ok (.getfield 128, 3) := by decide +kernel
theorem dX7_readOrder_183 : decode cX7_readOrder 183 = .ok (.iconst 1, 1) := by decide +kernel
theorem dX7_readOrder_184 : decode cX7_readOrder 184 = .ok (.isub, 1) := by decide +kernel
theorem dX7_readOrder_185 : decode cX7_readOrder 185 = .ok (.putfield 128, 3) := by decide +kernel
theorem dX7_readOrder_188 : decode cX7_readOrder 188 = .ok (.iconst 0, 1) := by decide +kernel
theorem dX7_readOrder_189 : decode cX7_readOrder 189 = .ok (.ireturn, 1) := by decide +kernel
theorem dX7_does_0 : decode cX7_does 0 = .ok (.aload_n 0, 1) := by decide +kernel
theorem dX7_does_1 : decode cX7_does 1 = .ok (.getfield 138, 3) := by decide +kernel
theorem dX7_does_4 : decode cX7_does 4 = .ok (.lookupswitch 154 #[(112, 86), (115, 36), (120, 61)], 36) := by decide +kernel
theorem dX7_does_40 : decode cX7_does 40 = .ok (.aload_n 0, 1) := by decide +kernel
theorem dX7_does_41 : decode cX7_does 41 = .ok (.getfield 7, 3) := by decide +kernel
theorem dX7_does_44 : decode cX7_does 44 = .ok (.iconst 0, 1) := by decide +kernel
theorem dX7_does_45 : decode cX7_does 45 = .ok (.iaload, 1) := by decide +kernel
theorem dX7_does_46 : decode cX7_does 46 = .ok (.sipush 9999, 3) := by decide +kernel
theorem dX7_does_49 : decode cX7_does 49 = .ok (.if_icmp .ge 14, 3) := by decide +kernel
theorem dX7_does_52 : decode cX7_does 52 = .ok (.aload_n 0, 1) := by decide +kernel
theorem dX7_does_53 : decode cX7_does 53 = .ok (.invokevirtual 98, 3) := by decide +kernel
theorem dX7_does_56 : decode cX7_does 56 = .ok (.ifCond .lt 7, 3) := by decide +kernel
theorem dX7_does_59 : decode cX7_does 59 = .ok (.iconst 1, 1) := by decide +kernel
theorem dX7_does_60 : decode cX7_does 60 = .ok (.goto 4, 3) := by decide +kernel
theorem dX7_does_63 : decode cX7_does 63 = .ok (.iconst 0, 1) := by decide +kernel
theorem dX7_does_64 : decode cX7_does 64 = .ok (.ireturn, 1) := by decide +kernel
theorem dX7_does_65 : decode cX7_does 65 = .ok (.aload_n 0, 1) := by decide +kernel
theorem dX7_does_66 : decode cX7_does 66 = .ok (.aload_n 0, 1) := by decide +kernel
theorem dX7_does_67 : decode cX7_does 67 = .ok (.getfield 32, 3) := by decide +kernel
theorem dX7_does_70 : decode cX7_does 70 = .ok (.iconst 0, 1) := by decide +kernel
theorem dX7_does_71 : decode cX7_does 71 = .ok (.iaload, 1) := by decide +kernel
theorem dX7_does_72 : decode cX7_does 72 = .ok (.aload_n 0, 1) := by decide +kernel
theorem dX7_does_73 : decode cX7_does 73 = .ok (.getfield 32, 3) := by decide +kernel
theorem dX7_does_76 : decode cX7_does 76 = .ok (.iconst 1, 1) := by decide +kernel
theorem dX7_does_77 : decode cX7_does 77 = .ok (.iaload, 1) := by decide +kernel
theorem dX7_does_78 : decode cX7_does 78 = .ok (.invokevirtual 102, 3) := by decide +kernel
theorem dX7_does_81 : decode cX7_does 81 = .ok (.ifCond .lt 7, 3) := by decide +kernel
theorem dX7_does_84 : decode cX7_does 84 = .ok (.iconst 1, 1) := by decide +kernel
theorem dX7_does_85 : decode cX7_does 85 = .ok (.goto 4, 3) := by decide +kernel
theorem dX7_does_88 : decode cX7_does 88 = .ok (.iconst 0, 1) := by decide +kernel
theorem dX7_does_89 : decode cX7_does 89 = .ok (.ireturn, 1) := by decide +kernel
theorem dX7_does_90 : decode cX7_does 90 = .ok (.aload_n 0, 1) := by decide +kernel
theorem dX7_does_91 : decode cX7_does 91 = .ok (.getfield 32, 3) := by decide +kernel
theorem dX7_does_94 : decode cX7_does 94 = .ok (.iconst 0, 1) := by decide +kernel
theorem dX7_does_95 : decode cX7_does 95 = .ok (.iaload, 1) := by decide +kernel
theorem dX7_does_96 : decode cX7_does 96 = .ok (.aload_n 0, 1) := by decide +kernel
theorem dX7_does_97 : decode cX7_does 97 = .ok (.getfield 32, 3) := by decide +kernel
theorem dX7_does_100 : decode cX7_does 100 = .ok (.iconst 1, 1) := by decide +kernel
theorem dX7_does_101 : decode cX7_does 101 = .ok (.iaload, 1) := by decide +kernel
theorem dX7_does_102 : decode cX7_does 102 = .ok (.aload_n 0, 1) := by decide +kernel
theorem dX7_does_103 : decode cX7_does 103 = .ok (.getfield 32, 3) := by decide +kernel
theorem dX7_does_106 : decode cX7_does 106 = .ok (.iconst 2, 1) := by decide +kernel
theorem dX7_does_107 : decode cX7_does 107 = .ok (.iaload, 1) := by decide +kernel
theorem dX7_does_108 : decode cX7_does 108 = .ok (.aload_n 0, 1) := by decide +kernel
theorem dX7_does_109 : decode cX7_does 109 = .ok (.getfield 32, 3) := by decide +kernel
theorem dX7_does_112 : decode cX7_does 112 = .ok (.iconst 3, 1) := by decide +kernel
theorem dX7_does_113 : decode cX7_does 113 = .ok (.iaload, 1) := by decide +kernel
theorem dX7_does_114 : decode cX7_does 114 = .ok (.invokestatic 112, 3) := by decide +kernel
theorem dX7_does_117 : decode cX7_does 117 = .ok (.ifCond .ne 39, 3) := by decide +kernel
theorem dX7_does_120 : decode cX7_does 120 = .ok (.aload_n 0, 1) := by decide +kernel
theorem dX7_does_121 : decode cX7_does 121 = .ok (.aload_n 0, 1) := by decide +kernel
theorem dX7_does_122 : decode cX7_does 122 = .ok (.getfield 32, 3) := by decide +kernel
theorem dX7_does_125 : decode cX7_does 125 = .ok (.iconst 0, 1) := by decide +kernel
theorem dX7_does_126 : decode cX7_does 126 = .ok (.iaload, 1) := by decide +kernel
theorem dX7_does_127 : decode cX7_does 127 = .ok (.aload_n 0, 1) := by decide +kernel
theorem dX7_does_128 : decode cX7_does 128 = .ok (.getfield 32, 3) := by decide +kernel
theorem dX7_does_131 : decode cX7_does 131 = .ok (.iconst 1, 1) := by decide +kernel
theorem dX7_does_132 : decode cX7_does 132 = .ok (.iaload, 1) := by decide +kernel
theorem dX7_does_133 : decode cX7_does 133 = .ok (.aload_n 0, 1) := by decide +kernel
theorem dX7_does_134 : decode cX7_does 134 = .ok (.getfield 32, 3) := by decide +kernel
theorem dX7_does_137 : decode cX7_does 137 = .ok (.iconst 2, 1) := by decide +kernel
theorem dX7_does_138 : decode cX7_does 138 = .ok (.iaload, 1) := by decide +kernel
theorem dX7_does_139 : decode cX7_does 139 = .ok (.aload_n 0, 1) := by decide +kernel
theorem dX7_does_140 : decode cX7_does 140 = .ok (.getfield 32, 3) := by decide +kernel
theorem dX7_does_143 : decode cX7_does 143 = .ok (.iconst 3, 1) := by decide +kernel
theorem dX7_does_144 : decode cX7_does 144 = .ok (.iaload, 1) := by decide +kernel
theorem dX7_does_145 : decode cX7_does 145 = .ok (.invokevirtual 116, 3) := by decide +kernel
theorem dX7_does_148 : decode cX7_does 148 = .ok (.iconst (-1), 1) := by decide +kernel
theorem dX7_does_149 : decode cX7_does 149 = .ok (.if_icmp .eq 7, 3) := by decide +kernel
theorem dX7_does_152 : decode cX7_does 152 = .ok (.iconst 1, 1) := by decide +kernel
theorem dX7_does_153 : decode cX7_does 153 = .ok (.goto 4, 3) := by decide +kernel
theorem dX7_does_156 : decode cX7_does 156 = .ok (.iconst 0, 1) := by decide +kernel
theorem dX7_does_157 : decode cX7_does 157 = .ok (.ireturn, 1) := by decide +kernel
theorem dX7_does_158 : decode cX7_does 158 = .ok (.aload_n 0, 1) := by decide +kernel
theorem dX7_does_159 : decode cX7_does 159 = .ok (.aload_n 0, 1) := by decide +kernel
theorem dX7_does_160 : decode cX7_does 160 = .ok (.getfield 32, 3) := by decide +kernel
theorem dX7_does_163 : decode cX7_does 163 = .ok (.iconst 0, 1) := by decide +kernel
theorem dX7_does_164 : decode cX7_does 164 = .ok (.iaload, 1) := by decide +kernel
theorem dX7_does_165 : decode cX7_does 165 = .ok (.invokevirtual 119, 3) := by decide +kernel
theorem dX7_does_168 : decode cX7_does 168 = .ok (.ifCond .eq 21, 3) := by decide +kernel
theorem dX7_does_171 : decode cX7_does 171 = .ok (.aload_n 0, 1) := by decide +kernel
theorem dX7_does_172 : decode cX7_does 172 = .ok (.aload_n 0, 1) := by decide +kernel
theorem dX7_does_173 : decode cX7_does 173 = .ok (.getfield 32, 3) := by decide +kernel
theorem dX7_does_176 : decode cX7_does 176 = .ok (.iconst 0, 1) := by decide +kernel
theorem dX7_does_177 : decode cX7_does 177 = .ok (.iaload, 1) := by decide +kernel
theorem dX7_does_178 : decode cX7_does 178 = .ok (.invokevirtual 122, 3) := by decide +kernel
theorem dX7_does_181 : decode cX7_does 181 = .ok (.iconst (-1), 1) := by decide +kernel
theorem dX7_does_182 : decode cX7_does 182 = .ok (.if_icmp .eq 7, 3) := by decide +kernel
theorem dX7_does_185 : decode cX7_does 185 = .ok (.iconst 1, 1) := by decide +kernel
theorem dX7_does_186 : decode cX7_does 186 = .ok (.goto 4, 3) := by decide +kernel
theorem dX7_does_189 : decode cX7_does 189 = .ok (.iconst 0, 1) := by decide +kernel
theorem dX7_does_190 : decode cX7_does 190 = .ok (.ireturn, 1) := by decide +kernel
theorem dX7_readText_0 : decode cX7_readText 0 = .ok (.aload_n 0, 1) := by decide +kernel
theorem dX7_readText_1 : decode cX7_readText 1 = .ok (.iconst 0, 1) := by decide +kernel
theorem dX7_readText_2 : decode cX7_readText 2 = .ok (.putfield 128, 3) := by decide +kernel
theorem dX7_readText_5 : decode cX7_readText 5 = .ok (.aload_n 0, 1) := by decide +kernel
theorem dX7_readText_6 : decode cX7_readText 6 = .ok (.iconst 0, 1) := by decide +kernel
theorem dX7_readText_7 : decode cX7_readText 7 = .ok (.putfield 151, 3) := by decide +kernel
theorem dX7_readText_10 : decode cX7_readText 10 = .ok (.aload_n 0, 1) := by decide +kernel
theorem dX7_readText_11 : decode cX7_readText 11 = .ok (.invokevirtual 154, 3) := by decide +kernel
theorem dX7_readText_14 : decode cX7_readText 14 = .ok (.istore_n 2, 1) := by decide +kernel
theorem dX7_readText_15 : decode cX7_readText 15 = .ok (.iload_n 2, 1) := by decide +kernel
theorem dX7_readText_16 : decode cX7_readText 16 = .ok (.ifCond .eq 64, 3) := by decide +kernel
theorem dX7_readText_19 : decode cX7_readText 19 = .ok (.iload_n 1, 1) := by decide +kernel
theorem dX7_readText_20 : decode cX7_readText 20 = .ok (.ifCond .eq 12, 3) := by decide +kernel
theorem dX7_readText_23 : decode cX7_readText 23 = .ok (.aload_n 0, 1) := by decide +kernel
theorem dX7_readText_24 : decode cX7_readText 24 = .ok (.invokevirtual 157, 3) := by decide +kernel
theorem dX7_readText_27 : decode cX7_readText 27 = .ok (.ifCond .ne 5, 3) := by decide +kernel
theorem dX7_readText_30 : decode cX7_readText 30 = .ok (.iconst 1, 1) := by decide +kernel
theorem dX7_readText_31 : decode cX7_readText 31 = .ok (.ireturn, 1) := by decide +kernel
theorem dX7_readText_32 : decode cX7_readText 32 = .ok (.aload_n 0, 1) := by decide +kernel
theorem dX7_readText_33 : decode cX7_readText 33 = .ok (.dup, 1) := by decide +kernel
theorem dX7_readText_34 : decode cX7_readText 34 = .ok (.getfield 151, 3) := by decide +kernel
theorem dX7_readText_37 : decode cX7_readText 37 = .ok (.iconst 1, 1) := by decide +kernel
theorem dX7_readText_38 : decode cX7_readText 38 = .ok (.iadd, 1) := by decide +kernel
theorem dX7_readText_39 : decode cX7_readText 39 = .ok (.putfield 151, 3) := by decide +kernel
theorem dX7_readText_42 : decode cX7_readText 42 = .ok (.aload_n 0, 1) := by decide +kernel
theorem dX7_readText_43 : decode cX7_readText 43 = .ok (.getfield 128, 3) := by decide +kernel
theorem dX7_readText_46 : decode cX7_readText 46 = .ok (.aload_n 0, 1) := by decide +kernel
theorem dX7_readText_47 : decode cX7_readText 47 = .ok (.getfield 125, 3) := by decide +kernel
theorem dX7_readText_50 : decode cX7_readText 50 = .ok (.if_icmp .ne 5, 3) := by decide +kernel
theorem dX7_readText_53 : decode cX7_readText 53 = .ok (.iconst 1, 1) := by decide +kernel
theorem dX7_readText_54 : decode cX7_readText 54 = .ok (.ireturn, 1) := by decide +kernel
theorem dX7_readText_55 : decode cX7_readText 55 = .ok (.aload_n 0, 1) := by decide +kernel
theorem dX7_readText_56 : decode cX7_readText 56 = .ok (.bipush 59, 2) := by decide +kernel
theorem dX7_readText_58 : decode cX7_readText 58 = .ok (.invokevirtual 145, 3) := by decide +kernel
theorem dX7_readText_61 : decode cX7_readText 61 = .ok (.ifCond .eq 14, 3) := by decide +kernel
theorem dX7_readText_64 : decode cX7_readText 64 = .ok (.aload_n 0, 1) := by decide +kernel
theorem dX7_readText_65 : decode cX7_readText 65 = .ok (.invokevirtual 154, 3) := by decide +kernel
theorem dX7_readText_68 : decode cX7_readText 68 = .ok (.ifCond .eq 7, 3) := by decide +kernel
theorem dX7_readText_71 : decode cX7_readText 71 = .ok (.iconst 1, 1) := by decide +kernel
theorem dX7_readText_72 : decode cX7_readText 72 = .ok (.goto 4, 3) := by decide +kernel
theorem dX7_readText_75 : decode cX7_readText 75 = .ok (.iconst 0, 1) := by decide +kernel
theorem dX7_readText_76 : decode cX7_readText 76 = .ok (.istore_n 2, 1) := by decide +kernel
theorem dX7_readText_77 : decode cX7_readText 77 = .ok (.goto (-62), 3) := by decide +kernel
theorem dX7_readText_80 : decode cX7_readText 80 = .ok (.iconst 0, 1) := by decide +kernel
theorem dX7_readText_81 : decode cX7_readText 81 = .ok (.ireturn, 1) := by decide +kernel
theorem dX7_firstError_0 : decode cX7_firstError 0 = .ok (.aload_n 0, 1) := by decide +kernel
theorem dX7_firstError_1 : decode cX7_firstError 1 = .ok (.iconst 0, 1) := by decide +kernel
theorem dX7_firstError_2 : decode cX7_firstError 2 = .ok (.putfield 35, 3) := by decide +kernel
theorem dX7_firstError_5 : decode cX7_firstError 5 = .ok (.aload_n 0, 1) := by decide +kernel
theorem dX7_firstError_6 : decode cX7_firstError 6 = .ok (.iconst 0, 1) := by decide +kernel
theorem dX7_firstError_7 : decode cX7_firstError 7 = .ok (.invokevirtual 160, 3) := by decide +kernel
theorem dX7_firstError_10 : decode cX7_firstError 10 = .ok (.ifCond .eq 10, 3) := by decide +kernel
theorem dX7_firstError_13 : decode cX7_firstError 13 = .ok (.aload_n 0, 1) := by decide +kernel
theorem dX7_firstError_14 : decode cX7_firstError 14 = .ok (.getfield 125, 3) := by decide +kernel
theorem dX7_firstError_17 : decode cX7_firstError 17 = .ok (.goto 7, 3) := by decide +kernel
theorem dX7_firstError_20 : decode cX7_firstError 20 = .ok (.aload_n 0, 1) := by decide +kernel
theorem dX7_firstError_21 : decode cX7_firstError 21 = .ok (.getfield 128, 3) := by decide +kernel
theorem dX7_firstError_24 : decode cX7_firstError 24 = .ok (.ireturn, 1) := by decide +kernel
theorem dX7_run_0 : decode cX7_run 0 = .ok (.aload_n 0, 1) := by decide +kernel
theorem dX7_run_1 : decode cX7_run 1 = .ok (.aload_n 0, 1) := by decide +kernel
theorem dX7_run_2 : decode cX7_run 2 = .ok (.iconst 0, 1) := by decide +kernel
theorem dX7_run_3 : decode cX7_run 3 = .ok (.invokevirtual 160, 3) := by decide +kernel
theorem dX7_run_6 : decode cX7_run 6 = .ok (.ifCond .eq 7, 3) := by decide +kernel
theorem dX7_run_9 : decode cX7_run 9 = .ok (.iconst 0, 1) := by decide +kernel
theorem dX7_run_10 : decode cX7_run 10 = .ok (.goto 4, 3) := by decide +kernel
theorem dX7_run_13 : decode cX7_run 13 = .ok (.iconst 1, 1) := by decide +kernel
theorem dX7_run_14 : decode cX7_run 14 = .ok (.invokevirtual 92, 3) := by decide +kernel
theorem dX7_run_17 : decode cX7_run 17 = .ok (.ifCond .ne 5, 3) := by decide +kernel
theorem dX7_run_20 : decode cX7_run 20 = .ok (.iconst 0, 1) := by decide +kernel
theorem dX7_run_21 : decode cX7_run 21 = .ok (.ireturn, 1) := by decide +kernel
theorem dX7_run_22 : decode cX7_run 22 = .ok (.aload_n 0, 1) := by decide +kernel
theorem dX7_run_23 : decode cX7_run 23 = .ok (.invokevirtual 95, 3) := by decide +kernel
theorem dX7_run_26 : decode cX7_run 26 = .ok (.aload_n 0, 1) := by decide +kernel
theorem dX7_run_27 : decode cX7_run 27 = .ok (.iconst 1, 1) := by decide +kernel
theorem dX7_run_28 : decode cX7_run 28 = .ok (.invokevirtual 160, 3) := by decide +kernel
theorem dX7_run_31 : decode cX7_run 31 = .ok (.istore_n 1, 1) := by decide +kernel
theorem dX7_run_32 : decode cX7_run 32 = .ok (.aload_n 0, 1) := by decide +kernel
theorem dX7_run_33 : decode cX7_run 33 = .ok (.iconst 0, 1) := by decide +kernel
theorem dX7_run_34 : decode cX7_run 34 = .ok (.putfield 125, 3) := by decide +kernel
theorem dX7_run_37 : decode cX7_run 37 = .ok (.iload_n 1, 1) := by decide +kernel
theorem dX7_run_38 : decode cX7_run 38 = .ok (.ifCond .eq 10, 3) := by decide +kernel
theorem dX7_run_41 : decode cX7_run 41 = .ok (.aload_n 0, 1) := by decide +kernel
theorem dX7_run_42 : decode cX7_run 42 = .ok (.getfield 151, 3) := by decide +kernel
theorem dX7_run_45 : decode cX7_run 45 = .ok (.goto 4, 3) := by decide +kernel
theorem dX7_run_48 : decode cX7_run 48 = .ok (.iconst 0, 1) := by decide +kernel
theorem dX7_run_49 : decode cX7_run 49 = .ok (.ireturn, 1) := by decide +kernel
theorem dX7_keep_0 : decode cX7_keep 0 = .ok (.aload_n 0, 1) := by decide +kernel
theorem dX7_keep_1 : decode cX7_keep 1 = .ok (.iload_n 1, 1) := by decide +kernel
theorem dX7_keep_2 : decode cX7_keep 2 = .ok (.invokestatic 164, 3) := by decide +kernel
theorem dX7_keep_5 : decode cX7_keep 5 = .ok (.ifCond .eq 7, 3) := by decide +kernel
theorem dX7_keep_8 : decode cX7_keep 8 = .ok (.iconst 0, 1) := by decide +kernel
theorem dX7_keep_9 : decode cX7_keep 9 = .ok (.goto 4, 3) := by decide +kernel
theorem dX7_keep_12 : decode cX7_keep 12 = .ok (.iconst 1, 1) := by decide +kernel
theorem dX7_keep_13 : decode cX7_keep 13 = .ok (.invokevirtual 92, 3) := by decide +kernel
theorem dX7_keep_16 : decode cX7_keep 16 = .ok (.ifCond .ne 5, 3) := by decide +kernel
theorem dX7_keep_19 : decode cX7_keep 19 = .ok (.iconst 0, 1) := by decide +kernel
theorem dX7_keep_20 : decode cX7_keep 20 = .ok (.ireturn, 1) := by decide +kernel
theorem dX7_keep_21 : decode cX7_keep 21 = .ok (.aload_n 0, 1) := by decide +kernel
theorem dX7_keep_22 : decode cX7_keep 22 = .ok (.getfield 7, 3) := by decide +kernel
theorem dX7_keep_25 : decode cX7_keep 25 = .ok (.iconst 0, 1) := by decide +kernel
theorem dX7_keep_26 : decode cX7_keep 26 = .ok (.aload_n 0, 1) := by decide +kernel
theorem dX7_keep_27 : decode cX7_keep 27 = .ok (.getfield 16, 3) := by decide +kernel
theorem dX7_keep_30 : decode cX7_keep 30 = .ok (.bipush 83, 2) := by decide +kernel
theorem dX7_keep_32 : decode cX7_keep 32 = .ok (.iload_n 1, 1) := by decide +kernel
theorem dX7_keep_33 : decode cX7_keep 33 = .ok (.imul, 1) := by decide +kernel
theorem dX7_keep_34 : decode cX7_keep 34 = .ok (.invokestatic 46, 3) := by decide +kernel
theorem dX7_keep_37 : decode cX7_keep 37 = .ok (.aload_n 0, 1) := by decide +kernel
theorem dX7_keep_38 : decode cX7_keep 38 = .ok (.getfield 19, 3) := by decide +kernel
theorem dX7_keep_41 : decode cX7_keep 41 = .ok (.iload_n 1, 1) := by decide +kernel
theorem dX7_keep_42 : decode cX7_keep 42 = .ok (.iconst 1, 1) := by decide +kernel
theorem dX7_keep_43 : decode cX7_keep 43 = .ok (.bastore, 1) := by decide +kernel
theorem dX7_keep_44 : decode cX7_keep 44 = .ok (.aload_n 0, 1) := by decide +kernel
theorem dX7_keep_45 : decode cX7_keep 45 = .ok (.getfield 7, 3) := by decide +kernel
theorem dX7_keep_48 : decode cX7_keep 48 = .ok (.iconst 0, 1) := by decide +kernel
theorem dX7_keep_49 : decode cX7_keep 49 = .ok (.iaload, 1) := by decide +kernel
theorem dX7_keep_50 : decode cX7_keep 50 = .ok (.ireturn, 1) := by decide +kernel
theorem dX7_goBack_0 : decode cX7_goBack 0 = .ok (.aload_n 0, 1) := by decide +kernel
theorem dX7_goBack_1 : decode cX7_goBack 1 = .ok (.iload_n 1, 1) := by decide +kernel
theorem dX7_goBack_2 : decode cX7_goBack 2 = .ok (.invokestatic 164, 3) := by decide +kernel
theorem dX7_goBack_5 : decode cX7_goBack 5 = .ok (.ifCond .ne 7, 3) := by decide +kernel
theorem dX7_goBack_8 : decode cX7_goBack 8 = .ok (.iconst 1, 1) := by decide +kernel
theorem dX7_goBack_9 : decode cX7_goBack 9 = .ok (.goto 17, 3) := by decide +kernel
theorem dX7_goBack_12 : decode cX7_goBack 12 = .ok (.aload_n 0, 1) := by decide +kernel
theorem dX7_goBack_13 : decode cX7_goBack 13 = .ok (.getfield 19, 3) := by decide +kernel
theorem dX7_goBack_16 : decode cX7_goBack 16 = .ok (.iload_n 1, 1) := by decide +kernel
theorem dX7_goBack_17 : decode cX7_goBack 17 = .ok (.baload, 1) := by decide +kernel
theorem dX7_goBack_18 : decode cX7_goBack 18 = .ok (.ifCond .eq 7, 3) := by decide +kernel
theorem dX7_goBack_21 : decode cX7_goBack 21 = .ok (.iconst 0, 1) := by decide +kernel
theorem dX7_goBack_22 : decode cX7_goBack 22 = .ok (.goto 4, 3) := by decide +kernel
theorem dX7_goBack_25 : decode cX7_goBack 25 = .ok (.iconst 2, 1) := by decide +kernel
theorem dX7_goBack_26 : decode cX7_goBack 26 = .ok (.invokevirtual 92, 3) := by decide +kernel
theorem dX7_goBack_29 : decode cX7_goBack 29 = .ok (.ifCond .ne 5, 3) := by decide +kernel
theorem dX7_goBack_32 : decode cX7_goBack 32 = .ok (.iconst 0, 1) := by decide +kernel
theorem dX7_goBack_33 : decode cX7_goBack 33 = .ok (.ireturn, 1) := by decide +kernel
theorem dX7_goBack_34 : decode cX7_goBack 34 = .ok (.aload_n 0, 1) := by decide +kernel
theorem dX7_goBack_35 : decode cX7_goBack 35 = .ok (.invokevirtual 95, 3) := by decide +kernel
theorem dX7_goBack_38 : decode cX7_goBack 38 = .ok (.aload_n 0, 1) := by decide +kernel
theorem dX7_goBack_39 : decode cX7_goBack 39 = .ok (.getfield 16, 3) := by decide +kernel
theorem dX7_goBack_42 : decode cX7_goBack 42 = .ok (.bipush 83, 2) := by decide +kernel
theorem dX7_goBack_44 : decode cX7_goBack 44 = .ok (.iload_n 1, 1) := by decide +kernel
theorem dX7_goBack_45 : decode cX7_goBack 45 = .ok (.imul, 1) := by decide +kernel
theorem dX7_goBack_46 : decode cX7_goBack 46 = .ok (.aload_n 0, 1) := by decide +kernel
theorem dX7_goBack_47 : decode cX7_goBack 47 = .ok (.getfield 7, 3) := by decide +kernel
theorem dX7_goBack_50 : decode cX7_goBack 50 = .ok (.iconst 0, 1) := by decide +kernel
theorem dX7_goBack_51 : decode cX7_goBack 51 = .ok (.invokestatic 46, 3) := by decide +kernel
theorem dX7_goBack_54 : decode cX7_goBack 54 = .ok (.aload_n 0, 1) := by decide +kernel
theorem dX7_goBack_55 : decode cX7_goBack 55 = .ok (.getfield 7, 3) := by decide +kernel
theorem dX7_goBack_58 : decode cX7_goBack 58 = .ok (.iconst 0, 1) := by decide +kernel
theorem dX7_goBack_59 : decode cX7_goBack 59 = .ok (.iaload, 1) := by decide +kernel
theorem dX7_goBack_60 : decode cX7_goBack 60 = .ok (.ireturn, 1) := by decide +kernel
theorem dX7_undo_0 : decode cX7_undo 0 = .ok (.aload_n 0, 1) := by decide +kernel
theorem dX7_undo_1 : decode cX7_undo 1 = .ok (.aload_n 0, 1) := by decide +kernel
theorem dX7_undo_2 : decode cX7_undo 2 = .ok (.getfield 43, 3) := by decide +kernel
theorem dX7_undo_5 : decode cX7_undo 5 = .ok (.ifCond .le 7, 3) := by decide +kernel
theorem dX7_undo_8 : decode cX7_undo 8 = .ok (.iconst 0, 1) := by decide +kernel
theorem dX7_undo_9 : decode cX7_undo 9 = .ok (.goto 4, 3) := by decide +kernel
theorem dX7_undo_12 : decode cX7_undo 12 = .ok (.iconst 1, 1) := by decide +kernel
theorem dX7_undo_13 : decode cX7_undo 13 = .ok (.invokevirtual 92, 3) := by decide +kernel
theorem dX7_undo_16 : decode cX7_undo 16 = .ok (.ifCond .ne 5, 3) := by decide +kernel
theorem dX7_undo_19 : decode cX7_undo 19 = .ok (.iconst 0, 1) := by decide +kernel
theorem dX7_undo_20 : decode cX7_undo 20 = .ok (.ireturn, 1) := by decide +kernel
theorem dX7_undo_21 : decode cX7_undo 21 = .ok (.aload_n 0, 1) := by decide +kernel
theorem dX7_undo_22 : decode cX7_undo 22 = .ok (.dup, 1) := by decide +kernel
theorem dX7_undo_23 : decode cX7_undo 23 = .ok (.getfield 43, 3) := by decide +kernel
theorem dX7_undo_26 : decode cX7_undo 26 = .ok (.iconst 1, 1) := by decide +kernel
theorem dX7_undo_27 : decode cX7_undo 27 = .ok (.isub, 1) := by decide +kernel
theorem dX7_undo_28 : decode cX7_undo 28 = .ok (.putfield 43, 3) := by decide +kernel
theorem dX7_undo_31 : decode cX7_undo 31 = .ok (.aload_n 0, 1) := by decide +kernel
theorem dX7_undo_32 : decode cX7_undo 32 = .ok (.getfield 13, 3) := by decide +kernel
theorem dX7_undo_35 : decode cX7_undo 35 = .ok (.bipush 83, 2) := by decide +kernel
theorem dX7_undo_37 : decode cX7_undo 37 = .ok (.aload_n 0, 1) := by decide +kernel
theorem dX7_undo_38 : decode cX7_undo 38 = .ok (.getfield 43, 3) := by decide +kernel
theorem dX7_undo_41 : decode cX7_undo 41 = .ok (.imul, 1) := by decide +kernel
theorem dX7_undo_42 : decode cX7_undo 42 = .ok (.aload_n 0, 1) := by decide +kernel
theorem dX7_undo_43 : decode cX7_undo 43 = .ok (.getfield 7, 3) := by decide +kernel
theorem dX7_undo_46 : decode cX7_undo 46 = .ok (.iconst 0, 1) := by decide +kernel
theorem dX7_undo_47 : decode cX7_undo 47 = .ok (.invokestatic 46, 3) := by decide +kernel
theorem dX7_undo_50 : decode cX7_undo 50 = .ok (.aload_n 0, 1) := by decide +kernel
theorem dX7_undo_51 : decode cX7_undo 51 = .ok (.getfield 43, 3) := by decide +kernel
theorem dX7_undo_54 : decode cX7_undo 54 = .ok (.ireturn, 1) := by decide +kernel
theorem dX7_caps_0 : decode cX7_caps 0 = .ok (.aload_n 0, 1) := by decide +kernel
theorem dX7_caps_1 : decode cX7_caps 1 = .ok (.iload_n 1, 1) := by decide +kernel
theorem dX7_caps_2 : decode cX7_caps 2 = .ok (.invokestatic 88, 3) := by decide +kernel
theorem dX7_caps_5 : decode cX7_caps 5 = .ok (.ifCond .eq 14, 3) := by decide +kernel
theorem dX7_caps_8 : decode cX7_caps 8 = .ok (.iload_n 2, 1) := by decide +kernel
theorem dX7_caps_9 : decode cX7_caps 9 = .ok (.invokestatic 105, 3) := by decide +kernel
theorem dX7_caps_12 : decode cX7_caps 12 = .ok (.ifCond .eq 7, 3) := by decide +kernel
theorem dX7_caps_15 : decode cX7_caps 15 = .ok (.iconst 0, 1) := by decide +kernel
theorem dX7_caps_16 : decode cX7_caps 16 = .ok (.goto 4, 3) := by decide +kernel
theorem dX7_caps_19 : decode cX7_caps 19 = .ok (.iconst 1, 1) := by decide +kernel
theorem dX7_caps_20 : decode cX7_caps 20 = .ok (.invokevirtual 92, 3) := by decide +kernel
theorem dX7_caps_23 : decode cX7_caps 23 = .ok (.ifCond .eq 12, 3) := by decide +kernel
theorem dX7_caps_26 : decode cX7_caps 26 = .ok (.aload_n 0, 1) := by decide +kernel
theorem dX7_caps_27 : decode cX7_caps 27 = .ok (.iload_n 1, 1) := by decide +kernel
theorem dX7_caps_28 : decode cX7_caps 28 = .ok (.iload_n 2, 1) := by decide +kernel
theorem dX7_caps_29 : decode cX7_caps 29 = .ok (.invokevirtual 50, 3) := by decide +kernel
theorem dX7_caps_32 : decode cX7_caps 32 = .ok (.goto 4, 3) := by decide +kernel
theorem dX7_caps_35 : decode cX7_caps 35 = .ok (.iconst 0, 1) := by decide +kernel
theorem dX7_caps_36 : decode cX7_caps 36 = .ok (.ireturn, 1) := by decide +kernel
theorem dX7_sums_0 : decode cX7_sums 0 = .ok (.iconst 0, 1) := by decide +kernel
theorem dX7_sums_1 : decode cX7_sums 1 = .ok (.istore_n 3, 1) := by decide +kernel
theorem dX7_sums_2 : decode cX7_sums 2 = .ok (.iconst 0, 1) := by decide +kernel
theorem dX7_sums_3 : decode cX7_sums 3 = .ok (.istore 4, 2) := by decide +kernel
theorem dX7_sums_5 : decode cX7_sums 5 = .ok (.iload 4, 2) := by decide +kernel
theorem dX7_sums_7 : decode cX7_sums 7 = .ok (.aload_n 0, 1) := by decide +kernel
theorem dX7_sums_8 : decode cX7_sums 8 = .ok (.getfield 7, 3) := by decide +kernel
theorem dX7_sums_11 : decode cX7_sums 11 = .ok (.iconst 1, 1) := by decide +kernel
theorem dX7_sums_12 : decode cX7_sums 12 = .ok (.iaload, 1) := by decide +kernel
theorem dX7_sums_13 : decode cX7_sums 13 = .ok (.if_icmp .ge 55, 3) := by decide +kernel
theorem dX7_sums_16 : decode cX7_sums 16 = .ok (.iload_n 3, 1) := by decide +kernel
theorem dX7_sums_17 : decode cX7_sums 17 = .ok (.iload_n 1, 1) := by decide +kernel
theorem dX7_sums_18 : decode cX7_sums 18 = .ok (.iconst (-1), 1) := by decide +kernel
theorem dX7_sums_19 : decode cX7_sums 19 = .ok (.if_icmp .eq 14, 3) := by decide +kernel
theorem dX7_sums_22 : decode cX7_sums 22 = .ok (.aload_n 0, 1) := by decide +kernel
theorem dX7_sums_23 : decode cX7_sums 23 = .ok (.iload 4, 2) := by decide +kernel
theorem dX7_sums_25 : decode cX7_sums 25 = .ok (.iconst 0, 1) := by decide +kernel
theorem dX7_sums_26 : decode cX7_sums 26 = .ok (.invokevirtual 61, 3) := by decide +kernel
theorem dX7_sums_29 : decode cX7_sums 29 = .ok (.iload_n 1, 1) := by decide +kernel
theorem dX7_sums_30 : decode cX7_sums 30 = .ok (.if_icmp .ne 29, 3) := by decide +kernel
theorem dX7_sums_33 : decode cX7_sums 33 = .ok (.iload_n 2, 1) := by decide +kernel
theorem dX7_sums_34 : decode cX7_sums 34 = .ok (.iconst (-1), 1) := by decide +kernel
theorem dX7_sums_35 : decode cX7_sums 35 = .ok (.if_icmp .eq 14, 3) := by decide +kernel
theorem dX7_sums_38 : decode cX7_sums 38 = .ok (.aload_n 0, 1) := by decide +kernel
theorem dX7_sums_39 : decode cX7_sums 39 = .ok (.iload 4, 2) := by decide +kernel
theorem dX7_sums_41 : decode cX7_sums 41 = .ok (.iconst 1, 1) := by decide +kernel
theorem dX7_sums_42 : decode cX7_sums 42 = .ok (.invokevirtual 61, 3) := by decide +kernel
theorem dX7_sums_45 : decode cX7_sums 45 = .ok (.iload_n 2, 1) := by decide +kernel
theorem dX7_sums_46 : decode cX7_sums 46 = .ok (.if_icmp .ne 13, 3) := by decide +kernel
theorem dX7_sums_49 : decode cX7_sums 49 = .ok (.aload_n 0, 1) := by decide +kernel
theorem dX7_sums_50 : decode cX7_sums 50 = .ok (.iload 4, 2) := by decide +kernel
theorem dX7_sums_52 : decode cX7_sums 52 = .ok (.iconst 2, 1) := by decide +kernel
theorem dX7_sums_53 : decode cX7_sums 53 = .ok (.invokevirtual 61, 3) := by decide +kernel
theorem dX7_sums_56 : decode cX7_sums 56 = .ok (.goto 4, 3) := by decide +kernel
theorem dX7_sums_59 : decode cX7_sums 59 = .ok (.iconst 0, 1) := by decide +kernel
theorem dX7_sums_60 : decode cX7_sums 60 = .ok (.iadd, 1) := by decide +kernel
theorem dX7_sums_61 : decode cX7_sums 61 = .ok (.istore_n 3, 1) := by decide +kernel
theorem dX7_sums_62 : decode cX7_sums 62 = .ok (.iinc 4 1, 3) := by decide +kernel
theorem dX7_sums_65 : decode cX7_sums 65 = .ok (.goto (-60), 3) := by decide +kernel
theorem dX7_sums_68 : decode cX7_sums 68 = .ok (.iload_n 3, 1) := by decide +kernel
theorem dX7_sums_69 : decode cX7_sums 69 = .ok (.ireturn, 1) := by decide +kernel
theorem dX7_islanderTold_0 : decode cX7_islanderTold 0 = .ok (.iload_n 2, 1) := by decide +kernel
theorem dX7_islanderTold_1 : decode cX7_islanderTold 1 = .ok (.tableswitch 60 0 3 #[31, 37, 47, 53], 31) := by decide +kernel
theorem dX7_islanderTold_32 : decode cX7_islanderTold 32 = .ok (.aload_n 0, 1) := by decide +kernel
theorem dX7_islanderTold_33 : decode cX7_islanderTold 33 = .ok (.iload_n 1, 1) := by decide +kernel
theorem dX7_islanderTold_34 : decode cX7_islanderTold 34 = .ok (.invokevirtual 167, 3) := by decide +kernel
theorem dX7_islanderTold_37 : decode cX7_islanderTold 37 = .ok (.ireturn, 1) := by decide +kernel
theorem dX7_islanderTold_38 : decode cX7_islanderTold 38 = .ok (.aload_n 0, 1) := by decide +kernel
theorem dX7_islanderTold_39 : decode cX7_islanderTold 39 = .ok (.getfield 7, 3) := by decide +kernel
theorem dX7_islanderTold_42 : decode cX7_islanderTold 42 = .ok (.bipush 11, 2) := by decide +kernel
theorem dX7_islanderTold_44 : decode cX7_islanderTold 44 = .ok (.iload_n 1, 1) := by decide +kernel
theorem dX7_islanderTold_45 : decode cX7_islanderTold 45 = .ok (.iadd, 1) := by decide +kernel
theorem dX7_islanderTold_46 : decode cX7_islanderTold 46 = .ok (.iaload, 1) := by decide +kernel
theorem dX7_islanderTold_47 : decode cX7_islanderTold 47 = .ok (.ireturn, 1) := by decide +kernel
theorem dX7_islanderTold_48 : decode cX7_islanderTold 48 = .ok (.aload_n 0, 1) := by decide +kernel
theorem dX7_islanderTold_49 : decode cX7_islanderTold 49 = .ok (.iload_n 1, 1) := by decide +kernel
theorem dX7_islanderTold_50 : decode cX7_islanderTold 50 = .ok (.invokevirtual 70, 3) := by decide +kernel
theorem dX7_islanderTold_53 : decode cX7_islanderTold 53 = .ok (.ireturn, 1) := by decide +kernel
theorem dX7_islanderTold_54 : decode cX7_islanderTold 54 = .ok (.aload_n 0, 1) := by decide +kernel
theorem dX7_islanderTold_55 : decode cX7_islanderTold 55 = .ok (.iload_n 1, 1) := by decide +kernel
theorem dX7_islanderTold_56 : decode cX7_islanderTold 56 = .ok (.iconst (-1), 1) := by decide +kernel
theorem dX7_islanderTold_57 : decode cX7_islanderTold 57 = .ok (.invokevirtual 170, 3) := by decide +kernel
theorem dX7_islanderTold_60 : decode cX7_islanderTold 60 = .ok (.ireturn, 1) := by decide +kernel
theorem dX7_islanderTold_61 : decode cX7_islanderTold 61 = .ok (.aload_n 0, 1) := by decide +kernel
theorem dX7_islanderTold_62 : decode cX7_islanderTold 62 = .ok (.iconst (-1), 1) := by decide +kernel
theorem dX7_islanderTold_63 : decode cX7_islanderTold 63 = .ok (.iload_n 1, 1) := by decide +kernel
theorem dX7_islanderTold_64 : decode cX7_islanderTold 64 = .ok (.invokevirtual 170, 3) := by decide +kernel
theorem dX7_islanderTold_67 : decode cX7_islanderTold 67 = .ok (.ireturn, 1) := by decide +kernel
theorem dX7_islanderOf_0 : decode cX7_islanderOf 0 = .ok (.aload_n 0, 1) := by decide +kernel
theorem dX7_islanderOf_1 : decode cX7_islanderOf 1 = .ok (.iload_n 1, 1) := by decide +kernel
theorem dX7_islanderOf_2 : decode cX7_islanderOf 2 = .ok (.invokestatic 88, 3) := by decide +kernel
theorem dX7_islanderOf_5 : decode cX7_islanderOf 5 = .ok (.ifCond .ne 7, 3) := by decide +kernel
theorem dX7_islanderOf_8 : decode cX7_islanderOf 8 = .ok (.iconst 1, 1) := by decide +kernel
theorem dX7_islanderOf_9 : decode cX7_islanderOf 9 = .ok (.goto 17, 3) := by decide +kernel
theorem dX7_islanderOf_12 : decode cX7_islanderOf 12 = .ok (.iload_n 2, 1) := by decide +kernel
theorem dX7_islanderOf_13 : decode cX7_islanderOf 13 = .ok (.iconst 0, 1) := by decide +kernel
theorem dX7_islanderOf_14 : decode cX7_islanderOf 14 = .ok (.iconst 4, 1) := by decide +kernel
theorem dX7_islanderOf_15 : decode cX7_islanderOf 15 = .ok (.invokestatic 39, 3) := by decide +kernel
theorem dX7_islanderOf_18 : decode cX7_islanderOf 18 = .ok (.ifCond .eq 7, 3) := by decide +kernel
theorem dX7_islanderOf_21 : decode cX7_islanderOf 21 = .ok (.iconst 0, 1) := by decide +kernel
theorem dX7_islanderOf_22 : decode cX7_islanderOf 22 = .ok (.goto 4, 3) := by decide +kernel
theorem dX7_islanderOf_25 : decode cX7_islanderOf 25 = .ok (.iconst 2, 1) := by decide +kernel
theorem dX7_islanderOf_26 : decode cX7_islanderOf 26 = .ok (.invokevirtual 92, 3) := by decide +kernel
theorem dX7_islanderOf_29 : decode cX7_islanderOf 29 = .ok (.ifCond .eq 12, 3) := by decide +kernel
theorem dX7_islanderOf_32 : decode cX7_islanderOf 32 = .ok (.aload_n 0, 1) := by decide +kernel
theorem dX7_islanderOf_33 : decode cX7_islanderOf 33 = .ok (.iload_n 1, 1) := by decide +kernel
theorem dX7_islanderOf_34 : decode cX7_islanderOf 34 = .ok (.iload_n 2, 1) := by decide +kernel
theorem dX7_islanderOf_35 : decode cX7_islanderOf 35 = .ok (.invokevirtual 173, 3) := by decide +kernel
theorem dX7_islanderOf_38 : decode cX7_islanderOf 38 = .ok (.goto 4, 3) := by decide +kernel
theorem dX7_islanderOf_41 : decode cX7_islanderOf 41 = .ok (.iconst 0, 1) := by decide +kernel
theorem dX7_islanderOf_42 : decode cX7_islanderOf 42 = .ok (.ireturn, 1) := by decide +kernel
theorem dX7_promiseOf_0 : decode cX7_promiseOf 0 = .ok (.aload_n 0, 1) := by decide +kernel
theorem dX7_promiseOf_1 : decode cX7_promiseOf 1 = .ok (.aload_n 0, 1) := by decide +kernel
theorem dX7_promiseOf_2 : decode cX7_promiseOf 2 = .ok (.iload_n 1, 1) := by decide +kernel
theorem dX7_promiseOf_3 : decode cX7_promiseOf 3 = .ok (.invokevirtual 119, 3) := by decide +kernel
theorem dX7_promiseOf_6 : decode cX7_promiseOf 6 = .ok (.ifCond .ne 7, 3) := by decide +kernel
theorem dX7_promiseOf_9 : decode cX7_promiseOf 9 = .ok (.iconst 1, 1) := by decide +kernel
theorem dX7_promiseOf_10 : decode cX7_promiseOf 10 = .ok (.goto 17, 3) := by decide +kernel
theorem dX7_promiseOf_13 : decode cX7_promiseOf 13 = .ok (.iload_n 2, 1) := by decide +kernel
theorem dX7_promiseOf_14 : decode cX7_promiseOf 14 = .ok (.iconst 0, 1) := by decide +kernel
theorem dX7_promiseOf_15 : decode cX7_promiseOf 15 = .ok (.iconst 4, 1) := by decide +kernel
theorem dX7_promiseOf_16 : decode cX7_promiseOf 16 = .ok (.invokestatic 39, 3) := by decide +kernel
theorem dX7_promiseOf_19 : decode cX7_promiseOf 19 = .ok (.ifCond .eq 7, 3) := by decide +kernel
theorem dX7_promiseOf_22 : decode cX7_promiseOf 22 = .ok (.iconst 0, 1) := by decide +kernel
theorem dX7_promiseOf_23 : decode cX7_promiseOf 23 = .ok (.goto 4, 3) := by decide +kernel
theorem dX7_promiseOf_26 : decode cX7_promiseOf 26 = .ok (.iconst 2, 1) := by decide +kernel
theorem dX7_promiseOf_27 : decode cX7_promiseOf 27 = .ok (.invokevirtual 92, 3) := by decide +kernel
theorem dX7_promiseOf_30 : decode cX7_promiseOf 30 = .ok (.ifCond .ne 7, 3) := by decide +kernel
theorem dX7_promiseOf_33 : decode cX7_promiseOf 33 = .ok (.iconst 0, 1) := by decide +kernel
theorem dX7_promiseOf_34 : decode cX7_promiseOf 34 = .ok (.goto 22, 3) := by decide +kernel
theorem dX7_promiseOf_37 : decode cX7_promiseOf 37 = .ok (.iload_n 2, 1) := by decide +kernel
theorem dX7_promiseOf_38 : decode cX7_promiseOf 38 = .ok (.iconst 4, 1) := by decide +kernel
theorem dX7_promiseOf_39 : decode cX7_promiseOf 39 = .ok (.if_icmp .ne 11, 3) := by decide +kernel
theorem dX7_promiseOf_42 : decode cX7_promiseOf 42 = .ok (.aload_n 0, 1) := by decide +kernel
theorem dX7_promiseOf_43 : decode cX7_promiseOf 43 = .ok (.iload_n 1, 1) := by decide +kernel
theorem dX7_promiseOf_44 : decode cX7_promiseOf 44 = .ok (.invokevirtual 81, 3) := by decide +kernel
theorem dX7_promiseOf_47 : decode cX7_promiseOf 47 = .ok (.goto 9, 3) := by decide +kernel
theorem dX7_promiseOf_50 : decode cX7_promiseOf 50 = .ok (.aload_n 0, 1) := by decide +kernel
theorem dX7_promiseOf_51 : decode cX7_promiseOf 51 = .ok (.iload_n 1, 1) := by decide +kernel
theorem dX7_promiseOf_52 : decode cX7_promiseOf 52 = .ok (.iload_n 2, 1) := by decide +kernel
theorem dX7_promiseOf_53 : decode cX7_promiseOf 53 = .ok (.invokevirtual 61, 3) := by decide +kernel
theorem dX7_promiseOf_56 : decode cX7_promiseOf 56 = .ok (.ireturn, 1) := by decide +kernel
theorem dX7_owed_0 : decode cX7_owed 0 = .ok (.aload_n 0, 1) := by decide +kernel
theorem dX7_owed_1 : decode cX7_owed 1 = .ok (.iload_n 1, 1) := by decide +kernel
theorem dX7_owed_2 : decode cX7_owed 2 = .ok (.invokestatic 88, 3) := by decide +kernel
theorem dX7_owed_5 : decode cX7_owed 5 = .ok (.ifCond .eq 14, 3) := by decide +kernel
theorem dX7_owed_8 : decode cX7_owed 8 = .ok (.iload_n 2, 1) := by decide +kernel
theorem dX7_owed_9 : decode cX7_owed 9 = .ok (.invokestatic 88, 3) := by decide +kernel
theorem dX7_owed_12 : decode cX7_owed 12 = .ok (.ifCond .eq 7, 3) := by decide +kernel
theorem dX7_owed_15 : decode cX7_owed 15 = .ok (.iconst 0, 1) := by decide +kernel
theorem dX7_owed_16 : decode cX7_owed 16 = .ok (.goto 4, 3) := by decide +kernel
theorem dX7_owed_19 : decode cX7_owed 19 = .ok (.iconst 1, 1) := by decide +kernel
theorem dX7_owed_20 : decode cX7_owed 20 = .ok (.invokevirtual 92, 3) := by decide +kernel
theorem dX7_owed_23 : decode cX7_owed 23 = .ok (.ifCond .eq 12, 3) := by decide +kernel
theorem dX7_owed_26 : decode cX7_owed 26 = .ok (.aload_n 0, 1) := by decide +kernel
theorem dX7_owed_27 : decode cX7_owed 27 = .ok (.iload_n 1, 1) := by decide +kernel
theorem dX7_owed_28 : decode cX7_owed 28 = .ok (.iload_n 2, 1) := by decide +kernel
theorem dX7_owed_29 : decode cX7_owed 29 = .ok (.invokevirtual 170, 3) := by decide +kernel
theorem dX7_owed_32 : decode cX7_owed 32 = .ok (.goto 4, 3) := by decide +kernel
theorem dX7_owed_35 : decode cX7_owed 35 = .ok (.iconst 0, 1) := by decide +kernel
theorem dX7_owed_36 : decode cX7_owed 36 = .ok (.ireturn, 1) := by decide +kernel
theorem dX7_allCaps_0 : decode cX7_allCaps 0 = .ok (.iconst 0, 1) := by decide +kernel
theorem dX7_allCaps_1 : decode cX7_allCaps 1 = .ok (.istore_n 2, 1) := by decide +kernel
theorem dX7_allCaps_2 : decode cX7_allCaps 2 = .ok (.iconst 0, 1) := by decide +kernel
theorem dX7_allCaps_3 : decode cX7_allCaps 3 = .ok (.istore_n 3, 1) := by decide +kernel
theorem dX7_allCaps_4 : decode cX7_allCaps 4 = .ok (.iload_n 3, 1) := by decide +kernel
theorem dX7_allCaps_5 : decode cX7_allCaps 5 = .ok (.bipush 32, 2) := by decide +kernel
theorem dX7_allCaps_7 : decode cX7_allCaps 7 = .ok (.if_icmp .ge 41, 3) := by decide +kernel
theorem dX7_allCaps_10 : decode cX7_allCaps 10 = .ok (.iload_n 2, 1) := by decide +kernel
theorem dX7_allCaps_11 : decode cX7_allCaps 11 = .ok (.aload_n 0, 1) := by decide +kernel
theorem dX7_allCaps_12 : decode cX7_allCaps 12 = .ok (.getfield 7, 3) := by decide +kernel
theorem dX7_allCaps_15 : decode cX7_allCaps 15 = .ok (.bipush 19, 2) := by decide +kernel
theorem dX7_allCaps_17 : decode cX7_allCaps 17 = .ok (.iload_n 3, 1) := by decide +kernel
theorem dX7_allCaps_18 : decode cX7_allCaps 18 = .ok (.iadd, 1) := by decide +kernel
theorem dX7_allCaps_19 : decode cX7_allCaps 19 = .ok (.iaload, 1) := by decide +kernel
theorem dX7_allCaps_20 : decode cX7_allCaps 20 = .ok (.iload_n 1, 1) := by decide +kernel
theorem dX7_allCaps_21 : decode cX7_allCaps 21 = .ok (.ifCond .eq 17, 3) := by decide +kernel
theorem dX7_allCaps_24 : decode cX7_allCaps 24 = .ok (.aload_n 0, 1) := by decide +kernel
theorem dX7_allCaps_25 : decode cX7_allCaps 25 = .ok (.getfield 7, 3) := by decide +kernel
theorem dX7_allCaps_28 : decode cX7_allCaps 28 = .ok (.bipush 7, 2) := by decide +kernel
theorem dX7_allCaps_30 : decode cX7_allCaps 30 = .ok (.iload_n 3, 1) := by decide +kernel
theorem dX7_allCaps_31 : decode cX7_allCaps 31 = .ok (.iconst 4, 1) := by decide +kernel
theorem dX7_allCaps_32 : decode cX7_allCaps 32 = .ok (.irem, 1) := by decide +kernel
theorem dX7_allCaps_33 : decode cX7_allCaps 33 = .ok (.iadd, 1) := by decide +kernel
theorem dX7_allCaps_34 : decode cX7_allCaps 34 = .ok (.iaload, 1) := by decide +kernel
theorem dX7_allCaps_35 : decode cX7_allCaps 35 = .ok (.goto 4, 3) := by decide +kernel
theorem dX7_allCaps_38 : decode cX7_allCaps 38 = .ok (.iconst 1, 1) := by decide +kernel
theorem dX7_allCaps_39 : decode cX7_allCaps 39 = .ok (.imul, 1) := by decide +kernel
theorem dX7_allCaps_40 : decode cX7_allCaps 40 = .ok (.iadd, 1) := by decide +kernel
theorem dX7_allCaps_41 : decode cX7_allCaps 41 = .ok (.istore_n 2, 1) := by decide +kernel
theorem dX7_allCaps_42 : decode cX7_allCaps 42 = .ok (.iinc 3 1, 3) := by decide +kernel
theorem dX7_allCaps_45 : decode cX7_allCaps 45 = .ok (.goto (-41), 3) := by decide +kernel
theorem dX7_allCaps_48 : decode cX7_allCaps 48 = .ok (.iload_n 2, 1) := by decide +kernel
theorem dX7_allCaps_49 : decode cX7_allCaps 49 = .ok (.ireturn, 1) := by decide +kernel
theorem dX7_countTold_0 : decode cX7_countTold 0 = .ok (.iload_n 1, 1) := by decide +kernel
theorem dX7_countTold_1 : decode cX7_countTold 1 = .ok (.tableswitch 89 0 9 #[55, 62, 62, 77, 89, 89, 89, 89, 89, 84], 55) := by decide +kernel
theorem dX7_countTold_56 : decode cX7_countTold 56 = .ok (.aload_n 0, 1) := by decide +kernel
theorem dX7_countTold_57 : decode cX7_countTold 57 = .ok (.getfield 7, 3) := by decide +kernel
theorem dX7_countTold_60 : decode cX7_countTold 60 = .ok (.iconst 0, 1) := by decide +kernel
theorem dX7_countTold_61 : decode cX7_countTold 61 = .ok (.iaload, 1) := by decide +kernel
theorem dX7_countTold_62 : decode cX7_countTold 62 = .ok (.ireturn, 1) := by decide +kernel
theorem dX7_countTold_63 : decode cX7_countTold 63 = .ok (.aload_n 0, 1) := by decide +kernel
theorem dX7_countTold_64 : decode cX7_countTold 64 = .ok (.iload_n 1, 1) := by decide +kernel
theorem dX7_countTold_65 : decode cX7_countTold 65 = .ok (.iconst 2, 1) := by decide +kernel
theorem dX7_countTold_66 : decode cX7_countTold 66 = .ok (.if_icmp .ne 7, 3) := by decide +kernel
theorem dX7_countTold_69 : decode cX7_countTold 69 = .ok (.iconst 1, 1) := by decide +kernel
theorem dX7_countTold_70 : decode cX7_countTold 70 = .ok (.goto 4, 3) := by decide +kernel
theorem dX7_countTold_73 : decode cX7_countTold 73 = .ok (.iconst 0, 1) := by decide +kernel
theorem dX7_countTold_74 : decode cX7_countTold 74 = .ok (.invokevirtual 176, 3) := by decide +kernel
theorem dX7_countTold_77 : decode cX7_countTold 77 = .ok (.ireturn, 1) := by decide +kernel
theorem dX7_countTold_78 : decode cX7_countTold 78 = .ok (.aload_n 0, 1) := by decide +kernel
theorem dX7_countTold_79 : decode cX7_countTold 79 = .ok (.getfield 7, 3) := by decide +kernel
theorem dX7_countTold_82 : decode cX7_countTold 82 = .ok (.iconst 1, 1) := by decide +kernel
theorem dX7_countTold_83 : decode cX7_countTold 83 = .ok (.iaload, 1) := by decide +kernel
theorem dX7_countTold_84 : decode cX7_countTold 84 = .ok (.ireturn, 1) := by decide +kernel
theorem dX7_countTold_85 : decode cX7_countTold 85 = .ok (.aload_n 0, 1) := by decide +kernel
theorem dX7_countTold_86 : decode cX7_countTold 86 = .ok (.getfield 43, 3) := by decide +kernel
theorem dX7_countTold_89 : decode cX7_countTold 89 = .ok (.ireturn, 1) := by decide +kernel
theorem dX7_countTold_90 : decode cX7_countTold 90 = .ok (.aload_n 0, 1) := by decide +kernel
theorem dX7_countTold_91 : decode cX7_countTold 91 = .ok (.getfield 7, 3) := by decide +kernel
theorem dX7_countTold_94 : decode cX7_countTold 94 = .ok (.iconst 2, 1) := by decide +kernel
theorem dX7_countTold_95 : decode cX7_countTold 95 = .ok (.iload_n 1, 1) := by decide +kernel
theorem dX7_countTold_96 : decode cX7_countTold 96 = .ok (.iadd, 1) := by decide +kernel
theorem dX7_countTold_97 : decode cX7_countTold 97 = .ok (.iconst 4, 1) := by decide +kernel
theorem dX7_countTold_98 : decode cX7_countTold 98 = .ok (.isub, 1) := by decide +kernel
theorem dX7_countTold_99 : decode cX7_countTold 99 = .ok (.iaload, 1) := by decide +kernel
theorem dX7_countTold_100 : decode cX7_countTold 100 = .ok (.ireturn, 1) := by decide +kernel
theorem dX7_count_0 : decode cX7_count 0 = .ok (.aload_n 0, 1) := by decide +kernel
theorem dX7_count_1 : decode cX7_count 1 = .ok (.iload_n 1, 1) := by decide +kernel
theorem dX7_count_2 : decode cX7_count 2 = .ok (.iconst 0, 1) := by decide +kernel
theorem dX7_count_3 : decode cX7_count 3 = .ok (.bipush 9, 2) := by decide +kernel
theorem dX7_count_5 : decode cX7_count 5 = .ok (.invokestatic 39, 3) := by decide +kernel
theorem dX7_count_8 : decode cX7_count 8 = .ok (.ifCond .eq 7, 3) := by decide +kernel
theorem dX7_count_11 : decode cX7_count 11 = .ok (.iconst 0, 1) := by decide +kernel
theorem dX7_count_12 : decode cX7_count 12 = .ok (.goto 4, 3) := by decide +kernel
theorem dX7_count_15 : decode cX7_count 15 = .ok (.iconst 1, 1) := by decide +kernel
theorem dX7_count_16 : decode cX7_count 16 = .ok (.invokevirtual 92, 3) := by decide +kernel
theorem dX7_count_19 : decode cX7_count 19 = .ok (.ifCond .eq 11, 3) := by decide +kernel
theorem dX7_count_22 : decode cX7_count 22 = .ok (.aload_n 0, 1) := by decide +kernel
theorem dX7_count_23 : decode cX7_count 23 = .ok (.iload_n 1, 1) := by decide +kernel
theorem dX7_count_24 : decode cX7_count 24 = .ok (.invokevirtual 180, 3) := by decide +kernel
theorem dX7_count_27 : decode cX7_count 27 = .ok (.goto 4, 3) := by decide +kernel
theorem dX7_count_30 : decode cX7_count 30 = .ok (.iconst 0, 1) := by decide +kernel
theorem dX7_count_31 : decode cX7_count 31 = .ok (.ireturn, 1) := by decide +kernel
theorem dX7_where_0 : decode cX7_where 0 = .ok (.aload_n 0, 1) := by decide +kernel
theorem dX7_where_1 : decode cX7_where 1 = .ok (.iload_n 1, 1) := by decide +kernel
theorem dX7_where_2 : decode cX7_where 2 = .ok (.invokestatic 88, 3) := by decide +kernel
theorem dX7_where_5 : decode cX7_where 5 = .ok (.ifCond .ne 7, 3) := by decide +kernel
theorem dX7_where_8 : decode cX7_where 8 = .ok (.iconst 1, 1) := by decide +kernel
theorem dX7_where_9 : decode cX7_where 9 = .ok (.goto 28, 3) := by decide +kernel
theorem dX7_where_12 : decode cX7_where 12 = .ok (.iload_n 2, 1) := by decide +kernel
theorem dX7_where_13 : decode cX7_where 13 = .ok (.iconst 0, 1) := by decide +kernel
theorem dX7_where_14 : decode cX7_where 14 = .ok (.sipush 1000, 3) := by decide +kernel
theorem dX7_where_17 : decode cX7_where 17 = .ok (.invokestatic 39, 3) := by decide +kernel
theorem dX7_where_20 : decode cX7_where 20 = .ok (.ifCond .eq 16, 3) := by decide +kernel
theorem dX7_where_23 : decode cX7_where 23 = .ok (.iload_n 3, 1) := by decide +kernel
theorem dX7_where_24 : decode cX7_where 24 = .ok (.iconst 0, 1) := by decide +kernel
theorem dX7_where_25 : decode cX7_where 25 = .ok (.iconst 1, 1) := by decide +kernel
theorem dX7_where_26 : decode cX7_where 26 = .ok (.invokestatic 39, 3) := by decide +kernel
theorem dX7_where_29 : decode cX7_where 29 = .ok (.ifCond .eq 7, 3) := by decide +kernel
theorem dX7_where_32 : decode cX7_where 32 = .ok (.iconst 0, 1) := by decide +kernel
theorem dX7_where_33 : decode cX7_where 33 = .ok (.goto 4, 3) := by decide +kernel
theorem dX7_where_36 : decode cX7_where 36 = .ok (.iconst 2, 1) := by decide +kernel
theorem dX7_where_37 : decode cX7_where 37 = .ok (.invokevirtual 92, 3) := by decide +kernel
theorem dX7_where_40 : decode cX7_where 40 = .ok (.ifCond .eq 12, 3) := by decide +kernel
theorem dX7_where_43 : decode cX7_where 43 = .ok (.aload_n 0, 1) := by decide +kernel
theorem dX7_where_44 : decode cX7_where 44 = .ok (.iload_n 1, 1) := by decide +kernel
theorem dX7_where_45 : decode cX7_where 45 = .ok (.iload_n 2, 1) := by decide +kernel
theorem dX7_where_46 : decode cX7_where 46 = .ok (.invokevirtual 67, 3) := by decide +kernel
theorem dX7_where_49 : decode cX7_where 49 = .ok (.goto 4, 3) := by decide +kernel
theorem dX7_where_52 : decode cX7_where 52 = .ok (.iconst 0, 1) := by decide +kernel
theorem dX7_where_53 : decode cX7_where 53 = .ok (.ireturn, 1) := by decide +kernel
theorem dX7_homeIn_0 : decode cX7_homeIn 0 = .ok (.aload_n 0, 1) := by decide +kernel
theorem dX7_homeIn_1 : decode cX7_homeIn 1 = .ok (.iload_n 1, 1) := by decide +kernel
theorem dX7_homeIn_2 : decode cX7_homeIn 2 = .ok (.iconst 0, 1) := by decide +kernel
theorem dX7_homeIn_3 : decode cX7_homeIn 3 = .ok (.iconst 1, 1) := by decide +kernel
theorem dX7_homeIn_4 : decode cX7_homeIn 4 = .ok (.invokestatic 39, 3) := by decide +kernel
theorem dX7_homeIn_7 : decode cX7_homeIn 7 = .ok (.ifCond .eq 7, 3) := by decide +kernel
theorem dX7_homeIn_10 : decode cX7_homeIn 10 = .ok (.iconst 0, 1) := by decide +kernel
theorem dX7_homeIn_11 : decode cX7_homeIn 11 = .ok (.goto 4, 3) := by decide +kernel
theorem dX7_homeIn_14 : decode cX7_homeIn 14 = .ok (.iconst 1, 1) := by decide +kernel
theorem dX7_homeIn_15 : decode cX7_homeIn 15 = .ok (.invokevirtual 92, 3) := by decide +kernel
theorem dX7_homeIn_18 : decode cX7_homeIn 18 = .ok (.ifCond .eq 10, 3) := by decide +kernel
theorem dX7_homeIn_21 : decode cX7_homeIn 21 = .ok (.aload_n 0, 1) := by decide +kernel
theorem dX7_homeIn_22 : decode cX7_homeIn 22 = .ok (.invokevirtual 183, 3) := by decide +kernel
theorem dX7_homeIn_25 : decode cX7_homeIn 25 = .ok (.goto 4, 3) := by decide +kernel
theorem dX7_homeIn_28 : decode cX7_homeIn 28 = .ok (.iconst 0, 1) := by decide +kernel
theorem dX7_homeIn_29 : decode cX7_homeIn 29 = .ok (.ireturn, 1) := by decide +kernel
theorem dX7_fewest_0 : decode cX7_fewest 0 = .ok (.aload_n 0, 1) := by decide +kernel
theorem dX7_fewest_1 : decode cX7_fewest 1 = .ok (.iload_n 1, 1) := by decide +kernel
theorem dX7_fewest_2 : decode cX7_fewest 2 = .ok (.invokestatic 88, 3) := by decide +kernel
theorem dX7_fewest_5 : decode cX7_fewest 5 = .ok (.ifCond .ne 7, 3) := by decide +kernel
theorem dX7_fewest_8 : decode cX7_fewest 8 = .ok (.iconst 1, 1) := by decide +kernel
theorem dX7_fewest_9 : decode cX7_fewest 9 = .ok (.goto 27, 3) := by decide +kernel
theorem dX7_fewest_12 : decode cX7_fewest 12 = .ok (.iload_n 2, 1) := by decide +kernel
theorem dX7_fewest_13 : decode cX7_fewest 13 = .ok (.iconst 1, 1) := by decide +kernel
theorem dX7_fewest_14 : decode cX7_fewest 14 = .ok (.bipush 99, 2) := by decide +kernel
theorem dX7_fewest_16 : decode cX7_fewest 16 = .ok (.invokestatic 39, 3) := by decide +kernel
theorem dX7_fewest_19 : decode cX7_fewest 19 = .ok (.ifCond .eq 16, 3) := by decide +kernel
theorem dX7_fewest_22 : decode cX7_fewest 22 = .ok (.iload_n 3, 1) := by decide +kernel
theorem dX7_fewest_23 : decode cX7_fewest 23 = .ok (.iconst 0, 1) := by decide +kernel
theorem dX7_fewest_24 : decode cX7_fewest 24 = .ok (.iconst 1, 1) := by decide +kernel
theorem dX7_fewest_25 : decode cX7_fewest 25 = .ok (.invokestatic 39, 3) := by decide +kernel
theorem dX7_fewest_28 : decode cX7_fewest 28 = .ok (.ifCond .eq 7, 3) := by decide +kernel
theorem dX7_fewest_31 : decode cX7_fewest 31 = .ok (.iconst 0, 1) := by decide +kernel
theorem dX7_fewest_32 : decode cX7_fewest 32 = .ok (.goto 4, 3) := by decide +kernel
theorem dX7_fewest_35 : decode cX7_fewest 35 = .ok (.iconst 2, 1) := by decide +kernel
theorem dX7_fewest_36 : decode cX7_fewest 36 = .ok (.invokevirtual 92, 3) := by decide +kernel
theorem dX7_fewest_39 : decode cX7_fewest 39 = .ok (.ifCond .eq 12, 3) := by decide +kernel
theorem dX7_fewest_42 : decode cX7_fewest 42 = .ok (.aload_n 0, 1) := by decide +kernel
theorem dX7_fewest_43 : decode cX7_fewest 43 = .ok (.iload_n 1, 1) := by decide +kernel
theorem dX7_fewest_44 : decode cX7_fewest 44 = .ok (.iload_n 2, 1) := by decide +kernel
theorem dX7_fewest_45 : decode cX7_fewest 45 = .ok (.invokevirtual 64, 3) := by decide +kernel
theorem dX7_fewest_48 : decode cX7_fewest 48 = .ok (.goto 4, 3) := by decide +kernel
theorem dX7_fewest_51 : decode cX7_fewest 51 = .ok (.iconst 0, 1) := by decide +kernel
theorem dX7_fewest_52 : decode cX7_fewest 52 = .ok (.ireturn, 1) := by decide +kernel
theorem dX7_richestTold_0 : decode cX7_richestTold 0 = .ok (.iconst 0, 1) := by decide +kernel
theorem dX7_richestTold_1 : decode cX7_richestTold 1 = .ok (.istore_n 1, 1) := by decide +kernel
theorem dX7_richestTold_2 : decode cX7_richestTold 2 = .ok (.iconst 1, 1) := by decide +kernel
theorem dX7_richestTold_3 : decode cX7_richestTold 3 = .ok (.istore_n 2, 1) := by decide +kernel
theorem dX7_richestTold_4 : decode cX7_richestTold 4 = .ok (.iload_n 2, 1) := by decide +kernel
theorem dX7_richestTold_5 : decode cX7_richestTold 5 = .ok (.bipush 8, 2) := by decide +kernel
theorem dX7_richestTold_7 : decode cX7_richestTold 7 = .ok (.if_icmp .ge 28, 3) := by decide +kernel
theorem dX7_richestTold_10 : decode cX7_richestTold 10 = .ok (.aload_n 0, 1) := by decide +kernel
theorem dX7_richestTold_11 : decode cX7_richestTold 11 = .ok (.iload_n 2, 1) := by decide +kernel
theorem dX7_richestTold_12 : decode cX7_richestTold 12 = .ok (.invokevirtual 167, 3) := by decide +kernel
theorem dX7_richestTold_15 : decode cX7_richestTold 15 = .ok (.aload_n 0, 1) := by decide +kernel
theorem dX7_richestTold_16 : decode cX7_richestTold 16 = .ok (.iload_n 1, 1) := by decide +kernel
theorem dX7_richestTold_17 : decode cX7_richestTold 17 = .ok (.invokevirtual 167, 3) := by decide +kernel
theorem dX7_richestTold_20 : decode cX7_richestTold 20 = .ok (.if_icmp .le 7, 3) := by decide +kernel
theorem dX7_richestTold_23 : decode cX7_richestTold 23 = .ok (.iload_n 2, 1) := by decide +kernel
theorem dX7_richestTold_24 : decode cX7_richestTold 24 = .ok (.goto 4, 3) := by decide +kernel
theorem dX7_richestTold_27 : decode cX7_richestTold 27 = .ok (.iload_n 1, 1) := by decide +kernel
theorem dX7_richestTold_28 : decode cX7_richestTold 28 = .ok (.istore_n 1, 1) := by decide +kernel
theorem dX7_richestTold_29 : decode cX7_richestTold 29 = .ok (.iinc 2 1, 3) := by decide +kernel
theorem dX7_richestTold_32 : decode cX7_richestTold 32 = .ok (.goto (-28), 3) := by decide +kernel
theorem dX7_richestTold_35 : decode cX7_richestTold 35 = .ok (.iload_n 1, 1) := by decide +kernel
theorem dX7_richestTold_36 : decode cX7_richestTold 36 = .ok (.ireturn, 1) := by decide +kernel
theorem dX7_richest_0 : decode cX7_richest 0 = .ok (.aload_n 0, 1) := by decide +kernel
theorem dX7_richest_1 : decode cX7_richest 1 = .ok (.iconst 0, 1) := by decide +kernel
theorem dX7_richest_2 : decode cX7_richest 2 = .ok (.putfield 35, 3) := by decide +kernel
theorem dX7_richest_5 : decode cX7_richest 5 = .ok (.aload_n 0, 1) := by decide +kernel
theorem dX7_richest_6 : decode cX7_richest 6 = .ok (.invokevirtual 186, 3) := by decide +kernel
theorem dX7_richest_9 : decode cX7_richest 9 = .ok (.ireturn, 1) := by decide +kernel
theorem dX7_keepIn_0 : decode cX7_keepIn 0 = .ok (.iconst 0, 1) := by decide +kernel
theorem dX7_keepIn_1 : decode cX7_keepIn 1 = .ok (.istore_n 2, 1) := by decide +kernel
theorem dX7_keepIn_2 : decode cX7_keepIn 2 = .ok (.iload_n 2, 1) := by decide +kernel
theorem dX7_keepIn_3 : decode cX7_keepIn 3 = .ok (.aload_n 0, 1) := by decide +kernel
theorem dX7_keepIn_4 : decode cX7_keepIn 4 = .ok (.iload_n 1, 1) := by decide +kernel
theorem dX7_keepIn_5 : decode cX7_keepIn 5 = .ok (.iconst 3, 1) := by decide +kernel
theorem dX7_keepIn_6 : decode cX7_keepIn 6 = .ok (.invokevirtual 61, 3) := by decide +kernel
theorem dX7_keepIn_9 : decode cX7_keepIn 9 = .ok (.aload_n 0, 1) := by decide +kernel
theorem dX7_keepIn_10 : decode cX7_keepIn 10 = .ok (.getfield 7, 3) := by decide +kernel
theorem dX7_keepIn_13 : decode cX7_keepIn 13 = .ok (.iconst 0, 1) := by decide +kernel
theorem dX7_keepIn_14 : decode cX7_keepIn 14 = .ok (.iaload, 1) := by decide +kernel
theorem dX7_keepIn_15 : decode cX7_keepIn 15 = .ok (.isub, 1) := by decide +kernel
theorem dX7_keepIn_16 : decode cX7_keepIn 16 = .ok (.if_icmp .gt 34, 3) := by decide +kernel
theorem dX7_keepIn_19 : decode cX7_keepIn 19 = .ok (.aload_n 0, 1) := by decide +kernel
theorem dX7_keepIn_20 : decode cX7_keepIn 20 = .ok (.aload_n 0, 1) := by decide +kernel
theorem dX7_keepIn_21 : decode cX7_keepIn 21 = .ok (.aload_n 0, 1) := by decide +kernel
theorem dX7_keepIn_22 : decode cX7_keepIn 22 = .ok (.iload_n 1, 1) := by decide +kernel
theorem dX7_keepIn_23 : decode cX7_keepIn 23 = .ok (.iconst 0, 1) := by decide +kernel
theorem dX7_keepIn_24 : decode cX7_keepIn 24 = .ok (.invokevirtual 61, 3) := by decide +kernel
theorem dX7_keepIn_27 : decode cX7_keepIn 27 = .ok (.iload_n 2, 1) := by decide +kernel
theorem dX7_keepIn_28 : decode cX7_keepIn 28 = .ok (.invokevirtual 189, 3) := by decide +kernel
theorem dX7_keepIn_31 : decode cX7_keepIn 31 = .ok (.aload_n 0, 1) := by decide +kernel
theorem dX7_keepIn_32 : decode cX7_keepIn 32 = .ok (.iload_n 1, 1) := by decide +kernel
theorem dX7_keepIn_33 : decode cX7_keepIn 33 = .ok (.iconst 2, 1) := by decide +kernel
theorem dX7_keepIn_34 : decode cX7_keepIn 34 = .ok (.invokevirtual 61, 3) := by decide +kernel
theorem dX7_keepIn_37 : decode cX7_keepIn 37 = .ok (.invokevirtual 64, 3) := by decide +kernel
theorem dX7_keepIn_40 : decode cX7_keepIn 40 = .ok (.iconst (-1), 1) := by decide +kernel
theorem dX7_keepIn_41 : decode cX7_keepIn 41 = .ok (.if_icmp .ne 9, 3) := by decide +kernel
theorem dX7_keepIn_44 : decode cX7_keepIn 44 = .ok (.iinc 2 1, 3) := by decide +kernel
theorem dX7_keepIn_47 : decode cX7_keepIn 47 = .ok (.goto (-45), 3) := by decide +kernel
theorem dX7_keepIn_50 : decode cX7_keepIn 50 = .ok (.iload_n 2, 1) := by decide +kernel
theorem dX7_keepIn_51 : decode cX7_keepIn 51 = .ok (.aload_n 0, 1) := by decide +kernel
theorem dX7_keepIn_52 : decode cX7_keepIn 52 = .ok (.iload_n 1, 1) := by decide +kernel
theorem dX7_keepIn_53 : decode cX7_keepIn 53 = .ok (.iconst 3, 1) := by decide +kernel
theorem dX7_keepIn_54 : decode cX7_keepIn 54 = .ok (.invokevirtual 61, 3) := by decide +kernel
theorem dX7_keepIn_57 : decode cX7_keepIn 57 = .ok (.aload_n 0, 1) := by decide +kernel
theorem dX7_keepIn_58 : decode cX7_keepIn 58 = .ok (.getfield 7, 3) := by decide +kernel
theorem dX7_keepIn_61 : decode cX7_keepIn 61 = .ok (.iconst 0, 1) := by decide +kernel
theorem dX7_keepIn_62 : decode cX7_keepIn 62 = .ok (.iaload, 1) := by decide +kernel
theorem dX7_keepIn_63 : decode cX7_keepIn 63 = .ok (.isub, 1) := by decide +kernel
theorem dX7_keepIn_64 : decode cX7_keepIn 64 = .ok (.if_icmp .gt 7, 3) := by decide +kernel
theorem dX7_keepIn_67 : decode cX7_keepIn 67 = .ok (.iload_n 2, 1) := by decide +kernel
theorem dX7_keepIn_68 : decode cX7_keepIn 68 = .ok (.goto 4, 3) := by decide +kernel
theorem dX7_keepIn_71 : decode cX7_keepIn 71 = .ok (.iconst (-1), 1) := by decide +kernel
theorem dX7_keepIn_72 : decode cX7_keepIn 72 = .ok (.ireturn, 1) := by decide +kernel
theorem dX7_canKeepIn_0 : decode cX7_canKeepIn 0 = .ok (.aload_n 0, 1) := by decide +kernel
theorem dX7_canKeepIn_1 : decode cX7_canKeepIn 1 = .ok (.aload_n 0, 1) := by decide +kernel
theorem dX7_canKeepIn_2 : decode cX7_canKeepIn 2 = .ok (.iload_n 1, 1) := by decide +kernel
theorem dX7_canKeepIn_3 : decode cX7_canKeepIn 3 = .ok (.invokevirtual 119, 3) := by decide +kernel
theorem dX7_canKeepIn_6 : decode cX7_canKeepIn 6 = .ok (.ifCond .eq 7, 3) := by decide +kernel
theorem dX7_canKeepIn_9 : decode cX7_canKeepIn 9 = .ok (.iconst 0, 1) := by decide +kernel
theorem dX7_canKeepIn_10 : decode cX7_canKeepIn 10 = .ok (.goto 4, 3) := by decide +kernel
theorem dX7_canKeepIn_13 : decode cX7_canKeepIn 13 = .ok (.iconst 1, 1) := by decide +kernel
theorem dX7_canKeepIn_14 : decode cX7_canKeepIn 14 = .ok (.invokevirtual 92, 3) := by decide +kernel
theorem dX7_canKeepIn_17 : decode cX7_canKeepIn 17 = .ok (.ifCond .eq 11, 3) := by decide +kernel
theorem dX7_canKeepIn_20 : decode cX7_canKeepIn 20 = .ok (.aload_n 0, 1) := by decide +kernel
theorem dX7_canKeepIn_21 : decode cX7_canKeepIn 21 = .ok (.iload_n 1, 1) := by decide +kernel
theorem dX7_canKeepIn_22 : decode cX7_canKeepIn 22 = .ok (.invokevirtual 192, 3) := by decide +kernel
theorem dX7_canKeepIn_25 : decode cX7_canKeepIn 25 = .ok (.goto 4, 3) := by decide +kernel
theorem dX7_canKeepIn_28 : decode cX7_canKeepIn 28 = .ok (.iconst 0, 1) := by decide +kernel
theorem dX7_canKeepIn_29 : decode cX7_canKeepIn 29 = .ok (.ireturn, 1) := by decide +kernel
theorem dX7_shareTold_0 : decode cX7_shareTold 0 = .ok (.aload_n 0, 1) := by decide +kernel
theorem dX7_shareTold_1 : decode cX7_shareTold 1 = .ok (.aload_n 0, 1) := by decide +kernel
theorem dX7_shareTold_2 : decode cX7_shareTold 2 = .ok (.invokevirtual 186, 3) := by decide +kernel
theorem dX7_shareTold_5 : decode cX7_shareTold 5 = .ok (.invokevirtual 167, 3) := by decide +kernel
theorem dX7_shareTold_8 : decode cX7_shareTold 8 = .ok (.i2d, 1) := by decide +kernel
theorem dX7_shareTold_9 : decode cX7_shareTold 9 = .ok (.aload_n 0, 1) := by decide +kernel
theorem dX7_shareTold_10 : decode cX7_shareTold 10 = .ok (.iconst 1, 1) := by decide +kernel
theorem dX7_shareTold_11 : decode cX7_shareTold 11 = .ok (.invokevirtual 176, 3) := by decide +kernel
theorem dX7_shareTold_14 : decode cX7_shareTold 14 = .ok (.i2d, 1) := by decide +kernel
theorem dX7_shareTold_15 : decode cX7_shareTold 15 = .ok (.ddiv, 1) := by decide +kernel
theorem dX7_shareTold_16 : decode cX7_shareTold 16 = .ok (.dreturn, 1) := by decide +kernel
theorem dX7_richShare_0 : decode cX7_richShare 0 = .ok (.aload_n 0, 1) := by decide +kernel
theorem dX7_richShare_1 : decode cX7_richShare 1 = .ok (.iconst 0, 1) := by decide +kernel
theorem dX7_richShare_2 : decode cX7_richShare 2 = .ok (.putfield 35, 3) := by decide +kernel
theorem dX7_richShare_5 : decode cX7_richShare 5 = .ok (.aload_n 0, 1) := by decide +kernel
theorem dX7_richShare_6 : decode cX7_richShare 6 = .ok (.invokevirtual 195, 3) := by decide +kernel
theorem dX7_richShare_9 : decode cX7_richShare 9 = .ok (.dreturn, 1) := by decide +kernel
theorem dX7_bitsOf_0 : decode cX7_bitsOf 0 = .ok (.ldc2_w 199, 3) := by decide +kernel
theorem dX7_bitsOf_3 : decode cX7_bitsOf 3 = .ok (.lstore_n 2, 1) := by decide +kernel
theorem dX7_bitsOf_4 : decode cX7_bitsOf 4 = .ok (.dload_n 0, 1) := by decide +kernel
theorem dX7_bitsOf_5 : decode cX7_bitsOf 5 = .ok (.dstore 4, 2) := by decide +kernel
theorem dX7_bitsOf_7 : decode cX7_bitsOf 7 = .ok (.dload 4, 2) := by decide +kernel
theorem dX7_bitsOf_9 : decode cX7_bitsOf 9 = .ok (.dconst 1, 1) := by decide +kernel
theorem dX7_bitsOf_10 : decode cX7_bitsOf 10 = .ok (.dcmp .g, 1) := by decide +kernel
theorem dX7_bitsOf_11 : decode cX7_bitsOf 11 = .ok (.ifCond .ge 18, 3) := by decide +kernel
theorem dX7_bitsOf_14 : decode cX7_bitsOf 14 = .ok (.dload 4, 2) := by decide +kernel
theorem dX7_bitsOf_16 : decode cX7_bitsOf 16 = .ok (.ldc2_w 201, 3) := by decide +kernel
theorem dX7_bitsOf_19 : decode cX7_bitsOf 19 = .ok (.dmul, 1) := by decide +kernel
theorem dX7_bitsOf_20 : decode cX7_bitsOf 20 = .ok (.dstore 4, 2) := by decide +kernel
theorem dX7_bitsOf_22 : decode cX7_bitsOf 22 = .ok (.lload_n 2, 1) := by decide +kernel
theorem dX7_bitsOf_23 : decode cX7_bitsOf 23 = .ok (.lconst 1, 1) := by decide +kernel
theorem dX7_bitsOf_24 : decode cX7_bitsOf 24 = .ok (.lsub, 1) := by decide +kernel
theorem dX7_bitsOf_25 : decode cX7_bitsOf 25 = .ok (.lstore_n 2, 1) := by decide +kernel
theorem dX7_bitsOf_26 : decode cX7_bitsOf 26 = .ok (.goto (-19), 3) := by decide +kernel
theorem dX7_bitsOf_29 : decode cX7_bitsOf 29 = .ok (.lload_n 2, 1) := by decide +kernel
theorem dX7_bitsOf_30 : decode cX7_bitsOf 30 = .ok (.ldc2_w 203, 3) := by decide +kernel
theorem dX7_bitsOf_33 : decode cX7_bitsOf 33 = .ok (.lmul, 1) := by decide +kernel
theorem dX7_bitsOf_34 : decode cX7_bitsOf 34 = .ok (.dload 4, 2) := by decide +kernel
theorem dX7_bitsOf_36 : decode cX7_bitsOf 36 = .ok (.dconst 1, 1) := by decide +kernel
theorem dX7_bitsOf_37 : decode cX7_bitsOf 37 = .ok (.dsub, 1) := by decide +kernel
theorem dX7_bitsOf_38 : decode cX7_bitsOf 38 = .ok (.ldc2_w 205, 3) := by decide +kernel
theorem dX7_bitsOf_41 : decode cX7_bitsOf 41 = .ok (.dmul, 1) := by decide +kernel
theorem dX7_bitsOf_42 : decode cX7_bitsOf 42 = .ok (.d2l, 1) := by decide +kernel
theorem dX7_bitsOf_43 : decode cX7_bitsOf 43 = .ok (.ladd, 1) := by decide +kernel
theorem dX7_bitsOf_44 : decode cX7_bitsOf 44 = .ok (.lreturn, 1) := by decide +kernel
theorem dX7_mix_0 : decode cX7_mix 0 = .ok (.aload_n 0, 1) := by decide +kernel
theorem dX7_mix_1 : decode cX7_mix 1 = .ok (.ldc2_w 207, 3) := by decide +kernel
theorem dX7_mix_4 : decode cX7_mix 4 = .ok (.aload_n 0, 1) := by decide +kernel
theorem dX7_mix_5 : decode cX7_mix 5 = .ok (.getfield 209, 3) := by decide +kernel
theorem dX7_mix_8 : decode cX7_mix 8 = .ok (.lmul, 1) := by decide +kernel
theorem dX7_mix_9 : decode cX7_mix 9 = .ok (.lload_n 1, 1) := by decide +kernel
theorem dX7_mix_10 : decode cX7_mix 10 = .ok (.ladd, 1) := by decide +kernel
theorem dX7_mix_11 : decode cX7_mix 11 = .ok (.putfield 209, 3) := by decide +kernel
theorem dX7_mix_14 : decode cX7_mix 14 = .ok (.return_, 1) := by decide +kernel
theorem dX7_mixIslander_0 : decode cX7_mixIslander 0 = .ok (.iconst 0, 1) := by decide +kernel
theorem dX7_mixIslander_1 : decode cX7_mixIslander 1 = .ok (.istore_n 2, 1) := by decide +kernel
theorem dX7_mixIslander_2 : decode cX7_mixIslander 2 = .ok (.iload_n 2, 1) := by decide +kernel
theorem dX7_mixIslander_3 : decode cX7_mixIslander 3 = .ok (.iconst 4, 1) := by decide +kernel
theorem dX7_mixIslander_4 : decode cX7_mixIslander 4 = .ok (.if_icmp .ge 20, 3) := by decide +kernel
theorem dX7_mixIslander_7 : decode cX7_mixIslander 7 = .ok (.aload_n 0, 1) := by decide +kernel
theorem dX7_mixIslander_8 : decode cX7_mixIslander 8 = .ok (.aload_n 0, 1) := by decide +kernel
theorem dX7_mixIslander_9 : decode cX7_mixIslander 9 = .ok (.iload_n 1, 1) := by decide +kernel
theorem dX7_mixIslander_10 : decode cX7_mixIslander 10 = .ok (.iload_n 2, 1) := by decide +kernel
theorem dX7_mixIslander_11 : decode cX7_mixIslander 11 = .ok (.invokevirtual 50, 3) := by decide +kernel
theorem dX7_mixIslander_14 : decode cX7_mixIslander 14 = .ok (.i2l, 1) := by decide +kernel
theorem dX7_mixIslander_15 : decode cX7_mixIslander 15 = .ok (.invokevirtual 213, 3) := by decide +kernel
theorem dX7_mixIslander_18 : decode cX7_mixIslander 18 = .ok (.iinc 2 1, 3) := by decide +kernel
theorem dX7_mixIslander_21 : decode cX7_mixIslander 21 = .ok (.goto (-19), 3) := by decide +kernel
theorem dX7_mixIslander_24 : decode cX7_mixIslander 24 = .ok (.iconst 0, 1) := by decide +kernel
theorem dX7_mixIslander_25 : decode cX7_mixIslander 25 = .ok (.istore_n 2, 1) := by decide +kernel
theorem dX7_mixIslander_26 : decode cX7_mixIslander 26 = .ok (.iload_n 2, 1) := by decide +kernel
theorem dX7_mixIslander_27 : decode cX7_mixIslander 27 = .ok (.iconst 5, 1) := by decide +kernel
theorem dX7_mixIslander_28 : decode cX7_mixIslander 28 = .ok (.if_icmp .ge 20, 3) := by decide +kernel
theorem dX7_mixIslander_31 : decode cX7_mixIslander 31 = .ok (.aload_n 0, 1) := by decide +kernel
theorem dX7_mixIslander_32 : decode cX7_mixIslander 32 = .ok (.aload_n 0, 1) := by decide +kernel
theorem dX7_mixIslander_33 : decode cX7_mixIslander 33 = .ok (.iload_n 1, 1) := by decide +kernel
theorem dX7_mixIslander_34 : decode cX7_mixIslander 34 = .ok (.iload_n 2, 1) := by decide +kernel
theorem dX7_mixIslander_35 : decode cX7_mixIslander 35 = .ok (.invokevirtual 173, 3) := by decide +kernel
theorem dX7_mixIslander_38 : decode cX7_mixIslander 38 = .ok (.i2l, 1) := by decide +kernel
theorem dX7_mixIslander_39 : decode cX7_mixIslander 39 = .ok (.invokevirtual 213, 3) := by decide +kernel
theorem dX7_mixIslander_42 : decode cX7_mixIslander 42 = .ok (.iinc 2 1, 3) := by decide +kernel
theorem dX7_mixIslander_45 : decode cX7_mixIslander 45 = .ok (.goto (-19), 3) := by decide +kernel
theorem dX7_mixIslander_48 : decode cX7_mixIslander 48 = .ok (.aload_n 0, 1) := by decide +kernel
theorem dX7_mixIslander_49 : decode cX7_mixIslander 49 = .ok (.aload_n 0, 1) := by decide +kernel
theorem dX7_mixIslander_50 : decode cX7_mixIslander 50 = .ok (.iload_n 1, 1) := by decide +kernel
theorem dX7_mixIslander_51 : decode cX7_mixIslander 51 = .ok (.bipush 7, 2) := by decide +kernel
theorem dX7_mixIslander_53 : decode cX7_mixIslander 53 = .ok (.invokevirtual 67, 3) := by decide +kernel
theorem dX7_mixIslander_56 : decode cX7_mixIslander 56 = .ok (.i2l, 1) := by decide +kernel
theorem dX7_mixIslander_57 : decode cX7_mixIslander 57 = .ok (.invokevirtual 213, 3) := by decide +kernel
theorem dX7_mixIslander_60 : decode cX7_mixIslander 60 = .ok (.aload_n 0, 1) := by decide +kernel
theorem dX7_mixIslander_61 : decode cX7_mixIslander 61 = .ok (.aload_n 0, 1) := by decide +kernel
theorem dX7_mixIslander_62 : decode cX7_mixIslander 62 = .ok (.iload_n 1, 1) := by decide +kernel
theorem dX7_mixIslander_63 : decode cX7_mixIslander 63 = .ok (.bipush 7, 2) := by decide +kernel
theorem dX7_mixIslander_65 : decode cX7_mixIslander 65 = .ok (.invokevirtual 67, 3) := by decide +kernel
theorem dX7_mixIslander_68 : decode cX7_mixIslander 68 = .ok (.i2l, 1) := by decide +kernel
theorem dX7_mixIslander_69 : decode cX7_mixIslander 69 = .ok (.invokevirtual 213, 3) := by decide +kernel
theorem dX7_mixIslander_72 : decode cX7_mixIslander 72 = .ok (.aload_n 0, 1) := by decide +kernel
theorem dX7_mixIslander_73 : decode cX7_mixIslander 73 = .ok (.aload_n 0, 1) := by decide +kernel
theorem dX7_mixIslander_74 : decode cX7_mixIslander 74 = .ok (.iload_n 1, 1) := by decide +kernel
theorem dX7_mixIslander_75 : decode cX7_mixIslander 75 = .ok (.bipush 17, 2) := by decide +kernel
theorem dX7_mixIslander_77 : decode cX7_mixIslander 77 = .ok (.invokevirtual 64, 3) := by decide +kernel
theorem dX7_mixIslander_80 : decode cX7_mixIslander 80 = .ok (.i2l, 1) := by decide +kernel
theorem dX7_mixIslander_81 : decode cX7_mixIslander 81 = .ok (.invokevirtual 213, 3) := by decide +kernel
theorem dX7_mixIslander_84 : decode cX7_mixIslander 84 = .ok (.aload_n 0, 1) := by decide +kernel
theorem dX7_mixIslander_85 : decode cX7_mixIslander 85 = .ok (.aload_n 0, 1) := by decide +kernel
theorem dX7_mixIslander_86 : decode cX7_mixIslander 86 = .ok (.iload_n 1, 1) := by decide +kernel
theorem dX7_mixIslander_87 : decode cX7_mixIslander 87 = .ok (.bipush 17, 2) := by decide +kernel
theorem dX7_mixIslander_89 : decode cX7_mixIslander 89 = .ok (.invokevirtual 64, 3) := by decide +kernel
theorem dX7_mixIslander_92 : decode cX7_mixIslander 92 = .ok (.i2l, 1) := by decide +kernel
theorem dX7_mixIslander_93 : decode cX7_mixIslander 93 = .ok (.invokevirtual 213, 3) := by decide +kernel
theorem dX7_mixIslander_96 : decode cX7_mixIslander 96 = .ok (.iconst 0, 1) := by decide +kernel
theorem dX7_mixIslander_97 : decode cX7_mixIslander 97 = .ok (.istore_n 2, 1) := by decide +kernel
theorem dX7_mixIslander_98 : decode cX7_mixIslander 98 = .ok (.iload_n 2, 1) := by decide +kernel
theorem dX7_mixIslander_99 : decode cX7_mixIslander 99 = .ok (.bipush 8, 2) := by decide +kernel
theorem dX7_mixIslander_101 : decode cX7_mixIslander 101 = .ok (.if_icmp .ge 20, 3) := by decide +kernel
theorem dX7_mixIslander_104 : decode cX7_mixIslander 104 = .ok (.aload_n 0, 1) := by decide +kernel
theorem dX7_mixIslander_105 : decode cX7_mixIslander 105 = .ok (.aload_n 0, 1) := by decide +kernel
theorem dX7_mixIslander_106 : decode cX7_mixIslander 106 = .ok (.iload_n 1, 1) := by decide +kernel
theorem dX7_mixIslander_107 : decode cX7_mixIslander 107 = .ok (.iload_n 2, 1) := by decide +kernel
theorem dX7_mixIslander_108 : decode cX7_mixIslander 108 = .ok (.invokevirtual 170, 3) := by decide +kernel
theorem dX7_mixIslander_111 : decode cX7_mixIslander 111 = .ok (.i2l, 1) := by decide +kernel
theorem dX7_mixIslander_112 : decode cX7_mixIslander 112 = .ok (.invokevirtual 213, 3) := by decide +kernel
theorem dX7_mixIslander_115 : decode cX7_mixIslander 115 = .ok (.iinc 2 1, 3) := by decide +kernel
theorem dX7_mixIslander_118 : decode cX7_mixIslander 118 = .ok (.goto (-20), 3) := by decide +kernel
theorem dX7_mixIslander_121 : decode cX7_mixIslander 121 = .ok (.return_, 1) := by decide +kernel
theorem dX7_digest_0 : decode cX7_digest 0 = .ok (.aload_n 0, 1) := by decide +kernel
theorem dX7_digest_1 : decode cX7_digest 1 = .ok (.iconst 0, 1) := by decide +kernel
theorem dX7_digest_2 : decode cX7_digest 2 = .ok (.putfield 35, 3) := by decide +kernel
theorem dX7_digest_5 : decode cX7_digest 5 = .ok (.aload_n 0, 1) := by decide +kernel
theorem dX7_digest_6 : decode cX7_digest 6 = .ok (.ldc2_w 217, 3) := by decide +kernel
theorem dX7_digest_9 : decode cX7_digest 9 = .ok (.putfield 209, 3) := by decide +kernel
theorem dX7_digest_12 : decode cX7_digest 12 = .ok (.iconst 0, 1) := by decide +kernel
theorem dX7_digest_13 : decode cX7_digest 13 = .ok (.istore_n 1, 1) := by decide +kernel
theorem dX7_digest_14 : decode cX7_digest 14 = .ok (.iload_n 1, 1) := by decide +kernel
theorem dX7_digest_15 : decode cX7_digest 15 = .ok (.bipush 10, 2) := by decide +kernel
theorem dX7_digest_17 : decode cX7_digest 17 = .ok (.if_icmp .ge 19, 3) := by decide +kernel
theorem dX7_digest_20 : decode cX7_digest 20 = .ok (.aload_n 0, 1) := by decide +kernel
theorem dX7_digest_21 : decode cX7_digest 21 = .ok (.aload_n 0, 1) := by decide +kernel
theorem dX7_digest_22 : decode cX7_digest 22 = .ok (.iload_n 1, 1) := by decide +kernel
theorem dX7_digest_23 : decode cX7_digest 23 = .ok (.invokevirtual 180, 3) := by decide +kernel
theorem dX7_digest_26 : decode cX7_digest 26 = .ok (.i2l, 1) := by decide +kernel
theorem dX7_digest_27 : decode cX7_digest 27 = .ok (.invokevirtual 213, 3) := by decide +kernel
theorem dX7_digest_30 : decode cX7_digest 30 = .ok (.iinc 1 1, 3) := by decide +kernel
theorem dX7_digest_33 : decode cX7_digest 33 = .ok (.goto (-19), 3) := by decide +kernel
theorem dX7_digest_36 : decode cX7_digest 36 = .ok (.iconst 0, 1) := by decide +kernel
theorem dX7_digest_37 : decode cX7_digest 37 = .ok (.istore_n 1, 1) := by decide +kernel
theorem dX7_digest_38 : decode cX7_digest 38 = .ok (.iload_n 1, 1) := by decide +kernel
theorem dX7_digest_39 : decode cX7_digest 39 = .ok (.iconst 4, 1) := by decide +kernel
theorem dX7_digest_40 : decode cX7_digest 40 = .ok (.if_icmp .ge 23, 3) := by decide +kernel
theorem dX7_digest_43 : decode cX7_digest 43 = .ok (.aload_n 0, 1) := by decide +kernel
theorem dX7_digest_44 : decode cX7_digest 44 = .ok (.aload_n 0, 1) := by decide +kernel
theorem dX7_digest_45 : decode cX7_digest 45 = .ok (.getfield 7, 3) := by decide +kernel
theorem dX7_digest_48 : decode cX7_digest 48 = .ok (.bipush 7, 2) := by decide +kernel
theorem dX7_digest_50 : decode cX7_digest 50 = .ok (.iload_n 1, 1) := by decide +kernel
theorem dX7_digest_51 : decode cX7_digest 51 = .ok (.iadd, 1) := by decide +kernel
theorem dX7_digest_52 : decode cX7_digest 52 = .ok (.iaload, 1) := by decide +kernel
theorem dX7_digest_53 : decode cX7_digest 53 = .ok (.i2l, 1) := by decide +kernel
theorem dX7_digest_54 : decode cX7_digest 54 = .ok (.invokevirtual 213, 3) := by decide +kernel
theorem dX7_digest_57 : decode cX7_digest 57 = .ok (.iinc 1 1, 3) := by decide +kernel
theorem dX7_digest_60 : decode cX7_digest 60 = .ok (.goto (-22), 3) := by decide +kernel
theorem dX7_digest_63 : decode cX7_digest 63 = .ok (.iconst 0, 1) := by decide +kernel
theorem dX7_digest_64 : decode cX7_digest 64 = .ok (.istore_n 1, 1) := by decide +kernel
theorem dX7_digest_65 : decode cX7_digest 65 = .ok (.iload_n 1, 1) := by decide +kernel
theorem dX7_digest_66 : decode cX7_digest 66 = .ok (.bipush 8, 2) := by decide +kernel
theorem dX7_digest_68 : decode cX7_digest 68 = .ok (.if_icmp .ge 14, 3) := by decide +kernel
theorem dX7_digest_71 : decode cX7_digest 71 = .ok (.aload_n 0, 1) := by decide +kernel
theorem dX7_digest_72 : decode cX7_digest 72 = .ok (.iload_n 1, 1) := by decide +kernel
theorem dX7_digest_73 : decode cX7_digest 73 = .ok (.invokevirtual 219, 3) := by decide +kernel
theorem dX7_digest_76 : decode cX7_digest 76 = .ok (.iinc 1 1, 3) := by decide +kernel
theorem dX7_digest_79 : decode cX7_digest 79 = .ok (.goto (-14), 3) := by decide +kernel
theorem dX7_digest_82 : decode cX7_digest 82 = .ok (.iconst 0, 1) := by decide +kernel
theorem dX7_digest_83 : decode cX7_digest 83 = .ok (.istore_n 1, 1) := by decide +kernel
theorem dX7_digest_84 : decode cX7_digest 84 = .ok (.iload_n 1, 1) := by decide +kernel
theorem dX7_digest_85 : decode cX7_digest 85 = .ok (.aload_n 0, 1) := by decide +kernel
theorem dX7_digest_86 : decode cX7_digest 86 = .ok (.getfield 7, 3) := by decide +kernel
theorem dX7_digest_89 : decode cX7_digest 89 = .ok (.iconst 1, 1) := by decide +kernel
theorem dX7_digest_90 : decode cX7_digest 90 = .ok (.iaload, 1) := by decide +kernel
theorem dX7_digest_91 : decode cX7_digest 91 = .ok (.if_icmp .ge 53, 3) := by decide +kernel
theorem dX7_digest_94 : decode cX7_digest 94 = .ok (.iconst 0, 1) := by decide +kernel
theorem dX7_digest_95 : decode cX7_digest 95 = .ok (.istore_n 2, 1) := by decide +kernel
theorem dX7_digest_96 : decode cX7_digest 96 = .ok (.iload_n 2, 1) := by decide +kernel
theorem dX7_digest_97 : decode cX7_digest 97 = .ok (.iconst 4, 1) := by decide +kernel
theorem dX7_digest_98 : decode cX7_digest 98 = .ok (.if_icmp .ge 20, 3) := by decide +kernel
theorem dX7_digest_101 : decode cX7_digest 101 = .ok (.aload_n 0, 1) := by decide +kernel
theorem dX7_digest_102 : decode cX7_digest 102 = .ok (.aload_n 0, 1) := by decide +kernel
theorem dX7_digest_103 : decode cX7_digest 103 = .ok (.iload_n 1, 1) := by decide +kernel
theorem dX7_digest_104 : decode cX7_digest 104 = .ok (.iload_n 2, 1) := by decide +kernel
theorem dX7_digest_105 : decode cX7_digest 105 = .ok (.invokevirtual 61, 3) := by decide +kernel
theorem dX7_digest_108 : decode cX7_digest 108 = .ok (.i2l, 1) := by decide +kernel
theorem dX7_digest_109 : decode cX7_digest 109 = .ok (.invokevirtual 213, 3) := by decide +kernel
theorem dX7_digest_112 : decode cX7_digest 112 = .ok (.iinc 2 1, 3) := by decide +kernel
theorem dX7_digest_115 : decode cX7_digest 115 = .ok (.goto (-19), 3) := by decide +kernel
theorem dX7_digest_118 : decode cX7_digest 118 = .ok (.aload_n 0, 1) := by decide +kernel
theorem dX7_digest_119 : decode cX7_digest 119 = .ok (.aload_n 0, 1) := by decide +kernel
theorem dX7_digest_120 : decode cX7_digest 120 = .ok (.iload_n 1, 1) := by decide +kernel
theorem dX7_digest_121 : decode cX7_digest 121 = .ok (.invokevirtual 81, 3) := by decide +kernel
theorem dX7_digest_124 : decode cX7_digest 124 = .ok (.i2l, 1) := by decide +kernel
theorem dX7_digest_125 : decode cX7_digest 125 = .ok (.invokevirtual 213, 3) := by decide +kernel
theorem dX7_digest_128 : decode cX7_digest 128 = .ok (.aload_n 0, 1) := by decide +kernel
theorem dX7_digest_129 : decode cX7_digest 129 = .ok (.aload_n 0, 1) := by decide +kernel
theorem dX7_digest_130 : decode cX7_digest 130 = .ok (.iload_n 1, 1) := by decide +kernel
theorem dX7_digest_131 : decode cX7_digest 131 = .ok (.invokevirtual 192, 3) := by decide +kernel
theorem dX7_digest_134 : decode cX7_digest 134 = .ok (.i2l, 1) := by decide +kernel
theorem dX7_digest_135 : decode cX7_digest 135 = .ok (.invokevirtual 213, 3) := by decide +kernel
theorem dX7_digest_138 : decode cX7_digest 138 = .ok (.iinc 1 1, 3) := by decide +kernel
theorem dX7_digest_141 : decode cX7_digest 141 = .ok (.goto (-57), 3) := by decide +kernel
theorem dX7_digest_144 : decode cX7_digest 144 = .ok (.aload_n 0, 1) := by decide +kernel
theorem dX7_digest_145 : decode cX7_digest 145 = .ok (.aload_n 0, 1) := by decide +kernel
theorem dX7_digest_146 : decode cX7_digest 146 = .ok (.invokevirtual 183, 3) := by decide +kernel
theorem dX7_digest_149 : decode cX7_digest 149 = .ok (.i2l, 1) := by decide +kernel
theorem dX7_digest_150 : decode cX7_digest 150 = .ok (.invokevirtual 213, 3) := by decide +kernel
theorem dX7_digest_153 : decode cX7_digest 153 = .ok (.aload_n 0, 1) := by decide +kernel
theorem dX7_digest_154 : decode cX7_digest 154 = .ok (.aload_n 0, 1) := by decide +kernel
theorem dX7_digest_155 : decode cX7_digest 155 = .ok (.invokevirtual 183, 3) := by decide +kernel
theorem dX7_digest_158 : decode cX7_digest 158 = .ok (.i2l, 1) := by decide +kernel
theorem dX7_digest_159 : decode cX7_digest 159 = .ok (.invokevirtual 213, 3) := by decide +kernel
theorem dX7_digest_162 : decode cX7_digest 162 = .ok (.aload_n 0, 1) := by decide +kernel
theorem dX7_digest_163 : decode cX7_digest 163 = .ok (.aload_n 0, 1) := by decide +kernel
theorem dX7_digest_164 : decode cX7_digest 164 = .ok (.invokevirtual 186, 3) := by decide +kernel
theorem dX7_digest_167 : decode cX7_digest 167 = .ok (.i2l, 1) := by decide +kernel
theorem dX7_digest_168 : decode cX7_digest 168 = .ok (.invokevirtual 213, 3) := by decide +kernel
theorem dX7_digest_171 : decode cX7_digest 171 = .ok (.aload_n 0, 1) := by decide +kernel
theorem dX7_digest_172 : decode cX7_digest 172 = .ok (.aload_n 0, 1) := by decide +kernel
theorem dX7_digest_173 : decode cX7_digest 173 = .ok (.invokevirtual 195, 3) := by decide +kernel
theorem dX7_digest_176 : decode cX7_digest 176 = .ok (.invokestatic 222, 3) := by decide +kernel
theorem dX7_digest_179 : decode cX7_digest 179 = .ok (.invokevirtual 213, 3) := by decide +kernel
theorem dX7_digest_182 : decode cX7_digest 182 = .ok (.iconst 0, 1) := by decide +kernel
theorem dX7_digest_183 : decode cX7_digest 183 = .ok (.istore_n 1, 1) := by decide +kernel
theorem dX7_digest_184 : decode cX7_digest 184 = .ok (.iload_n 1, 1) := by decide +kernel
theorem dX7_digest_185 : decode cX7_digest 185 = .ok (.iconst 2, 1) := by decide +kernel
theorem dX7_digest_186 : decode cX7_digest 186 = .ok (.if_icmp .ge 27, 3) := by decide +kernel
theorem dX7_digest_189 : decode cX7_digest 189 = .ok (.aload_n 0, 1) := by decide +kernel
theorem dX7_digest_190 : decode cX7_digest 190 = .ok (.aload_n 0, 1) := by decide +kernel
theorem dX7_digest_191 : decode cX7_digest 191 = .ok (.getfield 19, 3) := by decide +kernel
theorem dX7_digest_194 : decode cX7_digest 194 = .ok (.iload_n 1, 1) := by decide +kernel
theorem dX7_digest_195 : decode cX7_digest 195 = .ok (.baload, 1) := by decide +kernel
theorem dX7_digest_196 : decode cX7_digest 196 = .ok (.ifCond .eq 7, 3) := by decide +kernel
theorem dX7_digest_199 : decode cX7_digest 199 = .ok (.lconst 1, 1) := by decide +kernel
theorem dX7_digest_200 : decode cX7_digest 200 = .ok (.goto 4, 3) := by decide +kernel
theorem dX7_digest_203 : decode cX7_digest 203 = .ok (.lconst 0, 1) := by decide +kernel
theorem dX7_digest_204 : decode cX7_digest 204 = .ok (.invokevirtual 213, 3) := by decide +kernel
theorem dX7_digest_207 : decode cX7_digest 207 = .ok (.iinc 1 1, 3) := by decide +kernel
theorem dX7_digest_210 : decode cX7_digest 210 = .ok (.goto (-26), 3) := by decide +kernel
theorem dX7_digest_213 : decode cX7_digest 213 = .ok (.aload_n 0, 1) := by decide +kernel
theorem dX7_digest_214 : decode cX7_digest 214 = .ok (.aload_n 0, 1) := by decide +kernel
theorem dX7_digest_215 : decode cX7_digest 215 = .ok (.getfield 125, 3) := by decide +kernel
theorem dX7_digest_218 : decode cX7_digest 218 = .ok (.i2l, 1) := by decide +kernel
theorem dX7_digest_219 : decode cX7_digest 219 = .ok (.invokevirtual 213, 3) := by decide +kernel
theorem dX7_digest_222 : decode cX7_digest 222 = .ok (.iconst 0, 1) := by decide +kernel
theorem dX7_digest_223 : decode cX7_digest 223 = .ok (.istore_n 1, 1) := by decide +kernel
theorem dX7_digest_224 : decode cX7_digest 224 = .ok (.iload_n 1, 1) := by decide +kernel
theorem dX7_digest_225 : decode cX7_digest 225 = .ok (.aload_n 0, 1) := by decide +kernel
theorem dX7_digest_226 : decode cX7_digest 226 = .ok (.getfield 125, 3) := by decide +kernel
theorem dX7_digest_229 : decode cX7_digest 229 = .ok (.if_icmp .ge 20, 3) := by decide +kernel
theorem dX7_digest_232 : decode cX7_digest 232 = .ok (.aload_n 0, 1) := by decide +kernel
theorem dX7_digest_233 : decode cX7_digest 233 = .ok (.aload_n 0, 1) := by decide +kernel
theorem dX7_digest_234 : decode cX7_digest 234 = .ok (.getfield 23, 3) := by decide +kernel
theorem dX7_digest_237 : decode cX7_digest 237 = .ok (.iload_n 1, 1) := by decide +kernel
theorem dX7_digest_238 : decode cX7_digest 238 = .ok (.iaload, 1) := by decide +kernel
theorem dX7_digest_239 : decode cX7_digest 239 = .ok (.i2l, 1) := by decide +kernel
theorem dX7_digest_240 : decode cX7_digest 240 = .ok (.invokevirtual 213, 3) := by decide +kernel
theorem dX7_digest_243 : decode cX7_digest 243 = .ok (.iinc 1 1, 3) := by decide +kernel
theorem dX7_digest_246 : decode cX7_digest 246 = .ok (.goto (-22), 3) := by decide +kernel
theorem dX7_digest_249 : decode cX7_digest 249 = .ok (.aload_n 0, 1) := by decide +kernel
theorem dX7_digest_250 : decode cX7_digest 250 = .ok (.getfield 209, 3) := by decide +kernel
theorem dX7_digest_253 : decode cX7_digest 253 = .ok (.lreturn, 1) := by decide +kernel
end
section
theorem dL_storm_0 : decode cL_storm 0 = .ok (.aload_n 1, 1) := by decide +kernel
theorem dL_storm_1 : decode cL_storm 1 = .ok (.iconst 0, 1) := by decide +kernel
theorem dL_storm_2 : decode cL_storm 2 = .ok (.aload_n 0, 1) := by decide +kernel
theorem dL_storm_3 : decode cL_storm 3 = .ok (.invokevirtual 7, 3) := by decide +kernel
theorem dL_storm_6 : decode cL_storm 6 = .ok (.i2l, 1) := by decide +kernel
theorem dL_storm_7 : decode cL_storm 7 = .ok (.lastore, 1) := by decide +kernel
theorem dL_storm_8 : decode cL_storm 8 = .ok (.goto 6, 3) := by decide +kernel
theorem dL_storm_11 : decode cL_storm 11 = .ok (.astore_n 2, 1) := by decide +kernel
theorem dL_storm_12 : decode cL_storm 12 = .ok (.iconst 1, 1) := by decide +kernel
theorem dL_storm_13 : decode cL_storm 13 = .ok (.ireturn, 1) := by decide +kernel
theorem dL_storm_14 : decode cL_storm 14 = .ok (.iconst 0, 1) := by decide +kernel
theorem dL_storm_15 : decode cL_storm 15 = .ok (.ireturn, 1) := by decide +kernel
theorem dL_cross_0 : decode cL_cross 0 = .ok (.aload_n 3, 1) := by decide +kernel
theorem dL_cross_1 : decode cL_cross 1 = .ok (.iconst 0, 1) := by decide +kernel
theorem dL_cross_2 : decode cL_cross 2 = .ok (.aload_n 0, 1) := by decide +kernel
theorem dL_cross_3 : decode cL_cross 3 = .ok (.iload_n 1, 1) := by decide +kernel
theorem dL_cross_4 : decode cL_cross 4 = .ok (.iload_n 2, 1) := by decide +kernel
theorem dL_cross_5 : decode cL_cross 5 = .ok (.invokevirtual 15, 3) := by decide +kernel
theorem dL_cross_8 : decode cL_cross 8 = .ok (.i2l, 1) := by decide +kernel
theorem dL_cross_9 : decode cL_cross 9 = .ok (.lastore, 1) := by decide +kernel
theorem dL_cross_10 : decode cL_cross 10 = .ok (.goto 7, 3) := by decide +kernel
theorem dL_cross_13 : decode cL_cross 13 = .ok (.astore 4, 2) := by decide +kernel
theorem dL_cross_15 : decode cL_cross 15 = .ok (.iconst 1, 1) := by decide +kernel
theorem dL_cross_16 : decode cL_cross 16 = .ok (.ireturn, 1) := by decide +kernel
theorem dL_cross_17 : decode cL_cross 17 = .ok (.iconst 0, 1) := by decide +kernel
theorem dL_cross_18 : decode cL_cross 18 = .ok (.ireturn, 1) := by decide +kernel
theorem dL_trade_0 : decode cL_trade 0 = .ok (.aload 7, 2) := by decide +kernel
theorem dL_trade_2 : decode cL_trade 2 = .ok (.iconst 0, 1) := by decide +kernel
theorem dL_trade_3 : decode cL_trade 3 = .ok (.aload_n 0, 1) := by decide +kernel
theorem dL_trade_4 : decode cL_trade 4 = .ok (.iload_n 1, 1) := by decide +kernel
theorem dL_trade_5 : decode cL_trade 5 = .ok (.iload_n 2, 1) := by decide +kernel
theorem dL_trade_6 : decode cL_trade 6 = .ok (.iload_n 3, 1) := by decide +kernel
theorem dL_trade_7 : decode cL_trade 7 = .ok (.iload 4, 2) := by decide +kernel
theorem dL_trade_9 : decode cL_trade 9 = .ok (.iload 5, 2) := by decide +kernel
theorem dL_trade_11 : decode cL_trade 11 = .ok (.iload 6, 2) := by decide +kernel
theorem dL_trade_13 : decode cL_trade 13 = .ok (.invokevirtual 21, 3) := by decide +kernel
theorem dL_trade_16 : decode cL_trade 16 = .ok (.i2l, 1) := by decide +kernel
theorem dL_trade_17 : decode cL_trade 17 = .ok (.lastore, 1) := by decide +kernel
theorem dL_trade_18 : decode cL_trade 18 = .ok (.goto 11, 3) := by decide +kernel
theorem dL_trade_21 : decode cL_trade 21 = .ok (.astore 8, 2) := by decide +kernel
theorem dL_trade_23 : decode cL_trade 23 = .ok (.iconst 1, 1) := by decide +kernel
theorem dL_trade_24 : decode cL_trade 24 = .ok (.ireturn, 1) := by decide +kernel
theorem dL_trade_25 : decode cL_trade 25 = .ok (.astore 8, 2) := by decide +kernel
theorem dL_trade_27 : decode cL_trade 27 = .ok (.iconst 2, 1) := by decide +kernel
theorem dL_trade_28 : decode cL_trade 28 = .ok (.ireturn, 1) := by decide +kernel
theorem dL_trade_29 : decode cL_trade 29 = .ok (.iconst 0, 1) := by decide +kernel
theorem dL_trade_30 : decode cL_trade 30 = .ok (.ireturn, 1) := by decide +kernel
theorem dL_worth_0 : decode cL_worth 0 = .ok (.aload_n 3, 1) := by decide +kernel
theorem dL_worth_1 : decode cL_worth 1 = .ok (.iconst 0, 1) := by decide +kernel
theorem dL_worth_2 : decode cL_worth 2 = .ok (.aload_n 0, 1) := by decide +kernel
theorem dL_worth_3 : decode cL_worth 3 = .ok (.iload_n 1, 1) := by decide +kernel
theorem dL_worth_4 : decode cL_worth 4 = .ok (.iload_n 2, 1) := by decide +kernel
theorem dL_worth_5 : decode cL_worth 5 = .ok (.invokevirtual 27, 3) := by decide +kernel
theorem dL_worth_8 : decode cL_worth 8 = .ok (.i2l, 1) := by decide +kernel
theorem dL_worth_9 : decode cL_worth 9 = .ok (.lastore, 1) := by decide +kernel
theorem dL_worth_10 : decode cL_worth 10 = .ok (.goto 11, 3) := by decide +kernel
theorem dL_worth_13 : decode cL_worth 13 = .ok (.astore 4, 2) := by decide +kernel
theorem dL_worth_15 : decode cL_worth 15 = .ok (.iconst 1, 1) := by decide +kernel
theorem dL_worth_16 : decode cL_worth 16 = .ok (.ireturn, 1) := by decide +kernel
theorem dL_worth_17 : decode cL_worth 17 = .ok (.astore 4, 2) := by decide +kernel
theorem dL_worth_19 : decode cL_worth 19 = .ok (.iconst 2, 1) := by decide +kernel
theorem dL_worth_20 : decode cL_worth 20 = .ok (.ireturn, 1) := by decide +kernel
theorem dL_worth_21 : decode cL_worth 21 = .ok (.iconst 0, 1) := by decide +kernel
theorem dL_worth_22 : decode cL_worth 22 = .ok (.ireturn, 1) := by decide +kernel
theorem dL_set_0 : decode cL_set 0 = .ok (.aload_n 2, 1) := by decide +kernel
theorem dL_set_1 : decode cL_set 1 = .ok (.iconst 0, 1) := by decide +kernel
theorem dL_set_2 : decode cL_set 2 = .ok (.aload_n 0, 1) := by decide +kernel
theorem dL_set_3 : decode cL_set 3 = .ok (.iload_n 1, 1) := by decide +kernel
theorem dL_set_4 : decode cL_set 4 = .ok (.invokevirtual 30, 3) := by decide +kernel
theorem dL_set_7 : decode cL_set 7 = .ok (.i2l, 1) := by decide +kernel
theorem dL_set_8 : decode cL_set 8 = .ok (.lastore, 1) := by decide +kernel
theorem dL_set_9 : decode cL_set 9 = .ok (.goto 6, 3) := by decide +kernel
theorem dL_set_12 : decode cL_set 12 = .ok (.astore_n 3, 1) := by decide +kernel
theorem dL_set_13 : decode cL_set 13 = .ok (.iconst 1, 1) := by decide +kernel
theorem dL_set_14 : decode cL_set 14 = .ok (.ireturn, 1) := by decide +kernel
theorem dL_set_15 : decode cL_set 15 = .ok (.iconst 0, 1) := by decide +kernel
theorem dL_set_16 : decode cL_set 16 = .ok (.ireturn, 1) := by decide +kernel
theorem dL_promise_0 : decode cL_promise 0 = .ok (.aload 5, 2) := by decide +kernel
theorem dL_promise_2 : decode cL_promise 2 = .ok (.iconst 0, 1) := by decide +kernel
theorem dL_promise_3 : decode cL_promise 3 = .ok (.aload_n 0, 1) := by decide +kernel
theorem dL_promise_4 : decode cL_promise 4 = .ok (.iload_n 1, 1) := by decide +kernel
theorem dL_promise_5 : decode cL_promise 5 = .ok (.iload_n 2, 1) := by decide +kernel
theorem dL_promise_6 : decode cL_promise 6 = .ok (.iload_n 3, 1) := by decide +kernel
theorem dL_promise_7 : decode cL_promise 7 = .ok (.iload 4, 2) := by decide +kernel
theorem dL_promise_9 : decode cL_promise 9 = .ok (.invokevirtual 34, 3) := by decide +kernel
theorem dL_promise_12 : decode cL_promise 12 = .ok (.i2l, 1) := by decide +kernel
theorem dL_promise_13 : decode cL_promise 13 = .ok (.lastore, 1) := by decide +kernel
theorem dL_promise_14 : decode cL_promise 14 = .ok (.goto 11, 3) := by decide +kernel
theorem dL_promise_17 : decode cL_promise 17 = .ok (.astore 6, 2) := by decide +kernel
theorem dL_promise_19 : decode cL_promise 19 = .ok (.iconst 1, 1) := by decide +kernel
theorem dL_promise_20 : decode cL_promise 20 = .ok (.ireturn, 1) := by decide +kernel
theorem dL_promise_21 : decode cL_promise 21 = .ok (.astore 6, 2) := by decide +kernel
theorem dL_promise_23 : decode cL_promise 23 = .ok (.iconst 2, 1) := by decide +kernel
theorem dL_promise_24 : decode cL_promise 24 = .ok (.ireturn, 1) := by decide +kernel
theorem dL_promise_25 : decode cL_promise 25 = .ok (.iconst 0, 1) := by decide +kernel
theorem dL_promise_26 : decode cL_promise 26 = .ok (.ireturn, 1) := by decide +kernel
theorem dL_fulfil_0 : decode cL_fulfil 0 = .ok (.aload_n 2, 1) := by decide +kernel
theorem dL_fulfil_1 : decode cL_fulfil 1 = .ok (.iconst 0, 1) := by decide +kernel
theorem dL_fulfil_2 : decode cL_fulfil 2 = .ok (.aload_n 0, 1) := by decide +kernel
theorem dL_fulfil_3 : decode cL_fulfil 3 = .ok (.iload_n 1, 1) := by decide +kernel
theorem dL_fulfil_4 : decode cL_fulfil 4 = .ok (.invokevirtual 38, 3) := by decide +kernel
theorem dL_fulfil_7 : decode cL_fulfil 7 = .ok (.i2l, 1) := by decide +kernel
theorem dL_fulfil_8 : decode cL_fulfil 8 = .ok (.lastore, 1) := by decide +kernel
theorem dL_fulfil_9 : decode cL_fulfil 9 = .ok (.goto 6, 3) := by decide +kernel
theorem dL_fulfil_12 : decode cL_fulfil 12 = .ok (.astore_n 3, 1) := by decide +kernel
theorem dL_fulfil_13 : decode cL_fulfil 13 = .ok (.iconst 1, 1) := by decide +kernel
theorem dL_fulfil_14 : decode cL_fulfil 14 = .ok (.ireturn, 1) := by decide +kernel
theorem dL_fulfil_15 : decode cL_fulfil 15 = .ok (.iconst 0, 1) := by decide +kernel
theorem dL_fulfil_16 : decode cL_fulfil 16 = .ok (.ireturn, 1) := by decide +kernel
theorem dL_append_0 : decode cL_append 0 = .ok (.aload_n 2, 1) := by decide +kernel
theorem dL_append_1 : decode cL_append 1 = .ok (.iconst 0, 1) := by decide +kernel
theorem dL_append_2 : decode cL_append 2 = .ok (.aload_n 0, 1) := by decide +kernel
theorem dL_append_3 : decode cL_append 3 = .ok (.iload_n 1, 1) := by decide +kernel
theorem dL_append_4 : decode cL_append 4 = .ok (.invokevirtual 41, 3) := by decide +kernel
theorem dL_append_7 : decode cL_append 7 = .ok (.i2l, 1) := by decide +kernel
theorem dL_append_8 : decode cL_append 8 = .ok (.lastore, 1) := by decide +kernel
theorem dL_append_9 : decode cL_append 9 = .ok (.goto 9, 3) := by decide +kernel
theorem dL_append_12 : decode cL_append 12 = .ok (.astore_n 3, 1) := by decide +kernel
theorem dL_append_13 : decode cL_append 13 = .ok (.iconst 1, 1) := by decide +kernel
theorem dL_append_14 : decode cL_append 14 = .ok (.ireturn, 1) := by decide +kernel
theorem dL_append_15 : decode cL_append 15 = .ok (.astore_n 3, 1) := by decide +kernel
theorem dL_append_16 : decode cL_append 16 = .ok (.iconst 2, 1) := by decide +kernel
theorem dL_append_17 : decode cL_append 17 = .ok (.ireturn, 1) := by decide +kernel
theorem dL_append_18 : decode cL_append 18 = .ok (.iconst 0, 1) := by decide +kernel
theorem dL_append_19 : decode cL_append 19 = .ok (.ireturn, 1) := by decide +kernel
theorem dL_run_0 : decode cL_run 0 = .ok (.aload_n 1, 1) := by decide +kernel
theorem dL_run_1 : decode cL_run 1 = .ok (.iconst 0, 1) := by decide +kernel
theorem dL_run_2 : decode cL_run 2 = .ok (.aload_n 0, 1) := by decide +kernel
theorem dL_run_3 : decode cL_run 3 = .ok (.invokevirtual 44, 3) := by decide +kernel
theorem dL_run_6 : decode cL_run 6 = .ok (.i2l, 1) := by decide +kernel
theorem dL_run_7 : decode cL_run 7 = .ok (.lastore, 1) := by decide +kernel
theorem dL_run_8 : decode cL_run 8 = .ok (.goto 6, 3) := by decide +kernel
theorem dL_run_11 : decode cL_run 11 = .ok (.astore_n 2, 1) := by decide +kernel
theorem dL_run_12 : decode cL_run 12 = .ok (.iconst 1, 1) := by decide +kernel
theorem dL_run_13 : decode cL_run 13 = .ok (.ireturn, 1) := by decide +kernel
theorem dL_run_14 : decode cL_run 14 = .ok (.iconst 0, 1) := by decide +kernel
theorem dL_run_15 : decode cL_run 15 = .ok (.ireturn, 1) := by decide +kernel
theorem dL_keep_0 : decode cL_keep 0 = .ok (.aload_n 2, 1) := by decide +kernel
theorem dL_keep_1 : decode cL_keep 1 = .ok (.iconst 0, 1) := by decide +kernel
theorem dL_keep_2 : decode cL_keep 2 = .ok (.aload_n 0, 1) := by decide +kernel
theorem dL_keep_3 : decode cL_keep 3 = .ok (.iload_n 1, 1) := by decide +kernel
theorem dL_keep_4 : decode cL_keep 4 = .ok (.invokevirtual 47, 3) := by decide +kernel
theorem dL_keep_7 : decode cL_keep 7 = .ok (.i2l, 1) := by decide +kernel
theorem dL_keep_8 : decode cL_keep 8 = .ok (.lastore, 1) := by decide +kernel
theorem dL_keep_9 : decode cL_keep 9 = .ok (.goto 6, 3) := by decide +kernel
theorem dL_keep_12 : decode cL_keep 12 = .ok (.astore_n 3, 1) := by decide +kernel
theorem dL_keep_13 : decode cL_keep 13 = .ok (.iconst 1, 1) := by decide +kernel
theorem dL_keep_14 : decode cL_keep 14 = .ok (.ireturn, 1) := by decide +kernel
theorem dL_keep_15 : decode cL_keep 15 = .ok (.iconst 0, 1) := by decide +kernel
theorem dL_keep_16 : decode cL_keep 16 = .ok (.ireturn, 1) := by decide +kernel
theorem dL_goBack_0 : decode cL_goBack 0 = .ok (.aload_n 2, 1) := by decide +kernel
theorem dL_goBack_1 : decode cL_goBack 1 = .ok (.iconst 0, 1) := by decide +kernel
theorem dL_goBack_2 : decode cL_goBack 2 = .ok (.aload_n 0, 1) := by decide +kernel
theorem dL_goBack_3 : decode cL_goBack 3 = .ok (.iload_n 1, 1) := by decide +kernel
theorem dL_goBack_4 : decode cL_goBack 4 = .ok (.invokevirtual 50, 3) := by decide +kernel
theorem dL_goBack_7 : decode cL_goBack 7 = .ok (.i2l, 1) := by decide +kernel
theorem dL_goBack_8 : decode cL_goBack 8 = .ok (.lastore, 1) := by decide +kernel
theorem dL_goBack_9 : decode cL_goBack 9 = .ok (.goto 9, 3) := by decide +kernel
theorem dL_goBack_12 : decode cL_goBack 12 = .ok (.astore_n 3, 1) := by decide +kernel
theorem dL_goBack_13 : decode cL_goBack 13 = .ok (.iconst 1, 1) := by decide +kernel
theorem dL_goBack_14 : decode cL_goBack 14 = .ok (.ireturn, 1) := by decide +kernel
theorem dL_goBack_15 : decode cL_goBack 15 = .ok (.astore_n 3, 1) := by decide +kernel
theorem dL_goBack_16 : decode cL_goBack 16 = .ok (.iconst 2, 1) := by decide +kernel
theorem dL_goBack_17 : decode cL_goBack 17 = .ok (.ireturn, 1) := by decide +kernel
theorem dL_goBack_18 : decode cL_goBack 18 = .ok (.iconst 0, 1) := by decide +kernel
theorem dL_goBack_19 : decode cL_goBack 19 = .ok (.ireturn, 1) := by decide +kernel
theorem dL_undo_0 : decode cL_undo 0 = .ok (.aload_n 1, 1) := by decide +kernel
theorem dL_undo_1 : decode cL_undo 1 = .ok (.iconst 0, 1) := by decide +kernel
theorem dL_undo_2 : decode cL_undo 2 = .ok (.aload_n 0, 1) := by decide +kernel
theorem dL_undo_3 : decode cL_undo 3 = .ok (.invokevirtual 53, 3) := by decide +kernel
theorem dL_undo_6 : decode cL_undo 6 = .ok (.i2l, 1) := by decide +kernel
theorem dL_undo_7 : decode cL_undo 7 = .ok (.lastore, 1) := by decide +kernel
theorem dL_undo_8 : decode cL_undo 8 = .ok (.goto 6, 3) := by decide +kernel
theorem dL_undo_11 : decode cL_undo 11 = .ok (.astore_n 2, 1) := by decide +kernel
theorem dL_undo_12 : decode cL_undo 12 = .ok (.iconst 1, 1) := by decide +kernel
theorem dL_undo_13 : decode cL_undo 13 = .ok (.ireturn, 1) := by decide +kernel
theorem dL_undo_14 : decode cL_undo 14 = .ok (.iconst 0, 1) := by decide +kernel
theorem dL_undo_15 : decode cL_undo 15 = .ok (.ireturn, 1) := by decide +kernel
theorem dL_caps_0 : decode cL_caps 0 = .ok (.aload_n 3, 1) := by decide +kernel
theorem dL_caps_1 : decode cL_caps 1 = .ok (.iconst 0, 1) := by decide +kernel
theorem dL_caps_2 : decode cL_caps 2 = .ok (.aload_n 0, 1) := by decide +kernel
theorem dL_caps_3 : decode cL_caps 3 = .ok (.iload_n 1, 1) := by decide +kernel
theorem dL_caps_4 : decode cL_caps 4 = .ok (.iload_n 2, 1) := by decide +kernel
theorem dL_caps_5 : decode cL_caps 5 = .ok (.invokevirtual 56, 3) := by decide +kernel
theorem dL_caps_8 : decode cL_caps 8 = .ok (.i2l, 1) := by decide +kernel
theorem dL_caps_9 : decode cL_caps 9 = .ok (.lastore, 1) := by decide +kernel
theorem dL_caps_10 : decode cL_caps 10 = .ok (.goto 7, 3) := by decide +kernel
theorem dL_caps_13 : decode cL_caps 13 = .ok (.astore 4, 2) := by decide +kernel
theorem dL_caps_15 : decode cL_caps 15 = .ok (.iconst 1, 1) := by decide +kernel
theorem dL_caps_16 : decode cL_caps 16 = .ok (.ireturn, 1) := by decide +kernel
theorem dL_caps_17 : decode cL_caps 17 = .ok (.iconst 0, 1) := by decide +kernel
theorem dL_caps_18 : decode cL_caps 18 = .ok (.ireturn, 1) := by decide +kernel
theorem dL_islanderOf_0 : decode cL_islanderOf 0 = .ok (.aload_n 3, 1) := by decide +kernel
theorem dL_islanderOf_1 : decode cL_islanderOf 1 = .ok (.iconst 0, 1) := by decide +kernel
theorem dL_islanderOf_2 : decode cL_islanderOf 2 = .ok (.aload_n 0, 1) := by decide +kernel
theorem dL_islanderOf_3 : decode cL_islanderOf 3 = .ok (.iload_n 1, 1) := by decide +kernel
theorem dL_islanderOf_4 : decode cL_islanderOf 4 = .ok (.iload_n 2, 1) := by decide +kernel
theorem dL_islanderOf_5 : decode cL_islanderOf 5 = .ok (.invokevirtual 59, 3) := by decide +kernel
theorem dL_islanderOf_8 : decode cL_islanderOf 8 = .ok (.i2l, 1) := by decide +kernel
theorem dL_islanderOf_9 : decode cL_islanderOf 9 = .ok (.lastore, 1) := by decide +kernel
theorem dL_islanderOf_10 : decode cL_islanderOf 10 = .ok (.goto 11, 3) := by decide +kernel
theorem dL_islanderOf_13 : decode cL_islanderOf 13 = .ok (.astore 4, 2) := by decide +kernel
theorem dL_islanderOf_15 : decode cL_islanderOf 15 = .ok (.iconst 1, 1) := by decide +kernel
theorem dL_islanderOf_16 : decode cL_islanderOf 16 = .ok (.ireturn, 1) := by decide +kernel
theorem dL_islanderOf_17 : decode cL_islanderOf 17 = .ok (.astore 4, 2) := by decide +kernel
theorem dL_islanderOf_19 : decode cL_islanderOf 19 = .ok (.iconst 2, 1) := by decide +kernel
theorem dL_islanderOf_20 : decode cL_islanderOf 20 = .ok (.ireturn, 1) := by decide +kernel
theorem dL_islanderOf_21 : decode cL_islanderOf 21 = .ok (.iconst 0, 1) := by decide +kernel
theorem dL_islanderOf_22 : decode cL_islanderOf 22 = .ok (.ireturn, 1) := by decide +kernel
theorem dL_promiseOf_0 : decode cL_promiseOf 0 = .ok (.aload_n 3, 1) := by decide +kernel
theorem dL_promiseOf_1 : decode cL_promiseOf 1 = .ok (.iconst 0, 1) := by decide +kernel
theorem dL_promiseOf_2 : decode cL_promiseOf 2 = .ok (.aload_n 0, 1) := by decide +kernel
theorem dL_promiseOf_3 : decode cL_promiseOf 3 = .ok (.iload_n 1, 1) := by decide +kernel
theorem dL_promiseOf_4 : decode cL_promiseOf 4 = .ok (.iload_n 2, 1) := by decide +kernel
theorem dL_promiseOf_5 : decode cL_promiseOf 5 = .ok (.invokevirtual 62, 3) := by decide +kernel
theorem dL_promiseOf_8 : decode cL_promiseOf 8 = .ok (.i2l, 1) := by decide +kernel
theorem dL_promiseOf_9 : decode cL_promiseOf 9 = .ok (.lastore, 1) := by decide +kernel
theorem dL_promiseOf_10 : decode cL_promiseOf 10 = .ok (.goto 11, 3) := by decide +kernel
theorem dL_promiseOf_13 : decode cL_promiseOf 13 = .ok (.astore 4, 2) := by decide +kernel
theorem dL_promiseOf_15 : decode cL_promiseOf 15 = .ok (.iconst 1, 1) := by decide +kernel
theorem dL_promiseOf_16 : decode cL_promiseOf 16 = .ok (.ireturn, 1) := by decide +kernel
theorem dL_promiseOf_17 : decode cL_promiseOf 17 = .ok (.astore 4, 2) := by decide +kernel
theorem dL_promiseOf_19 : decode cL_promiseOf 19 = .ok (.iconst 2, 1) := by decide +kernel
theorem dL_promiseOf_20 : decode cL_promiseOf 20 = .ok (.ireturn, 1) := by decide +kernel
theorem dL_promiseOf_21 : decode cL_promiseOf 21 = .ok (.iconst 0, 1) := by decide +kernel
theorem dL_promiseOf_22 : decode cL_promiseOf 22 = .ok (.ireturn, 1) := by decide +kernel
theorem dL_owed_0 : decode cL_owed 0 = .ok (.aload_n 3, 1) := by decide +kernel
theorem dL_owed_1 : decode cL_owed 1 = .ok (.iconst 0, 1) := by decide +kernel
theorem dL_owed_2 : decode cL_owed 2 = .ok (.aload_n 0, 1) := by decide +kernel
theorem dL_owed_3 : decode cL_owed 3 = .ok (.iload_n 1, 1) := by decide +kernel
theorem dL_owed_4 : decode cL_owed 4 = .ok (.iload_n 2, 1) := by decide +kernel
theorem dL_owed_5 : decode cL_owed 5 = .ok (.invokevirtual 65, 3) := by decide +kernel
theorem dL_owed_8 : decode cL_owed 8 = .ok (.i2l, 1) := by decide +kernel
theorem dL_owed_9 : decode cL_owed 9 = .ok (.lastore, 1) := by decide +kernel
theorem dL_owed_10 : decode cL_owed 10 = .ok (.goto 7, 3) := by decide +kernel
theorem dL_owed_13 : decode cL_owed 13 = .ok (.astore 4, 2) := by decide +kernel
theorem dL_owed_15 : decode cL_owed 15 = .ok (.iconst 1, 1) := by decide +kernel
theorem dL_owed_16 : decode cL_owed 16 = .ok (.ireturn, 1) := by decide +kernel
theorem dL_owed_17 : decode cL_owed 17 = .ok (.iconst 0, 1) := by decide +kernel
theorem dL_owed_18 : decode cL_owed 18 = .ok (.ireturn, 1) := by decide +kernel
theorem dL_count_0 : decode cL_count 0 = .ok (.aload_n 2, 1) := by decide +kernel
theorem dL_count_1 : decode cL_count 1 = .ok (.iconst 0, 1) := by decide +kernel
theorem dL_count_2 : decode cL_count 2 = .ok (.aload_n 0, 1) := by decide +kernel
theorem dL_count_3 : decode cL_count 3 = .ok (.iload_n 1, 1) := by decide +kernel
theorem dL_count_4 : decode cL_count 4 = .ok (.invokevirtual 68, 3) := by decide +kernel
theorem dL_count_7 : decode cL_count 7 = .ok (.i2l, 1) := by decide +kernel
theorem dL_count_8 : decode cL_count 8 = .ok (.lastore, 1) := by decide +kernel
theorem dL_count_9 : decode cL_count 9 = .ok (.goto 6, 3) := by decide +kernel
theorem dL_count_12 : decode cL_count 12 = .ok (.astore_n 3, 1) := by decide +kernel
theorem dL_count_13 : decode cL_count 13 = .ok (.iconst 1, 1) := by decide +kernel
theorem dL_count_14 : decode cL_count 14 = .ok (.ireturn, 1) := by decide +kernel
theorem dL_count_15 : decode cL_count 15 = .ok (.iconst 0, 1) := by decide +kernel
theorem dL_count_16 : decode cL_count 16 = .ok (.ireturn, 1) := by decide +kernel
theorem dL_where_0 : decode cL_where 0 = .ok (.aload 4, 2) := by decide +kernel
theorem dL_where_2 : decode cL_where 2 = .ok (.iconst 0, 1) := by decide +kernel
theorem dL_where_3 : decode cL_where 3 = .ok (.aload_n 0, 1) := by decide +kernel
theorem dL_where_4 : decode cL_where 4 = .ok (.iload_n 1, 1) := by decide +kernel
theorem dL_where_5 : decode cL_where 5 = .ok (.iload_n 2, 1) := by decide +kernel
theorem dL_where_6 : decode cL_where 6 = .ok (.iload_n 3, 1) := by decide +kernel
theorem dL_where_7 : decode cL_where 7 = .ok (.invokevirtual 71, 3) := by decide +kernel
theorem dL_where_10 : decode cL_where 10 = .ok (.i2l, 1) := by decide +kernel
theorem dL_where_11 : decode cL_where 11 = .ok (.lastore, 1) := by decide +kernel
theorem dL_where_12 : decode cL_where 12 = .ok (.goto 11, 3) := by decide +kernel
theorem dL_where_15 : decode cL_where 15 = .ok (.astore 5, 2) := by decide +kernel
theorem dL_where_17 : decode cL_where 17 = .ok (.iconst 1, 1) := by decide +kernel
theorem dL_where_18 : decode cL_where 18 = .ok (.ireturn, 1) := by decide +kernel
theorem dL_where_19 : decode cL_where 19 = .ok (.astore 5, 2) := by decide +kernel
theorem dL_where_21 : decode cL_where 21 = .ok (.iconst 2, 1) := by decide +kernel
theorem dL_where_22 : decode cL_where 22 = .ok (.ireturn, 1) := by decide +kernel
theorem dL_where_23 : decode cL_where 23 = .ok (.iconst 0, 1) := by decide +kernel
theorem dL_where_24 : decode cL_where 24 = .ok (.ireturn, 1) := by decide +kernel
theorem dL_homeIn_0 : decode cL_homeIn 0 = .ok (.aload_n 2, 1) := by decide +kernel
theorem dL_homeIn_1 : decode cL_homeIn 1 = .ok (.iconst 0, 1) := by decide +kernel
theorem dL_homeIn_2 : decode cL_homeIn 2 = .ok (.aload_n 0, 1) := by decide +kernel
theorem dL_homeIn_3 : decode cL_homeIn 3 = .ok (.iload_n 1, 1) := by decide +kernel
theorem dL_homeIn_4 : decode cL_homeIn 4 = .ok (.invokevirtual 75, 3) := by decide +kernel
theorem dL_homeIn_7 : decode cL_homeIn 7 = .ok (.i2l, 1) := by decide +kernel
theorem dL_homeIn_8 : decode cL_homeIn 8 = .ok (.lastore, 1) := by decide +kernel
theorem dL_homeIn_9 : decode cL_homeIn 9 = .ok (.goto 6, 3) := by decide +kernel
theorem dL_homeIn_12 : decode cL_homeIn 12 = .ok (.astore_n 3, 1) := by decide +kernel
theorem dL_homeIn_13 : decode cL_homeIn 13 = .ok (.iconst 1, 1) := by decide +kernel
theorem dL_homeIn_14 : decode cL_homeIn 14 = .ok (.ireturn, 1) := by decide +kernel
theorem dL_homeIn_15 : decode cL_homeIn 15 = .ok (.iconst 0, 1) := by decide +kernel
theorem dL_homeIn_16 : decode cL_homeIn 16 = .ok (.ireturn, 1) := by decide +kernel
theorem dL_fewest_0 : decode cL_fewest 0 = .ok (.aload 4, 2) := by decide +kernel
theorem dL_fewest_2 : decode cL_fewest 2 = .ok (.iconst 0, 1) := by decide +kernel
theorem dL_fewest_3 : decode cL_fewest 3 = .ok (.aload_n 0, 1) := by decide +kernel
theorem dL_fewest_4 : decode cL_fewest 4 = .ok (.iload_n 1, 1) := by decide +kernel
theorem dL_fewest_5 : decode cL_fewest 5 = .ok (.iload_n 2, 1) := by decide +kernel
theorem dL_fewest_6 : decode cL_fewest 6 = .ok (.iload_n 3, 1) := by decide +kernel
theorem dL_fewest_7 : decode cL_fewest 7 = .ok (.invokevirtual 78, 3) := by decide +kernel
theorem dL_fewest_10 : decode cL_fewest 10 = .ok (.i2l, 1) := by decide +kernel
theorem dL_fewest_11 : decode cL_fewest 11 = .ok (.lastore, 1) := by decide +kernel
theorem dL_fewest_12 : decode cL_fewest 12 = .ok (.goto 11, 3) := by decide +kernel
theorem dL_fewest_15 : decode cL_fewest 15 = .ok (.astore 5, 2) := by decide +kernel
theorem dL_fewest_17 : decode cL_fewest 17 = .ok (.iconst 1, 1) := by decide +kernel
theorem dL_fewest_18 : decode cL_fewest 18 = .ok (.ireturn, 1) := by decide +kernel
theorem dL_fewest_19 : decode cL_fewest 19 = .ok (.astore 5, 2) := by decide +kernel
theorem dL_fewest_21 : decode cL_fewest 21 = .ok (.iconst 2, 1) := by decide +kernel
theorem dL_fewest_22 : decode cL_fewest 22 = .ok (.ireturn, 1) := by decide +kernel
theorem dL_fewest_23 : decode cL_fewest 23 = .ok (.iconst 0, 1) := by decide +kernel
theorem dL_fewest_24 : decode cL_fewest 24 = .ok (.ireturn, 1) := by decide +kernel
theorem dL_canKeepIn_0 : decode cL_canKeepIn 0 = .ok (.aload_n 2, 1) := by decide +kernel
theorem dL_canKeepIn_1 : decode cL_canKeepIn 1 = .ok (.iconst 0, 1) := by decide +kernel
theorem dL_canKeepIn_2 : decode cL_canKeepIn 2 = .ok (.aload_n 0, 1) := by decide +kernel
theorem dL_canKeepIn_3 : decode cL_canKeepIn 3 = .ok (.iload_n 1, 1) := by decide +kernel
theorem dL_canKeepIn_4 : decode cL_canKeepIn 4 = .ok (.invokevirtual 81, 3) := by decide +kernel
theorem dL_canKeepIn_7 : decode cL_canKeepIn 7 = .ok (.i2l, 1) := by decide +kernel
theorem dL_canKeepIn_8 : decode cL_canKeepIn 8 = .ok (.lastore, 1) := by decide +kernel
theorem dL_canKeepIn_9 : decode cL_canKeepIn 9 = .ok (.goto 6, 3) := by decide +kernel
theorem dL_canKeepIn_12 : decode cL_canKeepIn 12 = .ok (.astore_n 3, 1) := by decide +kernel
theorem dL_canKeepIn_13 : decode cL_canKeepIn 13 = .ok (.iconst 1, 1) := by decide +kernel
theorem dL_canKeepIn_14 : decode cL_canKeepIn 14 = .ok (.ireturn, 1) := by decide +kernel
theorem dL_canKeepIn_15 : decode cL_canKeepIn 15 = .ok (.iconst 0, 1) := by decide +kernel
theorem dL_canKeepIn_16 : decode cL_canKeepIn 16 = .ok (.ireturn, 1) := by decide +kernel
theorem dL_law_0 : decode cL_law 0 = .ok (.new 8, 3) := by decide +kernel
theorem dL_law_3 : decode cL_law 3 = .ok (.dup, 1) := by decide +kernel
theorem dL_law_4 : decode cL_law 4 = .ok (.invokespecial 84, 3) := by decide +kernel
theorem dL_law_7 : decode cL_law 7 = .ok (.astore_n 1, 1) := by decide +kernel
theorem dL_law_8 : decode cL_law 8 = .ok (.new 85, 3) := by decide +kernel
theorem dL_law_11 : decode cL_law 11 = .ok (.dup, 1) := by decide +kernel
theorem dL_law_12 : decode cL_law 12 = .ok (.invokespecial 87, 3) := by decide +kernel
theorem dL_law_15 : decode cL_law 15 = .ok (.astore_n 2, 1) := by decide +kernel
theorem dL_law_16 : decode cL_law 16 = .ok (.iconst 1, 1) := by decide +kernel
theorem dL_law_17 : decode cL_law 17 = .ok (.newarray .long, 2) := by decide +kernel
theorem dL_law_19 : decode cL_law 19 = .ok (.astore_n 3, 1) := by decide +kernel
theorem dL_law_20 : decode cL_law 20 = .ok (.iconst 0, 1) := by decide +kernel
theorem dL_law_21 : decode cL_law 21 = .ok (.istore 4, 2) := by decide +kernel
theorem dL_law_23 : decode cL_law 23 = .ok (.iload 4, 2) := by decide +kernel
theorem dL_law_25 : decode cL_law 25 = .ok (.aload_n 0, 1) := by decide +kernel
theorem dL_law_26 : decode cL_law 26 = .ok (.arraylength, 1) := by decide +kernel
theorem dL_law_27 : decode cL_law 27 = .ok (.bipush 7, 2) := by decide +kernel
theorem dL_law_29 : decode cL_law 29 = .ok (.isub, 1) := by decide +kernel
theorem dL_law_30 : decode cL_law 30 = .ok (.if_icmp .gt 1588, 3) := by decide +kernel
theorem dL_law_33 : decode cL_law 33 = .ok (.aload_n 0, 1) := by decide +kernel
theorem dL_law_34 : decode cL_law 34 = .ok (.iload 4, 2) := by decide +kernel
theorem dL_law_36 : decode cL_law 36 = .ok (.iaload, 1) := by decide +kernel
theorem dL_law_37 : decode cL_law 37 = .ok (.bipush 31, 2) := by decide +kernel
theorem dL_law_39 : decode cL_law 39 = .ok (.iand, 1) := by decide +kernel
theorem dL_law_40 : decode cL_law 40 = .ok (.tableswitch 1572 0 25 #[120, 164, 232, 350, 418, 474, 566, 622, 678, 691, 704, 748, 804, 860, 904, 972, 1040, 1108, 1176, 1232, 1312, 1368, 1448, 1461, 1517, 1558], 120) := by decide +kernel
theorem dL_law_160 : decode cL_law 160 = .ok (.aload_n 1, 1) := by decide +kernel
theorem dL_law_161 : decode cL_law 161 = .ok (.aload_n 3, 1) := by decide +kernel
theorem dL_law_162 : decode cL_law 162 = .ok (.invokestatic 88, 3) := by decide +kernel
theorem dL_law_165 : decode cL_law 165 = .ok (.istore 5, 2) := by decide +kernel
theorem dL_law_167 : decode cL_law 167 = .ok (.aload_n 2, 1) := by decide +kernel
theorem dL_law_168 : decode cL_law 168 = .ok (.invokevirtual 93, 3) := by decide +kernel
theorem dL_law_171 : decode cL_law 171 = .ok (.istore 6, 2) := by decide +kernel
theorem dL_law_173 : decode cL_law 173 = .ok (.aload_n 2, 1) := by decide +kernel
theorem dL_law_174 : decode cL_law 174 = .ok (.invokevirtual 94, 3) := by decide +kernel
theorem dL_law_177 : decode cL_law 177 = .ok (.iload 5, 2) := by decide +kernel
theorem dL_law_179 : decode cL_law 179 = .ok (.if_icmp .eq 5, 3) := by decide +kernel
theorem dL_law_182 : decode cL_law 182 = .ok (.iconst 0, 1) := by decide +kernel
theorem dL_law_183 : decode cL_law 183 = .ok (.ireturn, 1) := by decide +kernel
theorem dL_law_184 : decode cL_law 184 = .ok (.iload 5, 2) := by decide +kernel
theorem dL_law_186 : decode cL_law 186 = .ok (.ifCond .ne 15, 3) := by decide +kernel
theorem dL_law_189 : decode cL_law 189 = .ok (.aload_n 3, 1) := by decide +kernel
theorem dL_law_190 : decode cL_law 190 = .ok (.iconst 0, 1) := by decide +kernel
theorem dL_law_191 : decode cL_law 191 = .ok (.laload, 1) := by decide +kernel
theorem dL_law_192 : decode cL_law 192 = .ok (.iload 6, 2) := by decide +kernel
theorem dL_law_194 : decode cL_law 194 = .ok (.i2l, 1) := by decide +kernel
theorem dL_law_195 : decode cL_law 195 = .ok (.lcmp, 1) := by decide +kernel
theorem dL_law_196 : decode cL_law 196 = .ok (.ifCond .eq 5, 3) := by decide +kernel
theorem dL_law_199 : decode cL_law 199 = .ok (.iconst 0, 1) := by decide +kernel
theorem dL_law_200 : decode cL_law 200 = .ok (.ireturn, 1) := by decide +kernel
theorem dL_law_201 : decode cL_law 201 = .ok (.goto 1411, 3) := by decide +kernel
theorem dL_law_204 : decode cL_law 204 = .ok (.aload_n 1, 1) := by decide +kernel
theorem dL_law_205 : decode cL_law 205 = .ok (.aload_n 0, 1) := by decide +kernel
theorem dL_law_206 : decode cL_law 206 = .ok (.iload 4, 2) := by decide +kernel
theorem dL_law_208 : decode cL_law 208 = .ok (.iconst 1, 1) := by decide +kernel
theorem dL_law_209 : decode cL_law 209 = .ok (.iadd, 1) := by decide +kernel
theorem dL_law_210 : decode cL_law 210 = .ok (.iaload, 1) := by decide +kernel
theorem dL_law_211 : decode cL_law 211 = .ok (.aload_n 0, 1) := by decide +kernel
theorem dL_law_212 : decode cL_law 212 = .ok (.iload 4, 2) := by decide +kernel
theorem dL_law_214 : decode cL_law 214 = .ok (.iconst 2, 1) := by decide +kernel
theorem dL_law_215 : decode cL_law 215 = .ok (.iadd, 1) := by decide +kernel
theorem dL_law_216 : decode cL_law 216 = .ok (.iaload, 1) := by decide +kernel
theorem dL_law_217 : decode cL_law 217 = .ok (.aload_n 3, 1) := by decide +kernel
theorem dL_law_218 : decode cL_law 218 = .ok (.invokestatic 97, 3) := by decide +kernel
theorem dL_law_221 : decode cL_law 221 = .ok (.istore 5, 2) := by decide +kernel
theorem dL_law_223 : decode cL_law 223 = .ok (.aload_n 2, 1) := by decide +kernel
theorem dL_law_224 : decode cL_law 224 = .ok (.aload_n 0, 1) := by decide +kernel
theorem dL_law_225 : decode cL_law 225 = .ok (.iload 4, 2) := by decide +kernel
theorem dL_law_227 : decode cL_law 227 = .ok (.iconst 1, 1) := by decide +kernel
theorem dL_law_228 : decode cL_law 228 = .ok (.iadd, 1) := by decide +kernel
theorem dL_law_229 : decode cL_law 229 = .ok (.iaload, 1) := by decide +kernel
theorem dL_law_230 : decode cL_law 230 = .ok (.aload_n 0, 1) := by decide +kernel
theorem dL_law_231 : decode cL_law 231 = .ok (.iload 4, 2) := by decide +kernel
theorem dL_law_233 : decode cL_law 233 = .ok (.iconst 2, 1) := by decide +kernel
theorem dL_law_234 : decode cL_law 234 = .ok (.iadd, 1) := by decide +kernel
theorem dL_law_235 : decode cL_law 235 = .ok (.iaload, 1) := by decide +kernel
theorem dL_law_236 : decode cL_law 236 = .ok (.invokevirtual 100, 3) := by decide +kernel
theorem dL_law_239 : decode cL_law 239 = .ok (.istore 6, 2) := by decide +kernel
theorem dL_law_241 : decode cL_law 241 = .ok (.aload_n 2, 1) := by decide +kernel
theorem dL_law_242 : decode cL_law 242 = .ok (.invokevirtual 94, 3) := by decide +kernel
theorem dL_law_245 : decode cL_law 245 = .ok (.iload 5, 2) := by decide +kernel
theorem dL_law_247 : decode cL_law 247 = .ok (.if_icmp .eq 5, 3) := by decide +kernel
theorem dL_law_250 : decode cL_law 250 = .ok (.iconst 0, 1) := by decide +kernel
theorem dL_law_251 : decode cL_law 251 = .ok (.ireturn, 1) := by decide +kernel
theorem dL_law_252 : decode cL_law 252 = .ok (.iload 5, 2) := by decide +kernel
theorem dL_law_254 : decode cL_law 254 = .ok (.ifCond .ne 15, 3) := by decide +kernel
theorem dL_law_257 : decode cL_law 257 = .ok (.aload_n 3, 1) := by decide +kernel
theorem dL_law_258 : decode cL_law 258 = .ok (.iconst 0, 1) := by decide +kernel
theorem dL_law_259 : decode cL_law 259 = .ok (.laload, 1) := by decide +kernel
theorem dL_law_260 : decode cL_law 260 = .ok (.iload 6, 2) := by decide +kernel
theorem dL_law_262 : decode cL_law 262 = .ok (.i2l, 1) := by decide +kernel
theorem dL_law_263 : decode cL_law 263 = .ok (.lcmp, 1) := by decide +kernel
theorem dL_law_264 : decode cL_law 264 = .ok (.ifCond .eq 5, 3) := by decide +kernel
theorem dL_law_267 : decode cL_law 267 = .ok (.iconst 0, 1) := by decide +kernel
theorem dL_law_268 : decode cL_law 268 = .ok (.ireturn, 1) := by decide +kernel
theorem dL_law_269 : decode cL_law 269 = .ok (.goto 1343, 3) := by decide +kernel
theorem dL_law_272 : decode cL_law 272 = .ok (.aload_n 1, 1) := by decide +kernel
theorem dL_law_273 : decode cL_law 273 = .ok (.aload_n 0, 1) := by decide +kernel
theorem dL_law_274 : decode cL_law 274 = .ok (.iload 4, 2) := by decide +kernel
theorem dL_law_276 : decode cL_law 276 = .ok (.iconst 1, 1) := by decide +kernel
theorem dL_law_277 : decode cL_law 277 = .ok (.iadd, 1) := by decide +kernel
theorem dL_law_278 : decode cL_law 278 = .ok (.iaload, 1) := by decide +kernel
theorem dL_law_279 : decode cL_law 279 = .ok (.aload_n 0, 1) := by decide +kernel
theorem dL_law_280 : decode cL_law 280 = .ok (.iload 4, 2) := by decide +kernel
theorem dL_law_282 : decode cL_law 282 = .ok (.iconst 2, 1) := by decide +kernel
theorem dL_law_283 : decode cL_law 283 = .ok (.iadd, 1) := by decide +kernel
theorem dL_law_284 : decode cL_law 284 = .ok (.iaload, 1) := by decide +kernel
theorem dL_law_285 : decode cL_law 285 = .ok (.aload_n 0, 1) := by decide +kernel
theorem dL_law_286 : decode cL_law 286 = .ok (.iload 4, 2) := by decide +kernel
theorem dL_law_288 : decode cL_law 288 = .ok (.iconst 3, 1) := by decide +kernel
theorem dL_law_289 : decode cL_law 289 = .ok (.iadd, 1) := by decide +kernel
theorem dL_law_290 : decode cL_law 290 = .ok (.iaload, 1) := by decide +kernel
theorem dL_law_291 : decode cL_law 291 = .ok (.aload_n 0, 1) := by decide +kernel
theorem dL_law_292 : decode cL_law 292 = .ok (.iload 4, 2) := by decide +kernel
theorem dL_law_294 : decode cL_law 294 = .ok (.iconst 4, 1) := by decide +kernel
theorem dL_law_295 : decode cL_law 295 = .ok (.iadd, 1) := by decide +kernel
theorem dL_law_296 : decode cL_law 296 = .ok (.iaload, 1) := by decide +kernel
theorem dL_law_297 : decode cL_law 297 = .ok (.aload_n 0, 1) := by decide +kernel
theorem dL_law_298 : decode cL_law 298 = .ok (.iload 4, 2) := by decide +kernel
theorem dL_law_300 : decode cL_law 300 = .ok (.iconst 5, 1) := by decide +kernel
theorem dL_law_301 : decode cL_law 301 = .ok (.iadd, 1) := by decide +kernel
theorem dL_law_302 : decode cL_law 302 = .ok (.iaload, 1) := by decide +kernel
theorem dL_law_303 : decode cL_law 303 = .ok (.aload_n 0, 1) := by decide +kernel
theorem dL_law_304 : decode cL_law 304 = .ok (.iload 4, 2) := by decide +kernel
theorem dL_law_306 : decode cL_law 306 = .ok (.bipush 6, 2) := by decide +kernel
theorem dL_law_308 : decode cL_law 308 = .ok (.iadd, 1) := by decide +kernel
theorem dL_law_309 : decode cL_law 309 = .ok (.iaload, 1) := by decide +kernel
theorem dL_law_310 : decode cL_law 310 = .ok (.aload_n 3, 1) := by decide +kernel
theorem dL_law_311 : decode cL_law 311 = .ok (.invokestatic 101, 3) := by decide +kernel
theorem dL_law_314 : decode cL_law 314 = .ok (.istore 5, 2) := by decide +kernel
theorem dL_law_316 : decode cL_law 316 = .ok (.aload_n 2, 1) := by decide +kernel
theorem dL_law_317 : decode cL_law 317 = .ok (.aload_n 0, 1) := by decide +kernel
theorem dL_law_318 : decode cL_law 318 = .ok (.iload 4, 2) := by decide +kernel
theorem dL_law_320 : decode cL_law 320 = .ok (.iconst 1, 1) := by decide +kernel
theorem dL_law_321 : decode cL_law 321 = .ok (.iadd, 1) := by decide +kernel
theorem dL_law_322 : decode cL_law 322 = .ok (.iaload, 1) := by decide +kernel
theorem dL_law_323 : decode cL_law 323 = .ok (.aload_n 0, 1) := by decide +kernel
theorem dL_law_324 : decode cL_law 324 = .ok (.iload 4, 2) := by decide +kernel
theorem dL_law_326 : decode cL_law 326 = .ok (.iconst 2, 1) := by decide +kernel
theorem dL_law_327 : decode cL_law 327 = .ok (.iadd, 1) := by decide +kernel
theorem dL_law_328 : decode cL_law 328 = .ok (.iaload, 1) := by decide +kernel
theorem dL_law_329 : decode cL_law 329 = .ok (.aload_n 0, 1) := by decide +kernel
theorem dL_law_330 : decode cL_law 330 = .ok (.iload 4, 2) := by decide +kernel
theorem dL_law_332 : decode cL_law 332 = .ok (.iconst 3, 1) := by decide +kernel
theorem dL_law_333 : decode cL_law 333 = .ok (.iadd, 1) := by decide +kernel
theorem dL_law_334 : decode cL_law 334 = .ok (.iaload, 1) := by decide +kernel
theorem dL_law_335 : decode cL_law 335 = .ok (.aload_n 0, 1) := by decide +kernel
theorem dL_law_336 : decode cL_law 336 = .ok (.iload 4, 2) := by decide +kernel
theorem dL_law_338 : decode cL_law 338 = .ok (.iconst 4, 1) := by decide +kernel
theorem dL_law_339 : decode cL_law 339 = .ok (.iadd, 1) := by decide +kernel
theorem dL_law_340 : decode cL_law 340 = .ok (.iaload, 1) := by decide +kernel
theorem dL_law_341 : decode cL_law 341 = .ok (.aload_n 0, 1) := by decide +kernel
theorem dL_law_342 : decode cL_law 342 = .ok (.iload 4, 2) := by decide +kernel
theorem dL_law_344 : decode cL_law 344 = .ok (.iconst 5, 1) := by decide +kernel
theorem dL_law_345 : decode cL_law 345 = .ok (.iadd, 1) := by decide +kernel
theorem dL_law_346 : decode cL_law 346 = .ok (.iaload, 1) := by decide +kernel
theorem dL_law_347 : decode cL_law 347 = .ok (.aload_n 0, 1) := by decide +kernel
theorem dL_law_348 : decode cL_law 348 = .ok (.iload 4, 2) := by decide +kernel
theorem dL_law_350 : decode cL_law 350 = .ok (.bipush 6, 2) := by decide +kernel
theorem dL_law_352 : decode cL_law 352 = .ok (.iadd, 1) := by decide +kernel
theorem dL_law_353 : decode cL_law 353 = .ok (.iaload, 1) := by decide +kernel
theorem dL_law_354 : decode cL_law 354 = .ok (.invokevirtual 104, 3) := by decide +kernel
theorem dL_law_357 : decode cL_law 357 = .ok (.istore 6, 2) := by decide +kernel
theorem dL_law_359 : decode cL_law 359 = .ok (.aload_n 2, 1) := by decide +kernel
theorem dL_law_360 : decode cL_law 360 = .ok (.invokevirtual 94, 3) := by decide +kernel
theorem dL_law_363 : decode cL_law 363 = .ok (.iload 5, 2) := by decide +kernel
theorem dL_law_365 : decode cL_law 365 = .ok (.if_icmp .eq 5, 3) := by decide +kernel
theorem dL_law_368 : decode cL_law 368 = .ok (.iconst 0, 1) := by decide +kernel
theorem dL_law_369 : decode cL_law 369 = .ok (.ireturn, 1) := by decide +kernel
theorem dL_law_370 : decode cL_law 370 = .ok (.iload 5, 2) := by decide +kernel
theorem dL_law_372 : decode cL_law 372 = .ok (.ifCond .ne 15, 3) := by decide +kernel
theorem dL_law_375 : decode cL_law 375 = .ok (.aload_n 3, 1) := by decide +kernel
theorem dL_law_376 : decode cL_law 376 = .ok (.iconst 0, 1) := by decide +kernel
theorem dL_law_377 : decode cL_law 377 = .ok (.laload, 1) := by decide +kernel
theorem dL_law_378 : decode cL_law 378 = .ok (.iload 6, 2) := by decide +kernel
theorem dL_law_380 : decode cL_law 380 = .ok (.i2l, 1) := by decide +kernel
theorem dL_law_381 : decode cL_law 381 = .ok (.lcmp, 1) := by decide +kernel
theorem dL_law_382 : decode cL_law 382 = .ok (.ifCond .eq 5, 3) := by decide +kernel
theorem dL_law_385 : decode cL_law 385 = .ok (.iconst 0, 1) := by decide +kernel
theorem dL_law_386 : decode cL_law 386 = .ok (.ireturn, 1) := by decide +kernel
theorem dL_law_387 : decode cL_law 387 = .ok (.goto 1225, 3) := by decide +kernel
theorem dL_law_390 : decode cL_law 390 = .ok (.aload_n 1, 1) := by decide +kernel
theorem dL_law_391 : decode cL_law 391 = .ok (.aload_n 0, 1) := by decide +kernel
theorem dL_law_392 : decode cL_law 392 = .ok (.iload 4, 2) := by decide +kernel
theorem dL_law_394 : decode cL_law 394 = .ok (.iconst 1, 1) := by decide +kernel
theorem dL_law_395 : decode cL_law 395 = .ok (.iadd, 1) := by decide +kernel
theorem dL_law_396 : decode cL_law 396 = .ok (.iaload, 1) := by decide +kernel
theorem dL_law_397 : decode cL_law 397 = .ok (.aload_n 0, 1) := by decide +kernel
theorem dL_law_398 : decode cL_law 398 = .ok (.iload 4, 2) := by decide +kernel
theorem dL_law_400 : decode cL_law 400 = .ok (.iconst 2, 1) := by decide +kernel
theorem dL_law_401 : decode cL_law 401 = .ok (.iadd, 1) := by decide +kernel
theorem dL_law_402 : decode cL_law 402 = .ok (.iaload, 1) := by decide +kernel
theorem dL_law_403 : decode cL_law 403 = .ok (.aload_n 3, 1) := by decide +kernel
theorem dL_law_404 : decode cL_law 404 = .ok (.invokestatic 105, 3) := by decide +kernel
theorem dL_law_407 : decode cL_law 407 = .ok (.istore 5, 2) := by decide +kernel
theorem dL_law_409 : decode cL_law 409 = .ok (.aload_n 2, 1) := by decide +kernel
theorem dL_law_410 : decode cL_law 410 = .ok (.aload_n 0, 1) := by decide +kernel
theorem dL_law_411 : decode cL_law 411 = .ok (.iload 4, 2) := by decide +kernel
theorem dL_law_413 : decode cL_law 413 = .ok (.iconst 1, 1) := by decide +kernel
theorem dL_law_414 : decode cL_law 414 = .ok (.iadd, 1) := by decide +kernel
theorem dL_law_415 : decode cL_law 415 = .ok (.iaload, 1) := by decide +kernel
theorem dL_law_416 : decode cL_law 416 = .ok (.aload_n 0, 1) := by decide +kernel
theorem dL_law_417 : decode cL_law 417 = .ok (.iload 4, 2) := by decide +kernel
theorem dL_law_419 : decode cL_law 419 = .ok (.iconst 2, 1) := by decide +kernel
theorem dL_law_420 : decode cL_law 420 = .ok (.iadd, 1) := by decide +kernel
theorem dL_law_421 : decode cL_law 421 = .ok (.iaload, 1) := by decide +kernel
theorem dL_law_422 : decode cL_law 422 = .ok (.invokevirtual 107, 3) := by decide +kernel
theorem dL_law_425 : decode cL_law 425 = .ok (.istore 6, 2) := by decide +kernel
theorem dL_law_427 : decode cL_law 427 = .ok (.aload_n 2, 1) := by decide +kernel
theorem dL_law_428 : decode cL_law 428 = .ok (.invokevirtual 94, 3) := by decide +kernel
theorem dL_law_431 : decode cL_law 431 = .ok (.iload 5, 2) := by decide +kernel
theorem dL_law_433 : decode cL_law 433 = .ok (.if_icmp .eq 5, 3) := by decide +kernel
theorem dL_law_436 : decode cL_law 436 = .ok (.iconst 0, 1) := by decide +kernel
theorem dL_law_437 : decode cL_law 437 = .ok (.ireturn, 1) := by decide +kernel
theorem dL_law_438 : decode cL_law 438 = .ok (.iload 5, 2) := by decide +kernel
theorem dL_law_440 : decode cL_law 440 = .ok (.ifCond .ne 15, 3) := by decide +kernel
theorem dL_law_443 : decode cL_law 443 = .ok (.aload_n 3, 1) := by decide +kernel
theorem dL_law_444 : decode cL_law 444 = .ok (.iconst 0, 1) := by decide +kernel
theorem dL_law_445 : decode cL_law 445 = .ok (.laload, 1) := by decide +kernel
theorem dL_law_446 : decode cL_law 446 = .ok (.iload 6, 2) := by decide +kernel
theorem dL_law_448 : decode cL_law 448 = .ok (.i2l, 1) := by decide +kernel
theorem dL_law_449 : decode cL_law 449 = .ok (.lcmp, 1) := by decide +kernel
theorem dL_law_450 : decode cL_law 450 = .ok (.ifCond .eq 5, 3) := by decide +kernel
theorem dL_law_453 : decode cL_law 453 = .ok (.iconst 0, 1) := by decide +kernel
theorem dL_law_454 : decode cL_law 454 = .ok (.ireturn, 1) := by decide +kernel
theorem dL_law_455 : decode cL_law 455 = .ok (.goto 1157, 3) := by decide +kernel
theorem dL_law_458 : decode cL_law 458 = .ok (.aload_n 1, 1) := by decide +kernel
theorem dL_law_459 : decode cL_law 459 = .ok (.aload_n 0, 1) := by decide +kernel
theorem dL_law_460 : decode cL_law 460 = .ok (.iload 4, 2) := by decide +kernel
theorem dL_law_462 : decode cL_law 462 = .ok (.iconst 1, 1) := by decide +kernel
theorem dL_law_463 : decode cL_law 463 = .ok (.iadd, 1) := by decide +kernel
theorem dL_law_464 : decode cL_law 464 = .ok (.iaload, 1) := by decide +kernel
theorem dL_law_465 : decode cL_law 465 = .ok (.aload_n 3, 1) := by decide +kernel
theorem dL_law_466 : decode cL_law 466 = .ok (.invokestatic 108, 3) := by decide +kernel
theorem dL_law_469 : decode cL_law 469 = .ok (.istore 5, 2) := by decide +kernel
theorem dL_law_471 : decode cL_law 471 = .ok (.aload_n 2, 1) := by decide +kernel
theorem dL_law_472 : decode cL_law 472 = .ok (.aload_n 0, 1) := by decide +kernel
theorem dL_law_473 : decode cL_law 473 = .ok (.iload 4, 2) := by decide +kernel
theorem dL_law_475 : decode cL_law 475 = .ok (.iconst 1, 1) := by decide +kernel
theorem dL_law_476 : decode cL_law 476 = .ok (.iadd, 1) := by decide +kernel
theorem dL_law_477 : decode cL_law 477 = .ok (.iaload, 1) := by decide +kernel
theorem dL_law_478 : decode cL_law 478 = .ok (.invokevirtual 111, 3) := by decide +kernel
theorem dL_law_481 : decode cL_law 481 = .ok (.istore 6, 2) := by decide +kernel
theorem dL_law_483 : decode cL_law 483 = .ok (.aload_n 2, 1) := by decide +kernel
theorem dL_law_484 : decode cL_law 484 = .ok (.invokevirtual 94, 3) := by decide +kernel
theorem dL_law_487 : decode cL_law 487 = .ok (.iload 5, 2) := by decide +kernel
theorem dL_law_489 : decode cL_law 489 = .ok (.if_icmp .eq 5, 3) := by decide +kernel
theorem dL_law_492 : decode cL_law 492 = .ok (.iconst 0, 1) := by decide +kernel
theorem dL_law_493 : decode cL_law 493 = .ok (.ireturn, 1) := by decide +kernel
theorem dL_law_494 : decode cL_law 494 = .ok (.iload 5, 2) := by decide +kernel
theorem dL_law_496 : decode cL_law 496 = .ok (.ifCond .ne 15, 3) := by decide +kernel
theorem dL_law_499 : decode cL_law 499 = .ok (.aload_n 3, 1) := by decide +kernel
theorem dL_law_500 : decode cL_law 500 = .ok (.iconst 0, 1) := by decide +kernel
theorem dL_law_501 : decode cL_law 501 = .ok (.laload, 1) := by decide +kernel
theorem dL_law_502 : decode cL_law 502 = .ok (.iload 6, 2) := by decide +kernel
theorem dL_law_504 : decode cL_law 504 = .ok (.i2l, 1) := by decide +kernel
theorem dL_law_505 : decode cL_law 505 = .ok (.lcmp, 1) := by decide +kernel
theorem dL_law_506 : decode cL_law 506 = .ok (.ifCond .eq 5, 3) := by decide +kernel
theorem dL_law_509 : decode cL_law 509 = .ok (.iconst 0, 1) := by decide +kernel
theorem dL_law_510 : decode cL_law 510 = .ok (.ireturn, 1) := by decide +kernel
theorem dL_law_511 : decode cL_law 511 = .ok (.goto 1101, 3) := by decide +kernel
theorem dL_law_514 : decode cL_law 514 = .ok (.aload_n 1, 1) := by decide +kernel
theorem dL_law_515 : decode cL_law 515 = .ok (.aload_n 0, 1) := by decide +kernel
theorem dL_law_516 : decode cL_law 516 = .ok (.iload 4, 2) := by decide +kernel
theorem dL_law_518 : decode cL_law 518 = .ok (.iconst 1, 1) := by decide +kernel
theorem dL_law_519 : decode cL_law 519 = .ok (.iadd, 1) := by decide +kernel
theorem dL_law_520 : decode cL_law 520 = .ok (.iaload, 1) := by decide +kernel
theorem dL_law_521 : decode cL_law 521 = .ok (.aload_n 0, 1) := by decide +kernel
theorem dL_law_522 : decode cL_law 522 = .ok (.iload 4, 2) := by decide +kernel
theorem dL_law_524 : decode cL_law 524 = .ok (.iconst 2, 1) := by decide +kernel
theorem dL_law_525 : decode cL_law 525 = .ok (.iadd, 1) := by decide +kernel
theorem dL_law_526 : decode cL_law 526 = .ok (.iaload, 1) := by decide +kernel
theorem dL_law_527 : decode cL_law 527 = .ok (.aload_n 0, 1) := by decide +kernel
theorem dL_law_528 : decode cL_law 528 = .ok (.iload 4, 2) := by decide +kernel
theorem dL_law_530 : decode cL_law 530 = .ok (.iconst 3, 1) := by decide +kernel
theorem dL_law_531 : decode cL_law 531 = .ok (.iadd, 1) := by decide +kernel
theorem dL_law_532 : decode cL_law 532 = .ok (.iaload, 1) := by decide +kernel
theorem dL_law_533 : decode cL_law 533 = .ok (.aload_n 0, 1) := by decide +kernel
theorem dL_law_534 : decode cL_law 534 = .ok (.iload 4, 2) := by decide +kernel
theorem dL_law_536 : decode cL_law 536 = .ok (.iconst 4, 1) := by decide +kernel
theorem dL_law_537 : decode cL_law 537 = .ok (.iadd, 1) := by decide +kernel
theorem dL_law_538 : decode cL_law 538 = .ok (.iaload, 1) := by decide +kernel
theorem dL_law_539 : decode cL_law 539 = .ok (.aload_n 3, 1) := by decide +kernel
theorem dL_law_540 : decode cL_law 540 = .ok (.invokestatic 112, 3) := by decide +kernel
theorem dL_law_543 : decode cL_law 543 = .ok (.istore 5, 2) := by decide +kernel
theorem dL_law_545 : decode cL_law 545 = .ok (.aload_n 2, 1) := by decide +kernel
theorem dL_law_546 : decode cL_law 546 = .ok (.aload_n 0, 1) := by decide +kernel
theorem dL_law_547 : decode cL_law 547 = .ok (.iload 4, 2) := by decide +kernel
theorem dL_law_549 : decode cL_law 549 = .ok (.iconst 1, 1) := by decide +kernel
theorem dL_law_550 : decode cL_law 550 = .ok (.iadd, 1) := by decide +kernel
theorem dL_law_551 : decode cL_law 551 = .ok (.iaload, 1) := by decide +kernel
theorem dL_law_552 : decode cL_law 552 = .ok (.aload_n 0, 1) := by decide +kernel
theorem dL_law_553 : decode cL_law 553 = .ok (.iload 4, 2) := by decide +kernel
theorem dL_law_555 : decode cL_law 555 = .ok (.iconst 2, 1) := by decide +kernel
theorem dL_law_556 : decode cL_law 556 = .ok (.iadd, 1) := by decide +kernel
theorem dL_law_557 : decode cL_law 557 = .ok (.iaload, 1) := by decide +kernel
theorem dL_law_558 : decode cL_law 558 = .ok (.aload_n 0, 1) := by decide +kernel
theorem dL_law_559 : decode cL_law 559 = .ok (.iload 4, 2) := by decide +kernel
theorem dL_law_561 : decode cL_law 561 = .ok (.iconst 3, 1) := by decide +kernel
theorem dL_law_562 : decode cL_law 562 = .ok (.iadd, 1) := by decide +kernel
theorem dL_law_563 : decode cL_law 563 = .ok (.iaload, 1) := by decide +kernel
theorem dL_law_564 : decode cL_law 564 = .ok (.aload_n 0, 1) := by decide +kernel
theorem dL_law_565 : decode cL_law 565 = .ok (.iload 4, 2) := by decide +kernel
theorem dL_law_567 : decode cL_law 567 = .ok (.iconst 4, 1) := by decide +kernel
theorem dL_law_568 : decode cL_law 568 = .ok (.iadd, 1) := by decide +kernel
theorem dL_law_569 : decode cL_law 569 = .ok (.iaload, 1) := by decide +kernel
theorem dL_law_570 : decode cL_law 570 = .ok (.invokevirtual 115, 3) := by decide +kernel
theorem dL_law_573 : decode cL_law 573 = .ok (.istore 6, 2) := by decide +kernel
theorem dL_law_575 : decode cL_law 575 = .ok (.aload_n 2, 1) := by decide +kernel
theorem dL_law_576 : decode cL_law 576 = .ok (.invokevirtual 94, 3) := by decide +kernel
theorem dL_law_579 : decode cL_law 579 = .ok (.iload 5, 2) := by decide +kernel
theorem dL_law_581 : decode cL_law 581 = .ok (.if_icmp .eq 5, 3) := by decide +kernel
theorem dL_law_584 : decode cL_law 584 = .ok (.iconst 0, 1) := by decide +kernel
theorem dL_law_585 : decode cL_law 585 = .ok (.ireturn, 1) := by decide +kernel
theorem dL_law_586 : decode cL_law 586 = .ok (.iload 5, 2) := by decide +kernel
theorem dL_law_588 : decode cL_law 588 = .ok (.ifCond .ne 15, 3) := by decide +kernel
theorem dL_law_591 : decode cL_law 591 = .ok (.aload_n 3, 1) := by decide +kernel
theorem dL_law_592 : decode cL_law 592 = .ok (.iconst 0, 1) := by decide +kernel
theorem dL_law_593 : decode cL_law 593 = .ok (.laload, 1) := by decide +kernel
theorem dL_law_594 : decode cL_law 594 = .ok (.iload 6, 2) := by decide +kernel
theorem dL_law_596 : decode cL_law 596 = .ok (.i2l, 1) := by decide +kernel
theorem dL_law_597 : decode cL_law 597 = .ok (.lcmp, 1) := by decide +kernel
theorem dL_law_598 : decode cL_law 598 = .ok (.ifCond .eq 5, 3) := by decide +kernel
theorem dL_law_601 : decode cL_law 601 = .ok (.iconst 0, 1) := by decide +kernel
theorem dL_law_602 : decode cL_law 602 = .ok (.ireturn, 1) := by decide +kernel
theorem dL_law_603 : decode cL_law 603 = .ok (.goto 1009, 3) := by decide +kernel
theorem dL_law_606 : decode cL_law 606 = .ok (.aload_n 1, 1) := by decide +kernel
theorem dL_law_607 : decode cL_law 607 = .ok (.aload_n 0, 1) := by decide +kernel
theorem dL_law_608 : decode cL_law 608 = .ok (.iload 4, 2) := by decide +kernel
theorem dL_law_610 : decode cL_law 610 = .ok (.iconst 1, 1) := by decide +kernel
theorem dL_law_611 : decode cL_law 611 = .ok (.iadd, 1) := by decide +kernel
theorem dL_law_612 : decode cL_law 612 = .ok (.iaload, 1) := by decide +kernel
theorem dL_law_613 : decode cL_law 613 = .ok (.aload_n 3, 1) := by decide +kernel
theorem dL_law_614 : decode cL_law 614 = .ok (.invokestatic 116, 3) := by decide +kernel
theorem dL_law_617 : decode cL_law 617 = .ok (.istore 5, 2) := by decide +kernel
theorem dL_law_619 : decode cL_law 619 = .ok (.aload_n 2, 1) := by decide +kernel
theorem dL_law_620 : decode cL_law 620 = .ok (.aload_n 0, 1) := by decide +kernel
theorem dL_law_621 : decode cL_law 621 = .ok (.iload 4, 2) := by decide +kernel
theorem dL_law_623 : decode cL_law 623 = .ok (.iconst 1, 1) := by decide +kernel
theorem dL_law_624 : decode cL_law 624 = .ok (.iadd, 1) := by decide +kernel
theorem dL_law_625 : decode cL_law 625 = .ok (.iaload, 1) := by decide +kernel
theorem dL_law_626 : decode cL_law 626 = .ok (.invokevirtual 118, 3) := by decide +kernel
theorem dL_law_629 : decode cL_law 629 = .ok (.istore 6, 2) := by decide +kernel
theorem dL_law_631 : decode cL_law 631 = .ok (.aload_n 2, 1) := by decide +kernel
theorem dL_law_632 : decode cL_law 632 = .ok (.invokevirtual 94, 3) := by decide +kernel
theorem dL_law_635 : decode cL_law 635 = .ok (.iload 5, 2) := by decide +kernel
theorem dL_law_637 : decode cL_law 637 = .ok (.if_icmp .eq 5, 3) := by decide +kernel
theorem dL_law_640 : decode cL_law 640 = .ok (.iconst 0, 1) := by decide +kernel
theorem dL_law_641 : decode cL_law 641 = .ok (.ireturn, 1) := by decide +kernel
theorem dL_law_642 : decode cL_law 642 = .ok (.iload 5, 2) := by decide +kernel
theorem dL_law_644 : decode cL_law 644 = .ok (.ifCond .ne 15, 3) := by decide +kernel
theorem dL_law_647 : decode cL_law 647 = .ok (.aload_n 3, 1) := by decide +kernel
theorem dL_law_648 : decode cL_law 648 = .ok (.iconst 0, 1) := by decide +kernel
theorem dL_law_649 : decode cL_law 649 = .ok (.laload, 1) := by decide +kernel
theorem dL_law_650 : decode cL_law 650 = .ok (.iload 6, 2) := by decide +kernel
theorem dL_law_652 : decode cL_law 652 = .ok (.i2l, 1) := by decide +kernel
theorem dL_law_653 : decode cL_law 653 = .ok (.lcmp, 1) := by decide +kernel
theorem dL_law_654 : decode cL_law 654 = .ok (.ifCond .eq 5, 3) := by decide +kernel
theorem dL_law_657 : decode cL_law 657 = .ok (.iconst 0, 1) := by decide +kernel
theorem dL_law_658 : decode cL_law 658 = .ok (.ireturn, 1) := by decide +kernel
theorem dL_law_659 : decode cL_law 659 = .ok (.goto 953, 3) := by decide +kernel
theorem dL_law_662 : decode cL_law 662 = .ok (.aload_n 1, 1) := by decide +kernel
theorem dL_law_663 : decode cL_law 663 = .ok (.aload_n 0, 1) := by decide +kernel
theorem dL_law_664 : decode cL_law 664 = .ok (.iload 4, 2) := by decide +kernel
theorem dL_law_666 : decode cL_law 666 = .ok (.iconst 1, 1) := by decide +kernel
theorem dL_law_667 : decode cL_law 667 = .ok (.iadd, 1) := by decide +kernel
theorem dL_law_668 : decode cL_law 668 = .ok (.iaload, 1) := by decide +kernel
theorem dL_law_669 : decode cL_law 669 = .ok (.aload_n 3, 1) := by decide +kernel
theorem dL_law_670 : decode cL_law 670 = .ok (.invokestatic 119, 3) := by decide +kernel
theorem dL_law_673 : decode cL_law 673 = .ok (.istore 5, 2) := by decide +kernel
theorem dL_law_675 : decode cL_law 675 = .ok (.aload_n 2, 1) := by decide +kernel
theorem dL_law_676 : decode cL_law 676 = .ok (.aload_n 0, 1) := by decide +kernel
theorem dL_law_677 : decode cL_law 677 = .ok (.iload 4, 2) := by decide +kernel
theorem dL_law_679 : decode cL_law 679 = .ok (.iconst 1, 1) := by decide +kernel
theorem dL_law_680 : decode cL_law 680 = .ok (.iadd, 1) := by decide +kernel
theorem dL_law_681 : decode cL_law 681 = .ok (.iaload, 1) := by decide +kernel
theorem dL_law_682 : decode cL_law 682 = .ok (.invokevirtual 121, 3) := by decide +kernel
theorem dL_law_685 : decode cL_law 685 = .ok (.istore 6, 2) := by decide +kernel
theorem dL_law_687 : decode cL_law 687 = .ok (.aload_n 2, 1) := by decide +kernel
theorem dL_law_688 : decode cL_law 688 = .ok (.invokevirtual 94, 3) := by decide +kernel
theorem dL_law_691 : decode cL_law 691 = .ok (.iload 5, 2) := by decide +kernel
theorem dL_law_693 : decode cL_law 693 = .ok (.if_icmp .eq 5, 3) := by decide +kernel
theorem dL_law_696 : decode cL_law 696 = .ok (.iconst 0, 1) := by decide +kernel
theorem dL_law_697 : decode cL_law 697 = .ok (.ireturn, 1) := by decide +kernel
theorem dL_law_698 : decode cL_law 698 = .ok (.iload 5, 2) := by decide +kernel
theorem dL_law_700 : decode cL_law 700 = .ok (.ifCond .ne 15, 3) := by decide +kernel
theorem dL_law_703 : decode cL_law 703 = .ok (.aload_n 3, 1) := by decide +kernel
theorem dL_law_704 : decode cL_law 704 = .ok (.iconst 0, 1) := by decide +kernel
theorem dL_law_705 : decode cL_law 705 = .ok (.laload, 1) := by decide +kernel
theorem dL_law_706 : decode cL_law 706 = .ok (.iload 6, 2) := by decide +kernel
theorem dL_law_708 : decode cL_law 708 = .ok (.i2l, 1) := by decide +kernel
theorem dL_law_709 : decode cL_law 709 = .ok (.lcmp, 1) := by decide +kernel
theorem dL_law_710 : decode cL_law 710 = .ok (.ifCond .eq 5, 3) := by decide +kernel
theorem dL_law_713 : decode cL_law 713 = .ok (.iconst 0, 1) := by decide +kernel
theorem dL_law_714 : decode cL_law 714 = .ok (.ireturn, 1) := by decide +kernel
theorem dL_law_715 : decode cL_law 715 = .ok (.goto 897, 3) := by decide +kernel
theorem dL_law_718 : decode cL_law 718 = .ok (.aload_n 1, 1) := by decide +kernel
theorem dL_law_719 : decode cL_law 719 = .ok (.invokevirtual 122, 3) := by decide +kernel
theorem dL_law_722 : decode cL_law 722 = .ok (.aload_n 2, 1) := by decide +kernel
theorem dL_law_723 : decode cL_law 723 = .ok (.invokevirtual 125, 3) := by decide +kernel
theorem dL_law_726 : decode cL_law 726 = .ok (.if_icmp .eq 886, 3) := by decide +kernel
theorem dL_law_729 : decode cL_law 729 = .ok (.iconst 0, 1) := by decide +kernel
theorem dL_law_730 : decode cL_law 730 = .ok (.ireturn, 1) := by decide +kernel
theorem dL_law_731 : decode cL_law 731 = .ok (.aload_n 1, 1) := by decide +kernel
theorem dL_law_732 : decode cL_law 732 = .ok (.invokevirtual 126, 3) := by decide +kernel
theorem dL_law_735 : decode cL_law 735 = .ok (.aload_n 2, 1) := by decide +kernel
theorem dL_law_736 : decode cL_law 736 = .ok (.invokevirtual 129, 3) := by decide +kernel
theorem dL_law_739 : decode cL_law 739 = .ok (.if_icmp .eq 873, 3) := by decide +kernel
theorem dL_law_742 : decode cL_law 742 = .ok (.iconst 0, 1) := by decide +kernel
theorem dL_law_743 : decode cL_law 743 = .ok (.ireturn, 1) := by decide +kernel
theorem dL_law_744 : decode cL_law 744 = .ok (.aload_n 1, 1) := by decide +kernel
theorem dL_law_745 : decode cL_law 745 = .ok (.aload_n 3, 1) := by decide +kernel
theorem dL_law_746 : decode cL_law 746 = .ok (.invokestatic 130, 3) := by decide +kernel
theorem dL_law_749 : decode cL_law 749 = .ok (.istore 5, 2) := by decide +kernel
theorem dL_law_751 : decode cL_law 751 = .ok (.aload_n 2, 1) := by decide +kernel
theorem dL_law_752 : decode cL_law 752 = .ok (.invokevirtual 132, 3) := by decide +kernel
theorem dL_law_755 : decode cL_law 755 = .ok (.istore 6, 2) := by decide +kernel
theorem dL_law_757 : decode cL_law 757 = .ok (.aload_n 2, 1) := by decide +kernel
theorem dL_law_758 : decode cL_law 758 = .ok (.invokevirtual 94, 3) := by decide +kernel
theorem dL_law_761 : decode cL_law 761 = .ok (.iload 5, 2) := by decide +kernel
theorem dL_law_763 : decode cL_law 763 = .ok (.if_icmp .eq 5, 3) := by decide +kernel
theorem dL_law_766 : decode cL_law 766 = .ok (.iconst 0, 1) := by decide +kernel
theorem dL_law_767 : decode cL_law 767 = .ok (.ireturn, 1) := by decide +kernel
theorem dL_law_768 : decode cL_law 768 = .ok (.iload 5, 2) := by decide +kernel
theorem dL_law_770 : decode cL_law 770 = .ok (.ifCond .ne 15, 3) := by decide +kernel
theorem dL_law_773 : decode cL_law 773 = .ok (.aload_n 3, 1) := by decide +kernel
theorem dL_law_774 : decode cL_law 774 = .ok (.iconst 0, 1) := by decide +kernel
theorem dL_law_775 : decode cL_law 775 = .ok (.laload, 1) := by decide +kernel
theorem dL_law_776 : decode cL_law 776 = .ok (.iload 6, 2) := by decide +kernel
theorem dL_law_778 : decode cL_law 778 = .ok (.i2l, 1) := by decide +kernel
theorem dL_law_779 : decode cL_law 779 = .ok (.lcmp, 1) := by decide +kernel
theorem dL_law_780 : decode cL_law 780 = .ok (.ifCond .eq 5, 3) := by decide +kernel
theorem dL_law_783 : decode cL_law 783 = .ok (.iconst 0, 1) := by decide +kernel
theorem dL_law_784 : decode cL_law 784 = .ok (.ireturn, 1) := by decide +kernel
theorem dL_law_785 : decode cL_law 785 = .ok (.goto 827, 3) := by decide +kernel
theorem dL_law_788 : decode cL_law 788 = .ok (.aload_n 1, 1) := by decide +kernel
theorem dL_law_789 : decode cL_law 789 = .ok (.aload_n 0, 1) := by decide +kernel
theorem dL_law_790 : decode cL_law 790 = .ok (.iload 4, 2) := by decide +kernel
theorem dL_law_792 : decode cL_law 792 = .ok (.iconst 1, 1) := by decide +kernel
theorem dL_law_793 : decode cL_law 793 = .ok (.iadd, 1) := by decide +kernel
theorem dL_law_794 : decode cL_law 794 = .ok (.iaload, 1) := by decide +kernel
theorem dL_law_795 : decode cL_law 795 = .ok (.aload_n 3, 1) := by decide +kernel
theorem dL_law_796 : decode cL_law 796 = .ok (.invokestatic 133, 3) := by decide +kernel
theorem dL_law_799 : decode cL_law 799 = .ok (.istore 5, 2) := by decide +kernel
theorem dL_law_801 : decode cL_law 801 = .ok (.aload_n 2, 1) := by decide +kernel
theorem dL_law_802 : decode cL_law 802 = .ok (.aload_n 0, 1) := by decide +kernel
theorem dL_law_803 : decode cL_law 803 = .ok (.iload 4, 2) := by decide +kernel
theorem dL_law_805 : decode cL_law 805 = .ok (.iconst 1, 1) := by decide +kernel
theorem dL_law_806 : decode cL_law 806 = .ok (.iadd, 1) := by decide +kernel
theorem dL_law_807 : decode cL_law 807 = .ok (.iaload, 1) := by decide +kernel
theorem dL_law_808 : decode cL_law 808 = .ok (.invokevirtual 135, 3) := by decide +kernel
theorem dL_law_811 : decode cL_law 811 = .ok (.istore 6, 2) := by decide +kernel
theorem dL_law_813 : decode cL_law 813 = .ok (.aload_n 2, 1) := by decide +kernel
theorem dL_law_814 : decode cL_law 814 = .ok (.invokevirtual 94, 3) := by decide +kernel
theorem dL_law_817 : decode cL_law 817 = .ok (.iload 5, 2) := by decide +kernel
theorem dL_law_819 : decode cL_law 819 = .ok (.if_icmp .eq 5, 3) := by decide +kernel
theorem dL_law_822 : decode cL_law 822 = .ok (.iconst 0, 1) := by decide +kernel
theorem dL_law_823 : decode cL_law 823 = .ok (.ireturn, 1) := by decide +kernel
theorem dL_law_824 : decode cL_law 824 = .ok (.iload 5, 2) := by decide +kernel
theorem dL_law_826 : decode cL_law 826 = .ok (.ifCond .ne 15, 3) := by decide +kernel
theorem dL_law_829 : decode cL_law 829 = .ok (.aload_n 3, 1) := by decide +kernel
theorem dL_law_830 : decode cL_law 830 = .ok (.iconst 0, 1) := by decide +kernel
theorem dL_law_831 : decode cL_law 831 = .ok (.laload, 1) := by decide +kernel
theorem dL_law_832 : decode cL_law 832 = .ok (.iload 6, 2) := by decide +kernel
theorem dL_law_834 : decode cL_law 834 = .ok (.i2l, 1) := by decide +kernel
theorem dL_law_835 : decode cL_law 835 = .ok (.lcmp, 1) := by decide +kernel
theorem dL_law_836 : decode cL_law 836 = .ok (.ifCond .eq 5, 3) := by decide +kernel
theorem dL_law_839 : decode cL_law 839 = .ok (.iconst 0, 1) := by decide +kernel
theorem dL_law_840 : decode cL_law 840 = .ok (.ireturn, 1) := by decide +kernel
theorem dL_law_841 : decode cL_law 841 = .ok (.goto 771, 3) := by decide +kernel
theorem dL_law_844 : decode cL_law 844 = .ok (.aload_n 1, 1) := by decide +kernel
theorem dL_law_845 : decode cL_law 845 = .ok (.aload_n 0, 1) := by decide +kernel
theorem dL_law_846 : decode cL_law 846 = .ok (.iload 4, 2) := by decide +kernel
theorem dL_law_848 : decode cL_law 848 = .ok (.iconst 1, 1) := by decide +kernel
theorem dL_law_849 : decode cL_law 849 = .ok (.iadd, 1) := by decide +kernel
theorem dL_law_850 : decode cL_law 850 = .ok (.iaload, 1) := by decide +kernel
theorem dL_law_851 : decode cL_law 851 = .ok (.aload_n 3, 1) := by decide +kernel
theorem dL_law_852 : decode cL_law 852 = .ok (.invokestatic 136, 3) := by decide +kernel
theorem dL_law_855 : decode cL_law 855 = .ok (.istore 5, 2) := by decide +kernel
theorem dL_law_857 : decode cL_law 857 = .ok (.aload_n 2, 1) := by decide +kernel
theorem dL_law_858 : decode cL_law 858 = .ok (.aload_n 0, 1) := by decide +kernel
theorem dL_law_859 : decode cL_law 859 = .ok (.iload 4, 2) := by decide +kernel
theorem dL_law_861 : decode cL_law 861 = .ok (.iconst 1, 1) := by decide +kernel
theorem dL_law_862 : decode cL_law 862 = .ok (.iadd, 1) := by decide +kernel
theorem dL_law_863 : decode cL_law 863 = .ok (.iaload, 1) := by decide +kernel
theorem dL_law_864 : decode cL_law 864 = .ok (.invokevirtual 138, 3) := by decide +kernel
theorem dL_law_867 : decode cL_law 867 = .ok (.istore 6, 2) := by decide +kernel
theorem dL_law_869 : decode cL_law 869 = .ok (.aload_n 2, 1) := by decide +kernel
theorem dL_law_870 : decode cL_law 870 = .ok (.invokevirtual 94, 3) := by decide +kernel
theorem dL_law_873 : decode cL_law 873 = .ok (.iload 5, 2) := by decide +kernel
theorem dL_law_875 : decode cL_law 875 = .ok (.if_icmp .eq 5, 3) := by decide +kernel
theorem dL_law_878 : decode cL_law 878 = .ok (.iconst 0, 1) := by decide +kernel
theorem dL_law_879 : decode cL_law 879 = .ok (.ireturn, 1) := by decide +kernel
theorem dL_law_880 : decode cL_law 880 = .ok (.iload 5, 2) := by decide +kernel
theorem dL_law_882 : decode cL_law 882 = .ok (.ifCond .ne 15, 3) := by decide +kernel
theorem dL_law_885 : decode cL_law 885 = .ok (.aload_n 3, 1) := by decide +kernel
theorem dL_law_886 : decode cL_law 886 = .ok (.iconst 0, 1) := by decide +kernel
theorem dL_law_887 : decode cL_law 887 = .ok (.laload, 1) := by decide +kernel
theorem dL_law_888 : decode cL_law 888 = .ok (.iload 6, 2) := by decide +kernel
theorem dL_law_890 : decode cL_law 890 = .ok (.i2l, 1) := by decide +kernel
theorem dL_law_891 : decode cL_law 891 = .ok (.lcmp, 1) := by decide +kernel
theorem dL_law_892 : decode cL_law 892 = .ok (.ifCond .eq 5, 3) := by decide +kernel
theorem dL_law_895 : decode cL_law 895 = .ok (.iconst 0, 1) := by decide +kernel
theorem dL_law_896 : decode cL_law 896 = .ok (.ireturn, 1) := by decide +kernel
theorem dL_law_897 : decode cL_law 897 = .ok (.goto 715, 3) := by decide +kernel
theorem dL_law_900 : decode cL_law 900 = .ok (.aload_n 1, 1) := by decide +kernel
theorem dL_law_901 : decode cL_law 901 = .ok (.aload_n 3, 1) := by decide +kernel
theorem dL_law_902 : decode cL_law 902 = .ok (.invokestatic 139, 3) := by decide +kernel
theorem dL_law_905 : decode cL_law 905 = .ok (.istore 5, 2) := by decide +kernel
theorem dL_law_907 : decode cL_law 907 = .ok (.aload_n 2, 1) := by decide +kernel
theorem dL_law_908 : decode cL_law 908 = .ok (.invokevirtual 141, 3) := by decide +kernel
theorem dL_law_911 : decode cL_law 911 = .ok (.istore 6, 2) := by decide +kernel
theorem dL_law_913 : decode cL_law 913 = .ok (.aload_n 2, 1) := by decide +kernel
theorem dL_law_914 : decode cL_law 914 = .ok (.invokevirtual 94, 3) := by decide +kernel
theorem dL_law_917 : decode cL_law 917 = .ok (.iload 5, 2) := by decide +kernel
theorem dL_law_919 : decode cL_law 919 = .ok (.if_icmp .eq 5, 3) := by decide +kernel
theorem dL_law_922 : decode cL_law 922 = .ok (.iconst 0, 1) := by decide +kernel
theorem dL_law_923 : decode cL_law 923 = .ok (.ireturn, 1) := by decide +kernel
theorem dL_law_924 : decode cL_law 924 = .ok (.iload 5, 2) := by decide +kernel
theorem dL_law_926 : decode cL_law 926 = .ok (.ifCond .ne 15, 3) := by decide +kernel
theorem dL_law_929 : decode cL_law 929 = .ok (.aload_n 3, 1) := by decide +kernel
theorem dL_law_930 : decode cL_law 930 = .ok (.iconst 0, 1) := by decide +kernel
theorem dL_law_931 : decode cL_law 931 = .ok (.laload, 1) := by decide +kernel
theorem dL_law_932 : decode cL_law 932 = .ok (.iload 6, 2) := by decide +kernel
theorem dL_law_934 : decode cL_law 934 = .ok (.i2l, 1) := by decide +kernel
theorem dL_law_935 : decode cL_law 935 = .ok (.lcmp, 1) := by decide +kernel
theorem dL_law_936 : decode cL_law 936 = .ok (.ifCond .eq 5, 3) := by decide +kernel
theorem dL_law_939 : decode cL_law 939 = .ok (.iconst 0, 1) := by decide +kernel
theorem dL_law_940 : decode cL_law 940 = .ok (.ireturn, 1) := by decide +kernel
theorem dL_law_941 : decode cL_law 941 = .ok (.goto 671, 3) := by decide +kernel
theorem dL_law_944 : decode cL_law 944 = .ok (.aload_n 1, 1) := by decide +kernel
theorem dL_law_945 : decode cL_law 945 = .ok (.aload_n 0, 1) := by decide +kernel
theorem dL_law_946 : decode cL_law 946 = .ok (.iload 4, 2) := by decide +kernel
theorem dL_law_948 : decode cL_law 948 = .ok (.iconst 1, 1) := by decide +kernel
theorem dL_law_949 : decode cL_law 949 = .ok (.iadd, 1) := by decide +kernel
theorem dL_law_950 : decode cL_law 950 = .ok (.iaload, 1) := by decide +kernel
theorem dL_law_951 : decode cL_law 951 = .ok (.aload_n 0, 1) := by decide +kernel
theorem dL_law_952 : decode cL_law 952 = .ok (.iload 4, 2) := by decide +kernel
theorem dL_law_954 : decode cL_law 954 = .ok (.iconst 2, 1) := by decide +kernel
theorem dL_law_955 : decode cL_law 955 = .ok (.iadd, 1) := by decide +kernel
theorem dL_law_956 : decode cL_law 956 = .ok (.iaload, 1) := by decide +kernel
theorem dL_law_957 : decode cL_law 957 = .ok (.aload_n 3, 1) := by decide +kernel
theorem dL_law_958 : decode cL_law 958 = .ok (.invokestatic 142, 3) := by decide +kernel
theorem dL_law_961 : decode cL_law 961 = .ok (.istore 5, 2) := by decide +kernel
theorem dL_law_963 : decode cL_law 963 = .ok (.aload_n 2, 1) := by decide +kernel
theorem dL_law_964 : decode cL_law 964 = .ok (.aload_n 0, 1) := by decide +kernel
theorem dL_law_965 : decode cL_law 965 = .ok (.iload 4, 2) := by decide +kernel
theorem dL_law_967 : decode cL_law 967 = .ok (.iconst 1, 1) := by decide +kernel
theorem dL_law_968 : decode cL_law 968 = .ok (.iadd, 1) := by decide +kernel
theorem dL_law_969 : decode cL_law 969 = .ok (.iaload, 1) := by decide +kernel
theorem dL_law_970 : decode cL_law 970 = .ok (.aload_n 0, 1) := by decide +kernel
theorem dL_law_971 : decode cL_law 971 = .ok (.iload 4, 2) := by decide +kernel
theorem dL_law_973 : decode cL_law 973 = .ok (.iconst 2, 1) := by decide +kernel
theorem dL_law_974 : decode cL_law 974 = .ok (.iadd, 1) := by decide +kernel
theorem dL_law_975 : decode cL_law 975 = .ok (.iaload, 1) := by decide +kernel
theorem dL_law_976 : decode cL_law 976 = .ok (.invokevirtual 144, 3) := by decide +kernel
theorem dL_law_979 : decode cL_law 979 = .ok (.istore 6, 2) := by decide +kernel
theorem dL_law_981 : decode cL_law 981 = .ok (.aload_n 2, 1) := by decide +kernel
theorem dL_law_982 : decode cL_law 982 = .ok (.invokevirtual 94, 3) := by decide +kernel
theorem dL_law_985 : decode cL_law 985 = .ok (.iload 5, 2) := by decide +kernel
theorem dL_law_987 : decode cL_law 987 = .ok (.if_icmp .eq 5, 3) := by decide +kernel
theorem dL_law_990 : decode cL_law 990 = .ok (.iconst 0, 1) := by decide +kernel
theorem dL_law_991 : decode cL_law 991 = .ok (.ireturn, 1) := by decide +kernel
theorem dL_law_992 : decode cL_law 992 = .ok (.iload 5, 2) := by decide +kernel
theorem dL_law_994 : decode cL_law 994 = .ok (.ifCond .ne 15, 3) := by decide +kernel
theorem dL_law_997 : decode cL_law 997 = .ok (.aload_n 3, 1) := by decide +kernel
theorem dL_law_998 : decode cL_law 998 = .ok (.iconst 0, 1) := by decide +kernel
theorem dL_law_999 : decode cL_law 999 = .ok (.laload, 1) := by decide +kernel
theorem dL_law_1000 : decode cL_law 1000 = .ok (.iload 6, 2) := by decide +kernel
theorem dL_law_1002 : decode cL_law 1002 = .ok (.i2l, 1) := by decide +kernel
theorem dL_law_1003 : decode cL_law 1003 = .ok (.lcmp, 1) := by decide +kernel
theorem dL_law_1004 : decode cL_law 1004 = .ok (.ifCond .eq 5, 3) := by decide +kernel
theorem dL_law_1007 : decode cL_law 1007 = .ok (.iconst 0, 1) := by decide +kernel
theorem dL_law_1008 : decode cL_law 1008 = .ok (.ireturn, 1) := by decide +kernel
theorem dL_law_1009 : decode cL_law 1009 = .ok (.goto 603, 3) := by decide +kernel
theorem dL_law_1012 : decode cL_law 1012 = .ok (.aload_n 1, 1) := by decide +kernel
theorem dL_law_1013 : decode cL_law 1013 = .ok (.aload_n 0, 1) := by decide +kernel
theorem dL_law_1014 : decode cL_law 1014 = .ok (.iload 4, 2) := by decide +kernel
theorem dL_law_1016 : decode cL_law 1016 = .ok (.iconst 1, 1) := by decide +kernel
theorem dL_law_1017 : decode cL_law 1017 = .ok (.iadd, 1) := by decide +kernel
theorem dL_law_1018 : decode cL_law 1018 = .ok (.iaload, 1) := by decide +kernel
theorem dL_law_1019 : decode cL_law 1019 = .ok (.aload_n 0, 1) := by decide +kernel
theorem dL_law_1020 : decode cL_law 1020 = .ok (.iload 4, 2) := by decide +kernel
theorem dL_law_1022 : decode cL_law 1022 = .ok (.iconst 2, 1) := by decide +kernel
theorem dL_law_1023 : decode cL_law 1023 = .ok (.iadd, 1) := by decide +kernel
theorem dL_law_1024 : decode cL_law 1024 = .ok (.iaload, 1) := by decide +kernel
theorem dL_law_1025 : decode cL_law 1025 = .ok (.aload_n 3, 1) := by decide +kernel
theorem dL_law_1026 : decode cL_law 1026 = .ok (.invokestatic 145, 3) := by decide +kernel
theorem dL_law_1029 : decode cL_law 1029 = .ok (.istore 5, 2) := by decide +kernel
theorem dL_law_1031 : decode cL_law 1031 = .ok (.aload_n 2, 1) := by decide +kernel
theorem dL_law_1032 : decode cL_law 1032 = .ok (.aload_n 0, 1) := by decide +kernel
theorem dL_law_1033 : decode cL_law 1033 = .ok (.iload 4, 2) := by decide +kernel
theorem dL_law_1035 : decode cL_law 1035 = .ok (.iconst 1, 1) := by decide +kernel
theorem dL_law_1036 : decode cL_law 1036 = .ok (.iadd, 1) := by decide +kernel
theorem dL_law_1037 : decode cL_law 1037 = .ok (.iaload, 1) := by decide +kernel
theorem dL_law_1038 : decode cL_law 1038 = .ok (.aload_n 0, 1) := by decide +kernel
theorem dL_law_1039 : decode cL_law 1039 = .ok (.iload 4, 2) := by decide +kernel
theorem dL_law_1041 : decode cL_law 1041 = .ok (.iconst 2, 1) := by decide +kernel
theorem dL_law_1042 : decode cL_law 1042 = .ok (.iadd, 1) := by decide +kernel
theorem dL_law_1043 : decode cL_law 1043 = .ok (.iaload, 1) := by decide +kernel
theorem dL_law_1044 : decode cL_law 1044 = .ok (.invokevirtual 147, 3) := by decide +kernel
theorem dL_law_1047 : decode cL_law 1047 = .ok (.istore 6, 2) := by decide +kernel
theorem dL_law_1049 : decode cL_law 1049 = .ok (.aload_n 2, 1) := by decide +kernel
theorem dL_law_1050 : decode cL_law 1050 = .ok (.invokevirtual 94, 3) := by decide +kernel
theorem dL_law_1053 : decode cL_law 1053 = .ok (.iload 5, 2) := by decide +kernel
theorem dL_law_1055 : decode cL_law 1055 = .ok (.if_icmp .eq 5, 3) := by decide +kernel
theorem dL_law_1058 : decode cL_law 1058 = .ok (.iconst 0, 1) := by decide +kernel
theorem dL_law_1059 : decode cL_law 1059 = .ok (.ireturn, 1) := by decide +kernel
theorem dL_law_1060 : decode cL_law 1060 = .ok (.iload 5, 2) := by decide +kernel
theorem dL_law_1062 : decode cL_law 1062 = .ok (.ifCond .ne 15, 3) := by decide +kernel
theorem dL_law_1065 : decode cL_law 1065 = .ok (.aload_n 3, 1) := by decide +kernel
theorem dL_law_1066 : decode cL_law 1066 = .ok (.iconst 0, 1) := by decide +kernel
theorem dL_law_1067 : decode cL_law 1067 = .ok (.laload, 1) := by decide +kernel
theorem dL_law_1068 : decode cL_law 1068 = .ok (.iload 6, 2) := by decide +kernel
theorem dL_law_1070 : decode cL_law 1070 = .ok (.i2l, 1) := by decide +kernel
theorem dL_law_1071 : decode cL_law 1071 = .ok (.lcmp, 1) := by decide +kernel
theorem dL_law_1072 : decode cL_law 1072 = .ok (.ifCond .eq 5, 3) := by decide +kernel
theorem dL_law_1075 : decode cL_law 1075 = .ok (.iconst 0, 1) := by decide +kernel
theorem dL_law_1076 : decode cL_law 1076 = .ok (.ireturn, 1) := by decide +kernel
theorem dL_law_1077 : decode cL_law 1077 = .ok (.goto 535, 3) := by decide +kernel
theorem dL_law_1080 : decode cL_law 1080 = .ok (.aload_n 1, 1) := by decide +kernel
theorem dL_law_1081 : decode cL_law 1081 = .ok (.aload_n 0, 1) := by decide +kernel
theorem dL_law_1082 : decode cL_law 1082 = .ok (.iload 4, 2) := by decide +kernel
theorem dL_law_1084 : decode cL_law 1084 = .ok (.iconst 1, 1) := by decide +kernel
theorem dL_law_1085 : decode cL_law 1085 = .ok (.iadd, 1) := by decide +kernel
theorem dL_law_1086 : decode cL_law 1086 = .ok (.iaload, 1) := by decide +kernel
theorem dL_law_1087 : decode cL_law 1087 = .ok (.aload_n 0, 1) := by decide +kernel
theorem dL_law_1088 : decode cL_law 1088 = .ok (.iload 4, 2) := by decide +kernel
theorem dL_law_1090 : decode cL_law 1090 = .ok (.iconst 2, 1) := by decide +kernel
theorem dL_law_1091 : decode cL_law 1091 = .ok (.iadd, 1) := by decide +kernel
theorem dL_law_1092 : decode cL_law 1092 = .ok (.iaload, 1) := by decide +kernel
theorem dL_law_1093 : decode cL_law 1093 = .ok (.aload_n 3, 1) := by decide +kernel
theorem dL_law_1094 : decode cL_law 1094 = .ok (.invokestatic 148, 3) := by decide +kernel
theorem dL_law_1097 : decode cL_law 1097 = .ok (.istore 5, 2) := by decide +kernel
theorem dL_law_1099 : decode cL_law 1099 = .ok (.aload_n 2, 1) := by decide +kernel
theorem dL_law_1100 : decode cL_law 1100 = .ok (.aload_n 0, 1) := by decide +kernel
theorem dL_law_1101 : decode cL_law 1101 = .ok (.iload 4, 2) := by decide +kernel
theorem dL_law_1103 : decode cL_law 1103 = .ok (.iconst 1, 1) := by decide +kernel
theorem dL_law_1104 : decode cL_law 1104 = .ok (.iadd, 1) := by decide +kernel
theorem dL_law_1105 : decode cL_law 1105 = .ok (.iaload, 1) := by decide +kernel
theorem dL_law_1106 : decode cL_law 1106 = .ok (.aload_n 0, 1) := by decide +kernel
theorem dL_law_1107 : decode cL_law 1107 = .ok (.iload 4, 2) := by decide +kernel
theorem dL_law_1109 : decode cL_law 1109 = .ok (.iconst 2, 1) := by decide +kernel
theorem dL_law_1110 : decode cL_law 1110 = .ok (.iadd, 1) := by decide +kernel
theorem dL_law_1111 : decode cL_law 1111 = .ok (.iaload, 1) := by decide +kernel
theorem dL_law_1112 : decode cL_law 1112 = .ok (.invokevirtual 150, 3) := by decide +kernel
theorem dL_law_1115 : decode cL_law 1115 = .ok (.istore 6, 2) := by decide +kernel
theorem dL_law_1117 : decode cL_law 1117 = .ok (.aload_n 2, 1) := by decide +kernel
theorem dL_law_1118 : decode cL_law 1118 = .ok (.invokevirtual 94, 3) := by decide +kernel
theorem dL_law_1121 : decode cL_law 1121 = .ok (.iload 5, 2) := by decide +kernel
theorem dL_law_1123 : decode cL_law 1123 = .ok (.if_icmp .eq 5, 3) := by decide +kernel
theorem dL_law_1126 : decode cL_law 1126 = .ok (.iconst 0, 1) := by decide +kernel
theorem dL_law_1127 : decode cL_law 1127 = .ok (.ireturn, 1) := by decide +kernel
theorem dL_law_1128 : decode cL_law 1128 = .ok (.iload 5, 2) := by decide +kernel
theorem dL_law_1130 : decode cL_law 1130 = .ok (.ifCond .ne 15, 3) := by decide +kernel
theorem dL_law_1133 : decode cL_law 1133 = .ok (.aload_n 3, 1) := by decide +kernel
theorem dL_law_1134 : decode cL_law 1134 = .ok (.iconst 0, 1) := by decide +kernel
theorem dL_law_1135 : decode cL_law 1135 = .ok (.laload, 1) := by decide +kernel
theorem dL_law_1136 : decode cL_law 1136 = .ok (.iload 6, 2) := by decide +kernel
theorem dL_law_1138 : decode cL_law 1138 = .ok (.i2l, 1) := by decide +kernel
theorem dL_law_1139 : decode cL_law 1139 = .ok (.lcmp, 1) := by decide +kernel
theorem dL_law_1140 : decode cL_law 1140 = .ok (.ifCond .eq 5, 3) := by decide +kernel
theorem dL_law_1143 : decode cL_law 1143 = .ok (.iconst 0, 1) := by decide +kernel
theorem dL_law_1144 : decode cL_law 1144 = .ok (.ireturn, 1) := by decide +kernel
theorem dL_law_1145 : decode cL_law 1145 = .ok (.goto 467, 3) := by decide +kernel
theorem dL_law_1148 : decode cL_law 1148 = .ok (.aload_n 1, 1) := by decide +kernel
theorem dL_law_1149 : decode cL_law 1149 = .ok (.aload_n 0, 1) := by decide +kernel
theorem dL_law_1150 : decode cL_law 1150 = .ok (.iload 4, 2) := by decide +kernel
theorem dL_law_1152 : decode cL_law 1152 = .ok (.iconst 1, 1) := by decide +kernel
theorem dL_law_1153 : decode cL_law 1153 = .ok (.iadd, 1) := by decide +kernel
theorem dL_law_1154 : decode cL_law 1154 = .ok (.iaload, 1) := by decide +kernel
theorem dL_law_1155 : decode cL_law 1155 = .ok (.aload_n 0, 1) := by decide +kernel
theorem dL_law_1156 : decode cL_law 1156 = .ok (.iload 4, 2) := by decide +kernel
theorem dL_law_1158 : decode cL_law 1158 = .ok (.iconst 2, 1) := by decide +kernel
theorem dL_law_1159 : decode cL_law 1159 = .ok (.iadd, 1) := by decide +kernel
theorem dL_law_1160 : decode cL_law 1160 = .ok (.iaload, 1) := by decide +kernel
theorem dL_law_1161 : decode cL_law 1161 = .ok (.aload_n 3, 1) := by decide +kernel
theorem dL_law_1162 : decode cL_law 1162 = .ok (.invokestatic 151, 3) := by decide +kernel
theorem dL_law_1165 : decode cL_law 1165 = .ok (.istore 5, 2) := by decide +kernel
theorem dL_law_1167 : decode cL_law 1167 = .ok (.aload_n 2, 1) := by decide +kernel
theorem dL_law_1168 : decode cL_law 1168 = .ok (.aload_n 0, 1) := by decide +kernel
theorem dL_law_1169 : decode cL_law 1169 = .ok (.iload 4, 2) := by decide +kernel
theorem dL_law_1171 : decode cL_law 1171 = .ok (.iconst 1, 1) := by decide +kernel
theorem dL_law_1172 : decode cL_law 1172 = .ok (.iadd, 1) := by decide +kernel
theorem dL_law_1173 : decode cL_law 1173 = .ok (.iaload, 1) := by decide +kernel
theorem dL_law_1174 : decode cL_law 1174 = .ok (.aload_n 0, 1) := by decide +kernel
theorem dL_law_1175 : decode cL_law 1175 = .ok (.iload 4, 2) := by decide +kernel
theorem dL_law_1177 : decode cL_law 1177 = .ok (.iconst 2, 1) := by decide +kernel
theorem dL_law_1178 : decode cL_law 1178 = .ok (.iadd, 1) := by decide +kernel
theorem dL_law_1179 : decode cL_law 1179 = .ok (.iaload, 1) := by decide +kernel
theorem dL_law_1180 : decode cL_law 1180 = .ok (.invokevirtual 153, 3) := by decide +kernel
theorem dL_law_1183 : decode cL_law 1183 = .ok (.istore 6, 2) := by decide +kernel
theorem dL_law_1185 : decode cL_law 1185 = .ok (.aload_n 2, 1) := by decide +kernel
theorem dL_law_1186 : decode cL_law 1186 = .ok (.invokevirtual 94, 3) := by decide +kernel
theorem dL_law_1189 : decode cL_law 1189 = .ok (.iload 5, 2) := by decide +kernel
theorem dL_law_1191 : decode cL_law 1191 = .ok (.if_icmp .eq 5, 3) := by decide +kernel
theorem dL_law_1194 : decode cL_law 1194 = .ok (.iconst 0, 1) := by decide +kernel
theorem dL_law_1195 : decode cL_law 1195 = .ok (.ireturn, 1) := by decide +kernel
theorem dL_law_1196 : decode cL_law 1196 = .ok (.iload 5, 2) := by decide +kernel
theorem dL_law_1198 : decode cL_law 1198 = .ok (.ifCond .ne 15, 3) := by decide +kernel
theorem dL_law_1201 : decode cL_law 1201 = .ok (.aload_n 3, 1) := by decide +kernel
theorem dL_law_1202 : decode cL_law 1202 = .ok (.iconst 0, 1) := by decide +kernel
theorem dL_law_1203 : decode cL_law 1203 = .ok (.laload, 1) := by decide +kernel
theorem dL_law_1204 : decode cL_law 1204 = .ok (.iload 6, 2) := by decide +kernel
theorem dL_law_1206 : decode cL_law 1206 = .ok (.i2l, 1) := by decide +kernel
theorem dL_law_1207 : decode cL_law 1207 = .ok (.lcmp, 1) := by decide +kernel
theorem dL_law_1208 : decode cL_law 1208 = .ok (.ifCond .eq 5, 3) := by decide +kernel
theorem dL_law_1211 : decode cL_law 1211 = .ok (.iconst 0, 1) := by decide +kernel
theorem dL_law_1212 : decode cL_law 1212 = .ok (.ireturn, 1) := by decide +kernel
theorem dL_law_1213 : decode cL_law 1213 = .ok (.goto 399, 3) := by decide +kernel
theorem dL_law_1216 : decode cL_law 1216 = .ok (.aload_n 1, 1) := by decide +kernel
theorem dL_law_1217 : decode cL_law 1217 = .ok (.aload_n 0, 1) := by decide +kernel
theorem dL_law_1218 : decode cL_law 1218 = .ok (.iload 4, 2) := by decide +kernel
theorem dL_law_1220 : decode cL_law 1220 = .ok (.iconst 1, 1) := by decide +kernel
theorem dL_law_1221 : decode cL_law 1221 = .ok (.iadd, 1) := by decide +kernel
theorem dL_law_1222 : decode cL_law 1222 = .ok (.iaload, 1) := by decide +kernel
theorem dL_law_1223 : decode cL_law 1223 = .ok (.aload_n 3, 1) := by decide +kernel
theorem dL_law_1224 : decode cL_law 1224 = .ok (.invokestatic 154, 3) := by decide +kernel
theorem dL_law_1227 : decode cL_law 1227 = .ok (.istore 5, 2) := by decide +kernel
theorem dL_law_1229 : decode cL_law 1229 = .ok (.aload_n 2, 1) := by decide +kernel
theorem dL_law_1230 : decode cL_law 1230 = .ok (.aload_n 0, 1) := by decide +kernel
theorem dL_law_1231 : decode cL_law 1231 = .ok (.iload 4, 2) := by decide +kernel
theorem dL_law_1233 : decode cL_law 1233 = .ok (.iconst 1, 1) := by decide +kernel
theorem dL_law_1234 : decode cL_law 1234 = .ok (.iadd, 1) := by decide +kernel
theorem dL_law_1235 : decode cL_law 1235 = .ok (.iaload, 1) := by decide +kernel
theorem dL_law_1236 : decode cL_law 1236 = .ok (.invokevirtual 156, 3) := by decide +kernel
theorem dL_law_1239 : decode cL_law 1239 = .ok (.istore 6, 2) := by decide +kernel
theorem dL_law_1241 : decode cL_law 1241 = .ok (.aload_n 2, 1) := by decide +kernel
theorem dL_law_1242 : decode cL_law 1242 = .ok (.invokevirtual 94, 3) := by decide +kernel
theorem dL_law_1245 : decode cL_law 1245 = .ok (.iload 5, 2) := by decide +kernel
theorem dL_law_1247 : decode cL_law 1247 = .ok (.if_icmp .eq 5, 3) := by decide +kernel
theorem dL_law_1250 : decode cL_law 1250 = .ok (.iconst 0, 1) := by decide +kernel
theorem dL_law_1251 : decode cL_law 1251 = .ok (.ireturn, 1) := by decide +kernel
theorem dL_law_1252 : decode cL_law 1252 = .ok (.iload 5, 2) := by decide +kernel
theorem dL_law_1254 : decode cL_law 1254 = .ok (.ifCond .ne 15, 3) := by decide +kernel
theorem dL_law_1257 : decode cL_law 1257 = .ok (.aload_n 3, 1) := by decide +kernel
theorem dL_law_1258 : decode cL_law 1258 = .ok (.iconst 0, 1) := by decide +kernel
theorem dL_law_1259 : decode cL_law 1259 = .ok (.laload, 1) := by decide +kernel
theorem dL_law_1260 : decode cL_law 1260 = .ok (.iload 6, 2) := by decide +kernel
theorem dL_law_1262 : decode cL_law 1262 = .ok (.i2l, 1) := by decide +kernel
theorem dL_law_1263 : decode cL_law 1263 = .ok (.lcmp, 1) := by decide +kernel
theorem dL_law_1264 : decode cL_law 1264 = .ok (.ifCond .eq 5, 3) := by decide +kernel
theorem dL_law_1267 : decode cL_law 1267 = .ok (.iconst 0, 1) := by decide +kernel
theorem dL_law_1268 : decode cL_law 1268 = .ok (.ireturn, 1) := by decide +kernel
theorem dL_law_1269 : decode cL_law 1269 = .ok (.goto 343, 3) := by decide +kernel
theorem dL_law_1272 : decode cL_law 1272 = .ok (.aload_n 1, 1) := by decide +kernel
theorem dL_law_1273 : decode cL_law 1273 = .ok (.aload_n 0, 1) := by decide +kernel
theorem dL_law_1274 : decode cL_law 1274 = .ok (.iload 4, 2) := by decide +kernel
theorem dL_law_1276 : decode cL_law 1276 = .ok (.iconst 1, 1) := by decide +kernel
theorem dL_law_1277 : decode cL_law 1277 = .ok (.iadd, 1) := by decide +kernel
theorem dL_law_1278 : decode cL_law 1278 = .ok (.iaload, 1) := by decide +kernel
theorem dL_law_1279 : decode cL_law 1279 = .ok (.aload_n 0, 1) := by decide +kernel
theorem dL_law_1280 : decode cL_law 1280 = .ok (.iload 4, 2) := by decide +kernel
theorem dL_law_1282 : decode cL_law 1282 = .ok (.iconst 2, 1) := by decide +kernel
theorem dL_law_1283 : decode cL_law 1283 = .ok (.iadd, 1) := by decide +kernel
theorem dL_law_1284 : decode cL_law 1284 = .ok (.iaload, 1) := by decide +kernel
theorem dL_law_1285 : decode cL_law 1285 = .ok (.aload_n 0, 1) := by decide +kernel
theorem dL_law_1286 : decode cL_law 1286 = .ok (.iload 4, 2) := by decide +kernel
theorem dL_law_1288 : decode cL_law 1288 = .ok (.iconst 3, 1) := by decide +kernel
theorem dL_law_1289 : decode cL_law 1289 = .ok (.iadd, 1) := by decide +kernel
theorem dL_law_1290 : decode cL_law 1290 = .ok (.iaload, 1) := by decide +kernel
theorem dL_law_1291 : decode cL_law 1291 = .ok (.aload_n 3, 1) := by decide +kernel
theorem dL_law_1292 : decode cL_law 1292 = .ok (.invokestatic 157, 3) := by decide +kernel
theorem dL_law_1295 : decode cL_law 1295 = .ok (.istore 5, 2) := by decide +kernel
theorem dL_law_1297 : decode cL_law 1297 = .ok (.aload_n 2, 1) := by decide +kernel
theorem dL_law_1298 : decode cL_law 1298 = .ok (.aload_n 0, 1) := by decide +kernel
theorem dL_law_1299 : decode cL_law 1299 = .ok (.iload 4, 2) := by decide +kernel
theorem dL_law_1301 : decode cL_law 1301 = .ok (.iconst 1, 1) := by decide +kernel
theorem dL_law_1302 : decode cL_law 1302 = .ok (.iadd, 1) := by decide +kernel
theorem dL_law_1303 : decode cL_law 1303 = .ok (.iaload, 1) := by decide +kernel
theorem dL_law_1304 : decode cL_law 1304 = .ok (.aload_n 0, 1) := by decide +kernel
theorem dL_law_1305 : decode cL_law 1305 = .ok (.iload 4, 2) := by decide +kernel
theorem dL_law_1307 : decode cL_law 1307 = .ok (.iconst 2, 1) := by decide +kernel
theorem dL_law_1308 : decode cL_law 1308 = .ok (.iadd, 1) := by decide +kernel
theorem dL_law_1309 : decode cL_law 1309 = .ok (.iaload, 1) := by decide +kernel
theorem dL_law_1310 : decode cL_law 1310 = .ok (.aload_n 0, 1) := by decide +kernel
theorem dL_law_1311 : decode cL_law 1311 = .ok (.iload 4, 2) := by decide +kernel
theorem dL_law_1313 : decode cL_law 1313 = .ok (.iconst 3, 1) := by decide +kernel
theorem dL_law_1314 : decode cL_law 1314 = .ok (.iadd, 1) := by decide +kernel
theorem dL_law_1315 : decode cL_law 1315 = .ok (.iaload, 1) := by decide +kernel
theorem dL_law_1316 : decode cL_law 1316 = .ok (.invokevirtual 160, 3) := by decide +kernel
theorem dL_law_1319 : decode cL_law 1319 = .ok (.istore 6, 2) := by decide +kernel
theorem dL_law_1321 : decode cL_law 1321 = .ok (.aload_n 2, 1) := by decide +kernel
theorem dL_law_1322 : decode cL_law 1322 = .ok (.invokevirtual 94, 3) := by decide +kernel
theorem dL_law_1325 : decode cL_law 1325 = .ok (.iload 5, 2) := by decide +kernel
theorem dL_law_1327 : decode cL_law 1327 = .ok (.if_icmp .eq 5, 3) := by decide +kernel
theorem dL_law_1330 : decode cL_law 1330 = .ok (.iconst 0, 1) := by decide +kernel
theorem dL_law_1331 : decode cL_law 1331 = .ok (.ireturn, 1) := by decide +kernel
theorem dL_law_1332 : decode cL_law 1332 = .ok (.iload 5, 2) := by decide +kernel
theorem dL_law_1334 : decode cL_law 1334 = .ok (.ifCond .ne 15, 3) := by decide +kernel
theorem dL_law_1337 : decode cL_law 1337 = .ok (.aload_n 3, 1) := by decide +kernel
theorem dL_law_1338 : decode cL_law 1338 = .ok (.iconst 0, 1) := by decide +kernel
theorem dL_law_1339 : decode cL_law 1339 = .ok (.laload, 1) := by decide +kernel
theorem dL_law_1340 : decode cL_law 1340 = .ok (.iload 6, 2) := by decide +kernel
theorem dL_law_1342 : decode cL_law 1342 = .ok (.i2l, 1) := by decide +kernel
theorem dL_law_1343 : decode cL_law 1343 = .ok (.lcmp, 1) := by decide +kernel
theorem dL_law_1344 : decode cL_law 1344 = .ok (.ifCond .eq 5, 3) := by decide +kernel
theorem dL_law_1347 : decode cL_law 1347 = .ok (.iconst 0, 1) := by decide +kernel
theorem dL_law_1348 : decode cL_law 1348 = .ok (.ireturn, 1) := by decide +kernel
theorem dL_law_1349 : decode cL_law 1349 = .ok (.goto 263, 3) := by decide +kernel
theorem dL_law_1352 : decode cL_law 1352 = .ok (.aload_n 1, 1) := by decide +kernel
theorem dL_law_1353 : decode cL_law 1353 = .ok (.aload_n 0, 1) := by decide +kernel
theorem dL_law_1354 : decode cL_law 1354 = .ok (.iload 4, 2) := by decide +kernel
theorem dL_law_1356 : decode cL_law 1356 = .ok (.iconst 1, 1) := by decide +kernel
theorem dL_law_1357 : decode cL_law 1357 = .ok (.iadd, 1) := by decide +kernel
theorem dL_law_1358 : decode cL_law 1358 = .ok (.iaload, 1) := by decide +kernel
theorem dL_law_1359 : decode cL_law 1359 = .ok (.aload_n 3, 1) := by decide +kernel
theorem dL_law_1360 : decode cL_law 1360 = .ok (.invokestatic 161, 3) := by decide +kernel
theorem dL_law_1363 : decode cL_law 1363 = .ok (.istore 5, 2) := by decide +kernel
theorem dL_law_1365 : decode cL_law 1365 = .ok (.aload_n 2, 1) := by decide +kernel
theorem dL_law_1366 : decode cL_law 1366 = .ok (.aload_n 0, 1) := by decide +kernel
theorem dL_law_1367 : decode cL_law 1367 = .ok (.iload 4, 2) := by decide +kernel
theorem dL_law_1369 : decode cL_law 1369 = .ok (.iconst 1, 1) := by decide +kernel
theorem dL_law_1370 : decode cL_law 1370 = .ok (.iadd, 1) := by decide +kernel
theorem dL_law_1371 : decode cL_law 1371 = .ok (.iaload, 1) := by decide +kernel
theorem dL_law_1372 : decode cL_law 1372 = .ok (.invokevirtual 163, 3) := by decide +kernel
theorem dL_law_1375 : decode cL_law 1375 = .ok (.istore 6, 2) := by decide +kernel
theorem dL_law_1377 : decode cL_law 1377 = .ok (.aload_n 2, 1) := by decide +kernel
theorem dL_law_1378 : decode cL_law 1378 = .ok (.invokevirtual 94, 3) := by decide +kernel
theorem dL_law_1381 : decode cL_law 1381 = .ok (.iload 5, 2) := by decide +kernel
theorem dL_law_1383 : decode cL_law 1383 = .ok (.if_icmp .eq 5, 3) := by decide +kernel
theorem dL_law_1386 : decode cL_law 1386 = .ok (.iconst 0, 1) := by decide +kernel
theorem dL_law_1387 : decode cL_law 1387 = .ok (.ireturn, 1) := by decide +kernel
theorem dL_law_1388 : decode cL_law 1388 = .ok (.iload 5, 2) := by decide +kernel
theorem dL_law_1390 : decode cL_law 1390 = .ok (.ifCond .ne 15, 3) := by decide +kernel
theorem dL_law_1393 : decode cL_law 1393 = .ok (.aload_n 3, 1) := by decide +kernel
theorem dL_law_1394 : decode cL_law 1394 = .ok (.iconst 0, 1) := by decide +kernel
theorem dL_law_1395 : decode cL_law 1395 = .ok (.laload, 1) := by decide +kernel
theorem dL_law_1396 : decode cL_law 1396 = .ok (.iload 6, 2) := by decide +kernel
theorem dL_law_1398 : decode cL_law 1398 = .ok (.i2l, 1) := by decide +kernel
theorem dL_law_1399 : decode cL_law 1399 = .ok (.lcmp, 1) := by decide +kernel
theorem dL_law_1400 : decode cL_law 1400 = .ok (.ifCond .eq 5, 3) := by decide +kernel
theorem dL_law_1403 : decode cL_law 1403 = .ok (.iconst 0, 1) := by decide +kernel
theorem dL_law_1404 : decode cL_law 1404 = .ok (.ireturn, 1) := by decide +kernel
theorem dL_law_1405 : decode cL_law 1405 = .ok (.goto 207, 3) := by decide +kernel
theorem dL_law_1408 : decode cL_law 1408 = .ok (.aload_n 1, 1) := by decide +kernel
theorem dL_law_1409 : decode cL_law 1409 = .ok (.aload_n 0, 1) := by decide +kernel
theorem dL_law_1410 : decode cL_law 1410 = .ok (.iload 4, 2) := by decide +kernel
theorem dL_law_1412 : decode cL_law 1412 = .ok (.iconst 1, 1) := by decide +kernel
theorem dL_law_1413 : decode cL_law 1413 = .ok (.iadd, 1) := by decide +kernel
theorem dL_law_1414 : decode cL_law 1414 = .ok (.iaload, 1) := by decide +kernel
theorem dL_law_1415 : decode cL_law 1415 = .ok (.aload_n 0, 1) := by decide +kernel
theorem dL_law_1416 : decode cL_law 1416 = .ok (.iload 4, 2) := by decide +kernel
theorem dL_law_1418 : decode cL_law 1418 = .ok (.iconst 2, 1) := by decide +kernel
theorem dL_law_1419 : decode cL_law 1419 = .ok (.iadd, 1) := by decide +kernel
theorem dL_law_1420 : decode cL_law 1420 = .ok (.iaload, 1) := by decide +kernel
theorem dL_law_1421 : decode cL_law 1421 = .ok (.aload_n 0, 1) := by decide +kernel
theorem dL_law_1422 : decode cL_law 1422 = .ok (.iload 4, 2) := by decide +kernel
theorem dL_law_1424 : decode cL_law 1424 = .ok (.iconst 3, 1) := by decide +kernel
theorem dL_law_1425 : decode cL_law 1425 = .ok (.iadd, 1) := by decide +kernel
theorem dL_law_1426 : decode cL_law 1426 = .ok (.iaload, 1) := by decide +kernel
theorem dL_law_1427 : decode cL_law 1427 = .ok (.aload_n 3, 1) := by decide +kernel
theorem dL_law_1428 : decode cL_law 1428 = .ok (.invokestatic 164, 3) := by decide +kernel
theorem dL_law_1431 : decode cL_law 1431 = .ok (.istore 5, 2) := by decide +kernel
theorem dL_law_1433 : decode cL_law 1433 = .ok (.aload_n 2, 1) := by decide +kernel
theorem dL_law_1434 : decode cL_law 1434 = .ok (.aload_n 0, 1) := by decide +kernel
theorem dL_law_1435 : decode cL_law 1435 = .ok (.iload 4, 2) := by decide +kernel
theorem dL_law_1437 : decode cL_law 1437 = .ok (.iconst 1, 1) := by decide +kernel
theorem dL_law_1438 : decode cL_law 1438 = .ok (.iadd, 1) := by decide +kernel
theorem dL_law_1439 : decode cL_law 1439 = .ok (.iaload, 1) := by decide +kernel
theorem dL_law_1440 : decode cL_law 1440 = .ok (.aload_n 0, 1) := by decide +kernel
theorem dL_law_1441 : decode cL_law 1441 = .ok (.iload 4, 2) := by decide +kernel
theorem dL_law_1443 : decode cL_law 1443 = .ok (.iconst 2, 1) := by decide +kernel
theorem dL_law_1444 : decode cL_law 1444 = .ok (.iadd, 1) := by decide +kernel
theorem dL_law_1445 : decode cL_law 1445 = .ok (.iaload, 1) := by decide +kernel
theorem dL_law_1446 : decode cL_law 1446 = .ok (.aload_n 0, 1) := by decide +kernel
theorem dL_law_1447 : decode cL_law 1447 = .ok (.iload 4, 2) := by decide +kernel
theorem dL_law_1449 : decode cL_law 1449 = .ok (.iconst 3, 1) := by decide +kernel
theorem dL_law_1450 : decode cL_law 1450 = .ok (.iadd, 1) := by decide +kernel
theorem dL_law_1451 : decode cL_law 1451 = .ok (.iaload, 1) := by decide +kernel
theorem dL_law_1452 : decode cL_law 1452 = .ok (.invokevirtual 166, 3) := by decide +kernel
theorem dL_law_1455 : decode cL_law 1455 = .ok (.istore 6, 2) := by decide +kernel
theorem dL_law_1457 : decode cL_law 1457 = .ok (.aload_n 2, 1) := by decide +kernel
theorem dL_law_1458 : decode cL_law 1458 = .ok (.invokevirtual 94, 3) := by decide +kernel
theorem dL_law_1461 : decode cL_law 1461 = .ok (.iload 5, 2) := by decide +kernel
theorem dL_law_1463 : decode cL_law 1463 = .ok (.if_icmp .eq 5, 3) := by decide +kernel
theorem dL_law_1466 : decode cL_law 1466 = .ok (.iconst 0, 1) := by decide +kernel
theorem dL_law_1467 : decode cL_law 1467 = .ok (.ireturn, 1) := by decide +kernel
theorem dL_law_1468 : decode cL_law 1468 = .ok (.iload 5, 2) := by decide +kernel
theorem dL_law_1470 : decode cL_law 1470 = .ok (.ifCond .ne 15, 3) := by decide +kernel
theorem dL_law_1473 : decode cL_law 1473 = .ok (.aload_n 3, 1) := by decide +kernel
theorem dL_law_1474 : decode cL_law 1474 = .ok (.iconst 0, 1) := by decide +kernel
theorem dL_law_1475 : decode cL_law 1475 = .ok (.laload, 1) := by decide +kernel
theorem dL_law_1476 : decode cL_law 1476 = .ok (.iload 6, 2) := by decide +kernel
theorem dL_law_1478 : decode cL_law 1478 = .ok (.i2l, 1) := by decide +kernel
theorem dL_law_1479 : decode cL_law 1479 = .ok (.lcmp, 1) := by decide +kernel
theorem dL_law_1480 : decode cL_law 1480 = .ok (.ifCond .eq 5, 3) := by decide +kernel
theorem dL_law_1483 : decode cL_law 1483 = .ok (.iconst 0, 1) := by decide +kernel
theorem dL_law_1484 : decode cL_law 1484 = .ok (.ireturn, 1) := by decide +kernel
theorem dL_law_1485 : decode cL_law 1485 = .ok (.goto 127, 3) := by decide +kernel
theorem dL_law_1488 : decode cL_law 1488 = .ok (.aload_n 1, 1) := by decide +kernel
theorem dL_law_1489 : decode cL_law 1489 = .ok (.invokevirtual 167, 3) := by decide +kernel
theorem dL_law_1492 : decode cL_law 1492 = .ok (.aload_n 2, 1) := by decide +kernel
theorem dL_law_1493 : decode cL_law 1493 = .ok (.invokevirtual 170, 3) := by decide +kernel
theorem dL_law_1496 : decode cL_law 1496 = .ok (.if_icmp .eq 116, 3) := by decide +kernel
theorem dL_law_1499 : decode cL_law 1499 = .ok (.iconst 0, 1) := by decide +kernel
theorem dL_law_1500 : decode cL_law 1500 = .ok (.ireturn, 1) := by decide +kernel
theorem dL_law_1501 : decode cL_law 1501 = .ok (.aload_n 1, 1) := by decide +kernel
theorem dL_law_1502 : decode cL_law 1502 = .ok (.aload_n 0, 1) := by decide +kernel
theorem dL_law_1503 : decode cL_law 1503 = .ok (.iload 4, 2) := by decide +kernel
theorem dL_law_1505 : decode cL_law 1505 = .ok (.iconst 1, 1) := by decide +kernel
theorem dL_law_1506 : decode cL_law 1506 = .ok (.iadd, 1) := by decide +kernel
theorem dL_law_1507 : decode cL_law 1507 = .ok (.iaload, 1) := by decide +kernel
theorem dL_law_1508 : decode cL_law 1508 = .ok (.aload_n 3, 1) := by decide +kernel
theorem dL_law_1509 : decode cL_law 1509 = .ok (.invokestatic 171, 3) := by decide +kernel
theorem dL_law_1512 : decode cL_law 1512 = .ok (.istore 5, 2) := by decide +kernel
theorem dL_law_1514 : decode cL_law 1514 = .ok (.aload_n 2, 1) := by decide +kernel
theorem dL_law_1515 : decode cL_law 1515 = .ok (.aload_n 0, 1) := by decide +kernel
theorem dL_law_1516 : decode cL_law 1516 = .ok (.iload 4, 2) := by decide +kernel
theorem dL_law_1518 : decode cL_law 1518 = .ok (.iconst 1, 1) := by decide +kernel
theorem dL_law_1519 : decode cL_law 1519 = .ok (.iadd, 1) := by decide +kernel
theorem dL_law_1520 : decode cL_law 1520 = .ok (.iaload, 1) := by decide +kernel
theorem dL_law_1521 : decode cL_law 1521 = .ok (.invokevirtual 173, 3) := by decide +kernel
theorem dL_law_1524 : decode cL_law 1524 = .ok (.istore 6, 2) := by decide +kernel
theorem dL_law_1526 : decode cL_law 1526 = .ok (.aload_n 2, 1) := by decide +kernel
theorem dL_law_1527 : decode cL_law 1527 = .ok (.invokevirtual 94, 3) := by decide +kernel
theorem dL_law_1530 : decode cL_law 1530 = .ok (.iload 5, 2) := by decide +kernel
theorem dL_law_1532 : decode cL_law 1532 = .ok (.if_icmp .eq 5, 3) := by decide +kernel
theorem dL_law_1535 : decode cL_law 1535 = .ok (.iconst 0, 1) := by decide +kernel
theorem dL_law_1536 : decode cL_law 1536 = .ok (.ireturn, 1) := by decide +kernel
theorem dL_law_1537 : decode cL_law 1537 = .ok (.iload 5, 2) := by decide +kernel
theorem dL_law_1539 : decode cL_law 1539 = .ok (.ifCond .ne 15, 3) := by decide +kernel
theorem dL_law_1542 : decode cL_law 1542 = .ok (.aload_n 3, 1) := by decide +kernel
theorem dL_law_1543 : decode cL_law 1543 = .ok (.iconst 0, 1) := by decide +kernel
theorem dL_law_1544 : decode cL_law 1544 = .ok (.laload, 1) := by decide +kernel
theorem dL_law_1545 : decode cL_law 1545 = .ok (.iload 6, 2) := by decide +kernel
theorem dL_law_1547 : decode cL_law 1547 = .ok (.i2l, 1) := by decide +kernel
theorem dL_law_1548 : decode cL_law 1548 = .ok (.lcmp, 1) := by decide +kernel
theorem dL_law_1549 : decode cL_law 1549 = .ok (.ifCond .eq 5, 3) := by decide +kernel
theorem dL_law_1552 : decode cL_law 1552 = .ok (.iconst 0, 1) := by decide +kernel
theorem dL_law_1553 : decode cL_law 1553 = .ok (.ireturn, 1) := by decide +kernel
theorem dL_law_1554 : decode cL_law 1554 = .ok (.goto 58, 3) := by decide +kernel
theorem dL_law_1557 : decode cL_law 1557 = .ok (.aload_n 1, 1) := by decide +kernel
theorem dL_law_1558 : decode cL_law 1558 = .ok (.invokevirtual 174, 3) := by decide +kernel
theorem dL_law_1561 : decode cL_law 1561 = .ok (.dstore 5, 2) := by decide +kernel
theorem dL_law_1563 : decode cL_law 1563 = .ok (.aload_n 2, 1) := by decide +kernel
theorem dL_law_1564 : decode cL_law 1564 = .ok (.invokevirtual 178, 3) := by decide +kernel
theorem dL_law_1567 : decode cL_law 1567 = .ok (.dstore 7, 2) := by decide +kernel
theorem dL_law_1569 : decode cL_law 1569 = .ok (.dload 5, 2) := by decide +kernel
theorem dL_law_1571 : decode cL_law 1571 = .ok (.dload 7, 2) := by decide +kernel
theorem dL_law_1573 : decode cL_law 1573 = .ok (.dcmp .l, 1) := by decide +kernel
theorem dL_law_1574 : decode cL_law 1574 = .ok (.ifCond .eq 21, 3) := by decide +kernel
theorem dL_law_1577 : decode cL_law 1577 = .ok (.dload 5, 2) := by decide +kernel
theorem dL_law_1579 : decode cL_law 1579 = .ok (.dload 5, 2) := by decide +kernel
theorem dL_law_1581 : decode cL_law 1581 = .ok (.dcmp .l, 1) := by decide +kernel
theorem dL_law_1582 : decode cL_law 1582 = .ok (.ifCond .eq 11, 3) := by decide +kernel
theorem dL_law_1585 : decode cL_law 1585 = .ok (.dload 7, 2) := by decide +kernel
theorem dL_law_1587 : decode cL_law 1587 = .ok (.dload 7, 2) := by decide +kernel
theorem dL_law_1589 : decode cL_law 1589 = .ok (.dcmp .l, 1) := by decide +kernel
theorem dL_law_1590 : decode cL_law 1590 = .ok (.ifCond .ne 5, 3) := by decide +kernel
theorem dL_law_1593 : decode cL_law 1593 = .ok (.iconst 0, 1) := by decide +kernel
theorem dL_law_1594 : decode cL_law 1594 = .ok (.ireturn, 1) := by decide +kernel
theorem dL_law_1595 : decode cL_law 1595 = .ok (.goto 17, 3) := by decide +kernel
theorem dL_law_1598 : decode cL_law 1598 = .ok (.aload_n 1, 1) := by decide +kernel
theorem dL_law_1599 : decode cL_law 1599 = .ok (.invokevirtual 179, 3) := by decide +kernel
theorem dL_law_1602 : decode cL_law 1602 = .ok (.aload_n 2, 1) := by decide +kernel
theorem dL_law_1603 : decode cL_law 1603 = .ok (.invokevirtual 183, 3) := by decide +kernel
theorem dL_law_1606 : decode cL_law 1606 = .ok (.lcmp, 1) := by decide +kernel
theorem dL_law_1607 : decode cL_law 1607 = .ok (.ifCond .eq 5, 3) := by decide +kernel
theorem dL_law_1610 : decode cL_law 1610 = .ok (.iconst 0, 1) := by decide +kernel
theorem dL_law_1611 : decode cL_law 1611 = .ok (.ireturn, 1) := by decide +kernel
theorem dL_law_1612 : decode cL_law 1612 = .ok (.iinc 4 7, 3) := by decide +kernel
theorem dL_law_1615 : decode cL_law 1615 = .ok (.goto (-1592), 3) := by decide +kernel
theorem dL_law_1618 : decode cL_law 1618 = .ok (.iconst 1, 1) := by decide +kernel
theorem dL_law_1619 : decode cL_law 1619 = .ok (.ireturn, 1) := by decide +kernel
end
section
/-! THE ABSTRACT MACHINE, part 1: values, cells and worlds with numbered cells in place of addresses (own work) -/
section AMA
/-- the address of a numbered cell -/
abbrev am_A : Type := Nat → Option Nat
def am_le (a b : am_A) : Prop := ∀ (k x : Nat), a k = some x → b k = some x
theorem am_le.rf (a : am_A) : am_le a a := fun _ _ h => h
theorem am_le.tr {a b c : am_A} (h : am_le a b) (g : am_le b c) : am_le a c := fun k x e => g k x (h k x e)
/-- cells: ints (chars, booleans), longs, references, objects -/
abbrev am_E : Type := (FieldType × Nat × (Nat → Int32)) ⊕ ((Nat × (Nat → Int64)) ⊕ ((String × Nat × (Nat → Option Nat)) ⊕ (Nat × List Value)))
abbrev am_I (ty : FieldType) (n : Nat) (f : Nat → Int32) : am_E := .inl (ty, n, f)
abbrev am_J (n : Nat) (f : Nat → Int64) : am_E := .inr (.inl (n, f))
abbrev am_R (C : String) (n : Nat) (f : Nat → Option Nat) : am_E := .inr (.inr (.inl (C, n, f)))
abbrev am_O (ci : Nat) (fs : List Value) : am_E := .inr (.inr (.inr (ci, fs)))
def am_v (al : am_A) (v v' : Value) : Prop := match v with
  | .int x => v' = .int x
  | .long x => v' = .long x
  | .float x => v' = .float x
  | .double x => v' = .double x
  | .null => v' = .null
  | .ref k => ∃ a, al k = some a ∧ v' = .ref a
  | .retAddr x => v' = .retAddr x
theorem am_v.mono {al al' : am_A} (h : am_le al al') {v v' : Value} (hv : am_v al v v') : am_v al' v v' := by
  cases v <;> first | exact hv | (obtain ⟨a, h1, h2⟩ := hv; exact ⟨a, h _ _ h1, h2⟩)
theorem am_v.cat {al : am_A} {v v' : Value} (hv : am_v al v v') : v'.category = v.category := by
  cases v <;> first | (cases hv; rfl) | (obtain ⟨a, h1, rfl⟩ := hv; rfl)
def am_vs (al : am_A) : List Value → List Value → Prop
  | [], l => l = []
  | v :: r, l => ∃ v' r', l = v' :: r' ∧ am_v al v v' ∧ am_vs al r r'
theorem am_vs.mono {al al' : am_A} (h : am_le al al') : ∀ {l l' : List Value}, am_vs al l l' → am_vs al' l l'
  | [], _, g => g
  | _ :: _, _, ⟨v', r', e, g1, g2⟩ => ⟨v', r', e, g1.mono h, am_vs.mono h g2⟩
theorem am_vs.len {al : am_A} : ∀ {l l' : List Value}, am_vs al l l' → l'.length = l.length
  | [], _, g => by cases g; rfl
  | _ :: _, _, ⟨v', r', e, g1, g2⟩ => by subst e; simp [am_vs.len g2]
theorem am_vs.cats {al : am_A} : ∀ {l l' : List Value}, am_vs al l l' → (l'.map fun v => v.category).sum = (l.map fun v => v.category).sum
  | [], _, g => by cases g; rfl
  | _ :: _, _, ⟨v', r', e, g1, g2⟩ => by subst e; simp [am_vs.cats g2, g1.cat]
theorem am_vs.app {al : am_A} : ∀ {a b l : List Value}, am_vs al (a ++ b) l → ∃ a' b', l = a' ++ b' ∧ am_vs al a a' ∧ am_vs al b b'
  | [], _, l, h => ⟨[], l, rfl, rfl, h⟩
  | _ :: _, _, _, ⟨v', r', e, g1, g2⟩ => by
    obtain ⟨a', b', e2, h1, h2⟩ := am_vs.app g2
    exact ⟨v' :: a', b', by rw [e, e2]; rfl, ⟨v', a', rfl, g1, h1⟩, h2⟩
theorem am_vs.app2 {al : am_A} : ∀ {a b a' b' : List Value}, am_vs al a a' → am_vs al b b' → am_vs al (a ++ b) (a' ++ b')
  | [], _, _, _, h, g => by cases h; exact g
  | _ :: _, _, _, _, ⟨v', r', e, g1, g2⟩, g => by subst e; exact ⟨v', r' ++ _, rfl, g1, am_vs.app2 g2 g⟩
theorem am_vs.rev {al : am_A} : ∀ {a a' : List Value}, am_vs al a a' → am_vs al a.reverse a'.reverse
  | [], _, h => by cases h; rfl
  | v :: r, _, ⟨v', r', e, g1, g2⟩ => by
    subst e
    rw [List.reverse_cons, List.reverse_cons]
    exact am_vs.app2 (am_vs.rev g2) ⟨v', [], rfl, g1, rfl⟩
theorem am_vs.get {al : am_A} : ∀ {a a' : List Value} {k : Nat} {v : Value}, am_vs al a a' → a[k]? = some v → ∃ v', a'[k]? = some v' ∧ am_v al v v'
  | [], _, k, v, h, e => by simp at e
  | w :: r, _, 0, v, ⟨v', r', e1, g1, g2⟩, e => by
    subst e1
    rw [List.getElem?_cons_zero] at e ⊢
    cases e
    exact ⟨v', rfl, g1⟩
  | w :: r, _, k + 1, v, ⟨v', r', e1, g1, g2⟩, e => by
    subst e1
    rw [List.getElem?_cons_succ] at e ⊢
    exact am_vs.get g2 e
theorem am_vs.set {al : am_A} : ∀ {a a' : List Value} {k : Nat} {v v' : Value}, am_vs al a a' → am_v al v v' → am_vs al (a.set k v) (a'.set k v')
  | [], _, k, v, v', h, e => by cases h; exact rfl
  | w :: r, _, 0, v, v', ⟨x, r', e1, g1, g2⟩, e => by subst e1; exact ⟨v', r', rfl, e, g2⟩
  | w :: r, _, k + 1, v, v', ⟨x, r', e1, g1, g2⟩, e => by subst e1; exact ⟨x, r'.set k v', rfl, g1, am_vs.set g2 e⟩
/-- references in an array -/
def am_q (al : am_A) (n : Nat) (f f' : Nat → Option Nat) : Prop := ∀ i, i < n → (f i = none → f' i = none) ∧ ∀ k, f i = some k → ∃ a, al k = some a ∧ f' i = some a
def am_KA (s : State) (cA : ClassId) (ty : FieldType) : Prop := ArrOfT s cA ty ∧ va_RA s cA ty
def am_e (s : State) (al : am_A) (x : am_E) (y : va_E) : Prop := match x with
  | .inl (ty, n, f) => ∃ cA, y = .inl (cA, n, .inl f) ∧ am_KA s cA ty
  | .inr (.inl (n, f)) => ∃ cA, y = .inl (cA, n, .inr (.inl f)) ∧ am_KA s cA .long
  | .inr (.inr (.inl (C, n, f))) => ∃ cA f', y = .inl (cA, n, .inr (.inr (.inr (.inr f')))) ∧ am_KA s cA (.object C) ∧ am_q al n f f'
  | .inr (.inr (.inr (ci, fs))) => ∃ fs', y = .inr (ci, fs') ∧ am_vs al fs fs'
theorem am_KA.moved {u U : State} (hvm : u.vm.Alike U.vm) {cA : ClassId} {ty : FieldType} (h : am_KA u cA ty) : am_KA U cA ty := ⟨arrOfT_moved hvm h.1, h.2.moved hvm⟩
theorem am_q.mono {al al' : am_A} (h : am_le al al') {n : Nat} {f f' : Nat → Option Nat} (g : am_q al n f f') : am_q al' n f f' :=
  fun i hi => ⟨(g i hi).1, fun k hk => by obtain ⟨a, h1, h2⟩ := (g i hi).2 k hk; exact ⟨a, h _ _ h1, h2⟩⟩
theorem am_e.mono {s : State} {al al' : am_A} (h : am_le al al') {x : am_E} {y : va_E} (g : am_e s al x y) : am_e s al' x y := by
  rcases x with ⟨ty, n, f⟩ | ⟨n, f⟩ | ⟨C, n, f⟩ | ⟨ci, fs⟩
  · exact g
  · exact g
  · obtain ⟨cA, f', h1, h2, h3⟩ := g
    exact ⟨cA, f', h1, h2, h3.mono h⟩
  · obtain ⟨fs', h1, h2⟩ := g
    exact ⟨fs', h1, h2.mono h⟩
theorem am_e.moved {u U : State} (hvm : u.vm.Alike U.vm) {al : am_A} {x : am_E} {y : va_E} (g : am_e u al x y) : am_e U al x y := by
  rcases x with ⟨ty, n, f⟩ | ⟨n, f⟩ | ⟨C, n, f⟩ | ⟨ci, fs⟩
  · obtain ⟨cA, h1, h2⟩ := g
    exact ⟨cA, h1, h2.moved hvm⟩
  · obtain ⟨cA, h1, h2⟩ := g
    exact ⟨cA, h1, h2.moved hvm⟩
  · obtain ⟨cA, f', h1, h2, h3⟩ := g
    exact ⟨cA, f', h1, h2.moved hvm, h3⟩
  · exact g
/-- a world of N numbered cells, and the kit's list of cells that it stands for -/
def am_w (s : State) (al : am_A) (N : Nat) (aw : Nat → am_E) (ws : va_W) : Prop := ws.length = N ∧ (∀ j, N ≤ j → j < 999 → al j = none) ∧ ∀ k, k < N → ∃ a y, ws[k]? = some (a, y) ∧ al k = some a ∧ am_e s al (aw k) y
theorem am_w.moved {u U : State} (hvm : u.vm.Alike U.vm) {al : am_A} {N : Nat} {aw : Nat → am_E} {ws : va_W} (h : am_w u al N aw ws) : am_w U al N aw ws :=
  ⟨h.1, h.2.1, fun k hk => by obtain ⟨a, y, h1, h2, h3⟩ := h.2.2 k hk; exact ⟨a, y, h1, h2, h3.moved hvm⟩⟩
def am_up (aw : Nat → am_E) (k : Nat) (x : am_E) : Nat → am_E := fun j => bif Nat.beq j k then x else aw j
theorem am_up_eq (aw : Nat → am_E) (k : Nat) (x : am_E) : am_up aw k x k = x := by
  unfold am_up
  rw [show Nat.beq k k = true from Nat.beq_refl k]
  rfl
theorem am_up_ne (aw : Nat → am_E) (x : am_E) {j k : Nat} (h : j ≠ k) : am_up aw k x j = aw j := by
  unfold am_up
  cases e : Nat.beq j k with
  | false => rfl
  | true => exact absurd (Nat.eq_of_beq_eq_true e) h
theorem am_w.set {s : State} {al : am_A} {N : Nat} {aw : Nat → am_E} {ws : va_W} (h : am_w s al N aw ws) {k a : Nat} (hk : k < N) (ha : al k = some a) {x : am_E} {y : va_E} (hx : am_e s al x y) : am_w s al N (am_up aw k x) (ws.set k (a, y)) := by
  refine ⟨by rw [List.length_set]; exact h.1, h.2.1, fun j hj => ?_⟩
  by_cases e : j = k
  · subst e
    exact ⟨a, y, by rw [List.getElem?_set_self (by rw [h.1]; exact hk)], ha, by rw [am_up_eq]; exact hx⟩
  · obtain ⟨b, z, h1, h2, h3⟩ := h.2.2 j hj
    exact ⟨b, z, by rw [List.getElem?_set_ne (Ne.symm e)]; exact h1, h2, by rw [am_up_ne _ _ e]; exact h3⟩
def am_alP (al : am_A) (N a : Nat) : am_A := fun j => if j = N then some a else al j
theorem am_alP.le {s : State} {al : am_A} {N : Nat} {aw : Nat → am_E} {ws : va_W} (h : am_w s al N aw ws) (hN : N < 999) (a : Nat) : am_le al (am_alP al N a) := by
  intro k x e
  unfold am_alP
  by_cases hk : k = N
  · subst hk
    rw [h.2.1 k (Nat.le_refl _) hN] at e
    cases e
  · rw [if_neg hk]; exact e
theorem am_w.push {s : State} {al : am_A} {N : Nat} {aw : Nat → am_E} {ws : va_W} (h : am_w s al N aw ws) (hN : N < 999) (a : Nat) {x : am_E} {y : va_E} (hx : am_e s (am_alP al N a) x y) : am_w s (am_alP al N a) (N + 1) (am_up aw N x) (ws ++ [(a, y)]) := by
  have hle := am_alP.le h hN a
  refine ⟨by rw [List.length_append, h.1]; rfl, fun j h1 h2 => ?_, fun j hj => ?_⟩
  · unfold am_alP
    rw [if_neg (by omega)]
    exact h.2.1 j (by omega) h2
  · by_cases e : j = N
    · subst e
      exact ⟨a, y, by rw [List.getElem?_append_right (by rw [h.1]; exact Nat.le_refl _), h.1, Nat.sub_self]; rfl, by unfold am_alP; rw [if_pos rfl], by rw [am_up_eq]; exact hx⟩
    · obtain ⟨b, z, h1, h2, h3⟩ := h.2.2 j (by omega)
      exact ⟨b, z, by rw [List.getElem?_append_left (by rw [h.1]; omega)]; exact h1, hle _ _ h2, by rw [am_up_ne _ _ e]; exact h3.mono hle⟩
/-- locals: by their places, none where nothing is known -/
def am_nth : List (Option Value) → Nat → Option Value
  | [], _ => none
  | x :: _, 0 => x
  | _ :: r, k + 1 => am_nth r k
def am_st : List (Option Value) → Nat → Option Value → List (Option Value)
  | [], _, _ => []
  | _ :: r, 0, v => v :: r
  | x :: r, k + 1, v => x :: am_st r k v
theorem am_nth_st_ne : ∀ {lo : List (Option Value)} {i j : Nat} {v : Option Value}, j ≠ i → am_nth (am_st lo i v) j = am_nth lo j
  | [], _, _, _, _ => rfl
  | _ :: _, 0, 0, _, h => absurd rfl h
  | _ :: _, 0, _ + 1, _, _ => rfl
  | _ :: _, _ + 1, 0, _, _ => rfl
  | _ :: r, i + 1, j + 1, v, h => am_nth_st_ne (lo := r) (i := i) (j := j) (v := v) (fun e => h (by rw [e]))
theorem am_nth_st_eq : ∀ {lo : List (Option Value)} {i : Nat} {v : Option Value} {w : Value}, am_nth (am_st lo i v) i = some w → v = some w
  | [], _, _, _, h => by cases h
  | _ :: _, 0, _, _, h => h
  | _ :: r, i + 1, v, w, h => am_nth_st_eq (lo := r) (i := i) (v := v) (w := w) h
def am_two : Option Value → Bool
  | some (.long _) => true
  | some (.double _) => true
  | _ => false
theorem am_two_cat {v : Value} (h : v.category = 2) : am_two (some v) = true := by cases v <;> first | rfl | (simp [Value.category] at h)
/-- no long or double ends at the place -/
def am_c1 (lo : List (Option Value)) (i : Nat) : Bool := match i with
  | 0 => true
  | k + 1 => !am_two (am_nth lo k)
def am_L (al : am_A) (ls : Array Slot) (nL : Nat) (lo : List (Option Value)) : Prop := ∃ lv, lv_has ls nL lv ∧ ∀ i v, am_nth lo i = some v → ∃ v', am_v al v v' ∧ (i, v') ∈ lv
theorem am_L.get {al : am_A} {ls : Array Slot} {nL : Nat} {lo : List (Option Value)} (h : am_L al ls nL lo) {i : Nat} {v : Value} (hi : am_nth lo i = some v) : ∃ v', am_v al v v' ∧ ls[i]? = some (.val v') := by
  obtain ⟨lv, h1, h2⟩ := h
  obtain ⟨v', h3, h4⟩ := h2 i v hi
  exact ⟨v', h3, h1.2.2 _ h4⟩
theorem am_L.mono {al al' : am_A} (hle : am_le al al') {ls : Array Slot} {nL : Nat} {lo : List (Option Value)} (h : am_L al ls nL lo) : am_L al' ls nL lo := by
  obtain ⟨lv, h1, h2⟩ := h
  exact ⟨lv, h1, fun i v hi => by obtain ⟨v', h3, h4⟩ := h2 i v hi; exact ⟨v', h3.mono hle, h4⟩⟩
/-- fewer known -/
def am_sub : List (Option Value) → List (Option Value) → Prop
  | [], _ => True
  | none :: r, l => am_sub r l.tail
  | some v :: r, l => am_nth l 0 = some v ∧ am_sub r l.tail
theorem am_nth_tail : ∀ (l : List (Option Value)) (k : Nat), am_nth l.tail k = am_nth l (k + 1)
  | [], _ => rfl
  | _ :: _, _ => rfl
theorem am_sub.get : ∀ {a b : List (Option Value)}, am_sub a b → ∀ (i : Nat) (v : Value), am_nth a i = some v → am_nth b i = some v
  | [], _, _, _, _, h => by cases h
  | none :: r, b, g, 0, v, h => by cases h
  | none :: r, b, g, k + 1, v, h => by rw [← am_nth_tail]; exact am_sub.get (a := r) g k v h
  | some w :: r, b, g, 0, v, h => by cases h; exact g.1
  | some w :: r, b, g, k + 1, v, h => by rw [← am_nth_tail]; exact am_sub.get (a := r) g.2 k v h
theorem am_L.sub {al : am_A} {ls : Array Slot} {nL : Nat} {lo lo2 : List (Option Value)} (h : am_L al ls nL lo) (g : am_sub lo2 lo) : am_L al ls nL lo2 := by
  obtain ⟨lv, h1, h2⟩ := h
  exact ⟨lv, h1, fun i v hi => h2 i v (g.get i v hi)⟩
theorem am_L.st1 {al : am_A} {ls' : Array Slot} {nL : Nat} {lo : List (Option Value)} {lv : List (Nat × Value)} {i : Nat} {v v' : Value} (h2 : ∀ i v, am_nth lo i = some v → ∃ v', am_v al v v' ∧ (i, v') ∈ lv) (hv : am_v al v v')
    (hc : am_c1 lo i = true) (h : lv_has ls' nL ((i, v') :: lv.filter (fun q => !(q.1 == i) && !(q.1 + 1 == i && q.2.category == 2)))) : am_L al ls' nL (am_st lo i (some v)) := by
  refine ⟨_, h, fun j w hj => ?_⟩
  by_cases e : j = i
  · subst e
    cases am_nth_st_eq hj
    exact ⟨v', hv, List.mem_cons_self⟩
  · rw [am_nth_st_ne e] at hj
    obtain ⟨w', g1, g2⟩ := h2 j w hj
    refine ⟨w', g1, List.mem_cons_of_mem _ (List.mem_filter.mpr ⟨g2, ?_⟩)⟩
    simp only [Bool.and_eq_true, Bool.not_eq_true', beq_eq_false_iff_ne, ne_eq, Bool.and_eq_false_iff]
    refine ⟨e, ?_⟩
    by_cases e2 : j + 1 = i
    · right
      intro hcat
      subst e2
      have h9 : am_two (some w) = true := am_two_cat (by rw [← g1.cat]; exact hcat)
      unfold am_c1 at hc
      simp only at hc
      rw [hj, h9] at hc
      cases hc
    · exact Or.inl e2
theorem am_L.st2 {al : am_A} {ls' : Array Slot} {nL : Nat} {lo : List (Option Value)} {lv : List (Nat × Value)} {i : Nat} {v v' : Value} (h2 : ∀ i v, am_nth lo i = some v → ∃ v', am_v al v v' ∧ (i, v') ∈ lv) (hv : am_v al v v')
    (hc : am_c1 lo i = true) (h : lv_has ls' nL ((i, v') :: lv.filter (fun q => !(q.1 == i) && (!(q.1 == i + 1) && !(q.1 + 1 == i && q.2.category == 2))))) : am_L al ls' nL (am_st (am_st lo i (some v)) (i + 1) none) := by
  refine ⟨_, h, fun j w hj => ?_⟩
  by_cases e1 : j = i + 1
  · subst e1
    cases am_nth_st_eq hj
  · rw [am_nth_st_ne e1] at hj
    by_cases e : j = i
    · subst e
      cases am_nth_st_eq hj
      exact ⟨v', hv, List.mem_cons_self⟩
    · rw [am_nth_st_ne e] at hj
      obtain ⟨w', g1, g2⟩ := h2 j w hj
      refine ⟨w', g1, List.mem_cons_of_mem _ (List.mem_filter.mpr ⟨g2, ?_⟩)⟩
      simp only [Bool.and_eq_true, Bool.not_eq_true', beq_eq_false_iff_ne, ne_eq, Bool.and_eq_false_iff]
      refine ⟨e, e1, ?_⟩
      by_cases e2 : j + 1 = i
      · right
        intro hcat
        subst e2
        have h9 : am_two (some w) = true := am_two_cat (by rw [← g1.cat]; exact hcat)
        unfold am_c1 at hc
        simp only at hc
        rw [hj, h9] at hc
        cases hc
      · exact Or.inl e2
/-- a method's locals at its entry -/
def am_lo : List Value → List (Option Value)
  | [] => []
  | v :: r => bif am_two (some v) then some v :: none :: am_lo r else some v :: am_lo r
theorem am_lo_args {al : am_A} : ∀ {vs vs' : List Value} (i0 : Nat), am_vs al vs vs' → ∀ i v, am_nth (am_lo vs) i = some v → ∃ v', am_v al v v' ∧ (i0 + i, v') ∈ lv_args i0 vs'
  | [], _, i0, h, i, v, e => by cases e
  | w :: r, _, i0, ⟨w', r', e1, g1, g2⟩, i, v, e => by
    subst e1
    unfold lv_args
    cases ht : am_two (some w) with
    | false =>
      have hcat : ¬ w'.category = 2 := fun q => by rw [g1.cat] at q; rw [am_two_cat q] at ht; cases ht
      unfold am_lo at e
      rw [ht] at e
      rw [if_neg hcat]
      cases i with
      | zero => cases e; exact ⟨w', g1, List.mem_cons_self⟩
      | succ k =>
        obtain ⟨v', h1, h2⟩ := am_lo_args (i0 + 1) g2 k v e
        exact ⟨v', h1, List.mem_cons_of_mem _ (by rw [show i0 + (k + 1) = i0 + 1 + k by omega]; exact h2)⟩
    | true =>
      have hcat : w'.category = 2 := by rw [g1.cat]; cases w <;> first | rfl | (cases ht)
      unfold am_lo at e
      rw [ht] at e
      rw [if_pos hcat]
      match i, e with
      | 0, e => cases e; exact ⟨w', g1, List.mem_cons_self⟩
      | 1, e => cases e
      | k + 2, e =>
        obtain ⟨v', h1, h2⟩ := am_lo_args (i0 + 2) g2 k v e
        exact ⟨v', h1, List.mem_cons_of_mem _ (by rw [show i0 + (k + 2) = i0 + 2 + k by omega]; exact h2)⟩
end AMA
end
section
/-! THE ABSTRACT MACHINE, part 2: the method's context, the judgement SW, a row an instruction (own work, written by wip/tools/mk_am2.py) -/
section AMB
theorem am_ofInt (z : Nat) : Int32.ofInt (z : Int) = nI z := by
  first
    | rfl
    | exact Int32.ofInt_eq_ofNat
    | (unfold nI; simp)
def am_W : List Cond := lw_tbl.filter goodWord
theorem am_in {w : Cond} {i : Nat} (h : lw_tbl[i]? = some w) (g : goodWord w = true) : w ∈ am_W := List.mem_filter.mpr ⟨List.mem_of_getElem? h, g⟩
theorem am_good {w : Cond} (h : w ∈ am_W) : (w.onTables && w.keeps) = true ∨ ∃ ty, w = .arrayClass ty := good_of_word (List.mem_filter.mp h).2
def am_Xs : List String := ["java/lang/IllegalArgumentException", "java/lang/IndexOutOfBoundsException", "java/lang/IllegalStateException"]
def am_nm : List String := ["ORDER", "CROSSED", "CROSSED_TOO", "FROM", "TO", "EQUALS", "SUM", "SUM_OR_SLASH", "SLASH", "DAYS", "NUMBER", "END", "WRONG"]
def am_F1 : List (String × String × String × List Int32) := [("java/lang/Enum", "ordinal", "I", [0, 1, 2, 3, 4, 5, 6, 7, 8, 9, 10, 11, 12])]
def am_map : List Int32 := [1, 2, 3, 5, 6, 7, 8, 9, 10, 11, 4, 12, 0]
def am_Str : List (Nat × String) := [(201, "what is not 0 to 9"), (314, "there is no such islander"), (317, "there is no such colour"), (177, "what is not 0 to 4"), (323, "a number is out of range"), (319, "there is no such promise"), (55, "the last day has come"), (321, "both islanders are the same"), (124, "the buffer is full"), (138, "the buffer does not tell orders"), (154, "there is no snapshot in the slot"), (159, "there is no saved state")]
/-- what a state bears from the start on: a throw's statics, the constants of Step, the switch's row, the texts -/
def am_Env (al : am_A) (A : Nat → Prop) (U : State) (H : Heap) : Prop :=
  (vx_Zq Bundle.tN "UNASSIGNED_STACK" Bundle.steD A U H ∧ vx_Zq Bundle.tN "SUPPRESSED_SENTINEL" Bundle.listD A U H) ∧
  (∀ X ∈ am_Xs, va_Nw (.castable X X) U) ∧ (∀ q ∈ am_Str, ∃ a, vk_R RX6 q.1 q.2 a U) ∧
  (∃ ad, va_En RX3 "LStormPurses$Step;" am_nm am_F1 ad A U H ∧ ∀ i, i < 13 → al (1000 + i) = some (ad i)) ∧
  (∃ t, va_Z RX0 "$SwitchMap$StormPurses$Step" "[I" (.ref t) A U H ∧ va_T .int t 13 (fun j => .int (am_map.getD j 0)) A U H ∧ al 999 = some t) ∧
  va_AO RX2 U ∧ va_Nw (.methodLinkNest RX6 25 yX5_init RX6) U ∧ va_Nw (.methodLinkNest RX6 32 yX4_init RX6) U
theorem am_Env.mono {al al' : am_A} (h : am_le al al') {A : Nat → Prop} {U : State} {H : Heap} (g : am_Env al A U H) : am_Env al' A U H := by
  obtain ⟨h1, h2, h3, ⟨ad, h4, h5⟩, ⟨t, h6, h7, h8⟩, h9⟩ := g
  exact ⟨h1, h2, h3, ⟨ad, h4, fun i hi => h _ _ (h5 i hi)⟩, ⟨t, h6, h7, h _ _ h8⟩, h9⟩
theorem am_Env.kept {al : am_A} {A : Nat → Prop} {U : State} {H H1 : Heap} (g : am_Env al A U H) (hq : ∀ a : Nat, a < H.size → ¬ A a → H1[a]? = H[a]?) : am_Env al A U H1 := by
  obtain ⟨⟨h1, h1b⟩, h2, h3, ⟨ad, h4, h5⟩, ⟨t, h6, h7, h8⟩, h9⟩ := g
  exact ⟨⟨h1.kept hq, h1b.kept hq⟩, h2, h3, ⟨ad, h4.kept hq, h5⟩, ⟨t, h6.kept hq, h7.kept hq, h8⟩, h9⟩
theorem am_Env.narrow {al : am_A} {A B : Nat → Prop} {U : State} {H : Heap} (g : am_Env al A U H) (hAB : ∀ q, B q → A q) : am_Env al B U H := by
  obtain ⟨⟨h1, h1b⟩, h2, h3, ⟨ad, h4, h5⟩, ⟨t, h6, h7, h8⟩, h9⟩ := g
  exact ⟨⟨h1.narrow hAB, h1b.narrow hAB⟩, h2, h3, ⟨ad, h4.narrow hAB, h5⟩, ⟨t, h6.narrow hAB, h7.narrow hAB, h8⟩, h9⟩
theorem am_Env.warm {al : am_A} {A : Nat → Prop} {s U : State} {H : Heap} (hW : s.WarmedH U.vm) (g : am_Env al A s H) : am_Env al A U H := by
  obtain ⟨⟨h1, h1b⟩, h2, h3, ⟨ad, h4, h5⟩, ⟨t, h6, h7, h8⟩, h9, h10, h11⟩ := g
  refine ⟨⟨vx_Zq.moved hW.alike h1, vx_Zq.moved hW.alike h1b⟩, fun X hX => va_Nw.warmC hW (h2 X hX), fun q hq => ?_, ⟨ad, va_En.moved hW.alike h4, h5⟩, ⟨t, va_Z.moved hW.alike h6, va_T.moved hW.alike h7, h8⟩, h9.moved hW.alike, va_Nw.warmM hW h10, va_Nw.warmM hW h11⟩
  obtain ⟨a, ha⟩ := h3 q hq
  exact ⟨a, vk_R.warm hW ha⟩
/-- the law's own script -/
def am_Sc (sc : Option (Nat × (Nat → Int32))) (al : am_A) (A : Nat → Prop) (U : State) (H : Heap) : Prop := match sc with
  | none => True
  | some (L, xs) => ∃ b, al 1100 = some b ∧ va_X b L xs U H ∧ b < H.size ∧ ¬ A b
def am_Fix (y : MethodName) (cc : ByteArray) (nL : Nat) (ret : Option FieldType) (xt : List (Nat × Nat × Nat × Nat)) (lv : Nat) (sc : Option (Nat × (Nat → Int32))) (p : Program) (l : Launch) (R : Room) (s : State) (m : MethodId) (args : Array Value) (meth : Method) (c : Code) (D : va_G) (A : Nat → Prop) (al0 : am_A) : Prop :=
  p.tables.exec = Jvm.exec ∧ c.code = cc ∧ meth.sig.returnType = ret ∧ c.maxLocals = nL ∧ s.vm.findClass y.cls = some m.cls ∧ (∀ w ∈ am_W, w.before args s = true) ∧ meth.locks = false ∧ (y.name = "<init>" → meth.name = "<init>") ∧ l.stackTraces = false ∧ (∀ q, s.heap.size ≤ q → A q) ∧ va_K D vwCl [] s ∧ am_Env al0 A s s.heap ∧ am_Sc sc al0 A s s.heap ∧ lv ≤ R.frames ∧ 30 * lv + 62 ≤ R.locals ∧ c.exceptionTable.toList = tableOf xt
def am_ov (al : am_A) (v v' : Option Value) : Prop := match v with
  | none => v' = none
  | some x => ∃ x', v' = some x' ∧ am_v al x x'
def am_Q (D : va_G) (al : am_A) (A : Nat → Prop) (o : Option Value ⊕ String) (N' : Nat) (aw' : Nat → am_E) : Array Value → State → Outcome → State → Prop := fun _ st oc t =>
  (∃ (v v' : Option Value) (al' : am_A) (ws' : va_W), o = .inl v ∧ oc = .returned v' ∧ am_ov al' v v' ∧ am_le al al' ∧ va_P D vwCl ws' t.heap ∧ va_K D vwCl [] t ∧ va_D A ws' ∧ am_w t al' N' aw' ws') ∧ va_F A st t
def am_X (D : va_G) (al : am_A) (A : Nat → Prop) (o : Option Value ⊕ String) (N' : Nat) (aw' : Nat → am_E) : String → State → State → Prop := fun E st t =>
  (o = .inr E ∧ ∃ (al' : am_A) (ws' : va_W), am_le al al' ∧ va_P D vwCl ws' t.heap ∧ va_K D vwCl [] t ∧ va_D A ws' ∧ am_w t al' N' aw' ws') ∧ va_F A st t
/-- from here the method comes to its end with the outcome o, the world aw' of N' cells, at most k new cells of n slots -/
def SW (y : MethodName) (cc : ByteArray) (nL : Nat) (ret : Option FieldType) (xt : List (Nat × Nat × Nat × Nat)) (lv : Nat) (sc : Option (Nat × (Nat → Int32))) (pc : Nat) (lo : List (Option Value)) (st : List Value) (N : Nat) (aw : Nat → am_E) (k n : Nat) (o : Option Value ⊕ String) (N' : Nat) (aw' : Nat → am_E) : Prop :=
  ∀ (p : Program) (l : Launch) (e : Env) (R : Room) (s : State) (m : MethodId) (args : Array Value) (below : List Frame) (meth : Method) (c : Code) (H : Heap) (locs : List Loc) (cells slots kf nf : Nat) (D : va_G) (A : Nat → Prop) (al0 al : am_A) (ws : va_W) (ls : Array Slot) (st' : List Value),
    am_Fix y cc nL ret xt lv sc p l R s m args meth c D A al0 → cells + k ≤ kf → slots + n ≤ nf → kf ≤ R.cells → nf ≤ R.slots → am_le al0 al → va_P D vwCl ws H → va_D A ws → va_S A s.heap H locs → am_w s al N aw ws → am_L al ls nL lo → am_vs al st st' →
    W p l e R s m args below meth c H locs cells slots (vx_MQ below (am_Q D al0 A o N' aw') (am_X D al0 A o N' aw') args s kf nf A) (F0 m pc ls st')
variable {y : MethodName} {cc : ByteArray} {nL : Nat} {ret : Option FieldType} {xt : List (Nat × Nat × Nat × Nat)} {lv : Nat} {sc : Option (Nat × (Nat → Int32))} {pc : Nat} {lo : List (Option Value)} {st : List Value} {N : Nat} {aw : Nat → am_E} {k n : Nat} {o : Option Value ⊕ String} {N' : Nat} {aw' : Nat → am_E}

theorem sw_ic (z : Nat) (d : decode cc pc = .ok (.iconst (z : Int), 1))
    (k9 : SW y cc nL ret xt lv sc (pc + 1) (lo) (.int (nI z) :: st) (N) (aw) (k) (n) o N' aw') : SW y cc nL ret xt lv sc (pc) (lo) (st) (N) (aw) (k) (n) o N' aw' := by
  intro p l e R s m args below meth c H locs cells slots kf nf D A al0 al ws ls st' F hk hn hkR hnR hle hP hD hS hw hl hst
  obtain ⟨hx, hb, hr, hml, hown, hts, hlocks, hin, hfl, hA, hK, hE, hSc, hlv, hloc, hxt⟩ := id F
  exact lv_iconst (v := nI z) hx hb d (am_ofInt z) (k9 p l e R s m args below meth c H locs cells slots kf nf D A al0 al ws ls _ F hk hn hkR hnR hle hP hD hS hw hl ⟨_, _, rfl, rfl, hst⟩)
theorem sw_im1 (d : decode cc pc = .ok (.iconst (-1), 1))
    (k9 : SW y cc nL ret xt lv sc (pc + 1) (lo) (.int (-1) :: st) (N) (aw) (k) (n) o N' aw') : SW y cc nL ret xt lv sc (pc) (lo) (st) (N) (aw) (k) (n) o N' aw' := by
  intro p l e R s m args below meth c H locs cells slots kf nf D A al0 al ws ls st' F hk hn hkR hnR hle hP hD hS hw hl hst
  obtain ⟨hx, hb, hr, hml, hown, hts, hlocks, hin, hfl, hA, hK, hE, hSc, hlv, hloc, hxt⟩ := id F
  exact lv_iconst (v := -1) hx hb d (by decide) (k9 p l e R s m args below meth c H locs cells slots kf nf D A al0 al ws ls _ F hk hn hkR hnR hle hP hD hS hw hl ⟨_, _, rfl, rfl, hst⟩)
theorem sw_bi (z : Nat) (d : decode cc pc = .ok (.bipush (z : Int), 2)) (hz : (Int8.ofInt (z : Int)).toInt32 = nI z)
    (k9 : SW y cc nL ret xt lv sc (pc + 2) (lo) (.int (nI z) :: st) (N) (aw) (k) (n) o N' aw') : SW y cc nL ret xt lv sc (pc) (lo) (st) (N) (aw) (k) (n) o N' aw' := by
  intro p l e R s m args below meth c H locs cells slots kf nf D A al0 al ws ls st' F hk hn hkR hnR hle hP hD hS hw hl hst
  obtain ⟨hx, hb, hr, hml, hown, hts, hlocks, hin, hfl, hA, hK, hE, hSc, hlv, hloc, hxt⟩ := id F
  exact lv_bipush (v := nI z) hx hb d hz (k9 p l e R s m args below meth c H locs cells slots kf nf D A al0 al ws ls _ F hk hn hkR hnR hle hP hD hS hw hl ⟨_, _, rfl, rfl, hst⟩)
theorem sw_bineg {zi : Int} {v : Int32} (d : decode cc pc = .ok (.bipush zi, 2)) (hz : (Int8.ofInt zi).toInt32 = v)
    (k9 : SW y cc nL ret xt lv sc (pc + 2) (lo) (.int v :: st) (N) (aw) (k) (n) o N' aw') : SW y cc nL ret xt lv sc (pc) (lo) (st) (N) (aw) (k) (n) o N' aw' := by
  intro p l e R s m args below meth c H locs cells slots kf nf D A al0 al ws ls st' F hk hn hkR hnR hle hP hD hS hw hl hst
  obtain ⟨hx, hb, hr, hml, hown, hts, hlocks, hin, hfl, hA, hK, hE, hSc, hlv, hloc, hxt⟩ := id F
  exact lv_bipush hx hb d hz (k9 p l e R s m args below meth c H locs cells slots kf nf D A al0 al ws ls _ F hk hn hkR hnR hle hP hD hS hw hl ⟨_, _, rfl, rfl, hst⟩)
theorem sw_si (z : Nat) (d : decode cc pc = .ok (.sipush (z : Int), 3)) (hz : (Int16.ofInt (z : Int)).toInt32 = nI z)
    (k9 : SW y cc nL ret xt lv sc (pc + 3) (lo) (.int (nI z) :: st) (N) (aw) (k) (n) o N' aw') : SW y cc nL ret xt lv sc (pc) (lo) (st) (N) (aw) (k) (n) o N' aw' := by
  intro p l e R s m args below meth c H locs cells slots kf nf D A al0 al ws ls st' F hk hn hkR hnR hle hP hD hS hw hl hst
  obtain ⟨hx, hb, hr, hml, hown, hts, hlocks, hin, hfl, hA, hK, hE, hSc, hlv, hloc, hxt⟩ := id F
  exact lv_sipush (v := nI z) hx hb d hz (k9 p l e R s m args below meth c H locs cells slots kf nf D A al0 al ws ls _ F hk hn hkR hnR hle hP hD hS hw hl ⟨_, _, rfl, rfl, hst⟩)
theorem sw_lc {z : Fin 2} {v : Int64} (d : decode cc pc = .ok (.lconst z, 1)) (hv : Int64.ofNat (z : Nat) = v)
    (k9 : SW y cc nL ret xt lv sc (pc + 1) (lo) (.long v :: st) (N) (aw) (k) (n) o N' aw') : SW y cc nL ret xt lv sc (pc) (lo) (st) (N) (aw) (k) (n) o N' aw' := by
  intro p l e R s m args below meth c H locs cells slots kf nf D A al0 al ws ls st' F hk hn hkR hnR hle hP hD hS hw hl hst
  obtain ⟨hx, hb, hr, hml, hown, hts, hlocks, hin, hfl, hA, hK, hE, hSc, hlv, hloc, hxt⟩ := id F
  exact lv_lconst hx hb d hv (k9 p l e R s m args below meth c H locs cells slots kf nf D A al0 al ws ls _ F hk hn hkR hnR hle hP hD hS hw hl ⟨_, _, rfl, rfl, hst⟩)
theorem sw_dc0 (d : decode cc pc = .ok (.dconst 0, 1))
    (k9 : SW y cc nL ret xt lv sc (pc + 1) (lo) (.double 0 :: st) (N) (aw) (k) (n) o N' aw') : SW y cc nL ret xt lv sc (pc) (lo) (st) (N) (aw) (k) (n) o N' aw' := by
  intro p l e R s m args below meth c H locs cells slots kf nf D A al0 al ws ls st' F hk hn hkR hnR hle hP hD hS hw hl hst
  obtain ⟨hx, hb, hr, hml, hown, hts, hlocks, hin, hfl, hA, hK, hE, hSc, hlv, hloc, hxt⟩ := id F
  exact lv_dconst0 hx hb d (k9 p l e R s m args below meth c H locs cells slots kf nf D A al0 al ws ls _ F hk hn hkR hnR hle hP hD hS hw hl ⟨_, _, rfl, rfl, hst⟩)
theorem sw_dc1 (d : decode cc pc = .ok (.dconst 1, 1))
    (k9 : SW y cc nL ret xt lv sc (pc + 1) (lo) (.double FP.dconst1 :: st) (N) (aw) (k) (n) o N' aw') : SW y cc nL ret xt lv sc (pc) (lo) (st) (N) (aw) (k) (n) o N' aw' := by
  intro p l e R s m args below meth c H locs cells slots kf nf D A al0 al ws ls st' F hk hn hkR hnR hle hP hD hS hw hl hst
  obtain ⟨hx, hb, hr, hml, hown, hts, hlocks, hin, hfl, hA, hK, hE, hSc, hlv, hloc, hxt⟩ := id F
  exact lv_dconst1 hx hb d (k9 p l e R s m args below meth c H locs cells slots kf nf D A al0 al ws ls _ F hk hn hkR hnR hle hP hD hS hw hl ⟨_, _, rfl, rfl, hst⟩)
theorem sw_ldc {idx : Nat} {v : Int32} (hc : Cond.constant y.cls idx v ∈ am_W) (d : decode cc pc = .ok (.ldc idx, 2))
    (k9 : SW y cc nL ret xt lv sc (pc + 2) (lo) (.int v :: st) (N) (aw) (k) (n) o N' aw') : SW y cc nL ret xt lv sc (pc) (lo) (st) (N) (aw) (k) (n) o N' aw' := by
  intro p l e R s m args below meth c H locs cells slots kf nf D A al0 al ws ls st' F hk hn hkR hnR hle hP hD hS hw hl hst
  obtain ⟨hx, hb, hr, hml, hown, hts, hlocks, hin, hfl, hA, hK, hE, hSc, hlv, hloc, hxt⟩ := id F
  exact lv_ldc hx hb hown (hts _ hc) d (k9 p l e R s m args below meth c H locs cells slots kf nf D A al0 al ws ls _ F hk hn hkR hnR hle hP hD hS hw hl ⟨_, _, rfl, rfl, hst⟩)
theorem sw_ldc2 {idx : Nat} {v : Int64} (hc : Cond.constantLong y.cls idx v ∈ am_W) (d : decode cc pc = .ok (.ldc2_w idx, 3))
    (k9 : SW y cc nL ret xt lv sc (pc + 3) (lo) (.long v :: st) (N) (aw) (k) (n) o N' aw') : SW y cc nL ret xt lv sc (pc) (lo) (st) (N) (aw) (k) (n) o N' aw' := by
  intro p l e R s m args below meth c H locs cells slots kf nf D A al0 al ws ls st' F hk hn hkR hnR hle hP hD hS hw hl hst
  obtain ⟨hx, hb, hr, hml, hown, hts, hlocks, hin, hfl, hA, hK, hE, hSc, hlv, hloc, hxt⟩ := id F
  exact lv_ldc2 hx hb hown (hts _ hc) d (k9 p l e R s m args below meth c H locs cells slots kf nf D A al0 al ws ls _ F hk hn hkR hnR hle hP hD hS hw hl ⟨_, _, rfl, rfl, hst⟩)
theorem sw_ldc2d {idx : Nat} {v : UInt64} (hc : Cond.constantDouble y.cls idx v ∈ am_W) (d : decode cc pc = .ok (.ldc2_w idx, 3))
    (k9 : SW y cc nL ret xt lv sc (pc + 3) (lo) (.double v :: st) (N) (aw) (k) (n) o N' aw') : SW y cc nL ret xt lv sc (pc) (lo) (st) (N) (aw) (k) (n) o N' aw' := by
  intro p l e R s m args below meth c H locs cells slots kf nf D A al0 al ws ls st' F hk hn hkR hnR hle hP hD hS hw hl hst
  obtain ⟨hx, hb, hr, hml, hown, hts, hlocks, hin, hfl, hA, hK, hE, hSc, hlv, hloc, hxt⟩ := id F
  exact lv_ldc2d hx hb hown (hts _ hc) d (k9 p l e R s m args below meth c H locs cells slots kf nf D A al0 al ws ls _ F hk hn hkR hnR hle hP hD hS hw hl ⟨_, _, rfl, rfl, hst⟩)
theorem sw_iload_n {kk : Fin 4} {i : Nat} {x : Int32} (d : decode cc pc = .ok (.iload_n kk, 1)) (hi : (kk : Nat) = i) (h : am_nth lo i = some (.int x))
    (k9 : SW y cc nL ret xt lv sc (pc + 1) (lo) (.int x :: st) (N) (aw) (k) (n) o N' aw') : SW y cc nL ret xt lv sc (pc) (lo) (st) (N) (aw) (k) (n) o N' aw' := by
  intro p l e R s m args below meth c H locs cells slots kf nf D A al0 al ws ls st' F hk hn hkR hnR hle hP hD hS hw hl hst
  obtain ⟨hx, hb, hr, hml, hown, hts, hlocks, hin, hfl, hA, hK, hE, hSc, hlv, hloc, hxt⟩ := id F
  obtain ⟨v', g1, g2⟩ := hl.get h
  cases g1
  exact lv_iload_n hx hb d hi g2 (k9 p l e R s m args below meth c H locs cells slots kf nf D A al0 al ws ls _ F hk hn hkR hnR hle hP hD hS hw hl ⟨_, _, rfl, rfl, hst⟩)
theorem sw_iload {i : Nat} {x : Int32} (d : decode cc pc = .ok (.iload i, 2)) (h : am_nth lo i = some (.int x))
    (k9 : SW y cc nL ret xt lv sc (pc + 2) (lo) (.int x :: st) (N) (aw) (k) (n) o N' aw') : SW y cc nL ret xt lv sc (pc) (lo) (st) (N) (aw) (k) (n) o N' aw' := by
  intro p l e R s m args below meth c H locs cells slots kf nf D A al0 al ws ls st' F hk hn hkR hnR hle hP hD hS hw hl hst
  obtain ⟨hx, hb, hr, hml, hown, hts, hlocks, hin, hfl, hA, hK, hE, hSc, hlv, hloc, hxt⟩ := id F
  obtain ⟨v', g1, g2⟩ := hl.get h
  cases g1
  exact lv_iload hx hb d g2 (k9 p l e R s m args below meth c H locs cells slots kf nf D A al0 al ws ls _ F hk hn hkR hnR hle hP hD hS hw hl ⟨_, _, rfl, rfl, hst⟩)
theorem sw_lload_n {kk : Fin 4} {i : Nat} {x : Int64} (d : decode cc pc = .ok (.lload_n kk, 1)) (hi : (kk : Nat) = i) (h : am_nth lo i = some (.long x))
    (k9 : SW y cc nL ret xt lv sc (pc + 1) (lo) (.long x :: st) (N) (aw) (k) (n) o N' aw') : SW y cc nL ret xt lv sc (pc) (lo) (st) (N) (aw) (k) (n) o N' aw' := by
  intro p l e R s m args below meth c H locs cells slots kf nf D A al0 al ws ls st' F hk hn hkR hnR hle hP hD hS hw hl hst
  obtain ⟨hx, hb, hr, hml, hown, hts, hlocks, hin, hfl, hA, hK, hE, hSc, hlv, hloc, hxt⟩ := id F
  obtain ⟨v', g1, g2⟩ := hl.get h
  cases g1
  exact lv_lload_n hx hb d hi g2 (k9 p l e R s m args below meth c H locs cells slots kf nf D A al0 al ws ls _ F hk hn hkR hnR hle hP hD hS hw hl ⟨_, _, rfl, rfl, hst⟩)
theorem sw_lload {i : Nat} {x : Int64} (d : decode cc pc = .ok (.lload i, 2)) (h : am_nth lo i = some (.long x))
    (k9 : SW y cc nL ret xt lv sc (pc + 2) (lo) (.long x :: st) (N) (aw) (k) (n) o N' aw') : SW y cc nL ret xt lv sc (pc) (lo) (st) (N) (aw) (k) (n) o N' aw' := by
  intro p l e R s m args below meth c H locs cells slots kf nf D A al0 al ws ls st' F hk hn hkR hnR hle hP hD hS hw hl hst
  obtain ⟨hx, hb, hr, hml, hown, hts, hlocks, hin, hfl, hA, hK, hE, hSc, hlv, hloc, hxt⟩ := id F
  obtain ⟨v', g1, g2⟩ := hl.get h
  cases g1
  exact lv_lload hx hb d g2 (k9 p l e R s m args below meth c H locs cells slots kf nf D A al0 al ws ls _ F hk hn hkR hnR hle hP hD hS hw hl ⟨_, _, rfl, rfl, hst⟩)
theorem sw_dload_n {kk : Fin 4} {i : Nat} {x : UInt64} (d : decode cc pc = .ok (.dload_n kk, 1)) (hi : (kk : Nat) = i) (h : am_nth lo i = some (.double x))
    (k9 : SW y cc nL ret xt lv sc (pc + 1) (lo) (.double x :: st) (N) (aw) (k) (n) o N' aw') : SW y cc nL ret xt lv sc (pc) (lo) (st) (N) (aw) (k) (n) o N' aw' := by
  intro p l e R s m args below meth c H locs cells slots kf nf D A al0 al ws ls st' F hk hn hkR hnR hle hP hD hS hw hl hst
  obtain ⟨hx, hb, hr, hml, hown, hts, hlocks, hin, hfl, hA, hK, hE, hSc, hlv, hloc, hxt⟩ := id F
  obtain ⟨v', g1, g2⟩ := hl.get h
  cases g1
  exact lv_dload_n hx hb d hi g2 (k9 p l e R s m args below meth c H locs cells slots kf nf D A al0 al ws ls _ F hk hn hkR hnR hle hP hD hS hw hl ⟨_, _, rfl, rfl, hst⟩)
theorem sw_dload {i : Nat} {x : UInt64} (d : decode cc pc = .ok (.dload i, 2)) (h : am_nth lo i = some (.double x))
    (k9 : SW y cc nL ret xt lv sc (pc + 2) (lo) (.double x :: st) (N) (aw) (k) (n) o N' aw') : SW y cc nL ret xt lv sc (pc) (lo) (st) (N) (aw) (k) (n) o N' aw' := by
  intro p l e R s m args below meth c H locs cells slots kf nf D A al0 al ws ls st' F hk hn hkR hnR hle hP hD hS hw hl hst
  obtain ⟨hx, hb, hr, hml, hown, hts, hlocks, hin, hfl, hA, hK, hE, hSc, hlv, hloc, hxt⟩ := id F
  obtain ⟨v', g1, g2⟩ := hl.get h
  cases g1
  exact lv_dload hx hb d g2 (k9 p l e R s m args below meth c H locs cells slots kf nf D A al0 al ws ls _ F hk hn hkR hnR hle hP hD hS hw hl ⟨_, _, rfl, rfl, hst⟩)
theorem sw_aload_n {kk : Fin 4} {i : Nat} {x : Nat} (d : decode cc pc = .ok (.aload_n kk, 1)) (hi : (kk : Nat) = i) (h : am_nth lo i = some (.ref x))
    (k9 : SW y cc nL ret xt lv sc (pc + 1) (lo) (.ref x :: st) (N) (aw) (k) (n) o N' aw') : SW y cc nL ret xt lv sc (pc) (lo) (st) (N) (aw) (k) (n) o N' aw' := by
  intro p l e R s m args below meth c H locs cells slots kf nf D A al0 al ws ls st' F hk hn hkR hnR hle hP hD hS hw hl hst
  obtain ⟨hx, hb, hr, hml, hown, hts, hlocks, hin, hfl, hA, hK, hE, hSc, hlv, hloc, hxt⟩ := id F
  obtain ⟨v', ⟨a, g1, rfl⟩, g2⟩ := hl.get h
  exact lv_aload_n hx hb d hi g2 (k9 p l e R s m args below meth c H locs cells slots kf nf D A al0 al ws ls _ F hk hn hkR hnR hle hP hD hS hw hl ⟨_, _, rfl, ⟨a, g1, rfl⟩, hst⟩)
theorem sw_aload {i : Nat} {x : Nat} (d : decode cc pc = .ok (.aload i, 2)) (h : am_nth lo i = some (.ref x))
    (k9 : SW y cc nL ret xt lv sc (pc + 2) (lo) (.ref x :: st) (N) (aw) (k) (n) o N' aw') : SW y cc nL ret xt lv sc (pc) (lo) (st) (N) (aw) (k) (n) o N' aw' := by
  intro p l e R s m args below meth c H locs cells slots kf nf D A al0 al ws ls st' F hk hn hkR hnR hle hP hD hS hw hl hst
  obtain ⟨hx, hb, hr, hml, hown, hts, hlocks, hin, hfl, hA, hK, hE, hSc, hlv, hloc, hxt⟩ := id F
  obtain ⟨v', ⟨a, g1, rfl⟩, g2⟩ := hl.get h
  exact lv_aload hx hb d g2 (k9 p l e R s m args below meth c H locs cells slots kf nf D A al0 al ws ls _ F hk hn hkR hnR hle hP hD hS hw hl ⟨_, _, rfl, ⟨a, g1, rfl⟩, hst⟩)
theorem sw_istore_n {kk : Fin 4} {i : Nat} {x : Int32} (d : decode cc pc = .ok (.istore_n kk, 1)) (hi : (kk : Nat) = i) (hi2 : i < nL) (hc : am_c1 lo i = true)
    (k9 : SW y cc nL ret xt lv sc (pc + 1) (am_st lo i (some (.int x))) (st) (N) (aw) (k) (n) o N' aw') : SW y cc nL ret xt lv sc (pc) (lo) (.int x :: st) (N) (aw) (k) (n) o N' aw' := by
  intro p l e R s m args below meth c H locs cells slots kf nf D A al0 al ws ls st' F hk hn hkR hnR hle hP hD hS hw hl hst
  obtain ⟨hx, hb, hr, hml, hown, hts, hlocks, hin, hfl, hA, hK, hE, hSc, hlv, hloc, hxt⟩ := id F
  obtain ⟨w0, r0, rfl, h0, hst⟩ := hst
  cases h0
  obtain ⟨lv9, h1, h2⟩ := hl
  exact lv_istore_n hx hb d hi h1 hi2 rfl (fun ls2 hlv2 => k9 p l e R s m args below meth c H locs cells slots kf nf D A al0 al ws ls2 _ F hk hn hkR hnR hle hP hD hS hw (am_L.st1 h2 (v := .int x) rfl hc hlv2) hst)
theorem sw_istore {i : Nat} {x : Int32} (d : decode cc pc = .ok (.istore i, 2)) (hi2 : i < nL) (hc : am_c1 lo i = true)
    (k9 : SW y cc nL ret xt lv sc (pc + 2) (am_st lo i (some (.int x))) (st) (N) (aw) (k) (n) o N' aw') : SW y cc nL ret xt lv sc (pc) (lo) (.int x :: st) (N) (aw) (k) (n) o N' aw' := by
  intro p l e R s m args below meth c H locs cells slots kf nf D A al0 al ws ls st' F hk hn hkR hnR hle hP hD hS hw hl hst
  obtain ⟨hx, hb, hr, hml, hown, hts, hlocks, hin, hfl, hA, hK, hE, hSc, hlv, hloc, hxt⟩ := id F
  obtain ⟨w0, r0, rfl, h0, hst⟩ := hst
  cases h0
  obtain ⟨lv9, h1, h2⟩ := hl
  exact lv_istore hx hb d h1 hi2 rfl (fun ls2 hlv2 => k9 p l e R s m args below meth c H locs cells slots kf nf D A al0 al ws ls2 _ F hk hn hkR hnR hle hP hD hS hw (am_L.st1 h2 (v := .int x) rfl hc hlv2) hst)
theorem sw_lstore_n {kk : Fin 4} {i : Nat} {x : Int64} (d : decode cc pc = .ok (.lstore_n kk, 1)) (hi : (kk : Nat) = i) (hi2 : i + 1 < nL) (hc : am_c1 lo i = true)
    (k9 : SW y cc nL ret xt lv sc (pc + 1) (am_st (am_st lo i (some (.long x))) (i + 1) none) (st) (N) (aw) (k) (n) o N' aw') : SW y cc nL ret xt lv sc (pc) (lo) (.long x :: st) (N) (aw) (k) (n) o N' aw' := by
  intro p l e R s m args below meth c H locs cells slots kf nf D A al0 al ws ls st' F hk hn hkR hnR hle hP hD hS hw hl hst
  obtain ⟨hx, hb, hr, hml, hown, hts, hlocks, hin, hfl, hA, hK, hE, hSc, hlv, hloc, hxt⟩ := id F
  obtain ⟨w0, r0, rfl, h0, hst⟩ := hst
  cases h0
  obtain ⟨lv9, h1, h2⟩ := hl
  exact lv_lstore_n hx hb d hi h1 hi2 rfl (fun ls2 hlv2 => k9 p l e R s m args below meth c H locs cells slots kf nf D A al0 al ws ls2 _ F hk hn hkR hnR hle hP hD hS hw (am_L.st2 h2 (v := .long x) rfl hc hlv2) hst)
theorem sw_lstore {i : Nat} {x : Int64} (d : decode cc pc = .ok (.lstore i, 2)) (hi2 : i + 1 < nL) (hc : am_c1 lo i = true)
    (k9 : SW y cc nL ret xt lv sc (pc + 2) (am_st (am_st lo i (some (.long x))) (i + 1) none) (st) (N) (aw) (k) (n) o N' aw') : SW y cc nL ret xt lv sc (pc) (lo) (.long x :: st) (N) (aw) (k) (n) o N' aw' := by
  intro p l e R s m args below meth c H locs cells slots kf nf D A al0 al ws ls st' F hk hn hkR hnR hle hP hD hS hw hl hst
  obtain ⟨hx, hb, hr, hml, hown, hts, hlocks, hin, hfl, hA, hK, hE, hSc, hlv, hloc, hxt⟩ := id F
  obtain ⟨w0, r0, rfl, h0, hst⟩ := hst
  cases h0
  obtain ⟨lv9, h1, h2⟩ := hl
  exact lv_lstore hx hb d h1 hi2 rfl (fun ls2 hlv2 => k9 p l e R s m args below meth c H locs cells slots kf nf D A al0 al ws ls2 _ F hk hn hkR hnR hle hP hD hS hw (am_L.st2 h2 (v := .long x) rfl hc hlv2) hst)
theorem sw_dstore_n {kk : Fin 4} {i : Nat} {x : UInt64} (d : decode cc pc = .ok (.dstore_n kk, 1)) (hi : (kk : Nat) = i) (hi2 : i + 1 < nL) (hc : am_c1 lo i = true)
    (k9 : SW y cc nL ret xt lv sc (pc + 1) (am_st (am_st lo i (some (.double x))) (i + 1) none) (st) (N) (aw) (k) (n) o N' aw') : SW y cc nL ret xt lv sc (pc) (lo) (.double x :: st) (N) (aw) (k) (n) o N' aw' := by
  intro p l e R s m args below meth c H locs cells slots kf nf D A al0 al ws ls st' F hk hn hkR hnR hle hP hD hS hw hl hst
  obtain ⟨hx, hb, hr, hml, hown, hts, hlocks, hin, hfl, hA, hK, hE, hSc, hlv, hloc, hxt⟩ := id F
  obtain ⟨w0, r0, rfl, h0, hst⟩ := hst
  cases h0
  obtain ⟨lv9, h1, h2⟩ := hl
  exact lv_dstore_n hx hb d hi h1 hi2 rfl (fun ls2 hlv2 => k9 p l e R s m args below meth c H locs cells slots kf nf D A al0 al ws ls2 _ F hk hn hkR hnR hle hP hD hS hw (am_L.st2 h2 (v := .double x) rfl hc hlv2) hst)
theorem sw_dstore {i : Nat} {x : UInt64} (d : decode cc pc = .ok (.dstore i, 2)) (hi2 : i + 1 < nL) (hc : am_c1 lo i = true)
    (k9 : SW y cc nL ret xt lv sc (pc + 2) (am_st (am_st lo i (some (.double x))) (i + 1) none) (st) (N) (aw) (k) (n) o N' aw') : SW y cc nL ret xt lv sc (pc) (lo) (.double x :: st) (N) (aw) (k) (n) o N' aw' := by
  intro p l e R s m args below meth c H locs cells slots kf nf D A al0 al ws ls st' F hk hn hkR hnR hle hP hD hS hw hl hst
  obtain ⟨hx, hb, hr, hml, hown, hts, hlocks, hin, hfl, hA, hK, hE, hSc, hlv, hloc, hxt⟩ := id F
  obtain ⟨w0, r0, rfl, h0, hst⟩ := hst
  cases h0
  obtain ⟨lv9, h1, h2⟩ := hl
  exact lv_dstore hx hb d h1 hi2 rfl (fun ls2 hlv2 => k9 p l e R s m args below meth c H locs cells slots kf nf D A al0 al ws ls2 _ F hk hn hkR hnR hle hP hD hS hw (am_L.st2 h2 (v := .double x) rfl hc hlv2) hst)
theorem sw_astore_n {kk : Fin 4} {i : Nat} {x : Nat} (d : decode cc pc = .ok (.astore_n kk, 1)) (hi : (kk : Nat) = i) (hi2 : i < nL) (hc : am_c1 lo i = true)
    (k9 : SW y cc nL ret xt lv sc (pc + 1) (am_st lo i (some (.ref x))) (st) (N) (aw) (k) (n) o N' aw') : SW y cc nL ret xt lv sc (pc) (lo) (.ref x :: st) (N) (aw) (k) (n) o N' aw' := by
  intro p l e R s m args below meth c H locs cells slots kf nf D A al0 al ws ls st' F hk hn hkR hnR hle hP hD hS hw hl hst
  obtain ⟨hx, hb, hr, hml, hown, hts, hlocks, hin, hfl, hA, hK, hE, hSc, hlv, hloc, hxt⟩ := id F
  obtain ⟨w0, r0, rfl, h0, hst⟩ := hst
  obtain ⟨a, g1, rfl⟩ := h0
  obtain ⟨lv9, h1, h2⟩ := hl
  exact lv_astore_n hx hb d hi h1 hi2 rfl (fun ls2 hlv2 => k9 p l e R s m args below meth c H locs cells slots kf nf D A al0 al ws ls2 _ F hk hn hkR hnR hle hP hD hS hw (am_L.st1 h2 (v := .ref x) ⟨a, g1, rfl⟩ hc hlv2) hst)
theorem sw_astore {i : Nat} {x : Nat} (d : decode cc pc = .ok (.astore i, 2)) (hi2 : i < nL) (hc : am_c1 lo i = true)
    (k9 : SW y cc nL ret xt lv sc (pc + 2) (am_st lo i (some (.ref x))) (st) (N) (aw) (k) (n) o N' aw') : SW y cc nL ret xt lv sc (pc) (lo) (.ref x :: st) (N) (aw) (k) (n) o N' aw' := by
  intro p l e R s m args below meth c H locs cells slots kf nf D A al0 al ws ls st' F hk hn hkR hnR hle hP hD hS hw hl hst
  obtain ⟨hx, hb, hr, hml, hown, hts, hlocks, hin, hfl, hA, hK, hE, hSc, hlv, hloc, hxt⟩ := id F
  obtain ⟨w0, r0, rfl, h0, hst⟩ := hst
  obtain ⟨a, g1, rfl⟩ := h0
  obtain ⟨lv9, h1, h2⟩ := hl
  exact lv_astore hx hb d h1 hi2 rfl (fun ls2 hlv2 => k9 p l e R s m args below meth c H locs cells slots kf nf D A al0 al ws ls2 _ F hk hn hkR hnR hle hP hD hS hw (am_L.st1 h2 (v := .ref x) ⟨a, g1, rfl⟩ hc hlv2) hst)
theorem sw_iinc {i : Nat} {z : Int} {x v : Int32} (d : decode cc pc = .ok (.iinc i z, 3)) (h : am_nth lo i = some (.int x)) (hv : x + Int32.ofInt z = v) (hi2 : i < nL) (hc : am_c1 lo i = true)
    (k9 : SW y cc nL ret xt lv sc (pc + 3) (am_st lo i (some (.int v))) (st) (N) (aw) (k) (n) o N' aw') : SW y cc nL ret xt lv sc (pc) (lo) (st) (N) (aw) (k) (n) o N' aw' := by
  intro p l e R s m args below meth c H locs cells slots kf nf D A al0 al ws ls st' F hk hn hkR hnR hle hP hD hS hw hl hst
  obtain ⟨hx, hb, hr, hml, hown, hts, hlocks, hin, hfl, hA, hK, hE, hSc, hlv, hloc, hxt⟩ := id F
  obtain ⟨lv9, h1, h2⟩ := hl
  obtain ⟨v', g1, g2⟩ := h2 i _ h
  cases g1
  obtain ⟨j, hj⟩ := List.getElem?_of_mem g2
  exact lv_iinc hx hb d h1 hj hv hi2 rfl (fun ls2 hlv2 => k9 p l e R s m args below meth c H locs cells slots kf nf D A al0 al ws ls2 _ F hk hn hkR hnR hle hP hD hS hw (am_L.st1 h2 (v := .int v) rfl hc hlv2) hst)
theorem sw_iadd {x y9 : Int32} (d : decode cc pc = .ok (.iadd, 1))
    (k9 : SW y cc nL ret xt lv sc (pc + 1) (lo) (.int (x + y9) :: st) (N) (aw) (k) (n) o N' aw') : SW y cc nL ret xt lv sc (pc) (lo) (.int y9 :: .int x :: st) (N) (aw) (k) (n) o N' aw' := by
  intro p l e R s m args below meth c H locs cells slots kf nf D A al0 al ws ls st' F hk hn hkR hnR hle hP hD hS hw hl hst
  obtain ⟨hx, hb, hr, hml, hown, hts, hlocks, hin, hfl, hA, hK, hE, hSc, hlv, hloc, hxt⟩ := id F
  obtain ⟨w0, r0, rfl, h0, hst⟩ := hst
  obtain ⟨w1, r1, rfl, h1, hst⟩ := hst
  cases h0; cases h1
  exact lv_iadd hx hb d (k9 p l e R s m args below meth c H locs cells slots kf nf D A al0 al ws ls _ F hk hn hkR hnR hle hP hD hS hw hl ⟨_, _, rfl, rfl, hst⟩)
theorem sw_isub {x y9 : Int32} (d : decode cc pc = .ok (.isub, 1))
    (k9 : SW y cc nL ret xt lv sc (pc + 1) (lo) (.int (x - y9) :: st) (N) (aw) (k) (n) o N' aw') : SW y cc nL ret xt lv sc (pc) (lo) (.int y9 :: .int x :: st) (N) (aw) (k) (n) o N' aw' := by
  intro p l e R s m args below meth c H locs cells slots kf nf D A al0 al ws ls st' F hk hn hkR hnR hle hP hD hS hw hl hst
  obtain ⟨hx, hb, hr, hml, hown, hts, hlocks, hin, hfl, hA, hK, hE, hSc, hlv, hloc, hxt⟩ := id F
  obtain ⟨w0, r0, rfl, h0, hst⟩ := hst
  obtain ⟨w1, r1, rfl, h1, hst⟩ := hst
  cases h0; cases h1
  exact lv_isub hx hb d (k9 p l e R s m args below meth c H locs cells slots kf nf D A al0 al ws ls _ F hk hn hkR hnR hle hP hD hS hw hl ⟨_, _, rfl, rfl, hst⟩)
theorem sw_imul {x y9 : Int32} (d : decode cc pc = .ok (.imul, 1))
    (k9 : SW y cc nL ret xt lv sc (pc + 1) (lo) (.int (x * y9) :: st) (N) (aw) (k) (n) o N' aw') : SW y cc nL ret xt lv sc (pc) (lo) (.int y9 :: .int x :: st) (N) (aw) (k) (n) o N' aw' := by
  intro p l e R s m args below meth c H locs cells slots kf nf D A al0 al ws ls st' F hk hn hkR hnR hle hP hD hS hw hl hst
  obtain ⟨hx, hb, hr, hml, hown, hts, hlocks, hin, hfl, hA, hK, hE, hSc, hlv, hloc, hxt⟩ := id F
  obtain ⟨w0, r0, rfl, h0, hst⟩ := hst
  obtain ⟨w1, r1, rfl, h1, hst⟩ := hst
  cases h0; cases h1
  exact lv_imul hx hb d (k9 p l e R s m args below meth c H locs cells slots kf nf D A al0 al ws ls _ F hk hn hkR hnR hle hP hD hS hw hl ⟨_, _, rfl, rfl, hst⟩)
theorem sw_iand {x y9 : Int32} (d : decode cc pc = .ok (.iand, 1))
    (k9 : SW y cc nL ret xt lv sc (pc + 1) (lo) (.int (x &&& y9) :: st) (N) (aw) (k) (n) o N' aw') : SW y cc nL ret xt lv sc (pc) (lo) (.int y9 :: .int x :: st) (N) (aw) (k) (n) o N' aw' := by
  intro p l e R s m args below meth c H locs cells slots kf nf D A al0 al ws ls st' F hk hn hkR hnR hle hP hD hS hw hl hst
  obtain ⟨hx, hb, hr, hml, hown, hts, hlocks, hin, hfl, hA, hK, hE, hSc, hlv, hloc, hxt⟩ := id F
  obtain ⟨w0, r0, rfl, h0, hst⟩ := hst
  obtain ⟨w1, r1, rfl, h1, hst⟩ := hst
  cases h0; cases h1
  exact lv_iand hx hb d (k9 p l e R s m args below meth c H locs cells slots kf nf D A al0 al ws ls _ F hk hn hkR hnR hle hP hD hS hw hl ⟨_, _, rfl, rfl, hst⟩)
theorem sw_ladd {x y9 : Int64} (d : decode cc pc = .ok (.ladd, 1))
    (k9 : SW y cc nL ret xt lv sc (pc + 1) (lo) (.long (x + y9) :: st) (N) (aw) (k) (n) o N' aw') : SW y cc nL ret xt lv sc (pc) (lo) (.long y9 :: .long x :: st) (N) (aw) (k) (n) o N' aw' := by
  intro p l e R s m args below meth c H locs cells slots kf nf D A al0 al ws ls st' F hk hn hkR hnR hle hP hD hS hw hl hst
  obtain ⟨hx, hb, hr, hml, hown, hts, hlocks, hin, hfl, hA, hK, hE, hSc, hlv, hloc, hxt⟩ := id F
  obtain ⟨w0, r0, rfl, h0, hst⟩ := hst
  obtain ⟨w1, r1, rfl, h1, hst⟩ := hst
  cases h0; cases h1
  exact lv_ladd hx hb d (k9 p l e R s m args below meth c H locs cells slots kf nf D A al0 al ws ls _ F hk hn hkR hnR hle hP hD hS hw hl ⟨_, _, rfl, rfl, hst⟩)
theorem sw_lsub {x y9 : Int64} (d : decode cc pc = .ok (.lsub, 1))
    (k9 : SW y cc nL ret xt lv sc (pc + 1) (lo) (.long (x - y9) :: st) (N) (aw) (k) (n) o N' aw') : SW y cc nL ret xt lv sc (pc) (lo) (.long y9 :: .long x :: st) (N) (aw) (k) (n) o N' aw' := by
  intro p l e R s m args below meth c H locs cells slots kf nf D A al0 al ws ls st' F hk hn hkR hnR hle hP hD hS hw hl hst
  obtain ⟨hx, hb, hr, hml, hown, hts, hlocks, hin, hfl, hA, hK, hE, hSc, hlv, hloc, hxt⟩ := id F
  obtain ⟨w0, r0, rfl, h0, hst⟩ := hst
  obtain ⟨w1, r1, rfl, h1, hst⟩ := hst
  cases h0; cases h1
  exact lv_lsub hx hb d (k9 p l e R s m args below meth c H locs cells slots kf nf D A al0 al ws ls _ F hk hn hkR hnR hle hP hD hS hw hl ⟨_, _, rfl, rfl, hst⟩)
theorem sw_lmul {x y9 : Int64} (d : decode cc pc = .ok (.lmul, 1))
    (k9 : SW y cc nL ret xt lv sc (pc + 1) (lo) (.long (x * y9) :: st) (N) (aw) (k) (n) o N' aw') : SW y cc nL ret xt lv sc (pc) (lo) (.long y9 :: .long x :: st) (N) (aw) (k) (n) o N' aw' := by
  intro p l e R s m args below meth c H locs cells slots kf nf D A al0 al ws ls st' F hk hn hkR hnR hle hP hD hS hw hl hst
  obtain ⟨hx, hb, hr, hml, hown, hts, hlocks, hin, hfl, hA, hK, hE, hSc, hlv, hloc, hxt⟩ := id F
  obtain ⟨w0, r0, rfl, h0, hst⟩ := hst
  obtain ⟨w1, r1, rfl, h1, hst⟩ := hst
  cases h0; cases h1
  exact lv_lmul hx hb d (k9 p l e R s m args below meth c H locs cells slots kf nf D A al0 al ws ls _ F hk hn hkR hnR hle hP hD hS hw hl ⟨_, _, rfl, rfl, hst⟩)
theorem sw_idiv {x y9 : Int32} (hne : ¬ y9 = 0) (d : decode cc pc = .ok (.idiv, 1))
    (k9 : SW y cc nL ret xt lv sc (pc + 1) (lo) (.int (x / y9) :: st) (N) (aw) (k) (n) o N' aw') : SW y cc nL ret xt lv sc (pc) (lo) (.int y9 :: .int x :: st) (N) (aw) (k) (n) o N' aw' := by
  intro p l e R s m args below meth c H locs cells slots kf nf D A al0 al ws ls st' F hk hn hkR hnR hle hP hD hS hw hl hst
  obtain ⟨hx, hb, hr, hml, hown, hts, hlocks, hin, hfl, hA, hK, hE, hSc, hlv, hloc, hxt⟩ := id F
  obtain ⟨w0, r0, rfl, h0, hst⟩ := hst
  obtain ⟨w1, r1, rfl, h1, hst⟩ := hst
  cases h0; cases h1
  exact lv_idiv hx hb d hne (k9 p l e R s m args below meth c H locs cells slots kf nf D A al0 al ws ls _ F hk hn hkR hnR hle hP hD hS hw hl ⟨_, _, rfl, rfl, hst⟩)
theorem sw_irem {x y9 : Int32} (hne : ¬ y9 = 0) (d : decode cc pc = .ok (.irem, 1))
    (k9 : SW y cc nL ret xt lv sc (pc + 1) (lo) (.int (x - x / y9 * y9) :: st) (N) (aw) (k) (n) o N' aw') : SW y cc nL ret xt lv sc (pc) (lo) (.int y9 :: .int x :: st) (N) (aw) (k) (n) o N' aw' := by
  intro p l e R s m args below meth c H locs cells slots kf nf D A al0 al ws ls st' F hk hn hkR hnR hle hP hD hS hw hl hst
  obtain ⟨hx, hb, hr, hml, hown, hts, hlocks, hin, hfl, hA, hK, hE, hSc, hlv, hloc, hxt⟩ := id F
  obtain ⟨w0, r0, rfl, h0, hst⟩ := hst
  obtain ⟨w1, r1, rfl, h1, hst⟩ := hst
  cases h0; cases h1
  exact lv_irem hx hb d hne (k9 p l e R s m args below meth c H locs cells slots kf nf D A al0 al ws ls _ F hk hn hkR hnR hle hP hD hS hw hl ⟨_, _, rfl, rfl, hst⟩)
theorem sw_ineg {x : Int32} (d : decode cc pc = .ok (.ineg, 1))
    (k9 : SW y cc nL ret xt lv sc (pc + 1) (lo) (.int (-x) :: st) (N) (aw) (k) (n) o N' aw') : SW y cc nL ret xt lv sc (pc) (lo) (.int x :: st) (N) (aw) (k) (n) o N' aw' := by
  intro p l e R s m args below meth c H locs cells slots kf nf D A al0 al ws ls st' F hk hn hkR hnR hle hP hD hS hw hl hst
  obtain ⟨hx, hb, hr, hml, hown, hts, hlocks, hin, hfl, hA, hK, hE, hSc, hlv, hloc, hxt⟩ := id F
  obtain ⟨w0, r0, rfl, h0, hst⟩ := hst
  cases h0
  exact lv_ineg hx hb d (k9 p l e R s m args below meth c H locs cells slots kf nf D A al0 al ws ls _ F hk hn hkR hnR hle hP hD hS hw hl ⟨_, _, rfl, rfl, hst⟩)
theorem sw_i2l {x : Int32} (d : decode cc pc = .ok (.i2l, 1))
    (k9 : SW y cc nL ret xt lv sc (pc + 1) (lo) (.long x.toInt64 :: st) (N) (aw) (k) (n) o N' aw') : SW y cc nL ret xt lv sc (pc) (lo) (.int x :: st) (N) (aw) (k) (n) o N' aw' := by
  intro p l e R s m args below meth c H locs cells slots kf nf D A al0 al ws ls st' F hk hn hkR hnR hle hP hD hS hw hl hst
  obtain ⟨hx, hb, hr, hml, hown, hts, hlocks, hin, hfl, hA, hK, hE, hSc, hlv, hloc, hxt⟩ := id F
  obtain ⟨w0, r0, rfl, h0, hst⟩ := hst
  cases h0
  exact lv_i2l hx hb d rfl (k9 p l e R s m args below meth c H locs cells slots kf nf D A al0 al ws ls _ F hk hn hkR hnR hle hP hD hS hw hl ⟨_, _, rfl, rfl, hst⟩)
theorem sw_i2c {x v : Int32} (d : decode cc pc = .ok (.i2c, 1)) (hv : (x.toUInt32 % 65536).toInt32 = v)
    (k9 : SW y cc nL ret xt lv sc (pc + 1) (lo) (.int v :: st) (N) (aw) (k) (n) o N' aw') : SW y cc nL ret xt lv sc (pc) (lo) (.int x :: st) (N) (aw) (k) (n) o N' aw' := by
  intro p l e R s m args below meth c H locs cells slots kf nf D A al0 al ws ls st' F hk hn hkR hnR hle hP hD hS hw hl hst
  obtain ⟨hx, hb, hr, hml, hown, hts, hlocks, hin, hfl, hA, hK, hE, hSc, hlv, hloc, hxt⟩ := id F
  obtain ⟨w0, r0, rfl, h0, hst⟩ := hst
  cases h0
  exact lv_i2c hx hb d hv (k9 p l e R s m args below meth c H locs cells slots kf nf D A al0 al ws ls _ F hk hn hkR hnR hle hP hD hS hw hl ⟨_, _, rfl, rfl, hst⟩)
theorem sw_lshl {x v : Int64} {y9 : Int32} (d : decode cc pc = .ok (.lshl, 1)) (hv : x <<< (y9.toInt64 &&& 63) = v)
    (k9 : SW y cc nL ret xt lv sc (pc + 1) (lo) (.long v :: st) (N) (aw) (k) (n) o N' aw') : SW y cc nL ret xt lv sc (pc) (lo) (.int y9 :: .long x :: st) (N) (aw) (k) (n) o N' aw' := by
  intro p l e R s m args below meth c H locs cells slots kf nf D A al0 al ws ls st' F hk hn hkR hnR hle hP hD hS hw hl hst
  obtain ⟨hx, hb, hr, hml, hown, hts, hlocks, hin, hfl, hA, hK, hE, hSc, hlv, hloc, hxt⟩ := id F
  obtain ⟨w0, r0, rfl, h0, hst⟩ := hst
  obtain ⟨w1, r1, rfl, h1, hst⟩ := hst
  cases h0; cases h1
  exact lv_lshl hx hb d hv (k9 p l e R s m args below meth c H locs cells slots kf nf D A al0 al ws ls _ F hk hn hkR hnR hle hP hD hS hw hl ⟨_, _, rfl, rfl, hst⟩)
theorem sw_lcmp {x y9 : Int64} (d : decode cc pc = .ok (.lcmp, 1))
    (k9 : SW y cc nL ret xt lv sc (pc + 1) (lo) (.int (lg_cmp x y9) :: st) (N) (aw) (k) (n) o N' aw') : SW y cc nL ret xt lv sc (pc) (lo) (.long y9 :: .long x :: st) (N) (aw) (k) (n) o N' aw' := by
  intro p l e R s m args below meth c H locs cells slots kf nf D A al0 al ws ls st' F hk hn hkR hnR hle hP hD hS hw hl hst
  obtain ⟨hx, hb, hr, hml, hown, hts, hlocks, hin, hfl, hA, hK, hE, hSc, hlv, hloc, hxt⟩ := id F
  obtain ⟨w0, r0, rfl, h0, hst⟩ := hst
  obtain ⟨w1, r1, rfl, h1, hst⟩ := hst
  cases h0; cases h1
  exact W.lcmp hx hb d (k9 p l e R s m args below meth c H locs cells slots kf nf D A al0 al ws ls _ F hk hn hkR hnR hle hP hD hS hw hl ⟨_, _, rfl, rfl, hst⟩)
theorem sw_dmul {x y9 : UInt64} (hne : vf_n64 (FP.dmul x y9)) (d : decode cc pc = .ok (.dmul, 1))
    (k9 : SW y cc nL ret xt lv sc (pc + 1) (lo) (.double (FP.dmul x y9) :: st) (N) (aw) (k) (n) o N' aw') : SW y cc nL ret xt lv sc (pc) (lo) (.double y9 :: .double x :: st) (N) (aw) (k) (n) o N' aw' := by
  intro p l e R s m args below meth c H locs cells slots kf nf D A al0 al ws ls st' F hk hn hkR hnR hle hP hD hS hw hl hst
  obtain ⟨hx, hb, hr, hml, hown, hts, hlocks, hin, hfl, hA, hK, hE, hSc, hlv, hloc, hxt⟩ := id F
  obtain ⟨w0, r0, rfl, h0, hst⟩ := hst
  obtain ⟨w1, r1, rfl, h1, hst⟩ := hst
  cases h0; cases h1
  exact lv_dmul hx hb d hne (k9 p l e R s m args below meth c H locs cells slots kf nf D A al0 al ws ls _ F hk hn hkR hnR hle hP hD hS hw hl ⟨_, _, rfl, rfl, hst⟩)
theorem sw_dsub {x y9 : UInt64} (hne : vf_n64 (FP.dsub x y9)) (d : decode cc pc = .ok (.dsub, 1))
    (k9 : SW y cc nL ret xt lv sc (pc + 1) (lo) (.double (FP.dsub x y9) :: st) (N) (aw) (k) (n) o N' aw') : SW y cc nL ret xt lv sc (pc) (lo) (.double y9 :: .double x :: st) (N) (aw) (k) (n) o N' aw' := by
  intro p l e R s m args below meth c H locs cells slots kf nf D A al0 al ws ls st' F hk hn hkR hnR hle hP hD hS hw hl hst
  obtain ⟨hx, hb, hr, hml, hown, hts, hlocks, hin, hfl, hA, hK, hE, hSc, hlv, hloc, hxt⟩ := id F
  obtain ⟨w0, r0, rfl, h0, hst⟩ := hst
  obtain ⟨w1, r1, rfl, h1, hst⟩ := hst
  cases h0; cases h1
  exact lv_dsub hx hb d hne (k9 p l e R s m args below meth c H locs cells slots kf nf D A al0 al ws ls _ F hk hn hkR hnR hle hP hD hS hw hl ⟨_, _, rfl, rfl, hst⟩)
theorem sw_ddiv {x y9 : UInt64} (hne : vf_n64 (FP.ddiv x y9)) (d : decode cc pc = .ok (.ddiv, 1))
    (k9 : SW y cc nL ret xt lv sc (pc + 1) (lo) (.double (FP.ddiv x y9) :: st) (N) (aw) (k) (n) o N' aw') : SW y cc nL ret xt lv sc (pc) (lo) (.double y9 :: .double x :: st) (N) (aw) (k) (n) o N' aw' := by
  intro p l e R s m args below meth c H locs cells slots kf nf D A al0 al ws ls st' F hk hn hkR hnR hle hP hD hS hw hl hst
  obtain ⟨hx, hb, hr, hml, hown, hts, hlocks, hin, hfl, hA, hK, hE, hSc, hlv, hloc, hxt⟩ := id F
  obtain ⟨w0, r0, rfl, h0, hst⟩ := hst
  obtain ⟨w1, r1, rfl, h1, hst⟩ := hst
  cases h0; cases h1
  exact lv_ddiv hx hb d hne (k9 p l e R s m args below meth c H locs cells slots kf nf D A al0 al ws ls _ F hk hn hkR hnR hle hP hD hS hw hl ⟨_, _, rfl, rfl, hst⟩)
theorem sw_dcmp {x y9 : UInt64} {op : CmpOp} (d : decode cc pc = .ok (.dcmp op, 1))
    (k9 : SW y cc nL ret xt lv sc (pc + 1) (lo) (.int (Op.cmpValue (FP.dcmp x y9) op) :: st) (N) (aw) (k) (n) o N' aw') : SW y cc nL ret xt lv sc (pc) (lo) (.double y9 :: .double x :: st) (N) (aw) (k) (n) o N' aw' := by
  intro p l e R s m args below meth c H locs cells slots kf nf D A al0 al ws ls st' F hk hn hkR hnR hle hP hD hS hw hl hst
  obtain ⟨hx, hb, hr, hml, hown, hts, hlocks, hin, hfl, hA, hK, hE, hSc, hlv, hloc, hxt⟩ := id F
  obtain ⟨w0, r0, rfl, h0, hst⟩ := hst
  obtain ⟨w1, r1, rfl, h1, hst⟩ := hst
  cases h0; cases h1
  exact lv_dcmp hx hb d (k9 p l e R s m args below meth c H locs cells slots kf nf D A al0 al ws ls _ F hk hn hkR hnR hle hP hD hS hw hl ⟨_, _, rfl, rfl, hst⟩)
theorem sw_i2d {x : Int32} (d : decode cc pc = .ok (.i2d, 1))
    (k9 : SW y cc nL ret xt lv sc (pc + 1) (lo) (.double (FP.i2d x) :: st) (N) (aw) (k) (n) o N' aw') : SW y cc nL ret xt lv sc (pc) (lo) (.int x :: st) (N) (aw) (k) (n) o N' aw' := by
  intro p l e R s m args below meth c H locs cells slots kf nf D A al0 al ws ls st' F hk hn hkR hnR hle hP hD hS hw hl hst
  obtain ⟨hx, hb, hr, hml, hown, hts, hlocks, hin, hfl, hA, hK, hE, hSc, hlv, hloc, hxt⟩ := id F
  obtain ⟨w0, r0, rfl, h0, hst⟩ := hst
  cases h0
  exact lv_i2d hx hb d (k9 p l e R s m args below meth c H locs cells slots kf nf D A al0 al ws ls _ F hk hn hkR hnR hle hP hD hS hw hl ⟨_, _, rfl, rfl, hst⟩)
theorem sw_l2d {x : Int64} (d : decode cc pc = .ok (.l2d, 1))
    (k9 : SW y cc nL ret xt lv sc (pc + 1) (lo) (.double (FP.l2d x) :: st) (N) (aw) (k) (n) o N' aw') : SW y cc nL ret xt lv sc (pc) (lo) (.long x :: st) (N) (aw) (k) (n) o N' aw' := by
  intro p l e R s m args below meth c H locs cells slots kf nf D A al0 al ws ls st' F hk hn hkR hnR hle hP hD hS hw hl hst
  obtain ⟨hx, hb, hr, hml, hown, hts, hlocks, hin, hfl, hA, hK, hE, hSc, hlv, hloc, hxt⟩ := id F
  obtain ⟨w0, r0, rfl, h0, hst⟩ := hst
  cases h0
  exact lv_l2d hx hb d (k9 p l e R s m args below meth c H locs cells slots kf nf D A al0 al ws ls _ F hk hn hkR hnR hle hP hD hS hw hl ⟨_, _, rfl, rfl, hst⟩)
theorem sw_d2l {x : UInt64} (d : decode cc pc = .ok (.d2l, 1))
    (k9 : SW y cc nL ret xt lv sc (pc + 1) (lo) (.long (FP.d2l x) :: st) (N) (aw) (k) (n) o N' aw') : SW y cc nL ret xt lv sc (pc) (lo) (.double x :: st) (N) (aw) (k) (n) o N' aw' := by
  intro p l e R s m args below meth c H locs cells slots kf nf D A al0 al ws ls st' F hk hn hkR hnR hle hP hD hS hw hl hst
  obtain ⟨hx, hb, hr, hml, hown, hts, hlocks, hin, hfl, hA, hK, hE, hSc, hlv, hloc, hxt⟩ := id F
  obtain ⟨w0, r0, rfl, h0, hst⟩ := hst
  cases h0
  exact lv_d2l hx hb d (k9 p l e R s m args below meth c H locs cells slots kf nf D A al0 al ws ls _ F hk hn hkR hnR hle hP hD hS hw hl ⟨_, _, rfl, rfl, hst⟩)
theorem sw_dup {v : Value} (d : decode cc pc = .ok (.dup, 1)) (hv : v.category = 1)
    (k9 : SW y cc nL ret xt lv sc (pc + 1) (lo) (v :: v :: st) (N) (aw) (k) (n) o N' aw') : SW y cc nL ret xt lv sc (pc) (lo) (v :: st) (N) (aw) (k) (n) o N' aw' := by
  intro p l e R s m args below meth c H locs cells slots kf nf D A al0 al ws ls st' F hk hn hkR hnR hle hP hD hS hw hl hst
  obtain ⟨hx, hb, hr, hml, hown, hts, hlocks, hin, hfl, hA, hK, hE, hSc, hlv, hloc, hxt⟩ := id F
  obtain ⟨w0, r0, rfl, h0, hst⟩ := hst
  exact lv_dup hx hb d (h0.cat.trans hv) (k9 p l e R s m args below meth c H locs cells slots kf nf D A al0 al ws ls _ F hk hn hkR hnR hle hP hD hS hw hl ⟨_, _, rfl, h0, ⟨_, _, rfl, h0, hst⟩⟩)
theorem sw_pop {v : Value} (d : decode cc pc = .ok (.pop, 1)) (hv : v.category = 1)
    (k9 : SW y cc nL ret xt lv sc (pc + 1) (lo) (st) (N) (aw) (k) (n) o N' aw') : SW y cc nL ret xt lv sc (pc) (lo) (v :: st) (N) (aw) (k) (n) o N' aw' := by
  intro p l e R s m args below meth c H locs cells slots kf nf D A al0 al ws ls st' F hk hn hkR hnR hle hP hD hS hw hl hst
  obtain ⟨hx, hb, hr, hml, hown, hts, hlocks, hin, hfl, hA, hK, hE, hSc, hlv, hloc, hxt⟩ := id F
  obtain ⟨w0, r0, rfl, h0, hst⟩ := hst
  exact lv_pop hx hb d (h0.cat.trans hv) (k9 p l e R s m args below meth c H locs cells slots kf nf D A al0 al ws ls _ F hk hn hkR hnR hle hP hD hS hw hl hst)
theorem sw_dup2 {v v2 : Value} (d : decode cc pc = .ok (.dup2, 1)) (hv : v.category = 1) (hv2 : v2.category = 1)
    (k9 : SW y cc nL ret xt lv sc (pc + 1) (lo) (v :: v2 :: v :: v2 :: st) (N) (aw) (k) (n) o N' aw') : SW y cc nL ret xt lv sc (pc) (lo) (v :: v2 :: st) (N) (aw) (k) (n) o N' aw' := by
  intro p l e R s m args below meth c H locs cells slots kf nf D A al0 al ws ls st' F hk hn hkR hnR hle hP hD hS hw hl hst
  obtain ⟨hx, hb, hr, hml, hown, hts, hlocks, hin, hfl, hA, hK, hE, hSc, hlv, hloc, hxt⟩ := id F
  obtain ⟨w0, r0, rfl, h0, hst⟩ := hst
  obtain ⟨w1, r1, rfl, h1, hst⟩ := hst
  exact lv_dup2_11 hx hb d (h0.cat.trans hv) (h1.cat.trans hv2) (k9 p l e R s m args below meth c H locs cells slots kf nf D A al0 al ws ls _ F hk hn hkR hnR hle hP hD hS hw hl ⟨_, _, rfl, h0, ⟨_, _, rfl, h1, ⟨_, _, rfl, h0, ⟨_, _, rfl, h1, hst⟩⟩⟩⟩)
theorem sw_if_eq {x : Int32} {off : Int} {tgt : Nat} (d : decode cc pc = .ok (.ifCond .eq off, 3)) (ht : (pc : Int) + off = (tgt : Int))
    (kt : x = 0 → SW y cc nL ret xt lv sc (tgt) (lo) (st) (N) (aw) (k) (n) o N' aw') (kf9 : ¬ x = 0 → SW y cc nL ret xt lv sc (pc + 3) (lo) (st) (N) (aw) (k) (n) o N' aw') : SW y cc nL ret xt lv sc (pc) (lo) (.int x :: st) (N) (aw) (k) (n) o N' aw' := by
  intro p l e R s m args below meth c H locs cells slots kf nf D A al0 al ws ls st' F hk hn hkR hnR hle hP hD hS hw hl hst
  obtain ⟨hx, hb, hr, hml, hown, hts, hlocks, hin, hfl, hA, hK, hE, hSc, hlv, hloc, hxt⟩ := id F
  obtain ⟨w0, r0, rfl, h0, hst⟩ := hst
  cases h0
  exact lv_if_eq hx hb d ht (fun h9 => kt h9 p l e R s m args below meth c H locs cells slots kf nf D A al0 al ws ls _ F hk hn hkR hnR hle hP hD hS hw hl hst) (fun h9 => kf9 h9 p l e R s m args below meth c H locs cells slots kf nf D A al0 al ws ls _ F hk hn hkR hnR hle hP hD hS hw hl hst)
theorem sw_ic_eq {x y9 : Int32} {off : Int} {tgt : Nat} (d : decode cc pc = .ok (.if_icmp .eq off, 3)) (ht : (pc : Int) + off = (tgt : Int))
    (kt : x = y9 → SW y cc nL ret xt lv sc (tgt) (lo) (st) (N) (aw) (k) (n) o N' aw') (kf9 : ¬ x = y9 → SW y cc nL ret xt lv sc (pc + 3) (lo) (st) (N) (aw) (k) (n) o N' aw') : SW y cc nL ret xt lv sc (pc) (lo) (.int y9 :: .int x :: st) (N) (aw) (k) (n) o N' aw' := by
  intro p l e R s m args below meth c H locs cells slots kf nf D A al0 al ws ls st' F hk hn hkR hnR hle hP hD hS hw hl hst
  obtain ⟨hx, hb, hr, hml, hown, hts, hlocks, hin, hfl, hA, hK, hE, hSc, hlv, hloc, hxt⟩ := id F
  obtain ⟨w0, r0, rfl, h0, hst⟩ := hst
  obtain ⟨w1, r1, rfl, h1, hst⟩ := hst
  cases h0; cases h1
  exact lv_icmp_eq hx hb d ht (fun h9 => kt h9 p l e R s m args below meth c H locs cells slots kf nf D A al0 al ws ls _ F hk hn hkR hnR hle hP hD hS hw hl hst) (fun h9 => kf9 h9 p l e R s m args below meth c H locs cells slots kf nf D A al0 al ws ls _ F hk hn hkR hnR hle hP hD hS hw hl hst)
theorem sw_if_ne {x : Int32} {off : Int} {tgt : Nat} (d : decode cc pc = .ok (.ifCond .ne off, 3)) (ht : (pc : Int) + off = (tgt : Int))
    (kt : ¬ x = 0 → SW y cc nL ret xt lv sc (tgt) (lo) (st) (N) (aw) (k) (n) o N' aw') (kf9 : x = 0 → SW y cc nL ret xt lv sc (pc + 3) (lo) (st) (N) (aw) (k) (n) o N' aw') : SW y cc nL ret xt lv sc (pc) (lo) (.int x :: st) (N) (aw) (k) (n) o N' aw' := by
  intro p l e R s m args below meth c H locs cells slots kf nf D A al0 al ws ls st' F hk hn hkR hnR hle hP hD hS hw hl hst
  obtain ⟨hx, hb, hr, hml, hown, hts, hlocks, hin, hfl, hA, hK, hE, hSc, hlv, hloc, hxt⟩ := id F
  obtain ⟨w0, r0, rfl, h0, hst⟩ := hst
  cases h0
  exact lv_if_ne hx hb d ht (fun h9 => kt h9 p l e R s m args below meth c H locs cells slots kf nf D A al0 al ws ls _ F hk hn hkR hnR hle hP hD hS hw hl hst) (fun h9 => kf9 h9 p l e R s m args below meth c H locs cells slots kf nf D A al0 al ws ls _ F hk hn hkR hnR hle hP hD hS hw hl hst)
theorem sw_ic_ne {x y9 : Int32} {off : Int} {tgt : Nat} (d : decode cc pc = .ok (.if_icmp .ne off, 3)) (ht : (pc : Int) + off = (tgt : Int))
    (kt : ¬ x = y9 → SW y cc nL ret xt lv sc (tgt) (lo) (st) (N) (aw) (k) (n) o N' aw') (kf9 : x = y9 → SW y cc nL ret xt lv sc (pc + 3) (lo) (st) (N) (aw) (k) (n) o N' aw') : SW y cc nL ret xt lv sc (pc) (lo) (.int y9 :: .int x :: st) (N) (aw) (k) (n) o N' aw' := by
  intro p l e R s m args below meth c H locs cells slots kf nf D A al0 al ws ls st' F hk hn hkR hnR hle hP hD hS hw hl hst
  obtain ⟨hx, hb, hr, hml, hown, hts, hlocks, hin, hfl, hA, hK, hE, hSc, hlv, hloc, hxt⟩ := id F
  obtain ⟨w0, r0, rfl, h0, hst⟩ := hst
  obtain ⟨w1, r1, rfl, h1, hst⟩ := hst
  cases h0; cases h1
  exact lv_icmp_ne hx hb d ht (fun h9 => kt h9 p l e R s m args below meth c H locs cells slots kf nf D A al0 al ws ls _ F hk hn hkR hnR hle hP hD hS hw hl hst) (fun h9 => kf9 h9 p l e R s m args below meth c H locs cells slots kf nf D A al0 al ws ls _ F hk hn hkR hnR hle hP hD hS hw hl hst)
theorem sw_if_lt {x : Int32} {off : Int} {tgt : Nat} (d : decode cc pc = .ok (.ifCond .lt off, 3)) (ht : (pc : Int) + off = (tgt : Int))
    (kt : x < 0 → SW y cc nL ret xt lv sc (tgt) (lo) (st) (N) (aw) (k) (n) o N' aw') (kf9 : ¬ x < 0 → SW y cc nL ret xt lv sc (pc + 3) (lo) (st) (N) (aw) (k) (n) o N' aw') : SW y cc nL ret xt lv sc (pc) (lo) (.int x :: st) (N) (aw) (k) (n) o N' aw' := by
  intro p l e R s m args below meth c H locs cells slots kf nf D A al0 al ws ls st' F hk hn hkR hnR hle hP hD hS hw hl hst
  obtain ⟨hx, hb, hr, hml, hown, hts, hlocks, hin, hfl, hA, hK, hE, hSc, hlv, hloc, hxt⟩ := id F
  obtain ⟨w0, r0, rfl, h0, hst⟩ := hst
  cases h0
  exact lv_if_lt hx hb d ht (fun h9 => kt h9 p l e R s m args below meth c H locs cells slots kf nf D A al0 al ws ls _ F hk hn hkR hnR hle hP hD hS hw hl hst) (fun h9 => kf9 h9 p l e R s m args below meth c H locs cells slots kf nf D A al0 al ws ls _ F hk hn hkR hnR hle hP hD hS hw hl hst)
theorem sw_ic_lt {x y9 : Int32} {off : Int} {tgt : Nat} (d : decode cc pc = .ok (.if_icmp .lt off, 3)) (ht : (pc : Int) + off = (tgt : Int))
    (kt : x < y9 → SW y cc nL ret xt lv sc (tgt) (lo) (st) (N) (aw) (k) (n) o N' aw') (kf9 : ¬ x < y9 → SW y cc nL ret xt lv sc (pc + 3) (lo) (st) (N) (aw) (k) (n) o N' aw') : SW y cc nL ret xt lv sc (pc) (lo) (.int y9 :: .int x :: st) (N) (aw) (k) (n) o N' aw' := by
  intro p l e R s m args below meth c H locs cells slots kf nf D A al0 al ws ls st' F hk hn hkR hnR hle hP hD hS hw hl hst
  obtain ⟨hx, hb, hr, hml, hown, hts, hlocks, hin, hfl, hA, hK, hE, hSc, hlv, hloc, hxt⟩ := id F
  obtain ⟨w0, r0, rfl, h0, hst⟩ := hst
  obtain ⟨w1, r1, rfl, h1, hst⟩ := hst
  cases h0; cases h1
  exact lv_icmp_lt hx hb d ht (fun h9 => kt h9 p l e R s m args below meth c H locs cells slots kf nf D A al0 al ws ls _ F hk hn hkR hnR hle hP hD hS hw hl hst) (fun h9 => kf9 h9 p l e R s m args below meth c H locs cells slots kf nf D A al0 al ws ls _ F hk hn hkR hnR hle hP hD hS hw hl hst)
theorem sw_if_ge {x : Int32} {off : Int} {tgt : Nat} (d : decode cc pc = .ok (.ifCond .ge off, 3)) (ht : (pc : Int) + off = (tgt : Int))
    (kt : 0 ≤ x → SW y cc nL ret xt lv sc (tgt) (lo) (st) (N) (aw) (k) (n) o N' aw') (kf9 : ¬ 0 ≤ x → SW y cc nL ret xt lv sc (pc + 3) (lo) (st) (N) (aw) (k) (n) o N' aw') : SW y cc nL ret xt lv sc (pc) (lo) (.int x :: st) (N) (aw) (k) (n) o N' aw' := by
  intro p l e R s m args below meth c H locs cells slots kf nf D A al0 al ws ls st' F hk hn hkR hnR hle hP hD hS hw hl hst
  obtain ⟨hx, hb, hr, hml, hown, hts, hlocks, hin, hfl, hA, hK, hE, hSc, hlv, hloc, hxt⟩ := id F
  obtain ⟨w0, r0, rfl, h0, hst⟩ := hst
  cases h0
  exact lv_if_ge hx hb d ht (fun h9 => kt h9 p l e R s m args below meth c H locs cells slots kf nf D A al0 al ws ls _ F hk hn hkR hnR hle hP hD hS hw hl hst) (fun h9 => kf9 h9 p l e R s m args below meth c H locs cells slots kf nf D A al0 al ws ls _ F hk hn hkR hnR hle hP hD hS hw hl hst)
theorem sw_ic_ge {x y9 : Int32} {off : Int} {tgt : Nat} (d : decode cc pc = .ok (.if_icmp .ge off, 3)) (ht : (pc : Int) + off = (tgt : Int))
    (kt : y9 ≤ x → SW y cc nL ret xt lv sc (tgt) (lo) (st) (N) (aw) (k) (n) o N' aw') (kf9 : ¬ y9 ≤ x → SW y cc nL ret xt lv sc (pc + 3) (lo) (st) (N) (aw) (k) (n) o N' aw') : SW y cc nL ret xt lv sc (pc) (lo) (.int y9 :: .int x :: st) (N) (aw) (k) (n) o N' aw' := by
  intro p l e R s m args below meth c H locs cells slots kf nf D A al0 al ws ls st' F hk hn hkR hnR hle hP hD hS hw hl hst
  obtain ⟨hx, hb, hr, hml, hown, hts, hlocks, hin, hfl, hA, hK, hE, hSc, hlv, hloc, hxt⟩ := id F
  obtain ⟨w0, r0, rfl, h0, hst⟩ := hst
  obtain ⟨w1, r1, rfl, h1, hst⟩ := hst
  cases h0; cases h1
  exact lv_icmp_ge hx hb d ht (fun h9 => kt h9 p l e R s m args below meth c H locs cells slots kf nf D A al0 al ws ls _ F hk hn hkR hnR hle hP hD hS hw hl hst) (fun h9 => kf9 h9 p l e R s m args below meth c H locs cells slots kf nf D A al0 al ws ls _ F hk hn hkR hnR hle hP hD hS hw hl hst)
theorem sw_if_gt {x : Int32} {off : Int} {tgt : Nat} (d : decode cc pc = .ok (.ifCond .gt off, 3)) (ht : (pc : Int) + off = (tgt : Int))
    (kt : 0 < x → SW y cc nL ret xt lv sc (tgt) (lo) (st) (N) (aw) (k) (n) o N' aw') (kf9 : ¬ 0 < x → SW y cc nL ret xt lv sc (pc + 3) (lo) (st) (N) (aw) (k) (n) o N' aw') : SW y cc nL ret xt lv sc (pc) (lo) (.int x :: st) (N) (aw) (k) (n) o N' aw' := by
  intro p l e R s m args below meth c H locs cells slots kf nf D A al0 al ws ls st' F hk hn hkR hnR hle hP hD hS hw hl hst
  obtain ⟨hx, hb, hr, hml, hown, hts, hlocks, hin, hfl, hA, hK, hE, hSc, hlv, hloc, hxt⟩ := id F
  obtain ⟨w0, r0, rfl, h0, hst⟩ := hst
  cases h0
  exact lv_if_gt hx hb d ht (fun h9 => kt h9 p l e R s m args below meth c H locs cells slots kf nf D A al0 al ws ls _ F hk hn hkR hnR hle hP hD hS hw hl hst) (fun h9 => kf9 h9 p l e R s m args below meth c H locs cells slots kf nf D A al0 al ws ls _ F hk hn hkR hnR hle hP hD hS hw hl hst)
theorem sw_ic_gt {x y9 : Int32} {off : Int} {tgt : Nat} (d : decode cc pc = .ok (.if_icmp .gt off, 3)) (ht : (pc : Int) + off = (tgt : Int))
    (kt : y9 < x → SW y cc nL ret xt lv sc (tgt) (lo) (st) (N) (aw) (k) (n) o N' aw') (kf9 : ¬ y9 < x → SW y cc nL ret xt lv sc (pc + 3) (lo) (st) (N) (aw) (k) (n) o N' aw') : SW y cc nL ret xt lv sc (pc) (lo) (.int y9 :: .int x :: st) (N) (aw) (k) (n) o N' aw' := by
  intro p l e R s m args below meth c H locs cells slots kf nf D A al0 al ws ls st' F hk hn hkR hnR hle hP hD hS hw hl hst
  obtain ⟨hx, hb, hr, hml, hown, hts, hlocks, hin, hfl, hA, hK, hE, hSc, hlv, hloc, hxt⟩ := id F
  obtain ⟨w0, r0, rfl, h0, hst⟩ := hst
  obtain ⟨w1, r1, rfl, h1, hst⟩ := hst
  cases h0; cases h1
  exact lv_icmp_gt hx hb d ht (fun h9 => kt h9 p l e R s m args below meth c H locs cells slots kf nf D A al0 al ws ls _ F hk hn hkR hnR hle hP hD hS hw hl hst) (fun h9 => kf9 h9 p l e R s m args below meth c H locs cells slots kf nf D A al0 al ws ls _ F hk hn hkR hnR hle hP hD hS hw hl hst)
theorem sw_if_le {x : Int32} {off : Int} {tgt : Nat} (d : decode cc pc = .ok (.ifCond .le off, 3)) (ht : (pc : Int) + off = (tgt : Int))
    (kt : x ≤ 0 → SW y cc nL ret xt lv sc (tgt) (lo) (st) (N) (aw) (k) (n) o N' aw') (kf9 : ¬ x ≤ 0 → SW y cc nL ret xt lv sc (pc + 3) (lo) (st) (N) (aw) (k) (n) o N' aw') : SW y cc nL ret xt lv sc (pc) (lo) (.int x :: st) (N) (aw) (k) (n) o N' aw' := by
  intro p l e R s m args below meth c H locs cells slots kf nf D A al0 al ws ls st' F hk hn hkR hnR hle hP hD hS hw hl hst
  obtain ⟨hx, hb, hr, hml, hown, hts, hlocks, hin, hfl, hA, hK, hE, hSc, hlv, hloc, hxt⟩ := id F
  obtain ⟨w0, r0, rfl, h0, hst⟩ := hst
  cases h0
  exact lv_if_le hx hb d ht (fun h9 => kt h9 p l e R s m args below meth c H locs cells slots kf nf D A al0 al ws ls _ F hk hn hkR hnR hle hP hD hS hw hl hst) (fun h9 => kf9 h9 p l e R s m args below meth c H locs cells slots kf nf D A al0 al ws ls _ F hk hn hkR hnR hle hP hD hS hw hl hst)
theorem sw_ic_le {x y9 : Int32} {off : Int} {tgt : Nat} (d : decode cc pc = .ok (.if_icmp .le off, 3)) (ht : (pc : Int) + off = (tgt : Int))
    (kt : x ≤ y9 → SW y cc nL ret xt lv sc (tgt) (lo) (st) (N) (aw) (k) (n) o N' aw') (kf9 : ¬ x ≤ y9 → SW y cc nL ret xt lv sc (pc + 3) (lo) (st) (N) (aw) (k) (n) o N' aw') : SW y cc nL ret xt lv sc (pc) (lo) (.int y9 :: .int x :: st) (N) (aw) (k) (n) o N' aw' := by
  intro p l e R s m args below meth c H locs cells slots kf nf D A al0 al ws ls st' F hk hn hkR hnR hle hP hD hS hw hl hst
  obtain ⟨hx, hb, hr, hml, hown, hts, hlocks, hin, hfl, hA, hK, hE, hSc, hlv, hloc, hxt⟩ := id F
  obtain ⟨w0, r0, rfl, h0, hst⟩ := hst
  obtain ⟨w1, r1, rfl, h1, hst⟩ := hst
  cases h0; cases h1
  exact lv_icmp_le hx hb d ht (fun h9 => kt h9 p l e R s m args below meth c H locs cells slots kf nf D A al0 al ws ls _ F hk hn hkR hnR hle hP hD hS hw hl hst) (fun h9 => kf9 h9 p l e R s m args below meth c H locs cells slots kf nf D A al0 al ws ls _ F hk hn hkR hnR hle hP hD hS hw hl hst)
theorem sw_goto {off : Int} {tgt : Nat} (d : decode cc pc = .ok (.goto off, 3)) (ht : (pc : Int) + off = (tgt : Int))
    (k9 : SW y cc nL ret xt lv sc (tgt) (lo) (st) (N) (aw) (k) (n) o N' aw') : SW y cc nL ret xt lv sc (pc) (lo) (st) (N) (aw) (k) (n) o N' aw' := by
  intro p l e R s m args below meth c H locs cells slots kf nf D A al0 al ws ls st' F hk hn hkR hnR hle hP hD hS hw hl hst
  obtain ⟨hx, hb, hr, hml, hown, hts, hlocks, hin, hfl, hA, hK, hE, hSc, hlv, hloc, hxt⟩ := id F
  exact lv_goto hx hb d ht (k9 p l e R s m args below meth c H locs cells slots kf nf D A al0 al ws ls _ F hk hn hkR hnR hle hP hD hS hw hl hst)
theorem sw_lookup {dflt : Int} {ps : Array (Int × Int)} {len : Nat} {x : Int32} {off : Int} {tgt : Nat} (d : decode cc pc = .ok (.lookupswitch dflt ps, len)) (hp : (ps.toList.zip (ps.toList.drop 1)).all (fun (a, next) => a.1 < next.1) = true) (ho : Op.lookupswitch.offset ps.toList dflt x.toInt = off) (ht : (pc : Int) + off = (tgt : Int))
    (k9 : SW y cc nL ret xt lv sc (tgt) (lo) (st) (N) (aw) (k) (n) o N' aw') : SW y cc nL ret xt lv sc (pc) (lo) (.int x :: st) (N) (aw) (k) (n) o N' aw' := by
  intro p l e R s m args below meth c H locs cells slots kf nf D A al0 al ws ls st' F hk hn hkR hnR hle hP hD hS hw hl hst
  obtain ⟨hx, hb, hr, hml, hown, hts, hlocks, hin, hfl, hA, hK, hE, hSc, hlv, hloc, hxt⟩ := id F
  obtain ⟨w0, r0, rfl, h0, hst⟩ := hst
  cases h0
  exact lv_lookup hx hb d hp ho ht (k9 p l e R s m args below meth c H locs cells slots kf nf D A al0 al ws ls _ F hk hn hkR hnR hle hP hD hS hw hl hst)
theorem sw_tabOut {dflt l9 h9 : Int} {offs : Array Int} {len : Nat} {x : Int32} {tgt : Nat} (d : decode cc pc = .ok (.tableswitch dflt l9 h9 offs, len)) (h : x.toInt < l9 ∨ h9 < x.toInt) (ht : (pc : Int) + dflt = (tgt : Int))
    (k9 : SW y cc nL ret xt lv sc (tgt) (lo) (st) (N) (aw) (k) (n) o N' aw') : SW y cc nL ret xt lv sc (pc) (lo) (.int x :: st) (N) (aw) (k) (n) o N' aw' := by
  intro p l e R s m args below meth c H locs cells slots kf nf D A al0 al ws ls st' F hk hn hkR hnR hle hP hD hS hw hl hst
  obtain ⟨hx, hb, hr, hml, hown, hts, hlocks, hin, hfl, hA, hK, hE, hSc, hlv, hloc, hxt⟩ := id F
  obtain ⟨w0, r0, rfl, h0, hst⟩ := hst
  cases h0
  exact lv_tableOut hx hb d h ht (k9 p l e R s m args below meth c H locs cells slots kf nf D A al0 al ws ls _ F hk hn hkR hnR hle hP hD hS hw hl hst)
theorem sw_tabIn {dflt l9 h9 : Int} {offs : Array Int} {len : Nat} {x : Int32} {off : Int} {tgt : Nat} (d : decode cc pc = .ok (.tableswitch dflt l9 h9 offs, len)) (h1 : ¬ x.toInt < l9) (h2 : ¬ h9 < x.toInt) (ho : offs[(x.toInt - l9).toNat]? = some off) (ht : (pc : Int) + off = (tgt : Int))
    (k9 : SW y cc nL ret xt lv sc (tgt) (lo) (st) (N) (aw) (k) (n) o N' aw') : SW y cc nL ret xt lv sc (pc) (lo) (.int x :: st) (N) (aw) (k) (n) o N' aw' := by
  intro p l e R s m args below meth c H locs cells slots kf nf D A al0 al ws ls st' F hk hn hkR hnR hle hP hD hS hw hl hst
  obtain ⟨hx, hb, hr, hml, hown, hts, hlocks, hin, hfl, hA, hK, hE, hSc, hlv, hloc, hxt⟩ := id F
  obtain ⟨w0, r0, rfl, h0, hst⟩ := hst
  cases h0
  exact lv_tableIn hx hb d h1 h2 ho ht (k9 p l e R s m args below meth c H locs cells slots kf nf D A al0 al ws ls _ F hk hn hkR hnR hle hP hD hS hw hl hst)
theorem sw_sub {lo2 : List (Option Value)} (g : am_sub lo2 lo) (k9 : SW y cc nL ret xt lv sc (pc) (lo2) (st) (N) (aw) (k) (n) o N' aw') : SW y cc nL ret xt lv sc (pc) (lo) (st) (N) (aw) (k) (n) o N' aw' := by
  intro p l e R s m args below meth c H locs cells slots kf nf D A al0 al ws ls st' F hk hn hkR hnR hle hP hD hS hw hl hst
  obtain ⟨hx, hb, hr, hml, hown, hts, hlocks, hin, hfl, hA, hK, hE, hSc, hlv, hloc, hxt⟩ := id F
  exact k9 p l e R s m args below meth c H locs cells slots kf nf D A al0 al ws ls _ F hk hn hkR hnR hle hP hD hS hw (hl.sub g) hst
theorem sw_bud {k2 n2 : Nat} (g1 : k2 ≤ k) (g2 : n2 ≤ n) (k9 : SW y cc nL ret xt lv sc (pc) (lo) (st) (N) (aw) (k2) (n2) o N' aw') : SW y cc nL ret xt lv sc (pc) (lo) (st) (N) (aw) (k) (n) o N' aw' := by
  intro p l e R s m args below meth c H locs cells slots kf nf D A al0 al ws ls st' F hk hn hkR hnR hle hP hD hS hw hl hst
  obtain ⟨hx, hb, hr, hml, hown, hts, hlocks, hin, hfl, hA, hK, hE, hSc, hlv, hloc, hxt⟩ := id F
  exact k9 p l e R s m args below meth c H locs cells slots kf nf D A al0 al ws ls _ F (by omega) (by omega) hkR hnR hle hP hD hS hw hl hst
theorem sw_ireturn {x : Int32} (hret : ret = some .int) (d : decode cc pc = .ok (.ireturn, 1)) : SW y cc nL ret xt lv sc pc lo ([.int x]) N aw k n (.inl (some (.int x))) N aw := by
  intro p l e R s m args below meth c H locs cells slots kf nf D A al0 al ws ls st' F hk hn hkR hnR hle hP hD hS hw hl hst
  obtain ⟨hx, hb, hr, hml, hown, hts, hlocks, hin, hfl, hA, hK, hE, hSc, hlv, hloc, hxt⟩ := id F
  obtain ⟨w0, r0, rfl, h0, hst⟩ := hst
  cases h0; cases hst
  subst hret
  exact W.widen (k := kf) (n := nf) (by omega) (by omega) (vx_ret (W.iret hx hb hr (fun t ht hW => ⟨⟨some (.int x), some (.int x), al, ws, rfl, rfl, ⟨_, rfl, rfl⟩, hle, by rw [ht]; exact hP, va_K.moved hW.alike hK, hD, am_w.moved hW.alike hw⟩, hS.F ht⟩) hS.2.2 d hlocks))
theorem sw_lreturn {x : Int64} (hret : ret = some .long) (d : decode cc pc = .ok (.lreturn, 1)) : SW y cc nL ret xt lv sc pc lo ([.long x]) N aw k n (.inl (some (.long x))) N aw := by
  intro p l e R s m args below meth c H locs cells slots kf nf D A al0 al ws ls st' F hk hn hkR hnR hle hP hD hS hw hl hst
  obtain ⟨hx, hb, hr, hml, hown, hts, hlocks, hin, hfl, hA, hK, hE, hSc, hlv, hloc, hxt⟩ := id F
  obtain ⟨w0, r0, rfl, h0, hst⟩ := hst
  cases h0; cases hst
  subst hret
  exact W.widen (k := kf) (n := nf) (by omega) (by omega) (vx_ret (W.lret hx hb hr (fun t ht hW => ⟨⟨some (.long x), some (.long x), al, ws, rfl, rfl, ⟨_, rfl, rfl⟩, hle, by rw [ht]; exact hP, va_K.moved hW.alike hK, hD, am_w.moved hW.alike hw⟩, hS.F ht⟩) hS.2.2 d hlocks))
theorem sw_dreturn {x : UInt64} (hret : ret = some .double) (d : decode cc pc = .ok (.dreturn, 1)) : SW y cc nL ret xt lv sc pc lo ([.double x]) N aw k n (.inl (some (.double x))) N aw := by
  intro p l e R s m args below meth c H locs cells slots kf nf D A al0 al ws ls st' F hk hn hkR hnR hle hP hD hS hw hl hst
  obtain ⟨hx, hb, hr, hml, hown, hts, hlocks, hin, hfl, hA, hK, hE, hSc, hlv, hloc, hxt⟩ := id F
  obtain ⟨w0, r0, rfl, h0, hst⟩ := hst
  cases h0; cases hst
  subst hret
  exact W.widen (k := kf) (n := nf) (by omega) (by omega) (vx_ret (W.dret hx hb hr (fun t ht hW => ⟨⟨some (.double x), some (.double x), al, ws, rfl, rfl, ⟨_, rfl, rfl⟩, hle, by rw [ht]; exact hP, va_K.moved hW.alike hK, hD, am_w.moved hW.alike hw⟩, hS.F ht⟩) hS.2.2 d hlocks))
theorem sw_zreturn {x : Int32} {rt : FieldType} (hret : ret = some rt) (hnar : narrow rt (.int x) = .int x) (d : decode cc pc = .ok (.ireturn, 1)) : SW y cc nL ret xt lv sc pc lo ([.int x]) N aw k n (.inl (some (.int x))) N aw := by
  intro p l e R s m args below meth c H locs cells slots kf nf D A al0 al ws ls st' F hk hn hkR hnR hle hP hD hS hw hl hst
  obtain ⟨hx, hb, hr, hml, hown, hts, hlocks, hin, hfl, hA, hK, hE, hSc, hlv, hloc, hxt⟩ := id F
  obtain ⟨w0, r0, rfl, h0, hst⟩ := hst
  cases h0; cases hst
  subst hret
  exact W.widen (k := kf) (n := nf) (by omega) (by omega) (vx_ret (W.zret hx hb hr hnar (fun t ht hW => ⟨⟨some (.int x), some (.int x), al, ws, rfl, rfl, ⟨_, rfl, rfl⟩, hle, by rw [ht]; exact hP, va_K.moved hW.alike hK, hD, am_w.moved hW.alike hw⟩, hS.F ht⟩) hS.2.2 d hlocks))
theorem sw_return (hret : ret = none) (d : decode cc pc = .ok (.return_, 1)) : SW y cc nL ret xt lv sc pc lo ([]) N aw k n (.inl none) N aw := by
  intro p l e R s m args below meth c H locs cells slots kf nf D A al0 al ws ls st' F hk hn hkR hnR hle hP hD hS hw hl hst
  obtain ⟨hx, hb, hr, hml, hown, hts, hlocks, hin, hfl, hA, hK, hE, hSc, hlv, hloc, hxt⟩ := id F
  cases hst
  subst hret
  exact W.widen (k := kf) (n := nf) (by omega) (by omega) (vx_ret (W.vret hx hb hr (fun t ht hW => ⟨⟨none, none, al, ws, rfl, rfl, rfl, hle, by rw [ht]; exact hP, va_K.moved hW.alike hK, hD, am_w.moved hW.alike hw⟩, hS.F ht⟩) hS.2.2 d hlocks))
theorem sw_areturn {x : Nat} {rt : FieldType} (hret : ret = some rt) (hrt : (∃ n, rt = .object n) ∨ ∃ t, rt = .array t) (d : decode cc pc = .ok (.areturn, 1)) : SW y cc nL ret xt lv sc pc lo ([.ref x]) N aw k n (.inl (some (.ref x))) N aw := by
  intro p l e R s m args below meth c H locs cells slots kf nf D A al0 al ws ls st' F hk hn hkR hnR hle hP hD hS hw hl hst
  obtain ⟨hx, hb, hr, hml, hown, hts, hlocks, hin, hfl, hA, hK, hE, hSc, hlv, hloc, hxt⟩ := id F
  obtain ⟨w0, r0, rfl, h0, hst⟩ := hst
  obtain ⟨a, g1, rfl⟩ := h0
  cases hst
  subst hret
  exact W.widen (k := kf) (n := nf) (by omega) (by omega) (vx_ret (W.aret hx hb hr hrt (Or.inr ⟨a, rfl⟩) (fun t ht hW => ⟨⟨some (.ref x), some (.ref a), al, ws, rfl, rfl, ⟨_, rfl, a, g1, rfl⟩, hle, by rw [ht]; exact hP, va_K.moved hW.alike hK, hD, am_w.moved hW.alike hw⟩, hS.F ht⟩) hS.2.2 d hlocks))
end AMB
end
section
/-! THE ABSTRACT MACHINE, part 3: fields, arrays, new cells, statics (own work, written by wip/tools/mk_am3.py) -/
section AMC
variable {y : MethodName} {cc : ByteArray} {nL : Nat} {ret : Option FieldType} {xt : List (Nat × Nat × Nat × Nat)} {lv : Nat} {sc : Option (Nat × (Nat → Int32))} {pc : Nat} {lo : List (Option Value)} {st : List Value} {N : Nat} {aw : Nat → am_E} {k n : Nat} {o : Option Value ⊕ String} {N' : Nat} {aw' : Nat → am_E}
theorem am_cell {s : State} {al : am_A} {N : Nat} {aw : Nat → am_E} {ws : va_W} (hw : am_w s al N aw ws) {q a : Nat} (hq : q < N) (ha : al q = some a) : ∃ y, ws[q]? = some (a, y) ∧ am_e s al (aw q) y := by
  obtain ⟨a2, y, h1, h2, h3⟩ := hw.2.2 q hq
  cases Option.some.inj (ha.symm.trans h2)
  exact ⟨y, h1, h3⟩
theorem am_K1 {D : va_G} {s : State} (hK : va_K D vwCl [] s) {cA : ClassId} {ty : FieldType} (h : am_KA s cA ty) : va_K D vwCl [(cA, ty)] s := by
  refine ⟨hK.1, fun k q hk => ?_⟩
  cases k with
  | zero => cases hk; exact h
  | succ k => simp at hk
theorem am_K2 {D : va_G} {s : State} (hK : va_K D vwCl [] s) {cA cB : ClassId} {ty ty2 : FieldType} (h : am_KA s cA ty) (h2 : am_KA s cB ty2) : va_K D vwCl [(cA, ty), (cB, ty2)] s := by
  refine ⟨hK.1, fun k q hk => ?_⟩
  match k, hk with
  | 0, hk => cases hk; exact h
  | 1, hk => cases hk; exact h2
  | k + 2, hk => simp at hk
/-- a class's rows: what the kit asks of it -/
def am_Cl (ci : Nat) (C : String) (T : u_T) (NF : Nat) (ty0 : Nat → FieldType) : Prop := vwCl[ci]? = some (C, T, NF) ∧ (∀ w ∈ u_ws C T NF, w ∈ am_W) ∧ (∀ k, k < NF → parseFieldDescriptor (T k).2.2.1 = some (ty0 k)) ∧ (∀ a, a < NF → ∀ b, b < NF → a ≠ b → (T a).2.1 ≠ (T b).2.1)
/-- a field's place in a constant pool -/
def am_F (own : String) (idx ci j : Nat) : Prop := ∃ (C : String) (T : u_T) (NF : Nat) (ty0 : Nat → FieldType), am_Cl ci C T NF ty0 ∧ j < NF ∧ Cond.fieldLink own idx (T j).1 (T j).2.1 (T j).2.2.1 ∈ am_W
def am_FP (own : String) (idx ci j : Nat) (ty : FieldType) (fin : Bool) : Prop := ∃ (C : String) (T : u_T) (NF : Nat) (ty0 : Nat → FieldType), am_Cl ci C T NF ty0 ∧ j < NF ∧ Cond.fieldLink own idx (T j).1 (T j).2.1 (T j).2.2.1 ∈ am_W ∧ (T j).2.2.2 = fin ∧ parseFieldDescriptor (T j).2.2.1 = some ty ∧ (fin = true → (T j).1 = own)
theorem am_FP.F {own : String} {idx ci j : Nat} {ty : FieldType} {fin : Bool} (h : am_FP own idx ci j ty fin) : am_F own idx ci j := by
  obtain ⟨C, T, NF, ty0, h1, h2, h3, -⟩ := h
  exact ⟨C, T, NF, ty0, h1, h2, h3⟩
def am_Nw (own : String) (idx ci : Nat) (fs : List Value) (NF : Nat) : Prop := ∃ (C : String) (T : u_T) (ty0 : Nat → FieldType), am_Cl ci C T NF ty0 ∧ Cond.classLink own idx C ∈ am_W ∧ Cond.instantiable C NF ∈ am_W ∧ Cond.initialized C ∈ am_W ∧ ∀ j, j < NF → defaultValue (ty0 j) = vp_V fs j

theorem sw_get {idx ci j q : Nat} {fs : List Value} {v : Value} (G : am_F y.cls idx ci j) (hq : q < N) (he : aw q = am_O ci fs) (hv : fs[j]? = some v) (d : decode cc pc = .ok (.getfield idx, 3))
    (k9 : SW y cc nL ret xt lv sc (pc + 3) (lo) (v :: st) (N) (aw) (k) (n) o N' aw') : SW y cc nL ret xt lv sc (pc) (lo) (.ref q :: st) (N) (aw) (k) (n) o N' aw' := by
  intro p l e R s m args below meth c H locs cells slots kf nf D A al0 al ws ls st' F hk hn hkR hnR hle hP hD hS hw hl hst
  obtain ⟨hx, hb, hr, hml, hown, hts, hlocks, hin, hfl, hA, hK, hE, hSc, hlv, hloc, hxt⟩ := id F
  obtain ⟨w0, r0, rfl, ⟨a, g1, rfl⟩, hst⟩ := hst
  obtain ⟨z, h1, h2⟩ := am_cell hw hq g1
  rw [he] at h2
  obtain ⟨fs', rfl, h3⟩ := h2
  obtain ⟨v', h4, h5⟩ := h3.get hv
  obtain ⟨C, T, NF, ty0, ⟨c1, c2, c3, c4⟩, c5, c6⟩ := G
  exact va_get hx hb hts c2 hown hK hP q h1 c1 j c5 (hts _ c6) (fun _ h9 => h9) h4 d (k9 p l e R s m args below meth c H locs cells slots kf nf D A al0 al ws ls _ F hk hn hkR hnR hle hP hD hS hw hl ⟨_, _, rfl, h5, hst⟩)
theorem sw_putI {idx ci j q : Nat} {fs : List Value} {x : Int32} (G : am_FP y.cls idx ci j .int false) (hq : q < N) (he : aw q = am_O ci fs) (hl9 : j < fs.length) (d : decode cc pc = .ok (.putfield idx, 3))
    (k9 : SW y cc nL ret xt lv sc (pc + 3) (lo) (st) (N) (am_up aw q (am_O ci (fs.set j (.int x)))) (k) (n) o N' aw') : SW y cc nL ret xt lv sc (pc) (lo) (.int x :: .ref q :: st) (N) (aw) (k) (n) o N' aw' := by
  intro p l e R s m args below meth c H locs cells slots kf nf D A al0 al ws ls st' F hk hn hkR hnR hle hP hD hS hw hl hst
  obtain ⟨hx, hb, hr, hml, hown, hts, hlocks, hin, hfl, hA, hK, hE, hSc, hlv, hloc, hxt⟩ := id F
  obtain ⟨w1, r1, rfl, g9, hst⟩ := hst
  cases g9
  obtain ⟨w0, r0, rfl, ⟨a, g1, rfl⟩, hst⟩ := hst
  obtain ⟨z, h1, h2⟩ := am_cell hw hq g1
  rw [he] at h2
  obtain ⟨fs', rfl, h3⟩ := h2
  obtain ⟨C, T, NF, ty0, ⟨c1, c2, c3, c4⟩, c5, c6, c7, c8, -⟩ := G
  exact va_put hx hb hts c2 ty0 c3 c4 hown hK hP hD hS q h1 c1 j c5 (hts _ c6) (fun _ h9 => h9) c7 c8 rfl rfl (by rw [h3.len]; exact hl9) d (fun H1 locs1 hP1 hD1 hS1 => k9 p l e R s m args below meth c H1 locs1 cells slots kf nf D A al0 al _ ls _ F hk hn hkR hnR hle hP1 hD1 hS1 (hw.set hq g1 (x := am_O ci (fs.set j (.int x))) ⟨_, rfl, h3.set (v := .int x) rfl⟩) hl hst)
theorem sw_putR {idx ci j q r : Nat} {fs : List Value} {ty : FieldType} (hi : y.name = "<init>") (G : am_FP y.cls idx ci j ty true) (hnr : ∀ a, narrow ty (.ref a) = .ref a ∧ fits ty (.ref a) = true) (hq : q < N) (he : aw q = am_O ci fs) (hl9 : j < fs.length) (d : decode cc pc = .ok (.putfield idx, 3))
    (k9 : SW y cc nL ret xt lv sc (pc + 3) (lo) (st) (N) (am_up aw q (am_O ci (fs.set j (.ref r)))) (k) (n) o N' aw') : SW y cc nL ret xt lv sc (pc) (lo) (.ref r :: .ref q :: st) (N) (aw) (k) (n) o N' aw' := by
  intro p l e R s m args below meth c H locs cells slots kf nf D A al0 al ws ls st' F hk hn hkR hnR hle hP hD hS hw hl hst
  obtain ⟨hx, hb, hr, hml, hown, hts, hlocks, hin, hfl, hA, hK, hE, hSc, hlv, hloc, hxt⟩ := id F
  obtain ⟨w1, r1, rfl, ⟨a9, g9, rfl⟩, hst⟩ := hst
  obtain ⟨w0, r0, rfl, ⟨a, g1, rfl⟩, hst⟩ := hst
  obtain ⟨z, h1, h2⟩ := am_cell hw hq g1
  rw [he] at h2
  obtain ⟨fs', rfl, h3⟩ := h2
  obtain ⟨C, T, NF, ty0, ⟨c1, c2, c3, c4⟩, c5, c6, c7, c8, c9⟩ := G
  exact va_putF hx hb hts c2 ty0 c3 c4 hown hK hP hD hS q h1 c1 j c5 (hts _ c6) (fun _ h9 => h9) c7 (hin hi) (c9 rfl) c8 (hnr _).1 (hnr _).2 (by rw [h3.len]; exact hl9) d (fun H1 locs1 hP1 hD1 hS1 => k9 p l e R s m args below meth c H1 locs1 cells slots kf nf D A al0 al _ ls _ F hk hn hkR hnR hle hP1 hD1 hS1 (hw.set hq g1 (x := am_O ci (fs.set j (.ref r))) ⟨_, rfl, h3.set (v := .ref r) ⟨_, g9, rfl⟩⟩) hl hst)
theorem sw_iald {q nn : Nat} {f : Nat → Int32} {i : Int32} (j : Nat) (hq : q < N) (he : aw q = am_I .int nn f) (hi : i = nI j) (hj : j < nn) (hn9 : nn < 2 ^ 31) (d : decode cc pc = .ok (.iaload, 1))
    (k9 : SW y cc nL ret xt lv sc (pc + 1) (lo) (.int (f j) :: st) (N) (aw) (k) (n) o N' aw') : SW y cc nL ret xt lv sc (pc) (lo) (.int i :: .ref q :: st) (N) (aw) (k) (n) o N' aw' := by
  intro p l e R s m args below meth c H locs cells slots kf nf D A al0 al ws ls st' F hk hn hkR hnR hle hP hD hS hw hl hst
  obtain ⟨hx, hb, hr, hml, hown, hts, hlocks, hin, hfl, hA, hK, hE, hSc, hlv, hloc, hxt⟩ := id F
  obtain ⟨w1, r1, rfl, g9, hst⟩ := hst
  cases g9
  obtain ⟨w0, r0, rfl, ⟨a, g1, rfl⟩, hst⟩ := hst
  obtain ⟨z, h1, h2⟩ := am_cell hw hq g1
  rw [he] at h2
  obtain ⟨cA, rfl, h3⟩ := h2
  subst hi
  refine va_iald hx hb (am_K1 hK h3) hP q 0 h1 rfl (vp_in_nI hj hn9) d ?_
  rw [nI_clamp (Nat.lt_trans hj hn9)]
  exact k9 p l e R s m args below meth c H locs cells slots kf nf D A al0 al ws ls _ F hk hn hkR hnR hle hP hD hS hw hl ⟨_, _, rfl, rfl, hst⟩
theorem sw_iast {q nn : Nat} {f : Nat → Int32} {i x : Int32} (j : Nat) (hq : q < N) (he : aw q = am_I .int nn f) (hi : i = nI j) (hj : j < nn) (hn9 : nn < 2 ^ 31) (d : decode cc pc = .ok (.iastore, 1))
    (k9 : SW y cc nL ret xt lv sc (pc + 1) (lo) (st) (N) (am_up aw q (am_I .int nn (upd f j x))) (k) (n) o N' aw') : SW y cc nL ret xt lv sc (pc) (lo) (.int x :: .int i :: .ref q :: st) (N) (aw) (k) (n) o N' aw' := by
  intro p l e R s m args below meth c H locs cells slots kf nf D A al0 al ws ls st' F hk hn hkR hnR hle hP hD hS hw hl hst
  obtain ⟨hx, hb, hr, hml, hown, hts, hlocks, hin, hfl, hA, hK, hE, hSc, hlv, hloc, hxt⟩ := id F
  obtain ⟨w2, r2, rfl, g8, hst⟩ := hst
  cases g8
  obtain ⟨w1, r1, rfl, g9, hst⟩ := hst
  cases g9
  obtain ⟨w0, r0, rfl, ⟨a, g1, rfl⟩, hst⟩ := hst
  obtain ⟨z, h1, h2⟩ := am_cell hw hq g1
  rw [he] at h2
  obtain ⟨cA, rfl, h3⟩ := h2
  subst hi
  refine va_iast hx hb (am_K1 hK h3) hP hD hS q 0 h1 rfl (vp_in_nI hj hn9) d (fun H1 locs1 hP1 hD1 hS1 => ?_)
  rw [nI_clamp (Nat.lt_trans hj hn9)] at hP1 hD1
  exact k9 p l e R s m args below meth c H1 locs1 cells slots kf nf D A al0 al _ ls _ F hk hn hkR hnR hle hP1 hD1 hS1 (hw.set hq g1 (x := am_I .int nn (upd f j x)) ⟨cA, rfl, h3⟩) hl hst
theorem sw_zald {q nn : Nat} {f : Nat → Int32} {i : Int32} (j : Nat) (hq : q < N) (he : aw q = am_I .boolean nn f) (hi : i = nI j) (hj : j < nn) (hn9 : nn < 2 ^ 31) (d : decode cc pc = .ok (.baload, 1))
    (k9 : SW y cc nL ret xt lv sc (pc + 1) (lo) (.int (f j) :: st) (N) (aw) (k) (n) o N' aw') : SW y cc nL ret xt lv sc (pc) (lo) (.int i :: .ref q :: st) (N) (aw) (k) (n) o N' aw' := by
  intro p l e R s m args below meth c H locs cells slots kf nf D A al0 al ws ls st' F hk hn hkR hnR hle hP hD hS hw hl hst
  obtain ⟨hx, hb, hr, hml, hown, hts, hlocks, hin, hfl, hA, hK, hE, hSc, hlv, hloc, hxt⟩ := id F
  obtain ⟨w1, r1, rfl, g9, hst⟩ := hst
  cases g9
  obtain ⟨w0, r0, rfl, ⟨a, g1, rfl⟩, hst⟩ := hst
  obtain ⟨z, h1, h2⟩ := am_cell hw hq g1
  rw [he] at h2
  obtain ⟨cA, rfl, h3⟩ := h2
  subst hi
  refine va_zald hx hb (am_K1 hK h3) hP q 0 h1 rfl (vp_in_nI hj hn9) d ?_
  rw [nI_clamp (Nat.lt_trans hj hn9)]
  exact k9 p l e R s m args below meth c H locs cells slots kf nf D A al0 al ws ls _ F hk hn hkR hnR hle hP hD hS hw hl ⟨_, _, rfl, rfl, hst⟩
theorem sw_zast {q nn : Nat} {f : Nat → Int32} {i x : Int32} (j : Nat) (hq : q < N) (he : aw q = am_I .boolean nn f) (hi : i = nI j) (hj : j < nn) (hn9 : nn < 2 ^ 31) (hnar : vp_nar .boolean x = x) (d : decode cc pc = .ok (.bastore, 1))
    (k9 : SW y cc nL ret xt lv sc (pc + 1) (lo) (st) (N) (am_up aw q (am_I .boolean nn (upd f j x))) (k) (n) o N' aw') : SW y cc nL ret xt lv sc (pc) (lo) (.int x :: .int i :: .ref q :: st) (N) (aw) (k) (n) o N' aw' := by
  intro p l e R s m args below meth c H locs cells slots kf nf D A al0 al ws ls st' F hk hn hkR hnR hle hP hD hS hw hl hst
  obtain ⟨hx, hb, hr, hml, hown, hts, hlocks, hin, hfl, hA, hK, hE, hSc, hlv, hloc, hxt⟩ := id F
  obtain ⟨w2, r2, rfl, g8, hst⟩ := hst
  cases g8
  obtain ⟨w1, r1, rfl, g9, hst⟩ := hst
  cases g9
  obtain ⟨w0, r0, rfl, ⟨a, g1, rfl⟩, hst⟩ := hst
  obtain ⟨z, h1, h2⟩ := am_cell hw hq g1
  rw [he] at h2
  obtain ⟨cA, rfl, h3⟩ := h2
  subst hi
  refine va_zast hx hb (am_K1 hK h3) hP hD hS q 0 h1 rfl (vp_in_nI hj hn9) d (fun H1 locs1 hP1 hD1 hS1 => ?_)
  rw [nI_clamp (Nat.lt_trans hj hn9), hnar] at hP1 hD1
  exact k9 p l e R s m args below meth c H1 locs1 cells slots kf nf D A al0 al _ ls _ F hk hn hkR hnR hle hP1 hD1 hS1 (hw.set hq g1 (x := am_I .boolean nn (upd f j x)) ⟨cA, rfl, h3⟩) hl hst
theorem sw_cald {q nn : Nat} {f : Nat → Int32} {i : Int32} (j : Nat) (hq : q < N) (he : aw q = am_I .char nn f) (hi : i = nI j) (hj : j < nn) (hn9 : nn < 2 ^ 31) (d : decode cc pc = .ok (.caload, 1))
    (k9 : SW y cc nL ret xt lv sc (pc + 1) (lo) (.int (f j) :: st) (N) (aw) (k) (n) o N' aw') : SW y cc nL ret xt lv sc (pc) (lo) (.int i :: .ref q :: st) (N) (aw) (k) (n) o N' aw' := by
  intro p l e R s m args below meth c H locs cells slots kf nf D A al0 al ws ls st' F hk hn hkR hnR hle hP hD hS hw hl hst
  obtain ⟨hx, hb, hr, hml, hown, hts, hlocks, hin, hfl, hA, hK, hE, hSc, hlv, hloc, hxt⟩ := id F
  obtain ⟨w1, r1, rfl, g9, hst⟩ := hst
  cases g9
  obtain ⟨w0, r0, rfl, ⟨a, g1, rfl⟩, hst⟩ := hst
  obtain ⟨z, h1, h2⟩ := am_cell hw hq g1
  rw [he] at h2
  obtain ⟨cA, rfl, h3⟩ := h2
  subst hi
  refine va_cald hx hb (am_K1 hK h3) hP q 0 h1 rfl (vp_in_nI hj hn9) d ?_
  rw [nI_clamp (Nat.lt_trans hj hn9)]
  exact k9 p l e R s m args below meth c H locs cells slots kf nf D A al0 al ws ls _ F hk hn hkR hnR hle hP hD hS hw hl ⟨_, _, rfl, rfl, hst⟩
theorem sw_cast {q nn : Nat} {f : Nat → Int32} {i x : Int32} (j : Nat) (hq : q < N) (he : aw q = am_I .char nn f) (hi : i = nI j) (hj : j < nn) (hn9 : nn < 2 ^ 31) (hnar : vp_nar .char x = x) (d : decode cc pc = .ok (.castore, 1))
    (k9 : SW y cc nL ret xt lv sc (pc + 1) (lo) (st) (N) (am_up aw q (am_I .char nn (upd f j x))) (k) (n) o N' aw') : SW y cc nL ret xt lv sc (pc) (lo) (.int x :: .int i :: .ref q :: st) (N) (aw) (k) (n) o N' aw' := by
  intro p l e R s m args below meth c H locs cells slots kf nf D A al0 al ws ls st' F hk hn hkR hnR hle hP hD hS hw hl hst
  obtain ⟨hx, hb, hr, hml, hown, hts, hlocks, hin, hfl, hA, hK, hE, hSc, hlv, hloc, hxt⟩ := id F
  obtain ⟨w2, r2, rfl, g8, hst⟩ := hst
  cases g8
  obtain ⟨w1, r1, rfl, g9, hst⟩ := hst
  cases g9
  obtain ⟨w0, r0, rfl, ⟨a, g1, rfl⟩, hst⟩ := hst
  obtain ⟨z, h1, h2⟩ := am_cell hw hq g1
  rw [he] at h2
  obtain ⟨cA, rfl, h3⟩ := h2
  subst hi
  refine va_cast hx hb (am_K1 hK h3) hP hD hS q 0 h1 rfl (vp_in_nI hj hn9) d (fun H1 locs1 hP1 hD1 hS1 => ?_)
  rw [nI_clamp (Nat.lt_trans hj hn9), hnar] at hP1 hD1
  exact k9 p l e R s m args below meth c H1 locs1 cells slots kf nf D A al0 al _ ls _ F hk hn hkR hnR hle hP1 hD1 hS1 (hw.set hq g1 (x := am_I .char nn (upd f j x)) ⟨cA, rfl, h3⟩) hl hst
theorem sw_lald {q nn : Nat} {f : Nat → Int64} {i : Int32} (j : Nat) (hq : q < N) (he : aw q = am_J nn f) (hi : i = nI j) (hj : j < nn) (hn9 : nn < 2 ^ 31) (d : decode cc pc = .ok (.laload, 1))
    (k9 : SW y cc nL ret xt lv sc (pc + 1) (lo) (.long (f j) :: st) (N) (aw) (k) (n) o N' aw') : SW y cc nL ret xt lv sc (pc) (lo) (.int i :: .ref q :: st) (N) (aw) (k) (n) o N' aw' := by
  intro p l e R s m args below meth c H locs cells slots kf nf D A al0 al ws ls st' F hk hn hkR hnR hle hP hD hS hw hl hst
  obtain ⟨hx, hb, hr, hml, hown, hts, hlocks, hin, hfl, hA, hK, hE, hSc, hlv, hloc, hxt⟩ := id F
  obtain ⟨w1, r1, rfl, g9, hst⟩ := hst
  cases g9
  obtain ⟨w0, r0, rfl, ⟨a, g1, rfl⟩, hst⟩ := hst
  obtain ⟨z, h1, h2⟩ := am_cell hw hq g1
  rw [he] at h2
  obtain ⟨cA, rfl, h3⟩ := h2
  subst hi
  refine va_lald hx hb (am_K1 hK h3) hP q 0 h1 rfl (vp_in_nI hj hn9) d ?_
  rw [nI_clamp (Nat.lt_trans hj hn9)]
  exact k9 p l e R s m args below meth c H locs cells slots kf nf D A al0 al ws ls _ F hk hn hkR hnR hle hP hD hS hw hl ⟨_, _, rfl, rfl, hst⟩
theorem sw_last {q nn : Nat} {f : Nat → Int64} {i : Int32} {x : Int64} (j : Nat) (hq : q < N) (he : aw q = am_J nn f) (hi : i = nI j) (hj : j < nn) (hn9 : nn < 2 ^ 31) (d : decode cc pc = .ok (.lastore, 1))
    (k9 : SW y cc nL ret xt lv sc (pc + 1) (lo) (st) (N) (am_up aw q (am_J nn (vp_updL f j x))) (k) (n) o N' aw') : SW y cc nL ret xt lv sc (pc) (lo) (.long x :: .int i :: .ref q :: st) (N) (aw) (k) (n) o N' aw' := by
  intro p l e R s m args below meth c H locs cells slots kf nf D A al0 al ws ls st' F hk hn hkR hnR hle hP hD hS hw hl hst
  obtain ⟨hx, hb, hr, hml, hown, hts, hlocks, hin, hfl, hA, hK, hE, hSc, hlv, hloc, hxt⟩ := id F
  obtain ⟨w2, r2, rfl, g8, hst⟩ := hst
  cases g8
  obtain ⟨w1, r1, rfl, g9, hst⟩ := hst
  cases g9
  obtain ⟨w0, r0, rfl, ⟨a, g1, rfl⟩, hst⟩ := hst
  obtain ⟨z, h1, h2⟩ := am_cell hw hq g1
  rw [he] at h2
  obtain ⟨cA, rfl, h3⟩ := h2
  subst hi
  refine va_last hx hb (am_K1 hK h3) hP hD hS q 0 h1 rfl (vp_in_nI hj hn9) d (fun H1 locs1 hP1 hD1 hS1 => ?_)
  rw [nI_clamp (Nat.lt_trans hj hn9)] at hP1 hD1
  exact k9 p l e R s m args below meth c H1 locs1 cells slots kf nf D A al0 al _ ls _ F hk hn hkR hnR hle hP1 hD1 hS1 (hw.set hq g1 (x := am_J nn (vp_updL f j x)) ⟨cA, rfl, h3⟩) hl hst
theorem sw_aald {q nn r : Nat} {C : String} {f : Nat → Option Nat} {i : Int32} (j : Nat) (hq : q < N) (he : aw q = am_R C nn f) (hi : i = nI j) (hj : j < nn) (hn9 : nn < 2 ^ 31) (hf : f j = some r) (d : decode cc pc = .ok (.aaload, 1))
    (k9 : SW y cc nL ret xt lv sc (pc + 1) (lo) (.ref r :: st) (N) (aw) (k) (n) o N' aw') : SW y cc nL ret xt lv sc (pc) (lo) (.int i :: .ref q :: st) (N) (aw) (k) (n) o N' aw' := by
  intro p l e R s m args below meth c H locs cells slots kf nf D A al0 al ws ls st' F hk hn hkR hnR hle hP hD hS hw hl hst
  obtain ⟨hx, hb, hr, hml, hown, hts, hlocks, hin, hfl, hA, hK, hE, hSc, hlv, hloc, hxt⟩ := id F
  obtain ⟨w1, r1, rfl, g9, hst⟩ := hst
  cases g9
  obtain ⟨w0, r0, rfl, ⟨a, g1, rfl⟩, hst⟩ := hst
  obtain ⟨z, h1, h2⟩ := am_cell hw hq g1
  rw [he] at h2
  obtain ⟨cA, f', rfl, h3, h4⟩ := h2
  subst hi
  obtain ⟨a9, g8, g7⟩ := (h4 j hj).2 r hf
  refine va_aldq hx hb (am_K1 hK h3) hP q 0 h1 rfl (vp_in_nI hj hn9) d ?_
  rw [nI_clamp (Nat.lt_trans hj hn9), g7]
  exact k9 p l e R s m args below meth c H locs cells slots kf nf D A al0 al ws ls _ F hk hn hkR hnR hle hP hD hS hw hl ⟨_, _, rfl, ⟨a9, g8, rfl⟩, hst⟩
theorem sw_aast {q nn r ci NF : Nat} {C : String} {T : u_T} {fs : List Value} {f : Nat → Option Nat} {i : Int32} (j : Nat) (hq : q < N) (he : aw q = am_R C nn f) (hr9 : r < N) (her : aw r = am_O ci fs) (hc : vwCl[ci]? = some (C, T, NF)) (hi : i = nI j) (hj : j < nn) (hn9 : nn < 2 ^ 31) (d : decode cc pc = .ok (.aastore, 1))
    (k9 : SW y cc nL ret xt lv sc (pc + 1) (lo) (st) (N) (am_up aw q (am_R C nn (va_up f j (some r)))) (k) (n) o N' aw') : SW y cc nL ret xt lv sc (pc) (lo) (.ref r :: .int i :: .ref q :: st) (N) (aw) (k) (n) o N' aw' := by
  intro p l e R s m args below meth c H locs cells slots kf nf D A al0 al ws ls st' F hk hn hkR hnR hle hP hD hS hw hl hst
  obtain ⟨hx, hb, hr, hml, hown, hts, hlocks, hin, hfl, hA, hK, hE, hSc, hlv, hloc, hxt⟩ := id F
  obtain ⟨w2, r2, rfl, ⟨a8, g8, rfl⟩, hst⟩ := hst
  obtain ⟨w1, r1, rfl, g9, hst⟩ := hst
  cases g9
  obtain ⟨w0, r0, rfl, ⟨a, g1, rfl⟩, hst⟩ := hst
  obtain ⟨z, h1, h2⟩ := am_cell hw hq g1
  rw [he] at h2
  obtain ⟨cA, f', rfl, h3, h4⟩ := h2
  obtain ⟨z2, h5, h6⟩ := am_cell hw hr9 g8
  rw [her] at h6
  obtain ⟨fs', rfl, h7⟩ := h6
  subst hi
  refine va_astq (r := (C, T, NF)) hx hb (am_K1 hK h3) hP hD hS q 0 r ci h1 rfl h5 hc (vp_in_nI hj hn9) d (fun H1 locs1 hP1 hD1 hS1 => ?_)
  rw [nI_clamp (Nat.lt_trans hj hn9)] at hP1 hD1
  refine k9 p l e R s m args below meth c H1 locs1 cells slots kf nf D A al0 al _ ls _ F hk hn hkR hnR hle hP1 hD1 hS1 (hw.set hq g1 (x := am_R C nn (va_up f j (some r))) ⟨cA, _, rfl, h3, fun i9 hi9 => ?_⟩) hl hst
  by_cases e9 : i9 = j
  · subst e9
    refine ⟨fun q9 => ?_, fun k9 hk9 => ⟨a8, ?_, ?_⟩⟩
    · simp [va_up] at q9
    · simp [va_up] at hk9
      rw [← hk9]
      exact g8
    · simp [va_up]
  · simp only [va_up, if_neg e9]
    exact h4 i9 hi9
theorem sw_alen {q nn : Nat} {f : Nat → Int32} {ty : FieldType} (hq : q < N) (he : aw q = am_I ty nn f) (d : decode cc pc = .ok (.arraylength, 1))
    (k9 : SW y cc nL ret xt lv sc (pc + 1) (lo) (.int (nI nn) :: st) (N) (aw) (k) (n) o N' aw') : SW y cc nL ret xt lv sc (pc) (lo) (.ref q :: st) (N) (aw) (k) (n) o N' aw' := by
  intro p l e R s m args below meth c H locs cells slots kf nf D A al0 al ws ls st' F hk hn hkR hnR hle hP hD hS hw hl hst
  obtain ⟨hx, hb, hr, hml, hown, hts, hlocks, hin, hfl, hA, hK, hE, hSc, hlv, hloc, hxt⟩ := id F
  obtain ⟨w0, r0, rfl, ⟨a, g1, rfl⟩, hst⟩ := hst
  obtain ⟨z, h1, h2⟩ := am_cell hw hq g1
  rw [he] at h2
  obtain ⟨cA, rfl, h3⟩ := h2
  exact va_alen (v := nI nn) hx hb (am_K1 hK h3) hP q 0 h1 rfl rfl d (k9 p l e R s m args below meth c H locs cells slots kf nf D A al0 al ws ls _ F hk hn hkR hnR hle hP hD hS hw hl ⟨_, _, rfl, rfl, hst⟩)
def am_cpW (own : String) (idx : Nat) : Prop := Cond.methodLink own idx arraycopyName ∈ am_W ∧ Cond.native arraycopyName ∈ am_W ∧ Cond.static arraycopyName ∈ am_W ∧ Cond.initialized "java/lang/System" ∈ am_W
theorem sw_copy {idx q0 q1 n0 n1 : Nat} {f g : Nat → Int32} {sp dp c9 : Int32} (G : am_cpW y.cls idx) (a0 b0 c0 : Nat) (hq0 : q0 < N) (he0 : aw q0 = am_I .int n0 f) (hq1 : q1 < N) (he1 : aw q1 = am_I .int n1 g) (h1 : sp = nI a0) (h2 : dp = nI b0) (h3 : c9 = nI c0) (h4 : a0 + c0 ≤ n0) (h5 : b0 + c0 ≤ n1) (hn0 : n0 < 2 ^ 31) (hn1 : n1 < 2 ^ 31) (hlv9 : 1 ≤ lv) (hst9 : st = []) (d : decode cc pc = .ok (.invokestatic idx, 3))
    (k9 : SW y cc nL ret xt lv sc (pc + 3) (lo) (st) (N) (am_up aw q1 (am_I .int n1 (va_cpy f g a0 b0 c0))) (k) (n) o N' aw') : SW y cc nL ret xt lv sc (pc) (lo) (.int c9 :: .int dp :: .ref q1 :: .int sp :: .ref q0 :: st) (N) (aw) (k) (n) o N' aw' := by
  intro p l e R s m args below meth c H locs cells slots kf nf D A al0 al ws ls st' F hk hn hkR hnR hle hP hD hS hw hl hst
  obtain ⟨hx, hb, hr, hml, hown, hts, hlocks, hin, hfl, hA, hK, hE, hSc, hlv, hloc, hxt⟩ := id F
  subst h1; subst h2; subst h3; subst hst9
  obtain ⟨w4, r4, rfl, g4, hst⟩ := hst
  cases g4
  obtain ⟨w3, r3, rfl, g3, hst⟩ := hst
  cases g3
  obtain ⟨w2, r2, rfl, ⟨a1, e1, rfl⟩, hst⟩ := hst
  obtain ⟨w1, r1, rfl, g1, hst⟩ := hst
  cases g1
  obtain ⟨w0, r0, rfl, ⟨a2, e2, rfl⟩, hst⟩ := hst
  cases hst
  obtain ⟨z0, i1, i2⟩ := am_cell hw hq0 e2
  rw [he0] at i2
  obtain ⟨cA, rfl, i3⟩ := i2
  obtain ⟨z1, j1, j2⟩ := am_cell hw hq1 e1
  rw [he1] at j2
  obtain ⟨cB, rfl, j3⟩ := j2
  have s1 : a0 < 2 ^ 31 := by omega
  have s2 : b0 < 2 ^ 31 := by omega
  have s3 : c0 < 2 ^ 31 := by omega
  refine va_copyi hx hb (hml.trans hl.choose_spec.1.1.symm) hown (hts _ G.1) (hts _ G.2.1) (hts _ G.2.2.1) (hts _ G.2.2.2) (am_K2 hK i3 j3) hP hD hS q0 q1 0 1 i1 j1 rfl rfl rfl (nI_pos s1) (nI_pos s2) (nI_pos s3) (by rw [nI_clamp s1, nI_clamp s3]; exact h4) (by rw [nI_clamp s2, nI_clamp s3]; exact h5) (fun _ _ => rfl) (by omega) ?_ d (fun H1 locs1 hP1 hD1 hS1 => ?_)
  · have z9 : nativeFrameWords "java/lang/System" "arraycopy" 5 + 11 ≤ 92 := by decide +kernel
    simp only [List.map_nil, List.sum_nil]
    omega
  · rw [nI_clamp s1, nI_clamp s2, nI_clamp s3] at hP1 hD1
    exact k9 p l e R s m args below meth c H1 locs1 cells slots kf nf D A al0 al _ ls _ F hk hn hkR hnR hle hP1 hD1 hS1 (hw.set hq1 e1 (x := am_I .int n1 (va_cpy f g a0 b0 c0)) ⟨cB, rfl, j3⟩) hl rfl
def am_minW (own : String) (idx : Nat) : Prop := Cond.methodLink own idx Lib.Math.min.name ∈ am_W ∧ Cond.static Lib.Math.min.name ∈ am_W ∧ Cond.initialized "java/lang/Math" ∈ am_W ∧ Cond.code Lib.Math.min.name Lib.Math.min.code 2 (some .int) ∈ am_W
theorem sw_min {idx : Nat} {x y9 : Int32} (G : am_minW y.cls idx) (hlv9 : 1 ≤ lv) (hst9 : (st.map fun v => v.category).sum ≤ 8) (d : decode cc pc = .ok (.invokestatic idx, 3))
    (k9 : SW y cc nL ret xt lv sc (pc + 3) (lo) (.int (if y9 < x then y9 else x) :: st) (N) (aw) (k) (n) o N' aw') : SW y cc nL ret xt lv sc (pc) (lo) (.int y9 :: .int x :: st) (N) (aw) (k) (n) o N' aw' := by
  intro p l e R s m args below meth c H locs cells slots kf nf D A al0 al ws ls st' F hk hn hkR hnR hle hP hD hS hw hl hst
  obtain ⟨hx, hb, hr, hml, hown, hts, hlocks, hin, hfl, hA, hK, hE, hSc, hlv, hloc, hxt⟩ := id F
  obtain ⟨w0, r0, rfl, h0, hst⟩ := hst
  obtain ⟨w1, r1, rfl, h1, hst⟩ := hst
  cases h0; cases h1
  exact va_mmin hx hb (hml.trans hl.choose_spec.1.1.symm) hown (hts _ G.1) (hts _ G.2.1) (hts _ G.2.2.1) (hts _ G.2.2.2) (by omega) (by rw [hst.cats]; omega) (by omega) (by omega) d (k9 p l e R s m args below meth c H locs cells slots kf nf D A al0 al ws ls _ F hk hn hkR hnR hle hP hD hS hw hl ⟨_, _, rfl, rfl, hst⟩)
def am_absW (own : String) (idx : Nat) : Prop := Cond.methodLink own idx Lib.Math.abs.name ∈ am_W ∧ Cond.static Lib.Math.abs.name ∈ am_W ∧ Cond.initialized "java/lang/Math" ∈ am_W ∧ Cond.code Lib.Math.abs.name Lib.Math.abs.code 1 (some .int) ∈ am_W
theorem sw_abs {idx : Nat} {x y9 : Int32} (G : am_absW y.cls idx) (hlv9 : 1 ≤ lv) (hst9 : (st.map fun v => v.category).sum ≤ 8) (d : decode cc pc = .ok (.invokestatic idx, 3))
    (k9 : SW y cc nL ret xt lv sc (pc + 3) (lo) (.int (if 0 ≤ x then x else 0 - x) :: st) (N) (aw) (k) (n) o N' aw') : SW y cc nL ret xt lv sc (pc) (lo) (.int x :: st) (N) (aw) (k) (n) o N' aw' := by
  intro p l e R s m args below meth c H locs cells slots kf nf D A al0 al ws ls st' F hk hn hkR hnR hle hP hD hS hw hl hst
  obtain ⟨hx, hb, hr, hml, hown, hts, hlocks, hin, hfl, hA, hK, hE, hSc, hlv, hloc, hxt⟩ := id F
  obtain ⟨w0, r0, rfl, h0, hst⟩ := hst
  cases h0
  exact va_mabs hx hb (hml.trans hl.choose_spec.1.1.symm) hown (hts _ G.1) (hts _ G.2.1) (hts _ G.2.2.1) (hts _ G.2.2.2) (by omega) (by rw [hst.cats]; omega) (by omega) (by omega) d (k9 p l e R s m args below meth c H locs cells slots kf nf D A al0 al ws ls _ F hk hn hkR hnR hle hP hD hS hw hl ⟨_, _, rfl, rfl, hst⟩)
theorem sw_new {idx ci NF k2 n2 : Nat} (fs : List Value) (G : am_Nw y.cls idx ci fs NF) (hfs : ∀ al, am_vs al fs fs) (hN9 : N < 999) (hk9 : k2 + 1 ≤ k) (hn9 : n2 + NF ≤ n) (d : decode cc pc = .ok (.new idx, 3))
    (k9 : SW y cc nL ret xt lv sc (pc + 3) (lo) (.ref N :: st) (N + 1) (am_up aw N (am_O ci fs)) (k2) (n2) o N' aw') : SW y cc nL ret xt lv sc (pc) (lo) (st) (N) (aw) (k) (n) o N' aw' := by
  intro p l e R s m args below meth c H locs cells slots kf nf D A al0 al ws ls st' F hk hn hkR hnR hle hP hD hS hw hl hst
  obtain ⟨hx, hb, hr, hml, hown, hts, hlocks, hin, hfl, hA, hK, hE, hSc, hlv, hloc, hxt⟩ := id F
  obtain ⟨C, T, ty0, ⟨c1, c2, c3, c4⟩, c5, c6, c7, c8⟩ := G
  exact va_new hx hb hts c2 ty0 c3 hown (hts _ c5) (hts _ c6) (hts _ c7) hK hP hD hS hA c1 c8 (by omega) (by omega) d (fun q9 H1 hP1 hD1 hS1 => k9 p l e R s m args below meth c H1 locs (cells + 1) (slots + NF) kf nf D A al0 (am_alP al N q9) _ ls _ F (by omega) (by omega) hkR hnR (hle.tr (am_alP.le hw hN9 q9)) hP1 hD1 hS1 (hw.push hN9 q9 (x := am_O ci fs) ⟨_, rfl, hfs _⟩) (hl.mono (am_alP.le hw hN9 q9)) ⟨_, _, rfl, ⟨q9, by unfold am_alP; rw [if_pos rfl], rfl⟩, hst.mono (am_alP.le hw hN9 q9)⟩)
theorem sw_newI {at9 : ArrayType} {ty : FieldType} {nn k2 n2 : Nat} {i : Int32} (G : Cond.arrayClass (newarray.typeOf at9) ∈ am_W) (hty : newarray.typeOf at9 = ty) (ha : ∀ cA : ClassId, vp_cell cA (nn, .inl (fun _ => 0)) = arrV cA nn (fun _ => defaultValue ty)) (hi : i = nI nn) (hnn : nn < 2 ^ 31) (hby : nn * componentBytes ty ≤ 536870912) (hN9 : N < 999) (hk9 : k2 + 1 ≤ k) (hn9 : n2 + nn ≤ n) (d : decode cc pc = .ok (.newarray at9, 2))
    (k9 : SW y cc nL ret xt lv sc (pc + 2) (lo) (.ref N :: st) (N + 1) (am_up aw N (am_I ty nn (fun _ => 0))) (k2) (n2) o N' aw') : SW y cc nL ret xt lv sc (pc) (lo) (.int i :: st) (N) (aw) (k) (n) o N' aw' := by
  intro p l e R s m args below meth c H locs cells slots kf nf D A al0 al ws ls st' F hk hn hkR hnR hle hP hD hS hw hl hst
  obtain ⟨hx, hb, hr, hml, hown, hts, hlocks, hin, hfl, hA, hK, hE, hSc, hlv, hloc, hxt⟩ := id F
  obtain ⟨w1, r1, rfl, g9, hst⟩ := hst
  cases g9
  subst hi
  exact va_newa (a0 := (nn, .inl (fun _ => 0))) hx hb (hts _ G) hty hK hP hD hS hA ha (nI_pos hnn) (nI_clamp hnn) hby (by omega) (by omega) d (fun q9 cA H1 hK1 hP1 hD1 hS1 => k9 p l e R s m args below meth c H1 locs (cells + 1) (slots + nn) kf nf D A al0 (am_alP al N q9) _ ls _ F (by omega) (by omega) hkR hnR (hle.tr (am_alP.le hw hN9 q9)) hP1 hD1 hS1 (hw.push hN9 q9 (x := am_I ty nn (fun _ => 0)) ⟨cA, rfl, hK1.2 0 _ rfl⟩) (hl.mono (am_alP.le hw hN9 q9)) ⟨_, _, rfl, ⟨q9, by unfold am_alP; rw [if_pos rfl], rfl⟩, hst.mono (am_alP.le hw hN9 q9)⟩)
theorem sw_newJ {nn k2 n2 : Nat} {i : Int32} (G : Cond.arrayClass (newarray.typeOf .long) ∈ am_W) (hi : i = nI nn) (hnn : nn < 2 ^ 31) (hby : nn * componentBytes .long ≤ 536870912) (hN9 : N < 999) (hk9 : k2 + 1 ≤ k) (hn9 : n2 + nn ≤ n) (d : decode cc pc = .ok (.newarray .long, 2))
    (k9 : SW y cc nL ret xt lv sc (pc + 2) (lo) (.ref N :: st) (N + 1) (am_up aw N (am_J nn (fun _ => 0))) (k2) (n2) o N' aw') : SW y cc nL ret xt lv sc (pc) (lo) (.int i :: st) (N) (aw) (k) (n) o N' aw' := by
  intro p l e R s m args below meth c H locs cells slots kf nf D A al0 al ws ls st' F hk hn hkR hnR hle hP hD hS hw hl hst
  obtain ⟨hx, hb, hr, hml, hown, hts, hlocks, hin, hfl, hA, hK, hE, hSc, hlv, hloc, hxt⟩ := id F
  obtain ⟨w1, r1, rfl, g9, hst⟩ := hst
  cases g9
  subst hi
  exact va_newa (atype := .long) (a0 := (nn, .inr (.inl (fun _ => 0)))) hx hb (hts _ G) rfl hK hP hD hS hA (fun _ => rfl) (nI_pos hnn) (nI_clamp hnn) hby (by omega) (by omega) d (fun q9 cA H1 hK1 hP1 hD1 hS1 => k9 p l e R s m args below meth c H1 locs (cells + 1) (slots + nn) kf nf D A al0 (am_alP al N q9) _ ls _ F (by omega) (by omega) hkR hnR (hle.tr (am_alP.le hw hN9 q9)) hP1 hD1 hS1 (hw.push hN9 q9 (x := am_J nn (fun _ => 0)) ⟨cA, rfl, hK1.2 0 _ rfl⟩) (hl.mono (am_alP.le hw hN9 q9)) ⟨_, _, rfl, ⟨q9, by unfold am_alP; rw [if_pos rfl], rfl⟩, hst.mono (am_alP.le hw hN9 q9)⟩)
theorem sw_newR {idx nn k2 n2 : Nat} {i : Int32} (G : Cond.classLink y.cls idx RX2 ∈ am_W) (hi : i = nI nn) (hnn : nn < 2 ^ 31) (hby : nn * 4 ≤ 536870912) (hN9 : N < 999) (hk9 : k2 + 1 ≤ k) (hn9 : n2 + nn ≤ n) (d : decode cc pc = .ok (.anewarray idx, 3))
    (k9 : SW y cc nL ret xt lv sc (pc + 3) (lo) (.ref N :: st) (N + 1) (am_up aw N (am_R RX2 nn (fun _ => none))) (k2) (n2) o N' aw') : SW y cc nL ret xt lv sc (pc) (lo) (.int i :: st) (N) (aw) (k) (n) o N' aw' := by
  intro p l e R s m args below meth c H locs cells slots kf nf D A al0 al ws ls st' F hk hn hkR hnR hle hP hD hS hw hl hst
  obtain ⟨hx, hb, hr, hml, hown, hts, hlocks, hin, hfl, hA, hK, hE, hSc, hlv, hloc, hxt⟩ := id F
  obtain ⟨w1, r1, rfl, g9, hst⟩ := hst
  cases g9
  subst hi
  exact va_newq hx hb hown (hts _ G) hE.2.2.2.2.2.1 hK hP hD hS hA (nI_pos hnn) (nI_clamp hnn) hby (by omega) (by omega) d (fun q9 cA H1 hK1 hP1 hD1 hS1 => k9 p l e R s m args below meth c H1 locs (cells + 1) (slots + nn) kf nf D A al0 (am_alP al N q9) _ ls _ F (by omega) (by omega) hkR hnR (hle.tr (am_alP.le hw hN9 q9)) hP1 hD1 hS1 (hw.push hN9 q9 (x := am_R RX2 nn (fun _ => none)) ⟨cA, _, rfl, hK1.2 0 _ rfl, fun i9 _ => ⟨fun _ => rfl, fun k9 h9 => by cases h9⟩⟩) (hl.mono (am_alP.le hw hN9 q9)) ⟨_, _, rfl, ⟨q9, by unfold am_alP; rw [if_pos rfl], rfl⟩, hst.mono (am_alP.le hw hN9 q9)⟩)
def am_oiW (own : String) (idx : Nat) : Prop := Cond.methodLink own idx Lib.objectInit ∈ am_W ∧ Cond.instanceMethod Lib.objectInit ∈ am_W ∧ Cond.code Lib.objectInit ⟨#[0xb1]⟩ 1 none ∈ am_W
theorem sw_oinit {idx q : Nat} (G : am_oiW y.cls idx) (hlv9 : 1 ≤ lv) (hst9 : (st.map fun v => v.category).sum ≤ 8) (d : decode cc pc = .ok (.invokespecial idx, 3))
    (k9 : SW y cc nL ret xt lv sc (pc + 3) (lo) (st) (N) (aw) (k) (n) o N' aw') : SW y cc nL ret xt lv sc (pc) (lo) (.ref q :: st) (N) (aw) (k) (n) o N' aw' := by
  intro p l e R s m args below meth c H locs cells slots kf nf D A al0 al ws ls st' F hk hn hkR hnR hle hP hD hS hw hl hst
  obtain ⟨hx, hb, hr, hml, hown, hts, hlocks, hin, hfl, hA, hK, hE, hSc, hlv, hloc, hxt⟩ := id F
  obtain ⟨w0, r0, rfl, ⟨a, g1, rfl⟩, hst⟩ := hst
  have h8 := lv_room (m := m) (pc := pc) (ls := ls) (rest := .ref a :: r0) (st := r0) (by rw [hst.cats]; exact hst9)
  exact W.objInit hx hb hown (hts _ G.1) (hts _ G.2.1) (hts _ G.2.2) (g := F0 m pc ls (.ref a :: r0)) rfl (hl.choose_spec.1.1.trans hml.symm) rfl d (by omega) (by omega) (k9 p l e R s m args below meth c H locs cells slots kf nf D A al0 al ws ls _ F hk hn hkR hnR hle hP hD hS hw hl hst)
theorem sw_getE {idx : Nat} (i : Nat) (hi : i < 13) (G : Cond.fieldLink y.cls idx RX3 (am_nm.getD i "") "LStormPurses$Step;" ∈ am_W) (d : decode cc pc = .ok (.getstatic idx, 3))
    (k9 : SW y cc nL ret xt lv sc (pc + 3) (lo) (.ref (1000 + i) :: st) (N) (aw) (k) (n) o N' aw') : SW y cc nL ret xt lv sc (pc) (lo) (st) (N) (aw) (k) (n) o N' aw' := by
  intro p l e R s m args below meth c H locs cells slots kf nf D A al0 al ws ls st' F hk hn hkR hnR hle hP hD hS hw hl hst
  obtain ⟨hx, hb, hr, hml, hown, hts, hlocks, hin, hfl, hA, hK, hE, hSc, hlv, hloc, hxt⟩ := id F
  obtain ⟨ad, e1, e2⟩ := hE.2.2.2.1
  exact va_gets hx hb (e1.1 i hi).1 hS hown (hts _ G) (fun _ h9 => h9) d (k9 p l e R s m args below meth c H locs cells slots kf nf D A al0 al ws ls _ F hk hn hkR hnR hle hP hD hS hw hl ⟨_, _, rfl, ⟨_, hle _ _ (e2 i hi), rfl⟩, hst⟩)
theorem sw_getM {idx : Nat} (G : Cond.fieldLink y.cls idx RX0 "$SwitchMap$StormPurses$Step" "[I" ∈ am_W) (d : decode cc pc = .ok (.getstatic idx, 3))
    (k9 : SW y cc nL ret xt lv sc (pc + 3) (lo) (.ref 999 :: st) (N) (aw) (k) (n) o N' aw') : SW y cc nL ret xt lv sc (pc) (lo) (st) (N) (aw) (k) (n) o N' aw' := by
  intro p l e R s m args below meth c H locs cells slots kf nf D A al0 al ws ls st' F hk hn hkR hnR hle hP hD hS hw hl hst
  obtain ⟨hx, hb, hr, hml, hown, hts, hlocks, hin, hfl, hA, hK, hE, hSc, hlv, hloc, hxt⟩ := id F
  obtain ⟨t, e1, e2, e3⟩ := hE.2.2.2.2.1
  exact va_gets hx hb e1 hS hown (hts _ G) (fun _ h9 => h9) d (k9 p l e R s m args below meth c H locs cells slots kf nf D A al0 al ws ls _ F hk hn hkR hnR hle hP hD hS hw hl ⟨_, _, rfl, ⟨_, hle _ _ e3, rfl⟩, hst⟩)
theorem sw_mapld {i : Int32} (j : Nat) (hi : i = nI j) (hj : j < 13) (d : decode cc pc = .ok (.iaload, 1))
    (k9 : SW y cc nL ret xt lv sc (pc + 1) (lo) (.int (am_map.getD j 0) :: st) (N) (aw) (k) (n) o N' aw') : SW y cc nL ret xt lv sc (pc) (lo) (.int i :: .ref 999 :: st) (N) (aw) (k) (n) o N' aw' := by
  intro p l e R s m args below meth c H locs cells slots kf nf D A al0 al ws ls st' F hk hn hkR hnR hle hP hD hS hw hl hst
  obtain ⟨hx, hb, hr, hml, hown, hts, hlocks, hin, hfl, hA, hK, hE, hSc, hlv, hloc, hxt⟩ := id F
  obtain ⟨w1, r1, rfl, g9, hst⟩ := hst
  cases g9
  obtain ⟨w0, r0, rfl, ⟨a, g1, rfl⟩, hst⟩ := hst
  obtain ⟨t, e1, e2, e3⟩ := hE.2.2.2.2.1
  cases Option.some.inj (g1.symm.trans (hle _ _ e3))
  subst hi
  exact va_ti (v := .int (am_map.getD j 0)) hx hb e2 hS (vp_in_nI hj (by omega)) (by rw [nI_clamp (by omega)]) d (k9 p l e R s m args below meth c H locs cells slots kf nf D A al0 al ws ls _ F hk hn hkR hnR hle hP hD hS hw hl ⟨_, _, rfl, rfl, hst⟩)
theorem sw_acne {i j : Nat} {off : Int} {tgt : Nat} (hi : i < 13) (hj : j < 13) (d : decode cc pc = .ok (.if_acmp .ne off, 3)) (ht : (pc : Int) + off = (tgt : Int))
    (kt : ¬ i = j → SW y cc nL ret xt lv sc (tgt) (lo) (st) (N) (aw) (k) (n) o N' aw') (kf9 : i = j → SW y cc nL ret xt lv sc (pc + 3) (lo) (st) (N) (aw) (k) (n) o N' aw') : SW y cc nL ret xt lv sc (pc) (lo) (.ref (1000 + j) :: .ref (1000 + i) :: st) (N) (aw) (k) (n) o N' aw' := by
  intro p l e R s m args below meth c H locs cells slots kf nf D A al0 al ws ls st' F hk hn hkR hnR hle hP hD hS hw hl hst
  obtain ⟨hx, hb, hr, hml, hown, hts, hlocks, hin, hfl, hA, hK, hE, hSc, hlv, hloc, hxt⟩ := id F
  obtain ⟨w1, r1, rfl, ⟨a1, g1, rfl⟩, hst⟩ := hst
  obtain ⟨w0, r0, rfl, ⟨a0, g0, rfl⟩, hst⟩ := hst
  obtain ⟨ad, e1, e2⟩ := hE.2.2.2.1
  cases Option.some.inj (g1.symm.trans (hle _ _ (e2 j hj)))
  cases Option.some.inj (g0.symm.trans (hle _ _ (e2 i hi)))
  refine lv_acmp_ne (rx := some (ad i)) (ry := some (ad j)) hx hb d ht (fun h9 => kt (fun e9 => h9 (by rw [e9])) p l e R s m args below meth c H locs cells slots kf nf D A al0 al ws ls _ F hk hn hkR hnR hle hP hD hS hw hl hst) (fun h9 => kf9 (e1.2 i j hi hj (Option.some.inj h9)) p l e R s m args below meth c H locs cells slots kf nf D A al0 al ws ls _ F hk hn hkR hnR hle hP hD hS hw hl hst)
theorem sw_slen {L : Nat} {xs : Nat → Int32} (hs9 : sc = some (L, xs)) (d : decode cc pc = .ok (.arraylength, 1))
    (k9 : SW y cc nL ret xt lv sc (pc + 1) (lo) (.int (nI L) :: st) (N) (aw) (k) (n) o N' aw') : SW y cc nL ret xt lv sc (pc) (lo) (.ref 1100 :: st) (N) (aw) (k) (n) o N' aw' := by
  intro p l e R s m args below meth c H locs cells slots kf nf D A al0 al ws ls st' F hk hn hkR hnR hle hP hD hS hw hl hst
  obtain ⟨hx, hb, hr, hml, hown, hts, hlocks, hin, hfl, hA, hK, hE, hSc, hlv, hloc, hxt⟩ := id F
  subst hs9
  obtain ⟨w0, r0, rfl, ⟨a, g1, rfl⟩, hst⟩ := hst
  obtain ⟨b, e1, e2, e3, e4⟩ := hSc
  cases Option.some.inj (g1.symm.trans (hle _ _ e1))
  exact va_slen hx hb e2 e3 e4 hS d (k9 p l e R s m args below meth c H locs cells slots kf nf D A al0 al ws ls _ F hk hn hkR hnR hle hP hD hS hw hl ⟨_, _, rfl, rfl, hst⟩)
theorem sw_sld {L : Nat} {xs : Nat → Int32} {i : Int32} (hs9 : sc = some (L, xs)) (j : Nat) (hi : i = nI j) (hj : j < L) (hL : L < 2 ^ 31) (d : decode cc pc = .ok (.iaload, 1))
    (k9 : SW y cc nL ret xt lv sc (pc + 1) (lo) (.int (xs j) :: st) (N) (aw) (k) (n) o N' aw') : SW y cc nL ret xt lv sc (pc) (lo) (.int i :: .ref 1100 :: st) (N) (aw) (k) (n) o N' aw' := by
  intro p l e R s m args below meth c H locs cells slots kf nf D A al0 al ws ls st' F hk hn hkR hnR hle hP hD hS hw hl hst
  obtain ⟨hx, hb, hr, hml, hown, hts, hlocks, hin, hfl, hA, hK, hE, hSc, hlv, hloc, hxt⟩ := id F
  subst hs9
  obtain ⟨w1, r1, rfl, g9, hst⟩ := hst
  cases g9
  obtain ⟨w0, r0, rfl, ⟨a, g1, rfl⟩, hst⟩ := hst
  obtain ⟨b, e1, e2, e3, e4⟩ := hSc
  cases Option.some.inj (g1.symm.trans (hle _ _ e1))
  subst hi
  refine va_sld hx hb e2 e3 e4 hS (vp_in_nI hj hL) d ?_
  rw [nI_clamp (Nat.lt_trans hj hL)]
  exact k9 p l e R s m args below meth c H locs cells slots kf nf D A al0 al ws ls _ F hk hn hkR hnR hle hP hD hS hw hl ⟨_, _, rfl, rfl, hst⟩
end AMC
end
section
/-! THE ABSTRACT MACHINE, part 4: contracts, calls, throws, catches (own work, written by wip/tools/mk_am4.py) -/
section AMD
variable {y : MethodName} {cc : ByteArray} {nL : Nat} {ret : Option FieldType} {xt : List (Nat × Nat × Nat × Nat)} {lv : Nat} {sc : Option (Nat × (Nat → Int32))} {pc : Nat} {lo : List (Option Value)} {st : List Value} {N : Nat} {aw : Nat → am_E} {k n : Nat} {o : Option Value ⊕ String} {N' : Nat} {aw' : Nat → am_E}
def am_rm (lv k n : Nat) : Room := { frames := lv, cells := k, slots := n, locals := 30 * lv + 62 }
def am_Pre (D : va_G) (al : am_A) (as vs : List Value) (N : Nat) (aw : Nat → am_E) (ws : va_W) (sz : Nat) (U : State) : Prop :=
  U.heap.size = sz ∧ va_P D vwCl ws U.heap ∧ va_K D vwCl [] U ∧ va_D (fun _ => True) ws ∧ am_vs al as vs ∧ am_w U al N aw ws ∧ am_Env al (va_A ws sz) U U.heap
/-- the method named y (its code's word w0), called with the arguments 'as' in the world aw, returns v in the world aw' -/
def am_AM (w0 : Cond) (y : MethodName) (lv : Nat) (as : List Value) (N : Nat) (aw : Nat → am_E) (v : Option Value) (N' : Nat) (aw' : Nat → am_E) (k n : Nat) : Prop :=
  ∀ (l : Launch), l.stackTraces = false → ∀ (D : va_G) (al : am_A) (vs : List Value) (ws : va_W) (sz : Nat), Met l y (w0 :: am_W) (am_rm lv k n) (va_Pc vs (am_Pre D al as vs N aw ws sz)) (am_Q D al (va_A ws sz) (.inl v) N' aw') k n (va_A ws sz)
/-- .. throws E -/
def am_AT (w0 : Cond) (y : MethodName) (lv : Nat) (as : List Value) (N : Nat) (aw : Nat → am_E) (E : String) (N' : Nat) (aw' : Nat → am_E) (k n : Nat) : Prop :=
  ∀ (l : Launch), l.stackTraces = false → ∀ (D : va_G) (al : am_A) (vs : List Value) (ws : va_W) (sz : Nat), vx_Met l y (w0 :: am_W) (am_rm lv k n) (va_Pc vs (am_Pre D al as vs N aw ws sz)) (am_Q D al (va_A ws sz) (.inr E) N' aw') (am_X D al (va_A ws sz) (.inr E) N' aw') k n (va_A ws sz)
theorem am_sl_len : ∀ vs : List Value, (lg_sl vs).length = (vs.map fun v => v.category).sum
  | [] => rfl
  | v :: r => by
    have ih := am_sl_len r
    unfold lg_sl at ih ⊢
    rw [List.flatMap_cons, List.length_append, ih, List.map_cons, List.sum_cons]
    rcases lv_cat v with h | h
    · rw [if_neg (by omega), h]; rfl
    · rw [if_pos h, h]; rfl
def am_pad : Nat → List (Option Value) → List (Option Value)
  | 0, _ => []
  | k + 1, [] => none :: am_pad k []
  | k + 1, x :: r => x :: am_pad k r
theorem am_nth_pad : ∀ {k : Nat} {l : List (Option Value)} {i : Nat} {v : Value}, am_nth (am_pad k l) i = some v → am_nth l i = some v
  | 0, _, _, _, h => by cases h
  | k + 1, [], 0, _, h => by cases h
  | k + 1, [], i + 1, v, h => by
    have h2 := am_nth_pad (k := k) (l := []) (i := i) (v := v) h
    cases h2
  | k + 1, x :: r, 0, _, h => h
  | k + 1, x :: r, i + 1, v, h => am_nth_pad (k := k) (l := r) (i := i) (v := v) h
theorem am_K9 {D : va_G} {u U : State} (hvm : u.vm.Alike U.vm) (h : va_K D vwCl [] u) : va_K D vwCl [] U := va_K.moved hvm h
theorem am_Pre.blind {D : va_G} {al : am_A} {as vs : List Value} {N : Nat} {aw : Nat → am_E} {ws : va_W} {sz : Nat} : FrameBlind (va_Pc vs (am_Pre D al as vs N aw ws sz)) := by
  intro a U g mk h
  obtain ⟨h0, h1, h2, h3, h4, h5, h6, h7⟩ := h
  exact ⟨h0, h1, h2, am_K9 (U := U.calling g mk a) (Vm.Alike.refl U.vm) h3, h4, h5, am_w.moved (U := U.calling g mk a) (Vm.Alike.refl U.vm) h6, h7.warm (U := U.calling g mk a) (State.WarmedH.refl U)⟩
/-- a body's walk gives its contract -/
theorem am_bodyX {w0 : Cond} {hh : List (Nat × Nat × Nat × Nat)} (hy : plainName y.cls = true) {as : List Value} (hlen : (as.map fun v => v.category).sum ≤ nL) (h : SW y cc nL ret hh lv none 0 (am_pad nL (am_lo as)) [] N aw k n o N' aw')
    {l : Launch} (hl : l.stackTraces = false) {D : va_G} {al : am_A} {vs : List Value} {ws : va_W} {sz : Nat} {p : Program} {e : Env} {s : State} {m : MethodId} {args : Array Value} {below : List Frame} {meth : Method} {c : Code} {s₁ : State}
    (B : BodyLoose p l y (headSpec (w0 :: am_W) (am_rm lv k n)) cc nL ret e s m args below meth c s₁) (hml : c.maxLocals = nL) (hxt : c.exceptionTable.toList = tableOf hh) (hv : va_Pc vs (am_Pre D al as vs N aw ws sz) args s) :
    W p l e (headSpec (w0 :: am_W) (am_rm lv k n)).room s m args below meth c s.heap [] 0 0 (vx_MQ below (am_Q D al (va_A ws sz) o N' aw') (am_X D al (va_A ws sz) o N' aw') args s k n (va_A ws sz)) (entryFrame m args nL) := by
  obtain ⟨rfl, hsz, hP, hK, hD0, hvs, hw, hE⟩ := hv
  subst hsz
  have hts := atoms_spec (ws := w0 :: am_W) B.pre
  have hl0 := lv_entry vs (n := nL) (by rw [am_sl_len, hvs.cats]; exact hlen)
  rw [lg_entry_eq]
  refine h p l e _ s m _ below meth c s.heap [] 0 0 k n D (va_A ws s.heap.size) al al ws _ [] ⟨B.exec, B.bytes, B.returns, hml, findClass_of_methodNamed B.named, fun w hw9 => hts w (List.mem_cons_of_mem _ hw9), B.notSynchronized, fun h9 => (name_of_methodNamed B.named B.method).1.trans h9, hl, fun q h9 => Or.inr h9, hK, hE, trivial, Nat.le_refl _, Nat.le_refl _, hxt⟩
    (by omega) (by omega) (Nat.le_refl _) (Nat.le_refl _) (am_le.rf al) hP (hD0.self) va_S.rf hw ⟨_, hl0, fun i v hi => ?_⟩ rfl
  obtain ⟨v', g1, g2⟩ := am_lo_args 0 hvs i v (am_nth_pad hi)
  exact ⟨v', g1, by rw [Nat.zero_add] at g2; exact g2⟩
theorem am_toMet {l : Launch} {ws : List Cond} {rm : Room} {Pc : Array Value → State → Prop} {D : va_G} {al : am_A} {A : Nat → Prop} {v : Option Value} {mc ms : Nat} {free : Addr → Prop}
    (h : vx_Met l y ws rm Pc (am_Q D al A (.inl v) N' aw') (am_X D al A (.inl v) N' aw') mc ms free) : Met l y ws rm Pc (am_Q D al A (.inl v) N' aw') mc ms free := by
  intro p e a b c s m args below f g i j
  obtain ⟨n9, o9, h1, h2, h3, h4⟩ := h p e a b c s m args below f g i j
  refine ⟨n9, o9, h1, h2, h3, ?_⟩
  rcases h4 with h4 | ⟨q, -, E, ce, L, ⟨⟨hX, -⟩, -⟩, -⟩
  · exact h4
  · cases hX
theorem am_of {v : Option Value} {as : List Value} (hy : plainName y.cls = true) (hlen : (as.map fun v => v.category).sum ≤ nL) (h : SW y cc nL ret [] lv none 0 (am_pad nL (am_lo as)) [] N aw k n (.inl v) N' aw') : am_AM (.code y cc nL ret) y lv as N aw v N' aw' k n := by
  intro l hl D al vs ws sz
  refine am_toMet (vx_ofW (cc := cc) (maxL := nL) (ret := ret) hy rfl ?_)
  intro p e s m args below meth c s₁ B hml hx hv
  exact am_bodyX hy hlen h hl B hml (List.eq_nil_iff_forall_not_mem.mpr hx) hv
theorem am_ofT {E : String} {as : List Value} (hy : plainName y.cls = true) (hlen : (as.map fun v => v.category).sum ≤ nL) (h : SW y cc nL ret [] lv none 0 (am_pad nL (am_lo as)) [] N aw k n (.inr E) N' aw') : am_AT (.code y cc nL ret) y lv as N aw E N' aw' k n := by
  intro l hl D al vs ws sz
  refine vx_ofW (cc := cc) (maxL := nL) (ret := ret) hy rfl ?_
  intro p e s m args below meth c s₁ B hml hx hv
  exact am_bodyX hy hlen h hl B hml (List.eq_nil_iff_forall_not_mem.mpr hx) hv
theorem am_ofW {v : Option Value} {as : List Value} (hy : plainName y.cls = true) (hlen : (as.map fun v => v.category).sum ≤ nL) (h : SW y cc nL ret xt lv none 0 (am_pad nL (am_lo as)) [] N aw k n (.inl v) N' aw') : am_AM (.codeWith y cc nL ret xt) y lv as N aw v N' aw' k n := by
  intro l hl D al vs ws sz
  refine am_toMet (vx_ofWH (cc := cc) (maxL := nL) (ret := ret) (hh := xt) hy rfl ?_)
  intro p e s m args below meth c s₁ B hml hv
  exact am_bodyX hy hlen h hl B hml (vx_table (x := y) B (atoms_spec (ws := Cond.codeWith y cc nL ret xt :: am_W) B.pre _ List.mem_cons_self)) hv
/-- what a world's caller may write, when it hands its whole world on -/
theorem am_free {A : Nat → Prop} {ws : va_W} {H0 H : Heap} {locs : List Loc} (hD : va_D A ws) (hS : va_S A H0 H locs) (hA : ∀ q, H0.size ≤ q → A q) : ∀ q, va_A ws H.size q → A q := by
  intro q h
  rcases h with ⟨j, e, h⟩ | h
  · exact hD.2 j _ h
  · exact hA q (Nat.le_trans hS.1 h)
section AMG
variable {p : Program} {l : Launch} {e : Env} {R : Room} {s : State} {m : MethodId} {args : Array Value} {below : List Frame} {meth : Method} {c : Code} {H : Heap} {locs : List Loc} {cells slots : Nat} {Q : State → Prop} {D : va_G} {al : am_A} {A : Nat → Prop} {ws : va_W} {ls : Array Slot} {st0 rest : List Value} {a : Array Value} {kc nc N1 : Nat} {aw1 : Nat → am_E}
theorem am_goR {v : Option Value} (hr : va_Run p l e R s m args below meth c H locs cells slots kc nc (F0 m pc ls st0) rest (am_Q D al (va_A ws H.size) (.inl v) N1 aw1 a) (va_A ws H.size)) (hK : va_K D vwCl [] s) (hD : va_D A ws) (hS : va_S A s.heap H locs) (hA : ∀ q, s.heap.size ≤ q → A q)
    (kk : ∀ (v' : Option Value) (al1 : am_A) (ws1 : va_W) (H1 : Heap) (locs1 : List Loc), am_ov al1 v v' → am_le al al1 → va_P D vwCl ws1 H1 → va_D A ws1 → va_S A s.heap H1 locs1 → am_w s al1 N1 aw1 ws1 → W p l e R s m args below meth c H1 locs1 (cells + kc) (slots + nc) Q (F0 m (pc + 3) ls (v'.toList ++ rest))) :
    W p l e R s m args below meth c H locs cells slots Q (F0 m pc ls st0) := by
  intro T hT X
  obtain ⟨v1, st₀, t, T', L, h0, X', hL, e1, e2, ⟨⟨v2, v', al1, ws1, ho, hv, hov, hle1, hP1, hK1, hD1, hw1⟩, hF⟩, st⟩ := hr T hT X
  cases ho
  cases hv
  have hFr := am_free hD hS hA
  obtain ⟨k1, k2, k3⟩ := vx_keep h0 e1 hS (fun q _ h => hFr q h) (fun q h => hFr q h) hL hF
  have hal : s.vm.Alike t.vm := by rw [← e2]; exact X'.warmed.alike
  obtain ⟨t2, a1, b1⟩ := kk v1 al1 ws1 T'.heap (locs ++ L) hov hle1 (by rw [e1]; exact hP1) (hD1.weaken (fun _ q _ h => hFr q.1 h)) k3 (am_w.moved hal.symm hw1) T' rfl X'
  exact ⟨t2, st t2 a1, b1⟩
theorem am_goT {E : String} (hr : vx_Run p l e R s m args below meth c H locs cells slots kc nc (F0 m pc ls st0) rest (am_Q D al (va_A ws H.size) (.inr E) N1 aw1 a) (am_X D al (va_A ws H.size) (.inr E) N1 aw1) (va_A ws H.size)) (hK : va_K D vwCl [] s) (hD : va_D A ws) (hS : va_S A s.heap H locs) (hA : ∀ q, s.heap.size ≤ q → A q)
    (kk : ∀ (q9 : Addr) (ce : Cell) (al1 : am_A) (ws1 : va_W) (H1 : Heap) (locs1 : List Loc), am_le al al1 → va_P D vwCl ws1 H1 → va_D A ws1 → va_S A s.heap H1 locs1 → am_w s al1 N1 aw1 ws1 → H1[q9]? = some ce → ce.vm = .none → s.vm.findClass E = some ce.cls → vx_W p l e R s m args below meth c H1 locs1 (cells + kc) (slots + nc) Q (F0 m pc ls rest) q9) :
    W p l e R s m args below meth c H locs cells slots Q (F0 m pc ls st0) := by
  intro T hT X
  rcases hr T hT X with ⟨v1, st₀, t, T', L, h0, X', hL, e1, e2, ⟨⟨v2, v', al1, ws1, ho, -⟩, -⟩, -⟩ | ⟨q, st₀, t, T', L, E2, ce, h0, X', hL, e1, e2, ⟨⟨ho, al1, ws1, hle1, hP1, hK1, hD1, hw1⟩, hF⟩, hce, hcv, hcl, st⟩
  · cases ho
  · cases ho
    have hFr := am_free hD hS hA
    obtain ⟨k1, k2, k3⟩ := vx_keep h0 e1 hS (fun q _ h => hFr q h) (fun q h => hFr q h) hL hF
    have hal : s.vm.Alike t.vm := by rw [← e2]; exact X'.warmed.alike
    obtain ⟨t2, a1, b1⟩ := kk q ce al1 ws1 T'.heap (locs ++ L) hle1 (by rw [e1]; exact hP1) (hD1.weaken (fun _ q _ h => hFr q.1 h)) k3 (am_w.moved hal.symm hw1) (by rw [e1]; exact hce) hcv hcl T' rfl X'
    exact ⟨t2, st.trans a1, b1⟩
end AMG
/-- a call's words -/
def am_L0 (w0 : Cond) (y2 : MethodName) (na : Nat) : Prop := w0 ∈ am_W ∧ Cond.initialized y2.cls ∈ am_W ∧ y2.cls ≠ "java/lang/invoke/MethodHandle" ∧ y2.cls ≠ "java/lang/invoke/VarHandle" ∧ (parseMethodDescriptor y2.desc).map (fun d => d.parameters.length) = some na
def am_LV (own : String) (idx ci : Nat) (w0 : Cond) (y2 : MethodName) (na : Nat) : Prop := am_L0 w0 y2 na ∧ Cond.methodLink own idx y2 ∈ am_W ∧ Cond.instanceMethod y2 ∈ am_W ∧ Cond.selects y2.cls y2 y2 ∈ am_W ∧ ∃ (T : u_T) (NF : Nat), vwCl[ci]? = some (y2.cls, T, NF)
def am_LS (own : String) (idx : Nat) (w0 : Cond) (y2 : MethodName) (na : Nat) : Prop := am_L0 w0 y2 na ∧ Cond.methodLink own idx y2 ∈ am_W ∧ Cond.static y2 ∈ am_W
theorem am_good2 {w0 : Cond} (h0 : w0 ∈ am_W) {pre : List Cond} (h : ∀ w ∈ pre, w ∈ am_W) : GoodIn am_W (pre ++ (w0 :: am_W)) := by
  intro w hw
  have hm : w ∈ am_W := by
    rcases List.mem_append.mp hw with h9 | h9
    · exact h w h9
    · rcases List.mem_cons.mp h9 with rfl | h9
      · exact h0
      · exact h9
  exact ⟨hm, am_good hm⟩
theorem am_LV.good {own : String} {idx ci : Nat} {w0 : Cond} {y2 : MethodName} {na : Nat} (G : am_LV own idx ci w0 y2 na) : GoodIn am_W (wsV own idx y2.cls y2 (w0 :: am_W)) := by
  refine am_good2 G.1.1 (fun w hw => ?_)
  simp only [List.mem_cons, List.not_mem_nil, or_false] at hw
  rcases hw with rfl | rfl | rfl | rfl
  · exact G.2.1
  · exact G.2.2.1
  · exact G.2.2.2.1
  · exact G.1.2.1
theorem am_LS.good {own : String} {idx : Nat} {w0 : Cond} {y2 : MethodName} {na : Nat} (G : am_LS own idx w0 y2 na) : GoodIn am_W (va_wsS own idx y2 (w0 :: am_W)) := by
  refine am_good2 G.1.1 (fun w hw => ?_)
  simp only [List.mem_cons, List.not_mem_nil, or_false] at hw
  rcases hw with rfl | rfl | rfl
  · exact G.2.1
  · exact G.2.2
  · exact G.1.2.1
theorem am_fix {p : Program} {l : Launch} {R : Room} {s : State} {m : MethodId} {args : Array Value} {meth : Method} {c : Code} {D : va_G} {A : Nat → Prop} {al0 : am_A} (F : am_Fix y cc nL ret xt lv sc p l R s m args meth c D A al0) : CallFix p m c cc nL s args am_W y.cls := ⟨F.1, F.2.1, F.2.2.2.1, F.2.2.2.2.1, F.2.2.2.2.2.1⟩
/-- the callee's start -/
theorem am_pre {p : Program} {l : Launch} {R : Room} {s : State} {m : MethodId} {args : Array Value} {meth : Method} {c : Code} {D : va_G} {A : Nat → Prop} {al0 al : am_A} {ws : va_W} {H : Heap} {locs : List Loc} (F : am_Fix y cc nL ret xt lv sc p l R s m args meth c D A al0) (hle : am_le al0 al) (hP : va_P D vwCl ws H) (hD : va_D A ws) (hS : va_S A s.heap H locs) (hw : am_w s al N aw ws) {as vs : List Value} (hvs : am_vs al as vs) :
    ∀ U : State, U.heap = H → s.WarmedH U.vm → va_Pc vs (am_Pre D al as vs N aw ws H.size) vs.toArray U := by
  intro U hU hW
  obtain ⟨hx, hb, hr, hml, hown, hts, hlocks, hin, hfl, hA, hK, hE, hSc, hlv, hloc, hxt⟩ := id F
  refine ⟨rfl, by rw [hU], by rw [hU]; exact hP, am_K9 hW.alike hK, hD.weaken (fun _ _ _ _ => trivial), hvs, am_w.moved hW.alike hw, ?_⟩
  rw [hU]
  exact (((hE.mono hle).kept hS.2.1).narrow (am_free hD hS hA)).warm hW

theorem sw_callVv {idx q ci na nL2 lv2 kc nc k2 n2 N1 : Nat} {y2 : MethodName} {cc2 : ByteArray} {ret2 : Option FieldType} {As st0 : List Value} {aw1 : Nat → am_E} {fs : List Value} (G : am_LV y.cls idx ci (Cond.code y2 cc2 nL2 ret2) y2 na) (hAC : am_AM (Cond.code y2 cc2 nL2 ret2) y2 lv2 (.ref q :: As) N aw none N1 aw1 kc nc) (hs : st0 = As.reverse ++ .ref q :: st) (hlen : As.length = na) (hlv2 : lv2 < lv) (hnL2 : nL2 ≤ 11) (hq : q < N) (he : aw q = am_O ci fs) (hst9 : (st.map fun v => v.category).sum ≤ 8) (hk9 : kc + k2 ≤ k) (hn9 : nc + n2 ≤ n) (d : decode cc pc = .ok (.invokevirtual idx, 3))
    (k9 : SW y cc nL ret xt lv sc (pc + 3) (lo) (st) (N1) (aw1) (k2) (n2) o N' aw') : SW y cc nL ret xt lv sc (pc) (lo) (st0) (N) (aw) (k) (n) o N' aw' := by
  intro p l e R s m args below meth c H locs cells slots kf nf D A al0 al ws ls st' F hk hn hkR hnR hle hP hD hS hw hl hst
  obtain ⟨hx, hb, hr, hml, hown, hts, hlocks, hin, hfl, hA, hK, hE, hSc, hlv, hloc, hxt⟩ := id F
  subst hs
  obtain ⟨As2, r2, rfl, hAs, hst1⟩ := am_vs.app hst
  obtain ⟨w0, r0, rfl, ⟨a, g1, rfl⟩, hst2⟩ := hst1
  have hAs9 := hAs.rev
  rw [List.reverse_reverse] at hAs9
  obtain ⟨As1, hAs1⟩ : ∃ z, z = As2.reverse := ⟨_, rfl⟩
  have hAs2 : As2 = As1.reverse := by rw [hAs1, List.reverse_reverse]
  rw [← hAs1] at hAs9
  subst hAs2
  have hRm : (am_rm lv2 kc nc).frames + 1 ≤ R.frames ∧ 8 + (nL2 + 11) + (am_rm lv2 kc nc).locals ≤ R.locals := ⟨by show lv2 + 1 ≤ _; omega, by show _ + (30 * lv2 + 62) ≤ _; omega⟩
  have hPr := am_pre F hle hP hD hS hw (as := (.ref q :: As)) (vs := (.ref a :: As1)) ⟨_, _, rfl, ⟨a, g1, rfl⟩, hAs9⟩
  obtain ⟨z, h1, h2⟩ := am_cell hw hq g1
  rw [he] at h2
  obtain ⟨fs1, rfl, h3⟩ := h2
  obtain ⟨T9, NF9, hc8⟩ := G.2.2.2.2
  refine am_goR (va_runV (As := As1) (rest := r0) (am_fix F) (hAC l hfl D al (.ref a :: As1) ws H.size) (cwV na hts G.good rfl rfl rfl ⟨rfl, G.1.2.2.1, G.1.2.2.2.1, G.1.2.2.2.2⟩ hRm) ⟨am_Pre.blind, va_recv hK hP hc8 h1, hPr⟩ rfl (by rw [hAs9.len]; exact hlen) hl.choose_spec.1.1 rfl (lv_room (by rw [hst2.cats]; exact hst9)) d ⟨by omega, by omega⟩) hK hD hS hA ?_
  intro v9 al1 ws1 H1 locs1 hov hle1 hP1 hD1 hS1 hw1
  cases hov
  exact k9 p l e R s m args below meth c H1 locs1 (cells + kc) (slots + nc) kf nf D A al0 al1 ws1 ls _ F (by omega) (by omega) hkR hnR (hle.tr hle1) hP1 hD1 hS1 hw1 (hl.mono hle1) (hst2.mono hle1)
theorem sw_callVx {idx q ci na nL2 lv2 kc nc k2 n2 N1 : Nat} {y2 : MethodName} {cc2 : ByteArray} {ret2 : Option FieldType} {As st0 : List Value} {aw1 : Nat → am_E} {fs : List Value} {x : Value} (G : am_LV y.cls idx ci (Cond.code y2 cc2 nL2 ret2) y2 na) (hAC : am_AM (Cond.code y2 cc2 nL2 ret2) y2 lv2 (.ref q :: As) N aw (some x) N1 aw1 kc nc) (hs : st0 = As.reverse ++ .ref q :: st) (hlen : As.length = na) (hlv2 : lv2 < lv) (hnL2 : nL2 ≤ 11) (hq : q < N) (he : aw q = am_O ci fs) (hst9 : (st.map fun v => v.category).sum ≤ 8) (hk9 : kc + k2 ≤ k) (hn9 : nc + n2 ≤ n) (d : decode cc pc = .ok (.invokevirtual idx, 3))
    (k9 : SW y cc nL ret xt lv sc (pc + 3) (lo) (x :: st) (N1) (aw1) (k2) (n2) o N' aw') : SW y cc nL ret xt lv sc (pc) (lo) (st0) (N) (aw) (k) (n) o N' aw' := by
  intro p l e R s m args below meth c H locs cells slots kf nf D A al0 al ws ls st' F hk hn hkR hnR hle hP hD hS hw hl hst
  obtain ⟨hx, hb, hr, hml, hown, hts, hlocks, hin, hfl, hA, hK, hE, hSc, hlv, hloc, hxt⟩ := id F
  subst hs
  obtain ⟨As2, r2, rfl, hAs, hst1⟩ := am_vs.app hst
  obtain ⟨w0, r0, rfl, ⟨a, g1, rfl⟩, hst2⟩ := hst1
  have hAs9 := hAs.rev
  rw [List.reverse_reverse] at hAs9
  obtain ⟨As1, hAs1⟩ : ∃ z, z = As2.reverse := ⟨_, rfl⟩
  have hAs2 : As2 = As1.reverse := by rw [hAs1, List.reverse_reverse]
  rw [← hAs1] at hAs9
  subst hAs2
  have hRm : (am_rm lv2 kc nc).frames + 1 ≤ R.frames ∧ 8 + (nL2 + 11) + (am_rm lv2 kc nc).locals ≤ R.locals := ⟨by show lv2 + 1 ≤ _; omega, by show _ + (30 * lv2 + 62) ≤ _; omega⟩
  have hPr := am_pre F hle hP hD hS hw (as := (.ref q :: As)) (vs := (.ref a :: As1)) ⟨_, _, rfl, ⟨a, g1, rfl⟩, hAs9⟩
  obtain ⟨z, h1, h2⟩ := am_cell hw hq g1
  rw [he] at h2
  obtain ⟨fs1, rfl, h3⟩ := h2
  obtain ⟨T9, NF9, hc8⟩ := G.2.2.2.2
  refine am_goR (va_runV (As := As1) (rest := r0) (am_fix F) (hAC l hfl D al (.ref a :: As1) ws H.size) (cwV na hts G.good rfl rfl rfl ⟨rfl, G.1.2.2.1, G.1.2.2.2.1, G.1.2.2.2.2⟩ hRm) ⟨am_Pre.blind, va_recv hK hP hc8 h1, hPr⟩ rfl (by rw [hAs9.len]; exact hlen) hl.choose_spec.1.1 rfl (lv_room (by rw [hst2.cats]; exact hst9)) d ⟨by omega, by omega⟩) hK hD hS hA ?_
  intro v9 al1 ws1 H1 locs1 hov hle1 hP1 hD1 hS1 hw1
  obtain ⟨x9, rfl, hx9⟩ := hov
  exact k9 p l e R s m args below meth c H1 locs1 (cells + kc) (slots + nc) kf nf D A al0 al1 ws1 ls _ F (by omega) (by omega) hkR hnR (hle.tr hle1) hP1 hD1 hS1 hw1 (hl.mono hle1) ⟨_, _, rfl, hx9, hst2.mono hle1⟩
theorem sw_callVT {idx q ci na nL2 lv2 kc nc k2 n2 N1 : Nat} {y2 : MethodName} {cc2 : ByteArray} {ret2 : Option FieldType} {As st0 : List Value} {aw1 : Nat → am_E} {fs : List Value} {E : String} (G : am_LV y.cls idx ci (Cond.code y2 cc2 nL2 ret2) y2 na) (hAC : am_AT (Cond.code y2 cc2 nL2 ret2) y2 lv2 (.ref q :: As) N aw E N1 aw1 kc nc) (hs : st0 = As.reverse ++ .ref q :: st) (hlen : As.length = na) (hlv2 : lv2 < lv) (hnL2 : nL2 ≤ 11) (hq : q < N) (he : aw q = am_O ci fs) (hst9 : (st.map fun v => v.category).sum ≤ 8) (hk9 : kc + k2 ≤ k) (hn9 : nc + n2 ≤ n) (d : decode cc pc = .ok (.invokevirtual idx, 3)) (hxt9 : xt = [])
     : SW y cc nL ret xt lv sc (pc) (lo) (st0) (N) (aw) (k) (n) (.inr E) N1 aw1 := by
  intro p l e R s m args below meth c H locs cells slots kf nf D A al0 al ws ls st' F hk hn hkR hnR hle hP hD hS hw hl hst
  obtain ⟨hx, hb, hr, hml, hown, hts, hlocks, hin, hfl, hA, hK, hE, hSc, hlv, hloc, hxt⟩ := id F
  subst hs
  obtain ⟨As2, r2, rfl, hAs, hst1⟩ := am_vs.app hst
  obtain ⟨w0, r0, rfl, ⟨a, g1, rfl⟩, hst2⟩ := hst1
  have hAs9 := hAs.rev
  rw [List.reverse_reverse] at hAs9
  obtain ⟨As1, hAs1⟩ : ∃ z, z = As2.reverse := ⟨_, rfl⟩
  have hAs2 : As2 = As1.reverse := by rw [hAs1, List.reverse_reverse]
  rw [← hAs1] at hAs9
  subst hAs2
  have hRm : (am_rm lv2 kc nc).frames + 1 ≤ R.frames ∧ 8 + (nL2 + 11) + (am_rm lv2 kc nc).locals ≤ R.locals := ⟨by show lv2 + 1 ≤ _; omega, by show _ + (30 * lv2 + 62) ≤ _; omega⟩
  have hPr := am_pre F hle hP hD hS hw (as := (.ref q :: As)) (vs := (.ref a :: As1)) ⟨_, _, rfl, ⟨a, g1, rfl⟩, hAs9⟩
  obtain ⟨z, h1, h2⟩ := am_cell hw hq g1
  rw [he] at h2
  obtain ⟨fs1, rfl, h3⟩ := h2
  obtain ⟨T9, NF9, hc8⟩ := G.2.2.2.2
  refine am_goT (vx_runV (As := As1) (rest := r0) (am_fix F) (hAC l hfl D al (.ref a :: As1) ws H.size) (cwV na hts G.good rfl rfl rfl ⟨rfl, G.1.2.2.1, G.1.2.2.2.1, G.1.2.2.2.2⟩ hRm) ⟨am_Pre.blind, va_recv hK hP hc8 h1, hPr⟩ rfl (by rw [hAs9.len]; exact hlen) hl.choose_spec.1.1 rfl (lv_room (by rw [hst2.cats]; exact hst9)) d ⟨by omega, by omega⟩) hK hD hS hA ?_
  intro q9 ce al1 ws1 H1 locs1 hle1 hP1 hD1 hS1 hw1 hce hcv hcl
  subst hxt9
  exact vx_out (by rw [hxt]; exact fun x h => nomatch h) hlocks hce hcv hcl (fun t ht hal => ⟨⟨rfl, al1, ws1, hle.tr hle1, by rw [ht]; exact hP1, am_K9 hal hK, hD1, am_w.moved hal hw1⟩, hS1.F ht⟩) hS1.2.2 (by omega) (by omega)
theorem sw_callVC {idx q ci na nL2 lv2 kc nc k2 n2 N1 : Nat} {y2 : MethodName} {cc2 : ByteArray} {ret2 : Option FieldType} {As st0 : List Value} {aw1 : Nat → am_E} {fs : List Value} {E : String} (G : am_LV y.cls idx ci (Cond.code y2 cc2 nL2 ret2) y2 na) (hAC : am_AT (Cond.code y2 cc2 nL2 ret2) y2 lv2 (.ref q :: As) N aw E N1 aw1 kc nc) (hs : st0 = As.reverse ++ .ref q :: st) (hlen : As.length = na) (hlv2 : lv2 < lv) (hnL2 : nL2 ≤ 11) (hq : q < N) (he : aw q = am_O ci fs) (hst9 : (st.map fun v => v.category).sum ≤ 8) (hk9 : kc + k2 ≤ k) (hn9 : nc + n2 ≤ n) (d : decode cc pc = .ok (.invokevirtual idx, 3)) {i9 pc9 h8 cty : Nat} {nm9 : String} {pre9 suf9 : List (Nat × Nat × Nat × Nat)} {x9 : Nat × Nat × Nat × Nat} (hxt9 : xt = pre9 ++ x9 :: suf9) (hpass : ∀ z ∈ tableOf pre9, covers z pc = false ∨ (z.catchType ≠ 0 ∧ ∃ nm : String, Cond.classLink y.cls z.catchType nm ∈ am_W ∧ ∀ (al : am_A) (A : Nat → Prop) (U : State) (H : Heap), am_Env al A U H → va_Nc E nm U)) (hcov : covers (⟨x9.1, x9.2.1, x9.2.2.1, x9.2.2.2⟩ : ExceptionTableEntry) pc = true) (hc0 : x9.2.2.2 ≠ 0) (hcl9 : Cond.classLink y.cls x9.2.2.2 E ∈ am_W) (hEx : E ∈ am_Xs) (hh8 : x9.2.2.1 = h8) (hi2 : i9 < nL) (hc9 : am_c1 lo i9 = true) (das : decode cc h8 = .ok (.astore i9, 2) ∧ pc9 = h8 + 2 ∨ ∃ f9 : Fin 4, decode cc h8 = .ok (.astore_n f9, 1) ∧ (f9 : Nat) = i9 ∧ pc9 = h8 + 1)
    (k9 : SW y cc nL ret xt lv sc (pc9) (am_st lo i9 none) ([]) (N1) (aw1) (k2) (n2) o N' aw') : SW y cc nL ret xt lv sc (pc) (lo) (st0) (N) (aw) (k) (n) o N' aw' := by
  intro p l e R s m args below meth c H locs cells slots kf nf D A al0 al ws ls st' F hk hn hkR hnR hle hP hD hS hw hl hst
  obtain ⟨hx, hb, hr, hml, hown, hts, hlocks, hin, hfl, hA, hK, hE, hSc, hlv, hloc, hxt⟩ := id F
  subst hs
  obtain ⟨As2, r2, rfl, hAs, hst1⟩ := am_vs.app hst
  obtain ⟨w0, r0, rfl, ⟨a, g1, rfl⟩, hst2⟩ := hst1
  have hAs9 := hAs.rev
  rw [List.reverse_reverse] at hAs9
  obtain ⟨As1, hAs1⟩ : ∃ z, z = As2.reverse := ⟨_, rfl⟩
  have hAs2 : As2 = As1.reverse := by rw [hAs1, List.reverse_reverse]
  rw [← hAs1] at hAs9
  subst hAs2
  have hRm : (am_rm lv2 kc nc).frames + 1 ≤ R.frames ∧ 8 + (nL2 + 11) + (am_rm lv2 kc nc).locals ≤ R.locals := ⟨by show lv2 + 1 ≤ _; omega, by show _ + (30 * lv2 + 62) ≤ _; omega⟩
  have hPr := am_pre F hle hP hD hS hw (as := (.ref q :: As)) (vs := (.ref a :: As1)) ⟨_, _, rfl, ⟨a, g1, rfl⟩, hAs9⟩
  obtain ⟨z, h1, h2⟩ := am_cell hw hq g1
  rw [he] at h2
  obtain ⟨fs1, rfl, h3⟩ := h2
  obtain ⟨T9, NF9, hc8⟩ := G.2.2.2.2
  refine am_goT (vx_runV (As := As1) (rest := r0) (am_fix F) (hAC l hfl D al (.ref a :: As1) ws H.size) (cwV na hts G.good rfl rfl rfl ⟨rfl, G.1.2.2.1, G.1.2.2.2.1, G.1.2.2.2.2⟩ hRm) ⟨am_Pre.blind, va_recv hK hP hc8 h1, hPr⟩ rfl (by rw [hAs9.len]; exact hlen) hl.choose_spec.1.1 rfl (lv_room (by rw [hst2.cats]; exact hst9)) d ⟨by omega, by omega⟩) hK hD hS hA ?_
  intro q9 ce al1 ws1 H1 locs1 hle1 hP1 hD1 hS1 hw1 hce hcv hcl
  have hcast : (Cond.castable E E).before args s = true := va_Nw.use rfl (hE.2.1 E hEx)
  refine vx_catch hown (tableOf pre9) ⟨x9.1, x9.2.1, x9.2.2.1, x9.2.2.2⟩ (tableOf suf9) (by rw [hxt, hxt9]; simp [tableOf]) (fun z hz => ?_) hcov hc0 (hts _ hcl9) hcast hce hcv hcl ?_
  · rcases hpass z hz with h | ⟨h, nm, h2, h3⟩
    · exact Or.inl h
    · exact Or.inr ⟨h, nm, hts _ h2, h3 _ _ _ _ hE⟩
  · have hl2 := hl.mono hle1
    obtain ⟨lv9, q1, q2⟩ := hl2
    have hst2 : ∀ ls2 : Array Slot, lv_has ls2 nL ((i9, Value.ref q9) :: lv9.filter (fun q => !(q.1 == i9) && !(q.1 + 1 == i9 && q.2.category == 2))) → am_L al1 ls2 nL (am_st lo i9 none) := by
      intro ls2 hb9
      refine ⟨_, hb9, fun j w hj => ?_⟩
      by_cases e9 : j = i9
      · subst e9
        cases am_nth_st_eq hj
      · rw [am_nth_st_ne e9] at hj
        obtain ⟨w', g8, g9⟩ := q2 j w hj
        refine ⟨w', g8, List.mem_cons_of_mem _ (List.mem_filter.mpr ⟨g9, ?_⟩)⟩
        simp only [Bool.and_eq_true, Bool.not_eq_true', beq_eq_false_iff_ne, ne_eq, Bool.and_eq_false_iff]
        refine ⟨e9, ?_⟩
        by_cases e2 : j + 1 = i9
        · right
          intro hcat
          subst e2
          have h9 : am_two (some w) = true := am_two_cat (by rw [← g8.cat]; exact hcat)
          unfold am_c1 at hc9
          simp only at hc9
          rw [hj, h9] at hc9
          cases hc9
        · exact Or.inl e2
    show W p l e R s m args below meth c H1 locs1 _ _ _ (F0 m x9.2.2.1 ls [.ref q9])
    rw [hh8]
    rcases das with ⟨d9, rfl⟩ | ⟨f9, d9, e9, rfl⟩
    · refine lv_astore hx hb d9 q1 hi2 rfl (fun ls2 hb9 => ?_)
      exact k9 p l e R s m args below meth c H1 locs1 (cells + kc) (slots + nc) kf nf D A al0 al1 ws1 ls2 _ F (by omega) (by omega) hkR hnR (hle.tr hle1) hP1 hD1 hS1 hw1 (hst2 ls2 hb9) rfl
    · refine lv_astore_n hx hb d9 e9 q1 hi2 rfl (fun ls2 hb9 => ?_)
      exact k9 p l e R s m args below meth c H1 locs1 (cells + kc) (slots + nc) kf nf D A al0 al1 ws1 ls2 _ F (by omega) (by omega) hkR hnR (hle.tr hle1) hP1 hD1 hS1 hw1 (hst2 ls2 hb9) rfl
theorem sw_callSv {idx q ci na nL2 lv2 kc nc k2 n2 N1 : Nat} {y2 : MethodName} {cc2 : ByteArray} {ret2 : Option FieldType} {As st0 : List Value} {aw1 : Nat → am_E} {fs : List Value} (G : am_LS y.cls idx (Cond.code y2 cc2 nL2 ret2) y2 na) (hAC : am_AM (Cond.code y2 cc2 nL2 ret2) y2 lv2 As N aw none N1 aw1 kc nc) (hs : st0 = As.reverse ++ st) (hlen : As.length = na) (hlv2 : lv2 < lv) (hnL2 : nL2 ≤ 11) (hst9 : (st.map fun v => v.category).sum ≤ 8) (hk9 : kc + k2 ≤ k) (hn9 : nc + n2 ≤ n) (d : decode cc pc = .ok (.invokestatic idx, 3))
    (k9 : SW y cc nL ret xt lv sc (pc + 3) (lo) (st) (N1) (aw1) (k2) (n2) o N' aw') : SW y cc nL ret xt lv sc (pc) (lo) (st0) (N) (aw) (k) (n) o N' aw' := by
  intro p l e R s m args below meth c H locs cells slots kf nf D A al0 al ws ls st' F hk hn hkR hnR hle hP hD hS hw hl hst
  obtain ⟨hx, hb, hr, hml, hown, hts, hlocks, hin, hfl, hA, hK, hE, hSc, hlv, hloc, hxt⟩ := id F
  subst hs
  obtain ⟨As2, r2, rfl, hAs, hst1⟩ := am_vs.app hst
  have hAs9 := hAs.rev
  rw [List.reverse_reverse] at hAs9
  obtain ⟨As1, hAs1⟩ : ∃ z, z = As2.reverse := ⟨_, rfl⟩
  have hAs2 : As2 = As1.reverse := by rw [hAs1, List.reverse_reverse]
  rw [← hAs1] at hAs9
  subst hAs2
  have hRm : (am_rm lv2 kc nc).frames + 1 ≤ R.frames ∧ 8 + (nL2 + 11) + (am_rm lv2 kc nc).locals ≤ R.locals := ⟨by show lv2 + 1 ≤ _; omega, by show _ + (30 * lv2 + 62) ≤ _; omega⟩
  have hPr := am_pre F hle hP hD hS hw (as := As) (vs := As1) hAs9
  refine am_goR (va_runS (As := As1) (rest := r2) (am_fix F) (hAC l hfl D al As1 ws H.size) (va_cwS na hts G.good rfl rfl rfl ⟨G.1.2.2.1, G.1.2.2.2.1, G.1.2.2.2.2⟩ hRm) ⟨am_Pre.blind, hPr⟩ rfl (by rw [hAs9.len]; exact hlen) hl.choose_spec.1.1 rfl (lv_room (by rw [hst1.cats]; exact hst9)) d ⟨by omega, by omega⟩) hK hD hS hA ?_
  intro v9 al1 ws1 H1 locs1 hov hle1 hP1 hD1 hS1 hw1
  cases hov
  exact k9 p l e R s m args below meth c H1 locs1 (cells + kc) (slots + nc) kf nf D A al0 al1 ws1 ls _ F (by omega) (by omega) hkR hnR (hle.tr hle1) hP1 hD1 hS1 hw1 (hl.mono hle1) (hst1.mono hle1)
theorem sw_callSx {idx q ci na nL2 lv2 kc nc k2 n2 N1 : Nat} {y2 : MethodName} {cc2 : ByteArray} {ret2 : Option FieldType} {As st0 : List Value} {aw1 : Nat → am_E} {fs : List Value} {x : Value} (G : am_LS y.cls idx (Cond.code y2 cc2 nL2 ret2) y2 na) (hAC : am_AM (Cond.code y2 cc2 nL2 ret2) y2 lv2 As N aw (some x) N1 aw1 kc nc) (hs : st0 = As.reverse ++ st) (hlen : As.length = na) (hlv2 : lv2 < lv) (hnL2 : nL2 ≤ 11) (hst9 : (st.map fun v => v.category).sum ≤ 8) (hk9 : kc + k2 ≤ k) (hn9 : nc + n2 ≤ n) (d : decode cc pc = .ok (.invokestatic idx, 3))
    (k9 : SW y cc nL ret xt lv sc (pc + 3) (lo) (x :: st) (N1) (aw1) (k2) (n2) o N' aw') : SW y cc nL ret xt lv sc (pc) (lo) (st0) (N) (aw) (k) (n) o N' aw' := by
  intro p l e R s m args below meth c H locs cells slots kf nf D A al0 al ws ls st' F hk hn hkR hnR hle hP hD hS hw hl hst
  obtain ⟨hx, hb, hr, hml, hown, hts, hlocks, hin, hfl, hA, hK, hE, hSc, hlv, hloc, hxt⟩ := id F
  subst hs
  obtain ⟨As2, r2, rfl, hAs, hst1⟩ := am_vs.app hst
  have hAs9 := hAs.rev
  rw [List.reverse_reverse] at hAs9
  obtain ⟨As1, hAs1⟩ : ∃ z, z = As2.reverse := ⟨_, rfl⟩
  have hAs2 : As2 = As1.reverse := by rw [hAs1, List.reverse_reverse]
  rw [← hAs1] at hAs9
  subst hAs2
  have hRm : (am_rm lv2 kc nc).frames + 1 ≤ R.frames ∧ 8 + (nL2 + 11) + (am_rm lv2 kc nc).locals ≤ R.locals := ⟨by show lv2 + 1 ≤ _; omega, by show _ + (30 * lv2 + 62) ≤ _; omega⟩
  have hPr := am_pre F hle hP hD hS hw (as := As) (vs := As1) hAs9
  refine am_goR (va_runS (As := As1) (rest := r2) (am_fix F) (hAC l hfl D al As1 ws H.size) (va_cwS na hts G.good rfl rfl rfl ⟨G.1.2.2.1, G.1.2.2.2.1, G.1.2.2.2.2⟩ hRm) ⟨am_Pre.blind, hPr⟩ rfl (by rw [hAs9.len]; exact hlen) hl.choose_spec.1.1 rfl (lv_room (by rw [hst1.cats]; exact hst9)) d ⟨by omega, by omega⟩) hK hD hS hA ?_
  intro v9 al1 ws1 H1 locs1 hov hle1 hP1 hD1 hS1 hw1
  obtain ⟨x9, rfl, hx9⟩ := hov
  exact k9 p l e R s m args below meth c H1 locs1 (cells + kc) (slots + nc) kf nf D A al0 al1 ws1 ls _ F (by omega) (by omega) hkR hnR (hle.tr hle1) hP1 hD1 hS1 hw1 (hl.mono hle1) ⟨_, _, rfl, hx9, hst1.mono hle1⟩
theorem sw_callST {idx q ci na nL2 lv2 kc nc k2 n2 N1 : Nat} {y2 : MethodName} {cc2 : ByteArray} {ret2 : Option FieldType} {As st0 : List Value} {aw1 : Nat → am_E} {fs : List Value} {E : String} (G : am_LS y.cls idx (Cond.code y2 cc2 nL2 ret2) y2 na) (hAC : am_AT (Cond.code y2 cc2 nL2 ret2) y2 lv2 As N aw E N1 aw1 kc nc) (hs : st0 = As.reverse ++ st) (hlen : As.length = na) (hlv2 : lv2 < lv) (hnL2 : nL2 ≤ 11) (hst9 : (st.map fun v => v.category).sum ≤ 8) (hk9 : kc + k2 ≤ k) (hn9 : nc + n2 ≤ n) (d : decode cc pc = .ok (.invokestatic idx, 3)) (hxt9 : xt = [])
     : SW y cc nL ret xt lv sc (pc) (lo) (st0) (N) (aw) (k) (n) (.inr E) N1 aw1 := by
  intro p l e R s m args below meth c H locs cells slots kf nf D A al0 al ws ls st' F hk hn hkR hnR hle hP hD hS hw hl hst
  obtain ⟨hx, hb, hr, hml, hown, hts, hlocks, hin, hfl, hA, hK, hE, hSc, hlv, hloc, hxt⟩ := id F
  subst hs
  obtain ⟨As2, r2, rfl, hAs, hst1⟩ := am_vs.app hst
  have hAs9 := hAs.rev
  rw [List.reverse_reverse] at hAs9
  obtain ⟨As1, hAs1⟩ : ∃ z, z = As2.reverse := ⟨_, rfl⟩
  have hAs2 : As2 = As1.reverse := by rw [hAs1, List.reverse_reverse]
  rw [← hAs1] at hAs9
  subst hAs2
  have hRm : (am_rm lv2 kc nc).frames + 1 ≤ R.frames ∧ 8 + (nL2 + 11) + (am_rm lv2 kc nc).locals ≤ R.locals := ⟨by show lv2 + 1 ≤ _; omega, by show _ + (30 * lv2 + 62) ≤ _; omega⟩
  have hPr := am_pre F hle hP hD hS hw (as := As) (vs := As1) hAs9
  refine am_goT (vx_runS (As := As1) (rest := r2) (am_fix F) (hAC l hfl D al As1 ws H.size) (va_cwS na hts G.good rfl rfl rfl ⟨G.1.2.2.1, G.1.2.2.2.1, G.1.2.2.2.2⟩ hRm) ⟨am_Pre.blind, hPr⟩ rfl (by rw [hAs9.len]; exact hlen) hl.choose_spec.1.1 rfl (lv_room (by rw [hst1.cats]; exact hst9)) d ⟨by omega, by omega⟩) hK hD hS hA ?_
  intro q9 ce al1 ws1 H1 locs1 hle1 hP1 hD1 hS1 hw1 hce hcv hcl
  subst hxt9
  exact vx_out (by rw [hxt]; exact fun x h => nomatch h) hlocks hce hcv hcl (fun t ht hal => ⟨⟨rfl, al1, ws1, hle.tr hle1, by rw [ht]; exact hP1, am_K9 hal hK, hD1, am_w.moved hal hw1⟩, hS1.F ht⟩) hS1.2.2 (by omega) (by omega)
theorem sw_callWx {idx q ci na nL2 lv2 kc nc k2 n2 N1 : Nat} {y2 : MethodName} {cc2 : ByteArray} {ret2 : Option FieldType} {xt2 : List (Nat × Nat × Nat × Nat)} {As st0 : List Value} {aw1 : Nat → am_E} {fs : List Value} {x : Value} (G : am_LS y.cls idx (Cond.codeWith y2 cc2 nL2 ret2 xt2) y2 na) (hAC : am_AM (Cond.codeWith y2 cc2 nL2 ret2 xt2) y2 lv2 As N aw (some x) N1 aw1 kc nc) (hs : st0 = As.reverse ++ st) (hlen : As.length = na) (hlv2 : lv2 < lv) (hnL2 : nL2 ≤ 11) (hst9 : (st.map fun v => v.category).sum ≤ 8) (hk9 : kc + k2 ≤ k) (hn9 : nc + n2 ≤ n) (d : decode cc pc = .ok (.invokestatic idx, 3))
    (k9 : SW y cc nL ret xt lv sc (pc + 3) (lo) (x :: st) (N1) (aw1) (k2) (n2) o N' aw') : SW y cc nL ret xt lv sc (pc) (lo) (st0) (N) (aw) (k) (n) o N' aw' := by
  intro p l e R s m args below meth c H locs cells slots kf nf D A al0 al ws ls st' F hk hn hkR hnR hle hP hD hS hw hl hst
  obtain ⟨hx, hb, hr, hml, hown, hts, hlocks, hin, hfl, hA, hK, hE, hSc, hlv, hloc, hxt⟩ := id F
  subst hs
  obtain ⟨As2, r2, rfl, hAs, hst1⟩ := am_vs.app hst
  have hAs9 := hAs.rev
  rw [List.reverse_reverse] at hAs9
  obtain ⟨As1, hAs1⟩ : ∃ z, z = As2.reverse := ⟨_, rfl⟩
  have hAs2 : As2 = As1.reverse := by rw [hAs1, List.reverse_reverse]
  rw [← hAs1] at hAs9
  subst hAs2
  have hRm : (am_rm lv2 kc nc).frames + 1 ≤ R.frames ∧ 8 + (nL2 + 11) + (am_rm lv2 kc nc).locals ≤ R.locals := ⟨by show lv2 + 1 ≤ _; omega, by show _ + (30 * lv2 + 62) ≤ _; omega⟩
  have hPr := am_pre F hle hP hD hS hw (as := As) (vs := As1) hAs9
  refine am_goR (vx_runSW (As := As1) (rest := r2) (am_fix F) (hAC l hfl D al As1 ws H.size) (vx_cwSW na hts G.good rfl rfl rfl ⟨G.1.2.2.1, G.1.2.2.2.1, G.1.2.2.2.2⟩ hRm) ⟨am_Pre.blind, hPr⟩ rfl (by rw [hAs9.len]; exact hlen) hl.choose_spec.1.1 rfl (lv_room (by rw [hst1.cats]; exact hst9)) d ⟨by omega, by omega⟩) hK hD hS hA ?_
  intro v9 al1 ws1 H1 locs1 hov hle1 hP1 hD1 hS1 hw1
  obtain ⟨x9, rfl, hx9⟩ := hov
  exact k9 p l e R s m args below meth c H1 locs1 (cells + kc) (slots + nc) kf nf D A al0 al1 ws1 ls _ F (by omega) (by omega) hkR hnR (hle.tr hle1) hP1 hD1 hS1 hw1 (hl.mono hle1) ⟨_, _, rfl, hx9, hst1.mono hle1⟩
theorem sw_callI {idx q ci na nL2 lv2 kc nc k2 n2 N1 : Nat} {y2 : MethodName} {cc2 : ByteArray} {ret2 : Option FieldType} {As st0 : List Value} {aw1 : Nat → am_E} {fs : List Value} (G : am_L0 (Cond.code y2 cc2 nL2 none) y2 na) (G2 : Cond.methodLink y.cls idx y2 ∈ am_W) (G3 : Cond.instanceMethod y2 ∈ am_W) (hy9 : y2.name = "<init>") (hAC : am_AM (Cond.code y2 cc2 nL2 none) y2 lv2 (.ref q :: As) N aw none N1 aw1 kc nc) (hs : st0 = As.reverse ++ .ref q :: st) (hlen : As.length = na) (hlv2 : lv2 < lv) (hnL2 : nL2 ≤ 11) (hst9 : (st.map fun v => v.category).sum ≤ 8) (hk9 : kc + k2 ≤ k) (hn9 : nc + n2 ≤ n) (d : decode cc pc = .ok (.invokespecial idx, 3))
    (k9 : SW y cc nL ret xt lv sc (pc + 3) (lo) (st) (N1) (aw1) (k2) (n2) o N' aw') : SW y cc nL ret xt lv sc (pc) (lo) (st0) (N) (aw) (k) (n) o N' aw' := by
  intro p l e R s m args below meth c H locs cells slots kf nf D A al0 al ws ls st' F hk hn hkR hnR hle hP hD hS hw hl hst
  obtain ⟨hx, hb, hr, hml, hown, hts, hlocks, hin, hfl, hA, hK, hE, hSc, hlv, hloc, hxt⟩ := id F
  subst hs
  obtain ⟨As2, r2, rfl, hAs, hst1⟩ := am_vs.app hst
  obtain ⟨w0, r0, rfl, ⟨a, g1, rfl⟩, hst2⟩ := hst1
  have hAs9 := hAs.rev
  rw [List.reverse_reverse] at hAs9
  obtain ⟨As1, hAs1⟩ : ∃ z, z = As2.reverse := ⟨_, rfl⟩
  have hAs2 : As2 = As1.reverse := by rw [hAs1, List.reverse_reverse]
  rw [← hAs1] at hAs9
  subst hAs2
  have hRm : (am_rm lv2 kc nc).frames + 1 ≤ R.frames ∧ 8 + (nL2 + 11) + (am_rm lv2 kc nc).locals ≤ R.locals := ⟨by show lv2 + 1 ≤ _; omega, by show _ + (30 * lv2 + 62) ≤ _; omega⟩
  have hPr := am_pre F hle hP hD hS hw (as := (.ref q :: As)) (vs := (.ref a :: As1)) ⟨_, _, rfl, ⟨a, g1, rfl⟩, hAs9⟩
  refine am_goR (va_runI (As := As1) (rest := r0) (am_fix F) (hAC l hfl D al (.ref a :: As1) ws H.size) (cwI na hts (am_good2 (pre := []) G.1 (fun _ h => nomatch h)) rfl rfl rfl (hts _ G.2.1) (hts _ G2) (hts _ G3) hy9 ⟨G.2.2.1, G.2.2.2.1, G.2.2.2.2⟩ hRm) ⟨am_Pre.blind, hPr⟩ rfl (by rw [hAs9.len]; exact hlen) hl.choose_spec.1.1 rfl (lv_room (by rw [hst2.cats]; exact hst9)) d ⟨by omega, by omega⟩) hK hD hS hA ?_
  intro v9 al1 ws1 H1 locs1 hov hle1 hP1 hD1 hS1 hw1
  cases hov
  exact k9 p l e R s m args below meth c H1 locs1 (cells + kc) (slots + nc) kf nf D A al0 al1 ws1 ls _ F (by omega) (by omega) hkR hnR (hle.tr hle1) hP1 hD1 hS1 hw1 (hl.mono hle1) (hst2.mono hle1)
theorem sw_callIN {idx q ci na nL2 lv2 kc nc k2 n2 N1 : Nat} {y2 : MethodName} {cc2 : ByteArray} {ret2 : Option FieldType} {As st0 : List Value} {aw1 : Nat → am_E} {fs : List Value} (G : am_L0 (Cond.code y2 cc2 nL2 none) y2 na) (G2 : ∀ (al : am_A) (A : Nat → Prop) (U : State) (H : Heap), am_Env al A U H → va_Nw (.methodLinkNest y.cls idx y2 RX6) U) (G3 : Cond.instanceMethod y2 ∈ am_W) (hy9 : y2.name = "<init>") (hAC : am_AM (Cond.code y2 cc2 nL2 none) y2 lv2 (.ref q :: As) N aw none N1 aw1 kc nc) (hs : st0 = As.reverse ++ .ref q :: st) (hlen : As.length = na) (hlv2 : lv2 < lv) (hnL2 : nL2 ≤ 11) (hst9 : (st.map fun v => v.category).sum ≤ 8) (hk9 : kc + k2 ≤ k) (hn9 : nc + n2 ≤ n) (d : decode cc pc = .ok (.invokespecial idx, 3))
    (k9 : SW y cc nL ret xt lv sc (pc + 3) (lo) (st) (N1) (aw1) (k2) (n2) o N' aw') : SW y cc nL ret xt lv sc (pc) (lo) (st0) (N) (aw) (k) (n) o N' aw' := by
  intro p l e R s m args below meth c H locs cells slots kf nf D A al0 al ws ls st' F hk hn hkR hnR hle hP hD hS hw hl hst
  obtain ⟨hx, hb, hr, hml, hown, hts, hlocks, hin, hfl, hA, hK, hE, hSc, hlv, hloc, hxt⟩ := id F
  subst hs
  obtain ⟨As2, r2, rfl, hAs, hst1⟩ := am_vs.app hst
  obtain ⟨w0, r0, rfl, ⟨a, g1, rfl⟩, hst2⟩ := hst1
  have hAs9 := hAs.rev
  rw [List.reverse_reverse] at hAs9
  obtain ⟨As1, hAs1⟩ : ∃ z, z = As2.reverse := ⟨_, rfl⟩
  have hAs2 : As2 = As1.reverse := by rw [hAs1, List.reverse_reverse]
  rw [← hAs1] at hAs9
  subst hAs2
  have hRm : (am_rm lv2 kc nc).frames + 1 ≤ R.frames ∧ 8 + (nL2 + 11) + (am_rm lv2 kc nc).locals ≤ R.locals := ⟨by show lv2 + 1 ≤ _; omega, by show _ + (30 * lv2 + 62) ≤ _; omega⟩
  have hPr := am_pre F hle hP hD hS hw (as := (.ref q :: As)) (vs := (.ref a :: As1)) ⟨_, _, rfl, ⟨a, g1, rfl⟩, hAs9⟩
  refine am_goR (va_runIN (As := As1) (rest := r0) (am_fix F) (hAC l hfl D al (.ref a :: As1) ws H.size) ⟨va_cnB na hts (am_good2 (pre := []) G.1 (fun _ h => nomatch h)) rfl rfl rfl (G2 _ _ _ _ hE) (hts _ G.2.1) ⟨G.2.2.1, G.2.2.2.1, G.2.2.2.2⟩ hRm, hy9, hts _ G3⟩ ⟨am_Pre.blind, hPr⟩ rfl (by rw [hAs9.len]; exact hlen) hl.choose_spec.1.1 rfl (lv_room (by rw [hst2.cats]; exact hst9)) d ⟨by omega, by omega⟩) hK hD hS hA ?_
  intro v9 al1 ws1 H1 locs1 hov hle1 hP1 hD1 hS1 hw1
  cases hov
  exact k9 p l e R s m args below meth c H1 locs1 (cells + kc) (slots + nc) kf nf D A al0 al1 ws1 ls _ F (by omega) (by omega) hkR hnR (hle.tr hle1) hP1 hD1 hS1 hw1 (hl.mono hle1) (hst2.mono hle1)
theorem sw_throw {ik is ic : Nat} {cls text : String} (hy0 : y.cls = RX6) (hcls : Bundle.fit cls = true) (htx : (is, text) ∈ am_Str) (hk8 : Cond.classLink RX6 ik cls ∈ am_W) (hini : Cond.initialized cls ∈ am_W) (hX : cls ∈ am_Xs) (hat : ∀ w ∈ vx_atS RX6 ic cls ["java/lang/RuntimeException", "java/lang/Exception"], w ∈ am_W ∨ w = .castable cls cls)
    (hk9 : 1 ≤ k) (hn9 : 6 ≤ n) (hlv9 : 6 ≤ lv) (hst9 : (st.map fun v => v.category).sum ≤ 8) (hxt9 : xt = [])
    (d0 : decode cc pc = .ok (.new ik, 3)) (d3 : decode cc (pc + 3) = .ok (.dup, 1)) (d4 : decode cc (pc + 4) = .ok (.ldc is, 2)) (d6 : decode cc (pc + 6) = .ok (.invokespecial ic, 3)) (d9 : decode cc (pc + 9) = .ok (.athrow, 1)) :
    SW y cc nL ret xt lv sc pc lo st N aw k n (.inr cls) N aw := by
  intro p l e R s m args below meth c H locs cells slots kf nf D A al0 al ws ls st' F hk hn hkR hnR hle hP hD hS hw hl hst
  obtain ⟨hx, hb, hr, hml, hown, hts, hlocks, hin, hfl, hA, hK, hE, hSc, hlv, hloc, hxt⟩ := id F
  subst hxt9
  rw [hy0] at hown
  obtain ⟨sa, hsa⟩ := hE.2.2.1 _ htx
  have hcast : (Cond.castable cls cls).before args s = true := va_Nw.use rfl (hE.2.1 cls hX)
  have hat2 : ∀ w ∈ vx_atS RX6 ic cls ["java/lang/RuntimeException", "java/lang/Exception"], w.before args s = true := fun w h9 => (hat w h9).elim (fun h8 => hts _ h8) (fun h8 => by rw [h8]; exact hcast)
  refine vx_throwS hx hb hfl hown hcls (names := ["java/lang/RuntimeException", "java/lang/Exception"]) (by decide +kernel) (hts _ hk8) (hts _ hini) hsa hat2 (fun w h9 => ?_) hE.1.1 hE.1.2 hS (hl.choose_spec.1.1.trans hml.symm) d0 d3 d4 d6 d9 (by rw [hxt]; exact fun x h => nomatch h) (by simp only [List.length_cons, List.length_nil]; omega) (by rw [hst.cats]; simp only [List.length_cons, List.length_nil]; omega) (by omega) (by omega) hlocks
    (fun t hal hz hk => ⟨⟨rfl, al, ws, hle, hP.kept (fun j q hj => hk _ ((hP j q hj).lt)), am_K9 hal hK, hD, am_w.moved hal hw⟩, ⟨Nat.le_trans hS.1 hz, fun q h1 h2 => (hk q (Nat.lt_of_lt_of_le h1 hS.1)).trans (hS.2.1 q h1 h2)⟩⟩) hS.2.2 (by omega) (by omega)
  have good : ∀ w, w ∈ am_W → vx_ot w = true := fun w h8 => by
    unfold vx_ot
    rw [(List.mem_filter.mp h8).2, Bool.or_true]
  rcases List.mem_cons.mp h9 with rfl | h9
  · exact good _ hk8
  · rcases List.mem_cons.mp h9 with rfl | h9
    · exact good _ hini
    · rcases hat w h9 with h8 | rfl
      · exact good _ h8
      · rfl
theorem sw_throwW {ik is ic : Nat} {cls text : String} (hy0 : y.cls = RX6) (hcls : Bundle.fit cls = true) (htx : (is, text) ∈ am_Str) (hk8 : Cond.classLink RX6 ik cls ∈ am_W) (hini : Cond.initialized cls ∈ am_W) (hX : cls ∈ am_Xs) (hat : ∀ w ∈ vx_atS RX6 ic cls ["java/lang/RuntimeException", "java/lang/Exception"], w ∈ am_W ∨ w = .castable cls cls)
    (hk9 : 1 ≤ k) (hn9 : 6 ≤ n) (hlv9 : 6 ≤ lv) (hst9 : (st.map fun v => v.category).sum ≤ 8) (hxt9 : xt = [])
    (d0 : decode cc pc = .ok (.new ik, 3)) (d3 : decode cc (pc + 3) = .ok (.dup, 1)) (d4 : decode cc (pc + 4) = .ok (.ldc_w is, 3)) (d6 : decode cc (pc + 7) = .ok (.invokespecial ic, 3)) (d9 : decode cc (pc + 10) = .ok (.athrow, 1)) :
    SW y cc nL ret xt lv sc pc lo st N aw k n (.inr cls) N aw := by
  intro p l e R s m args below meth c H locs cells slots kf nf D A al0 al ws ls st' F hk hn hkR hnR hle hP hD hS hw hl hst
  obtain ⟨hx, hb, hr, hml, hown, hts, hlocks, hin, hfl, hA, hK, hE, hSc, hlv, hloc, hxt⟩ := id F
  subst hxt9
  rw [hy0] at hown
  obtain ⟨sa, hsa⟩ := hE.2.2.1 _ htx
  have hcast : (Cond.castable cls cls).before args s = true := va_Nw.use rfl (hE.2.1 cls hX)
  have hat2 : ∀ w ∈ vx_atS RX6 ic cls ["java/lang/RuntimeException", "java/lang/Exception"], w.before args s = true := fun w h9 => (hat w h9).elim (fun h8 => hts _ h8) (fun h8 => by rw [h8]; exact hcast)
  refine vx_throwSW hx hb hfl hown hcls (names := ["java/lang/RuntimeException", "java/lang/Exception"]) (by decide +kernel) (hts _ hk8) (hts _ hini) hsa hat2 (fun w h9 => ?_) hE.1.1 hE.1.2 hS (hl.choose_spec.1.1.trans hml.symm) d0 d3 d4 d6 d9 (by rw [hxt]; exact fun x h => nomatch h) (by simp only [List.length_cons, List.length_nil]; omega) (by rw [hst.cats]; simp only [List.length_cons, List.length_nil]; omega) (by omega) (by omega) hlocks
    (fun t hal hz hk => ⟨⟨rfl, al, ws, hle, hP.kept (fun j q hj => hk _ ((hP j q hj).lt)), am_K9 hal hK, hD, am_w.moved hal hw⟩, ⟨Nat.le_trans hS.1 hz, fun q h1 h2 => (hk q (Nat.lt_of_lt_of_le h1 hS.1)).trans (hS.2.1 q h1 h2)⟩⟩) hS.2.2 (by omega) (by omega)
  have good : ∀ w, w ∈ am_W → vx_ot w = true := fun w h8 => by
    unfold vx_ot
    rw [(List.mem_filter.mp h8).2, Bool.or_true]
  rcases List.mem_cons.mp h9 with rfl | h9
  · exact good _ hk8
  · rcases List.mem_cons.mp h9 with rfl | h9
    · exact good _ hini
    · rcases hat w h9 with h8 | rfl
      · exact good _ h8
      · rfl
end AMD
end
