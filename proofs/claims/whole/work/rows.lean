section
-- ===== PART A: goes FIRST, ahead of the names: the tables' words, and 'selects' of the private methods out of them =====
/-- a private method of a class that the tables say can be made, by its rows of tables_1 -/
def lw_okq (q : MethodName × Nat) : Prop := (q.1.cls ≠ "java/lang/invoke/MethodHandle" ∧ q.1.cls ≠ "java/lang/invoke/VarHandle") ∧ Cond.instantiable q.1.cls q.2 ∈ tables_1 ∧ Cond.privateMethod q.1 ∈ tables_1 ∧ Cond.instanceMethod q.1 ∈ tables_1
theorem lw_p0 : lw_okq (⟨"OneHinge$Text", "readLine", "()Z"⟩, 7) := ⟨⟨by decide +kernel, by decide +kernel⟩, List.mem_of_getElem? (i := 78) (by decide +kernel), List.mem_of_getElem? (i := 245) (by decide +kernel), List.mem_of_getElem? (i := 246) (by decide +kernel)⟩
theorem lw_p1 : lw_okq (⟨"OneHinge$Text", "nextToken", "()V"⟩, 7) := ⟨⟨by decide +kernel, by decide +kernel⟩, List.mem_of_getElem? (i := 78) (by decide +kernel), List.mem_of_getElem? (i := 249) (by decide +kernel), List.mem_of_getElem? (i := 250) (by decide +kernel)⟩
theorem lw_p2 : lw_okq (⟨"OneHinge$Text", "isLetter", "(I)Z"⟩, 7) := ⟨⟨by decide +kernel, by decide +kernel⟩, List.mem_of_getElem? (i := 78) (by decide +kernel), List.mem_of_getElem? (i := 253) (by decide +kernel), List.mem_of_getElem? (i := 254) (by decide +kernel)⟩
theorem lw_p3 : lw_okq (⟨"OneHinge$Text", "isDigit", "(I)Z"⟩, 7) := ⟨⟨by decide +kernel, by decide +kernel⟩, List.mem_of_getElem? (i := 78) (by decide +kernel), List.mem_of_getElem? (i := 257) (by decide +kernel), List.mem_of_getElem? (i := 258) (by decide +kernel)⟩
theorem lw_p4 : lw_okq (⟨"OneHinge$Text", "wordHere", "()I"⟩, 7) := ⟨⟨by decide +kernel, by decide +kernel⟩, List.mem_of_getElem? (i := 78) (by decide +kernel), List.mem_of_getElem? (i := 261) (by decide +kernel), List.mem_of_getElem? (i := 262) (by decide +kernel)⟩
theorem lw_p5 : lw_okq (⟨"OneHinge$Text", "isHere", "(Ljava/lang/String;)Z"⟩, 7) := ⟨⟨by decide +kernel, by decide +kernel⟩, List.mem_of_getElem? (i := 78) (by decide +kernel), List.mem_of_getElem? (i := 278) (by decide +kernel), List.mem_of_getElem? (i := 279) (by decide +kernel)⟩
theorem lw_p6 : lw_okq (⟨"OneHinge$Text", "readHouse", "()Z"⟩, 7) := ⟨⟨by decide +kernel, by decide +kernel⟩, List.mem_of_getElem? (i := 78) (by decide +kernel), List.mem_of_getElem? (i := 330) (by decide +kernel), List.mem_of_getElem? (i := 331) (by decide +kernel)⟩
theorem lw_p7 : lw_okq (⟨"OneHinge$Text", "readNumber", "(II)Z"⟩, 7) := ⟨⟨by decide +kernel, by decide +kernel⟩, List.mem_of_getElem? (i := 78) (by decide +kernel), List.mem_of_getElem? (i := 334) (by decide +kernel), List.mem_of_getElem? (i := 335) (by decide +kernel)⟩
theorem lw_p8 : lw_okq (⟨"OneHinge$Text", "numberHere", "()I"⟩, 7) := ⟨⟨by decide +kernel, by decide +kernel⟩, List.mem_of_getElem? (i := 78) (by decide +kernel), List.mem_of_getElem? (i := 338) (by decide +kernel), List.mem_of_getElem? (i := 339) (by decide +kernel)⟩
theorem lw_p9 : lw_okq (⟨"OneHinge$Text", "readLeaf", "()Z"⟩, 7) := ⟨⟨by decide +kernel, by decide +kernel⟩, List.mem_of_getElem? (i := 78) (by decide +kernel), List.mem_of_getElem? (i := 343) (by decide +kernel), List.mem_of_getElem? (i := 344) (by decide +kernel)⟩
theorem lw_p10 : lw_okq (⟨"OneHinge$Text", "readPut", "()Z"⟩, 7) := ⟨⟨by decide +kernel, by decide +kernel⟩, List.mem_of_getElem? (i := 78) (by decide +kernel), List.mem_of_getElem? (i := 370) (by decide +kernel), List.mem_of_getElem? (i := 371) (by decide +kernel)⟩
theorem lw_p11 : lw_okq (⟨"OneHinge$Text", "readDoor", "()Z"⟩, 7) := ⟨⟨by decide +kernel, by decide +kernel⟩, List.mem_of_getElem? (i := 78) (by decide +kernel), List.mem_of_getElem? (i := 375) (by decide +kernel), List.mem_of_getElem? (i := 376) (by decide +kernel)⟩
theorem lw_p12 : lw_okq (⟨"OneHinge$Text", "readPerson", "()Z"⟩, 7) := ⟨⟨by decide +kernel, by decide +kernel⟩, List.mem_of_getElem? (i := 78) (by decide +kernel), List.mem_of_getElem? (i := 383) (by decide +kernel), List.mem_of_getElem? (i := 384) (by decide +kernel)⟩
theorem lw_p13 : lw_okq (⟨"OneHinge$Text", "readKind", "(I)Z"⟩, 7) := ⟨⟨by decide +kernel, by decide +kernel⟩, List.mem_of_getElem? (i := 78) (by decide +kernel), List.mem_of_getElem? (i := 387) (by decide +kernel), List.mem_of_getElem? (i := 388) (by decide +kernel)⟩
theorem lw_p14 : lw_okq (⟨"OneHinge", "isPerson", "(I)Z"⟩, 8) := ⟨⟨by decide +kernel, by decide +kernel⟩, List.mem_of_getElem? (i := 16) (by decide +kernel), List.mem_of_getElem? (i := 451) (by decide +kernel), List.mem_of_getElem? (i := 452) (by decide +kernel)⟩
theorem lw_p15 : lw_okq (⟨"OneHinge$Round", "visit", "(III)V"⟩, 7) := ⟨⟨by decide +kernel, by decide +kernel⟩, List.mem_of_getElem? (i := 136) (by decide +kernel), List.mem_of_getElem? (i := 547) (by decide +kernel), List.mem_of_getElem? (i := 548) (by decide +kernel)⟩
def lw_privs_1 : List (MethodName × Nat) := [(⟨"OneHinge$Text", "readLine", "()Z"⟩, 7), (⟨"OneHinge$Text", "nextToken", "()V"⟩, 7), (⟨"OneHinge$Text", "isLetter", "(I)Z"⟩, 7), (⟨"OneHinge$Text", "isDigit", "(I)Z"⟩, 7), (⟨"OneHinge$Text", "wordHere", "()I"⟩, 7), (⟨"OneHinge$Text", "isHere", "(Ljava/lang/String;)Z"⟩, 7), (⟨"OneHinge$Text", "readHouse", "()Z"⟩, 7), (⟨"OneHinge$Text", "readNumber", "(II)Z"⟩, 7), (⟨"OneHinge$Text", "numberHere", "()I"⟩, 7), (⟨"OneHinge$Text", "readLeaf", "()Z"⟩, 7), (⟨"OneHinge$Text", "readPut", "()Z"⟩, 7), (⟨"OneHinge$Text", "readDoor", "()Z"⟩, 7), (⟨"OneHinge$Text", "readPerson", "()Z"⟩, 7), (⟨"OneHinge$Text", "readKind", "(I)Z"⟩, 7), (⟨"OneHinge", "isPerson", "(I)Z"⟩, 8), (⟨"OneHinge$Round", "visit", "(III)V"⟩, 7)]
theorem lw_r1 : ∀ q ∈ lw_privs_1, lw_okq q := List.forall_mem_cons.mpr ⟨lw_p0, List.forall_mem_cons.mpr ⟨lw_p1, List.forall_mem_cons.mpr ⟨lw_p2, List.forall_mem_cons.mpr ⟨lw_p3, List.forall_mem_cons.mpr ⟨lw_p4, List.forall_mem_cons.mpr ⟨lw_p5, List.forall_mem_cons.mpr ⟨lw_p6, List.forall_mem_cons.mpr ⟨lw_p7, List.forall_mem_cons.mpr ⟨lw_p8, List.forall_mem_cons.mpr ⟨lw_p9, List.forall_mem_cons.mpr ⟨lw_p10, List.forall_mem_cons.mpr ⟨lw_p11, List.forall_mem_cons.mpr ⟨lw_p12, List.forall_mem_cons.mpr ⟨lw_p13, List.forall_mem_cons.mpr ⟨lw_p14, List.forall_mem_cons.mpr ⟨lw_p15, fun _ h => absurd h List.not_mem_nil⟩⟩⟩⟩⟩⟩⟩⟩⟩⟩⟩⟩⟩⟩⟩⟩
theorem lw_p16 : lw_okq (⟨"OneHinge$Round", "goTo", "(III)I"⟩, 7) := ⟨⟨by decide +kernel, by decide +kernel⟩, List.mem_of_getElem? (i := 136) (by decide +kernel), List.mem_of_getElem? (i := 552) (by decide +kernel), List.mem_of_getElem? (i := 553) (by decide +kernel)⟩
theorem lw_p17 : lw_okq (⟨"OneHinge$House", "letFirstOut", "(I)V"⟩, 4) := ⟨⟨by decide +kernel, by decide +kernel⟩, List.mem_of_getElem? (i := 113) (by decide +kernel), List.mem_of_getElem? (i := 580) (by decide +kernel), List.mem_of_getElem? (i := 581) (by decide +kernel)⟩
theorem lw_p18 : lw_okq (⟨"OneHingeModel", "token", "()V"⟩, 26) := ⟨⟨by decide +kernel, by decide +kernel⟩, List.mem_of_getElem? (i := 613) (by decide +kernel), List.mem_of_getElem? (i := 715) (by decide +kernel), List.mem_of_getElem? (i := 716) (by decide +kernel)⟩
theorem lw_p19 : lw_okq (⟨"OneHingeModel", "readsLine", "()Z"⟩, 26) := ⟨⟨by decide +kernel, by decide +kernel⟩, List.mem_of_getElem? (i := 613) (by decide +kernel), List.mem_of_getElem? (i := 722) (by decide +kernel), List.mem_of_getElem? (i := 723) (by decide +kernel)⟩
theorem lw_p20 : lw_okq (⟨"OneHingeModel", "wordOf", "()I"⟩, 26) := ⟨⟨by decide +kernel, by decide +kernel⟩, List.mem_of_getElem? (i := 613) (by decide +kernel), List.mem_of_getElem? (i := 726) (by decide +kernel), List.mem_of_getElem? (i := 727) (by decide +kernel)⟩
theorem lw_p21 : lw_okq (⟨"OneHingeModel", "leafWord", "()I"⟩, 26) := ⟨⟨by decide +kernel, by decide +kernel⟩, List.mem_of_getElem? (i := 613) (by decide +kernel), List.mem_of_getElem? (i := 730) (by decide +kernel), List.mem_of_getElem? (i := 731) (by decide +kernel)⟩
theorem lw_p22 : lw_okq (⟨"OneHingeModel", "isWord", "(II)Z"⟩, 26) := ⟨⟨by decide +kernel, by decide +kernel⟩, List.mem_of_getElem? (i := 613) (by decide +kernel), List.mem_of_getElem? (i := 735) (by decide +kernel), List.mem_of_getElem? (i := 736) (by decide +kernel)⟩
theorem lw_p23 : lw_okq (⟨"OneHingeModel", "readsRest", "(I)Z"⟩, 26) := ⟨⟨by decide +kernel, by decide +kernel⟩, List.mem_of_getElem? (i := 613) (by decide +kernel), List.mem_of_getElem? (i := 747) (by decide +kernel), List.mem_of_getElem? (i := 748) (by decide +kernel)⟩
theorem lw_p24 : lw_okq (⟨"OneHingeModel", "reads", "(III)Z"⟩, 26) := ⟨⟨by decide +kernel, by decide +kernel⟩, List.mem_of_getElem? (i := 613) (by decide +kernel), List.mem_of_getElem? (i := 751) (by decide +kernel), List.mem_of_getElem? (i := 752) (by decide +kernel)⟩
theorem lw_p25 : lw_okq (⟨"OneHingeModel", "numberHere", "()I"⟩, 26) := ⟨⟨by decide +kernel, by decide +kernel⟩, List.mem_of_getElem? (i := 613) (by decide +kernel), List.mem_of_getElem? (i := 755) (by decide +kernel), List.mem_of_getElem? (i := 756) (by decide +kernel)⟩
theorem lw_p26 : lw_okq (⟨"OneHingeModel", "readsLeaf", "()Z"⟩, 26) := ⟨⟨by decide +kernel, by decide +kernel⟩, List.mem_of_getElem? (i := 613) (by decide +kernel), List.mem_of_getElem? (i := 759) (by decide +kernel), List.mem_of_getElem? (i := 760) (by decide +kernel)⟩
theorem lw_p27 : lw_okq (⟨"OneHingeModel", "fitsAngle", "(II)Z"⟩, 26) := ⟨⟨by decide +kernel, by decide +kernel⟩, List.mem_of_getElem? (i := 613) (by decide +kernel), List.mem_of_getElem? (i := 764) (by decide +kernel), List.mem_of_getElem? (i := 765) (by decide +kernel)⟩
theorem lw_p28 : lw_okq (⟨"OneHingeModel", "readNext", "(I)I"⟩, 26) := ⟨⟨by decide +kernel, by decide +kernel⟩, List.mem_of_getElem? (i := 613) (by decide +kernel), List.mem_of_getElem? (i := 768) (by decide +kernel), List.mem_of_getElem? (i := 769) (by decide +kernel)⟩
theorem lw_p29 : lw_okq (⟨"OneHingeModel", "readsPut", "()Z"⟩, 26) := ⟨⟨by decide +kernel, by decide +kernel⟩, List.mem_of_getElem? (i := 613) (by decide +kernel), List.mem_of_getElem? (i := 775) (by decide +kernel), List.mem_of_getElem? (i := 776) (by decide +kernel)⟩
theorem lw_p30 : lw_okq (⟨"OneHingeModel", "isNewDoor", "(I)Z"⟩, 26) := ⟨⟨by decide +kernel, by decide +kernel⟩, List.mem_of_getElem? (i := 613) (by decide +kernel), List.mem_of_getElem? (i := 779) (by decide +kernel), List.mem_of_getElem? (i := 780) (by decide +kernel)⟩
theorem lw_p31 : lw_okq (⟨"OneHingeModel", "goOn", "(III)V"⟩, 26) := ⟨⟨by decide +kernel, by decide +kernel⟩, List.mem_of_getElem? (i := 613) (by decide +kernel), List.mem_of_getElem? (i := 783) (by decide +kernel), List.mem_of_getElem? (i := 784) (by decide +kernel)⟩
def lw_privs_2 : List (MethodName × Nat) := [(⟨"OneHinge$Round", "goTo", "(III)I"⟩, 7), (⟨"OneHinge$House", "letFirstOut", "(I)V"⟩, 4), (⟨"OneHingeModel", "token", "()V"⟩, 26), (⟨"OneHingeModel", "readsLine", "()Z"⟩, 26), (⟨"OneHingeModel", "wordOf", "()I"⟩, 26), (⟨"OneHingeModel", "leafWord", "()I"⟩, 26), (⟨"OneHingeModel", "isWord", "(II)Z"⟩, 26), (⟨"OneHingeModel", "readsRest", "(I)Z"⟩, 26), (⟨"OneHingeModel", "reads", "(III)Z"⟩, 26), (⟨"OneHingeModel", "numberHere", "()I"⟩, 26), (⟨"OneHingeModel", "readsLeaf", "()Z"⟩, 26), (⟨"OneHingeModel", "fitsAngle", "(II)Z"⟩, 26), (⟨"OneHingeModel", "readNext", "(I)I"⟩, 26), (⟨"OneHingeModel", "readsPut", "()Z"⟩, 26), (⟨"OneHingeModel", "isNewDoor", "(I)Z"⟩, 26), (⟨"OneHingeModel", "goOn", "(III)V"⟩, 26)]
theorem lw_r2 : ∀ q ∈ lw_privs_2, lw_okq q := List.forall_mem_cons.mpr ⟨lw_p16, List.forall_mem_cons.mpr ⟨lw_p17, List.forall_mem_cons.mpr ⟨lw_p18, List.forall_mem_cons.mpr ⟨lw_p19, List.forall_mem_cons.mpr ⟨lw_p20, List.forall_mem_cons.mpr ⟨lw_p21, List.forall_mem_cons.mpr ⟨lw_p22, List.forall_mem_cons.mpr ⟨lw_p23, List.forall_mem_cons.mpr ⟨lw_p24, List.forall_mem_cons.mpr ⟨lw_p25, List.forall_mem_cons.mpr ⟨lw_p26, List.forall_mem_cons.mpr ⟨lw_p27, List.forall_mem_cons.mpr ⟨lw_p28, List.forall_mem_cons.mpr ⟨lw_p29, List.forall_mem_cons.mpr ⟨lw_p30, List.forall_mem_cons.mpr ⟨lw_p31, fun _ h => absurd h List.not_mem_nil⟩⟩⟩⟩⟩⟩⟩⟩⟩⟩⟩⟩⟩⟩⟩⟩
theorem lw_p32 : lw_okq (⟨"OneHingeModel", "tell", "(I)V"⟩, 26) := ⟨⟨by decide +kernel, by decide +kernel⟩, List.mem_of_getElem? (i := 613) (by decide +kernel), List.mem_of_getElem? (i := 792) (by decide +kernel), List.mem_of_getElem? (i := 793) (by decide +kernel)⟩
theorem lw_p33 : lw_okq (⟨"OneHingeModel", "copy", "(II)V"⟩, 26) := ⟨⟨by decide +kernel, by decide +kernel⟩, List.mem_of_getElem? (i := 613) (by decide +kernel), List.mem_of_getElem? (i := 798) (by decide +kernel), List.mem_of_getElem? (i := 799) (by decide +kernel)⟩
theorem lw_p34 : lw_okq (⟨"OneHingeModel", "isLeaf", "(I)Z"⟩, 26) := ⟨⟨by decide +kernel, by decide +kernel⟩, List.mem_of_getElem? (i := 613) (by decide +kernel), List.mem_of_getElem? (i := 806) (by decide +kernel), List.mem_of_getElem? (i := 807) (by decide +kernel)⟩
theorem lw_p35 : lw_okq (⟨"OneHingeModel", "width", "(II)I"⟩, 26) := ⟨⟨by decide +kernel, by decide +kernel⟩, List.mem_of_getElem? (i := 613) (by decide +kernel), List.mem_of_getElem? (i := 814) (by decide +kernel), List.mem_of_getElem? (i := 815) (by decide +kernel)⟩
theorem lw_p36 : lw_okq (⟨"OneHingeModel", "next", "(I)I"⟩, 26) := ⟨⟨by decide +kernel, by decide +kernel⟩, List.mem_of_getElem? (i := 613) (by decide +kernel), List.mem_of_getElem? (i := 818) (by decide +kernel), List.mem_of_getElem? (i := 819) (by decide +kernel)⟩
theorem lw_p37 : lw_okq (⟨"OneHingeModel", "isOpen", "(II)Z"⟩, 26) := ⟨⟨by decide +kernel, by decide +kernel⟩, List.mem_of_getElem? (i := 613) (by decide +kernel), List.mem_of_getElem? (i := 822) (by decide +kernel), List.mem_of_getElem? (i := 823) (by decide +kernel)⟩
theorem lw_p38 : lw_okq (⟨"OneHingeModel", "inRoom", "(II)I"⟩, 26) := ⟨⟨by decide +kernel, by decide +kernel⟩, List.mem_of_getElem? (i := 613) (by decide +kernel), List.mem_of_getElem? (i := 826) (by decide +kernel), List.mem_of_getElem? (i := 827) (by decide +kernel)⟩
theorem lw_p39 : lw_okq (⟨"OneHingeModel", "chain", "(III)I"⟩, 26) := ⟨⟨by decide +kernel, by decide +kernel⟩, List.mem_of_getElem? (i := 613) (by decide +kernel), List.mem_of_getElem? (i := 835) (by decide +kernel), List.mem_of_getElem? (i := 836) (by decide +kernel)⟩
theorem lw_p40 : lw_okq (⟨"OneHingeModel", "ahead", "(I)I"⟩, 26) := ⟨⟨by decide +kernel, by decide +kernel⟩, List.mem_of_getElem? (i := 613) (by decide +kernel), List.mem_of_getElem? (i := 839) (by decide +kernel), List.mem_of_getElem? (i := 840) (by decide +kernel)⟩
theorem lw_p41 : lw_okq (⟨"OneHingeModel", "isPerson", "(I)Z"⟩, 26) := ⟨⟨by decide +kernel, by decide +kernel⟩, List.mem_of_getElem? (i := 613) (by decide +kernel), List.mem_of_getElem? (i := 847) (by decide +kernel), List.mem_of_getElem? (i := 848) (by decide +kernel)⟩
theorem lw_p42 : lw_okq (⟨"OneHingeModel", "pushBy", "(IIII)I"⟩, 26) := ⟨⟨by decide +kernel, by decide +kernel⟩, List.mem_of_getElem? (i := 613) (by decide +kernel), List.mem_of_getElem? (i := 859) (by decide +kernel), List.mem_of_getElem? (i := 860) (by decide +kernel)⟩
theorem lw_p43 : lw_okq (⟨"OneHingeModel", "step", "(III)Z"⟩, 26) := ⟨⟨by decide +kernel, by decide +kernel⟩, List.mem_of_getElem? (i := 613) (by decide +kernel), List.mem_of_getElem? (i := 863) (by decide +kernel), List.mem_of_getElem? (i := 864) (by decide +kernel)⟩
theorem lw_p44 : lw_okq (⟨"OneHingeModel", "hour", "()V"⟩, 26) := ⟨⟨by decide +kernel, by decide +kernel⟩, List.mem_of_getElem? (i := 613) (by decide +kernel), List.mem_of_getElem? (i := 875) (by decide +kernel), List.mem_of_getElem? (i := 876) (by decide +kernel)⟩
theorem lw_p45 : lw_okq (⟨"OneHingeModel", "turnOf", "(III)I"⟩, 26) := ⟨⟨by decide +kernel, by decide +kernel⟩, List.mem_of_getElem? (i := 613) (by decide +kernel), List.mem_of_getElem? (i := 902) (by decide +kernel), List.mem_of_getElem? (i := 903) (by decide +kernel)⟩
theorem lw_p46 : lw_okq (⟨"OneHingeModel", "turnOn", "(III)I"⟩, 26) := ⟨⟨by decide +kernel, by decide +kernel⟩, List.mem_of_getElem? (i := 613) (by decide +kernel), List.mem_of_getElem? (i := 906) (by decide +kernel), List.mem_of_getElem? (i := 907) (by decide +kernel)⟩
theorem lw_p47 : lw_okq (⟨"OneHingeModel", "stepsBy", "(II)I"⟩, 26) := ⟨⟨by decide +kernel, by decide +kernel⟩, List.mem_of_getElem? (i := 613) (by decide +kernel), List.mem_of_getElem? (i := 931) (by decide +kernel), List.mem_of_getElem? (i := 932) (by decide +kernel)⟩
def lw_privs_3 : List (MethodName × Nat) := [(⟨"OneHingeModel", "tell", "(I)V"⟩, 26), (⟨"OneHingeModel", "copy", "(II)V"⟩, 26), (⟨"OneHingeModel", "isLeaf", "(I)Z"⟩, 26), (⟨"OneHingeModel", "width", "(II)I"⟩, 26), (⟨"OneHingeModel", "next", "(I)I"⟩, 26), (⟨"OneHingeModel", "isOpen", "(II)Z"⟩, 26), (⟨"OneHingeModel", "inRoom", "(II)I"⟩, 26), (⟨"OneHingeModel", "chain", "(III)I"⟩, 26), (⟨"OneHingeModel", "ahead", "(I)I"⟩, 26), (⟨"OneHingeModel", "isPerson", "(I)Z"⟩, 26), (⟨"OneHingeModel", "pushBy", "(IIII)I"⟩, 26), (⟨"OneHingeModel", "step", "(III)Z"⟩, 26), (⟨"OneHingeModel", "hour", "()V"⟩, 26), (⟨"OneHingeModel", "turnOf", "(III)I"⟩, 26), (⟨"OneHingeModel", "turnOn", "(III)I"⟩, 26), (⟨"OneHingeModel", "stepsBy", "(II)I"⟩, 26)]
theorem lw_r3 : ∀ q ∈ lw_privs_3, lw_okq q := List.forall_mem_cons.mpr ⟨lw_p32, List.forall_mem_cons.mpr ⟨lw_p33, List.forall_mem_cons.mpr ⟨lw_p34, List.forall_mem_cons.mpr ⟨lw_p35, List.forall_mem_cons.mpr ⟨lw_p36, List.forall_mem_cons.mpr ⟨lw_p37, List.forall_mem_cons.mpr ⟨lw_p38, List.forall_mem_cons.mpr ⟨lw_p39, List.forall_mem_cons.mpr ⟨lw_p40, List.forall_mem_cons.mpr ⟨lw_p41, List.forall_mem_cons.mpr ⟨lw_p42, List.forall_mem_cons.mpr ⟨lw_p43, List.forall_mem_cons.mpr ⟨lw_p44, List.forall_mem_cons.mpr ⟨lw_p45, List.forall_mem_cons.mpr ⟨lw_p46, List.forall_mem_cons.mpr ⟨lw_p47, fun _ h => absurd h List.not_mem_nil⟩⟩⟩⟩⟩⟩⟩⟩⟩⟩⟩⟩⟩⟩⟩⟩
theorem lw_p48 : lw_okq (⟨"OneHingeModel", "rowOf", "(II)I"⟩, 26) := ⟨⟨by decide +kernel, by decide +kernel⟩, List.mem_of_getElem? (i := 613) (by decide +kernel), List.mem_of_getElem? (i := 935) (by decide +kernel), List.mem_of_getElem? (i := 936) (by decide +kernel)⟩
theorem lw_p49 : lw_okq (⟨"OneHingeModel", "errandTo", "(II)I"⟩, 26) := ⟨⟨by decide +kernel, by decide +kernel⟩, List.mem_of_getElem? (i := 613) (by decide +kernel), List.mem_of_getElem? (i := 939) (by decide +kernel), List.mem_of_getElem? (i := 940) (by decide +kernel)⟩
theorem lw_p50 : lw_okq (⟨"OneHingeModel", "setAside", "()V"⟩, 26) := ⟨⟨by decide +kernel, by decide +kernel⟩, List.mem_of_getElem? (i := 613) (by decide +kernel), List.mem_of_getElem? (i := 943) (by decide +kernel), List.mem_of_getElem? (i := 944) (by decide +kernel)⟩
theorem lw_p51 : lw_okq (⟨"OneHingeModel", "putBack", "()V"⟩, 26) := ⟨⟨by decide +kernel, by decide +kernel⟩, List.mem_of_getElem? (i := 613) (by decide +kernel), List.mem_of_getElem? (i := 947) (by decide +kernel), List.mem_of_getElem? (i := 948) (by decide +kernel)⟩
theorem lw_p52 : lw_okq (⟨"OneHingeModel", "areOut", "()Z"⟩, 26) := ⟨⟨by decide +kernel, by decide +kernel⟩, List.mem_of_getElem? (i := 613) (by decide +kernel), List.mem_of_getElem? (i := 959) (by decide +kernel), List.mem_of_getElem? (i := 960) (by decide +kernel)⟩
theorem lw_p53 : lw_okq (⟨"OneHingeModel", "saveFirst", "()V"⟩, 26) := ⟨⟨by decide +kernel, by decide +kernel⟩, List.mem_of_getElem? (i := 613) (by decide +kernel), List.mem_of_getElem? (i := 963) (by decide +kernel), List.mem_of_getElem? (i := 964) (by decide +kernel)⟩
def lw_privs_4 : List (MethodName × Nat) := [(⟨"OneHingeModel", "rowOf", "(II)I"⟩, 26), (⟨"OneHingeModel", "errandTo", "(II)I"⟩, 26), (⟨"OneHingeModel", "setAside", "()V"⟩, 26), (⟨"OneHingeModel", "putBack", "()V"⟩, 26), (⟨"OneHingeModel", "areOut", "()Z"⟩, 26), (⟨"OneHingeModel", "saveFirst", "()V"⟩, 26)]
theorem lw_r4 : ∀ q ∈ lw_privs_4, lw_okq q := List.forall_mem_cons.mpr ⟨lw_p48, List.forall_mem_cons.mpr ⟨lw_p49, List.forall_mem_cons.mpr ⟨lw_p50, List.forall_mem_cons.mpr ⟨lw_p51, List.forall_mem_cons.mpr ⟨lw_p52, List.forall_mem_cons.mpr ⟨lw_p53, fun _ h => absurd h List.not_mem_nil⟩⟩⟩⟩⟩⟩
def lw_privs : List (MethodName × Nat) := lw_privs_1 ++ (lw_privs_2 ++ (lw_privs_3 ++ (lw_privs_4)))
def lw_tbl : List Cond := k2_sels lw_privs ++ tables_1
theorem lw_privs_ok : ∀ q ∈ lw_privs, lw_okq q := by
  show ∀ q ∈ lw_privs_1 ++ (lw_privs_2 ++ (lw_privs_3 ++ (lw_privs_4))), lw_okq q
  exact List.forall_mem_append.mpr ⟨lw_r1, List.forall_mem_append.mpr ⟨lw_r2, List.forall_mem_append.mpr ⟨lw_r3, lw_r4⟩⟩⟩
end
section
-- names: classes, fields, methods (by the command of CHECK.md, out of the program)
def RX0 : String := "OneHinge$House"
def TX0 : u_T := fun k => match k with
  | 0 => ("OneHinge$House", "plan", "LOneHinge$Plan;", true)
  | 1 => ("OneHinge$House", "angle", "[I", true)
  | 2 => ("OneHinge$House", "place", "[I", true)
  | _ => ("OneHinge$House", "hour", "I", false)
def tyX0 : Nat → FieldType := fun k => match k with
  | 0 => .object "OneHinge$Plan"
  | 1 => .array .int
  | 2 => .array .int
  | _ => .int
abbrev wsX00 : List Cond := u_ws RX0 TX0 4
theorem nmX0 : ∀ a, a < 4 → ∀ b, b < 4 → a ≠ b → (TX0 a).2.1 ≠ (TX0 b).2.1 := by decide +kernel
theorem tyX0_ok : ∀ k, k < 4 → parseFieldDescriptor (TX0 k).2.2.1 = some (tyX0 k) := by decide +kernel
abbrev cX0_init : ByteArray := prog_2_method_1_code
def yX0_init : MethodName := ⟨RX0, "<init>", "(LOneHinge$Plan;)V"⟩
abbrev cX0_begin : ByteArray := prog_2_method_2_code
def yX0_begin : MethodName := ⟨RX0, "begin", "()V"⟩
abbrev cX0_copy : ByteArray := prog_2_method_3_code
def yX0_copy : MethodName := ⟨RX0, "copy", "(LOneHinge$House;)V"⟩
abbrev cX0_width : ByteArray := prog_2_method_4_code
def yX0_width : MethodName := ⟨RX0, "width", "(I)I"⟩
abbrev cX0_slack : ByteArray := prog_2_method_5_code
def yX0_slack : MethodName := ⟨RX0, "slack", "(I)I"⟩
abbrev cX0_isOpen : ByteArray := prog_2_method_6_code
def yX0_isOpen : MethodName := ⟨RX0, "isOpen", "(I)Z"⟩
abbrev cX0_openRooms : ByteArray := prog_2_method_7_code
def yX0_openRooms : MethodName := ⟨RX0, "openRooms", "()I"⟩
abbrev cX0_peopleAt : ByteArray := prog_2_method_8_code
def yX0_peopleAt : MethodName := ⟨RX0, "peopleAt", "(I)I"⟩
abbrev cX0_areAllOut : ByteArray := prog_2_method_9_code
def yX0_areAllOut : MethodName := ⟨RX0, "areAllOut", "()Z"⟩
abbrev cX0_letOut : ByteArray := prog_2_method_10_code
def yX0_letOut : MethodName := ⟨RX0, "letOut", "()V"⟩
abbrev cX0_letFirstOut : ByteArray := prog_2_method_11_code
def yX0_letFirstOut : MethodName := ⟨RX0, "letFirstOut", "(I)V"⟩
abbrev cX0_movers : ByteArray := prog_2_method_12_code
def yX0_movers : MethodName := ⟨RX0, "movers", "(II)I"⟩
abbrev cX0_step : ByteArray := prog_2_method_13_code
def yX0_step : MethodName := ⟨RX0, "step", "(II)Z"⟩
abbrev cX0_stepped : ByteArray := prog_2_method_14_code
def yX0_stepped : MethodName := ⟨RX0, "stepped", "(II)I"⟩
abbrev cX0_goTillOpen : ByteArray := prog_2_method_15_code
def yX0_goTillOpen : MethodName := ⟨RX0, "goTillOpen", "(IIII)I"⟩
abbrev cX0_passHour : ByteArray := prog_2_method_16_code
def yX0_passHour : MethodName := ⟨RX0, "passHour", "()V"⟩
abbrev cX0_stretched : ByteArray := prog_2_method_17_code
def yX0_stretched : MethodName := ⟨RX0, "stretched", "(I)I"⟩
def RX1 : String := "OneHinge$Plan"
def TX1 : u_T := fun k => match k with
  | 0 => ("OneHinge$Plan", "leaves", "I", false)
  | 1 => ("OneHinge$Plan", "home", "[I", true)
  | 2 => ("OneHinge$Plan", "kind", "[I", true)
  | 3 => ("OneHinge$Plan", "furniture", "[I", true)
  | 4 => ("OneHinge$Plan", "doors", "I", false)
  | 5 => ("OneHinge$Plan", "door", "[I", true)
  | 6 => ("OneHinge$Plan", "people", "I", false)
  | _ => ("OneHinge$Plan", "place", "[I", true)
def tyX1 : Nat → FieldType := fun k => match k with
  | 0 => .int
  | 1 => .array .int
  | 2 => .array .int
  | 3 => .array .int
  | 4 => .int
  | 5 => .array .int
  | 6 => .int
  | _ => .array .int
abbrev wsX10 : List Cond := u_ws RX1 TX1 8
theorem nmX1 : ∀ a, a < 8 → ∀ b, b < 8 → a ≠ b → (TX1 a).2.1 ≠ (TX1 b).2.1 := by decide +kernel
theorem tyX1_ok : ∀ k, k < 8 → parseFieldDescriptor (TX1 k).2.2.1 = some (tyX1 k) := by decide +kernel
abbrev cX1_init : ByteArray := prog_3_method_1_code
def yX1_init : MethodName := ⟨RX1, "<init>", "()V"⟩
abbrev cX1_begin : ByteArray := prog_3_method_2_code
def yX1_begin : MethodName := ⟨RX1, "begin", "(I)V"⟩
abbrev cX1_copy : ByteArray := prog_3_method_3_code
def yX1_copy : MethodName := ⟨RX1, "copy", "(LOneHinge$Plan;)V"⟩
abbrev cX1_has : ByteArray := prog_3_method_4_code
def yX1_has : MethodName := ⟨RX1, "has", "(I)Z"⟩
abbrev cX1_next : ByteArray := prog_3_method_5_code
def yX1_next : MethodName := ⟨RX1, "next", "(I)I"⟩
abbrev cX1_before : ByteArray := prog_3_method_6_code
def yX1_before : MethodName := ⟨RX1, "before", "(I)I"⟩
abbrev cX1_leafBeside : ByteArray := prog_3_method_7_code
def yX1_leafBeside : MethodName := ⟨RX1, "leafBeside", "(II)I"⟩
abbrev cX1_roomBeside : ByteArray := prog_3_method_8_code
def yX1_roomBeside : MethodName := ⟨RX1, "roomBeside", "(II)I"⟩
abbrev cX1_need : ByteArray := prog_3_method_9_code
def yX1_need : MethodName := ⟨RX1, "need", "(I)I"⟩
abbrev cX1_isTakenAs : ByteArray := prog_3_method_10_code
def yX1_isTakenAs : MethodName := ⟨RX1, "isTakenAs", "(II)Z"⟩
abbrev cX1_toldWidth : ByteArray := prog_3_method_11_code
def yX1_toldWidth : MethodName := ⟨RX1, "toldWidth", "(I)I"⟩
abbrev cX1_canStandAt : ByteArray := prog_3_method_12_code
def yX1_canStandAt : MethodName := ⟨RX1, "canStandAt", "(II)Z"⟩
abbrev cX1_hasDoorAt : ByteArray := prog_3_method_13_code
def yX1_hasDoorAt : MethodName := ⟨RX1, "hasDoorAt", "(I)Z"⟩
def RX2 : String := "OneHinge$Round"
def TX2 : u_T := fun k => match k with
  | 0 => ("OneHinge$Round", "plan", "LOneHinge$Plan;", true)
  | 1 => ("OneHinge$Round", "behind", "[LOneHinge$House;", true)
  | 2 => ("OneHinge$Round", "pushedBack", "LOneHinge$House;", true)
  | 3 => ("OneHinge$Round", "order", "[I", true)
  | 4 => ("OneHinge$Round", "bestOrder", "[I", true)
  | 5 => ("OneHinge$Round", "leaf", "I", false)
  | _ => ("OneHinge$Round", "fewest", "I", false)
def tyX2 : Nat → FieldType := fun k => match k with
  | 0 => .object "OneHinge$Plan"
  | 1 => .array (.object "OneHinge$House")
  | 2 => .object "OneHinge$House"
  | 3 => .array .int
  | 4 => .array .int
  | 5 => .int
  | _ => .int
abbrev wsX20 : List Cond := u_ws RX2 TX2 7
theorem nmX2 : ∀ a, a < 7 → ∀ b, b < 7 → a ≠ b → (TX2 a).2.1 ≠ (TX2 b).2.1 := by decide +kernel
theorem tyX2_ok : ∀ k, k < 7 → parseFieldDescriptor (TX2 k).2.2.1 = some (tyX2 k) := by decide +kernel
abbrev cX2_init : ByteArray := prog_4_method_1_code
def yX2_init : MethodName := ⟨RX2, "<init>", "(LOneHinge$Plan;)V"⟩
abbrev cX2_begin : ByteArray := prog_4_method_2_code
def yX2_begin : MethodName := ⟨RX2, "begin", "(LOneHinge$House;I)V"⟩
abbrev cX2_visit : ByteArray := prog_4_method_3_code
def yX2_visit : MethodName := ⟨RX2, "visit", "(III)V"⟩
abbrev cX2_goTo : ByteArray := prog_4_method_4_code
def yX2_goTo : MethodName := ⟨RX2, "goTo", "(III)I"⟩
def RX3 : String := "OneHinge$Scrapes"
def TX3 : u_T := fun k => match k with
  | 0 => ("OneHinge$Scrapes", "leafOf", "[I", true)
  | 1 => ("OneHinge$Scrapes", "angleOf", "[I", true)
  | _ => ("OneHinge$Scrapes", "many", "I", false)
def tyX3 : Nat → FieldType := fun k => match k with
  | 0 => .array .int
  | 1 => .array .int
  | _ => .int
abbrev wsX30 : List Cond := u_ws RX3 TX3 3
theorem nmX3 : ∀ a, a < 3 → ∀ b, b < 3 → a ≠ b → (TX3 a).2.1 ≠ (TX3 b).2.1 := by decide +kernel
theorem tyX3_ok : ∀ k, k < 3 → parseFieldDescriptor (TX3 k).2.2.1 = some (tyX3 k) := by decide +kernel
abbrev cX3_init : ByteArray := prog_5_method_1_code
def yX3_init : MethodName := ⟨RX3, "<init>", "()V"⟩
abbrev cX3_way : ByteArray := prog_5_method_2_code
def yX3_way : MethodName := ⟨RX3, "way", "(III)I"⟩
abbrev cX3_shorter : ByteArray := prog_5_method_3_code
def yX3_shorter : MethodName := ⟨RX3, "shorter", "(II)I"⟩
def RX4 : String := "OneHinge$Text"
def TX4 : u_T := fun k => match k with
  | 0 => ("OneHinge$Text", "bytes", "[B", true)
  | 1 => ("OneHinge$Text", "length", "I", false)
  | 2 => ("OneHinge$Text", "draft", "LOneHinge$Plan;", true)
  | 3 => ("OneHinge$Text", "lines", "I", false)
  | 4 => ("OneHinge$Text", "start", "I", false)
  | 5 => ("OneHinge$Text", "end", "I", false)
  | _ => ("OneHinge$Text", "number", "I", false)
def tyX4 : Nat → FieldType := fun k => match k with
  | 0 => .array .byte
  | 1 => .int
  | 2 => .object "OneHinge$Plan"
  | 3 => .int
  | 4 => .int
  | 5 => .int
  | _ => .int
abbrev wsX40 : List Cond := u_ws RX4 TX4 7
theorem nmX4 : ∀ a, a < 7 → ∀ b, b < 7 → a ≠ b → (TX4 a).2.1 ≠ (TX4 b).2.1 := by decide +kernel
theorem tyX4_ok : ∀ k, k < 7 → parseFieldDescriptor (TX4 k).2.2.1 = some (tyX4 k) := by decide +kernel
abbrev cX4_init : ByteArray := prog_6_method_1_code
def yX4_init : MethodName := ⟨RX4, "<init>", "()V"⟩
abbrev cX4_read : ByteArray := prog_6_method_2_code
def yX4_read : MethodName := ⟨RX4, "read", "(LOneHinge$Plan;)I"⟩
abbrev cX4_readLine : ByteArray := prog_6_method_3_code
def yX4_readLine : MethodName := ⟨RX4, "readLine", "()Z"⟩
abbrev cX4_readHouse : ByteArray := prog_6_method_4_code
def yX4_readHouse : MethodName := ⟨RX4, "readHouse", "()Z"⟩
abbrev cX4_readLeaf : ByteArray := prog_6_method_5_code
def yX4_readLeaf : MethodName := ⟨RX4, "readLeaf", "()Z"⟩
abbrev cX4_readKind : ByteArray := prog_6_method_6_code
def yX4_readKind : MethodName := ⟨RX4, "readKind", "(I)Z"⟩
abbrev cX4_readPut : ByteArray := prog_6_method_7_code
def yX4_readPut : MethodName := ⟨RX4, "readPut", "()Z"⟩
abbrev cX4_readDoor : ByteArray := prog_6_method_8_code
def yX4_readDoor : MethodName := ⟨RX4, "readDoor", "()Z"⟩
abbrev cX4_readPerson : ByteArray := prog_6_method_9_code
def yX4_readPerson : MethodName := ⟨RX4, "readPerson", "()Z"⟩
abbrev cX4_readNumber : ByteArray := prog_6_method_10_code
def yX4_readNumber : MethodName := ⟨RX4, "readNumber", "(II)Z"⟩
abbrev cX4_nextToken : ByteArray := prog_6_method_11_code
def yX4_nextToken : MethodName := ⟨RX4, "nextToken", "()V"⟩
abbrev cX4_isLetter : ByteArray := prog_6_method_12_code
def yX4_isLetter : MethodName := ⟨RX4, "isLetter", "(I)Z"⟩
abbrev cX4_isDigit : ByteArray := prog_6_method_13_code
def yX4_isDigit : MethodName := ⟨RX4, "isDigit", "(I)Z"⟩
abbrev cX4_numberHere : ByteArray := prog_6_method_14_code
def yX4_numberHere : MethodName := ⟨RX4, "numberHere", "()I"⟩
abbrev cX4_wordHere : ByteArray := prog_6_method_15_code
def yX4_wordHere : MethodName := ⟨RX4, "wordHere", "()I"⟩
abbrev cX4_isHere : ByteArray := prog_6_method_16_code
def yX4_isHere : MethodName := ⟨RX4, "isHere", "(Ljava/lang/String;)Z"⟩
abbrev cX4_spelling : ByteArray := prog_6_method_17_code
def yX4_spelling : MethodName := ⟨RX4, "spelling", "(I)Ljava/lang/String;"⟩
def RX5 : String := "OneHinge"
def TX5 : u_T := fun k => match k with
  | 0 => ("OneHinge", "told", "LOneHinge$Plan;", true)
  | 1 => ("OneHinge", "text", "LOneHinge$Text;", true)
  | 2 => ("OneHinge", "now", "LOneHinge$House;", true)
  | 3 => ("OneHinge", "trial", "LOneHinge$House;", true)
  | 4 => ("OneHinge", "kept", "[LOneHinge$House;", true)
  | 5 => ("OneHinge", "isKept", "[Z", true)
  | 6 => ("OneHinge", "round", "LOneHinge$Round;", true)
  | _ => ("OneHinge", "scrapes", "LOneHinge$Scrapes;", true)
def tyX5 : Nat → FieldType := fun k => match k with
  | 0 => .object "OneHinge$Plan"
  | 1 => .object "OneHinge$Text"
  | 2 => .object "OneHinge$House"
  | 3 => .object "OneHinge$House"
  | 4 => .array (.object "OneHinge$House")
  | 5 => .array .boolean
  | 6 => .object "OneHinge$Round"
  | _ => .object "OneHinge$Scrapes"
abbrev wsX50 : List Cond := u_ws RX5 TX5 8
theorem nmX5 : ∀ a, a < 8 → ∀ b, b < 8 → a ≠ b → (TX5 a).2.1 ≠ (TX5 b).2.1 := by decide +kernel
theorem tyX5_ok : ∀ k, k < 8 → parseFieldDescriptor (TX5 k).2.2.1 = some (tyX5 k) := by decide +kernel
abbrev cX5_init : ByteArray := prog_1_method_1_code
def yX5_init : MethodName := ⟨RX5, "<init>", "()V"⟩
abbrev cX5_write : ByteArray := prog_1_method_2_code
def yX5_write : MethodName := ⟨RX5, "write", "(JI)I"⟩
abbrev cX5_erase : ByteArray := prog_1_method_3_code
def yX5_erase : MethodName := ⟨RX5, "erase", "()I"⟩
abbrev cX5_fault : ByteArray := prog_1_method_4_code
def yX5_fault : MethodName := ⟨RX5, "fault", "()I"⟩
abbrev cX5_house : ByteArray := prog_1_method_5_code
def yX5_house : MethodName := ⟨RX5, "house", "()I"⟩
abbrev cX5_leaf : ByteArray := prog_1_method_6_code
def yX5_leaf : MethodName := ⟨RX5, "leaf", "(II)I"⟩
abbrev cX5_room : ByteArray := prog_1_method_7_code
def yX5_room : MethodName := ⟨RX5, "room", "(II)I"⟩
abbrev cX5_as : ByteArray := prog_1_method_8_code
def yX5_as : MethodName := ⟨RX5, "as", "(II)I"⟩
abbrev cX5_person : ByteArray := prog_1_method_9_code
def yX5_person : MethodName := ⟨RX5, "person", "(I)I"⟩
abbrev cX5_push : ByteArray := prog_1_method_10_code
def yX5_push : MethodName := ⟨RX5, "push", "(III)I"⟩
abbrev cX5_hours : ByteArray := prog_1_method_11_code
def yX5_hours : MethodName := ⟨RX5, "hours", "(I)I"⟩
abbrev cX5_leave : ByteArray := prog_1_method_12_code
def yX5_leave : MethodName := ⟨RX5, "leave", "(I)I"⟩
abbrev cX5_enter : ByteArray := prog_1_method_13_code
def yX5_enter : MethodName := ⟨RX5, "enter", "(II)I"⟩
abbrev cX5_keep : ByteArray := prog_1_method_14_code
def yX5_keep : MethodName := ⟨RX5, "keep", "(I)I"⟩
abbrev cX5_back : ByteArray := prog_1_method_15_code
def yX5_back : MethodName := ⟨RX5, "back", "(I)I"⟩
abbrev cX5_turn : ByteArray := prog_1_method_16_code
def yX5_turn : MethodName := ⟨RX5, "turn", "(III)I"⟩
abbrev cX5_best : ByteArray := prog_1_method_17_code
def yX5_best : MethodName := ⟨RX5, "best", "(II)I"⟩
abbrev cX5_widest : ByteArray := prog_1_method_18_code
def yX5_widest : MethodName := ⟨RX5, "widest", "(I)I"⟩
abbrev cX5_further : ByteArray := prog_1_method_19_code
def yX5_further : MethodName := ⟨RX5, "further", "(I)I"⟩
abbrev cX5_share : ByteArray := prog_1_method_20_code
def yX5_share : MethodName := ⟨RX5, "share", "(II)I"⟩
abbrev cX5_errands : ByteArray := prog_1_method_21_code
def yX5_errands : MethodName := ⟨RX5, "errands", "(III)I"⟩
abbrev cX5_slam : ByteArray := prog_1_method_22_code
def yX5_slam : MethodName := ⟨RX5, "slam", "(III)I"⟩
abbrev cX5_fire : ByteArray := prog_1_method_23_code
def yX5_fire : MethodName := ⟨RX5, "fire", "(II)I"⟩
abbrev cX5_seen : ByteArray := prog_1_method_24_code
def yX5_seen : MethodName := ⟨RX5, "seen", "(II)I"⟩
abbrev cX5_forget : ByteArray := prog_1_method_25_code
def yX5_forget : MethodName := ⟨RX5, "forget", "()I"⟩
abbrev cX5_least : ByteArray := prog_1_method_26_code
def yX5_least : MethodName := ⟨RX5, "least", "(I)I"⟩
abbrev cX5_count : ByteArray := prog_1_method_27_code
def yX5_count : MethodName := ⟨RX5, "count", "(I)I"⟩
abbrev cX5_isPerson : ByteArray := prog_1_method_28_code
def yX5_isPerson : MethodName := ⟨RX5, "isPerson", "(I)Z"⟩
abbrev cX5_isSide : ByteArray := prog_1_method_29_code
def yX5_isSide : MethodName := ⟨RX5, "isSide", "(I)Z"⟩
abbrev cX5_between : ByteArray := prog_1_method_30_code
def yX5_between : MethodName := ⟨RX5, "between", "(II)I"⟩
def RX6 : String := "OneHingeModel"
def TX6 : u_T := fun k => match k with
  | 0 => ("OneHingeModel", "row", "[I", true)
  | 1 => ("OneHingeModel", "isKept", "[Z", true)
  | 2 => ("OneHingeModel", "text", "[I", true)
  | 3 => ("OneHingeModel", "length", "I", false)
  | 4 => ("OneHingeModel", "read", "[I", true)
  | 5 => ("OneHingeModel", "readMany", "I", false)
  | 6 => ("OneHingeModel", "leaves", "I", false)
  | 7 => ("OneHingeModel", "kinds", "[I", true)
  | 8 => ("OneHingeModel", "stuff", "[I", true)
  | 9 => ("OneHingeModel", "doors", "[I", true)
  | 10 => ("OneHingeModel", "doorMany", "I", false)
  | 11 => ("OneHingeModel", "people", "I", false)
  | 12 => ("OneHingeModel", "at", "I", false)
  | 13 => ("OneHingeModel", "place", "I", false)
  | 14 => ("OneHingeModel", "end", "I", false)
  | 15 => ("OneHingeModel", "readLeaves", "I", false)
  | 16 => ("OneHingeModel", "readAngles", "[I", true)
  | 17 => ("OneHingeModel", "readStuff", "[I", true)
  | 18 => ("OneHingeModel", "readDoors", "[I", true)
  | 19 => ("OneHingeModel", "readDoorMany", "I", false)
  | 20 => ("OneHingeModel", "readPeople", "I", false)
  | 21 => ("OneHingeModel", "chosen", "[I", true)
  | 22 => ("OneHingeModel", "chosenMany", "I", false)
  | 23 => ("OneHingeModel", "aside", "[I", true)
  | 24 => ("OneHingeModel", "sights", "[I", true)
  | _ => ("OneHingeModel", "seenMany", "I", false)
def tyX6 : Nat → FieldType := fun k => match k with
  | 0 => .array .int
  | 1 => .array .boolean
  | 2 => .array .int
  | 3 => .int
  | 4 => .array .int
  | 5 => .int
  | 6 => .int
  | 7 => .array .int
  | 8 => .array .int
  | 9 => .array .int
  | 10 => .int
  | 11 => .int
  | 12 => .int
  | 13 => .int
  | 14 => .int
  | 15 => .int
  | 16 => .array .int
  | 17 => .array .int
  | 18 => .array .int
  | 19 => .int
  | 20 => .int
  | 21 => .array .int
  | 22 => .int
  | 23 => .array .int
  | 24 => .array .int
  | _ => .int
abbrev wsX60 : List Cond := u_ws RX6 TX6 26
theorem nmX6 : ∀ a, a < 26 → ∀ b, b < 26 → a ≠ b → (TX6 a).2.1 ≠ (TX6 b).2.1 := by decide +kernel
theorem tyX6_ok : ∀ k, k < 26 → parseFieldDescriptor (TX6 k).2.2.1 = some (tyX6 k) := by decide +kernel
abbrev cX6_init : ByteArray := prog_8_method_1_code
def yX6_init : MethodName := ⟨RX6, "<init>", "()V"⟩
abbrev cX6_in : ByteArray := prog_8_method_2_code
def yX6_in : MethodName := ⟨RX6, "in", "(JJJ)Z"⟩
abbrev cX6_has : ByteArray := prog_8_method_3_code
def yX6_has : MethodName := ⟨RX6, "has", "(II)Z"⟩
abbrev cX6_copy : ByteArray := prog_8_method_4_code
def yX6_copy : MethodName := ⟨RX6, "copy", "(II)V"⟩
abbrev cX6_on : ByteArray := prog_8_method_5_code
def yX6_on : MethodName := ⟨RX6, "on", "(II)I"⟩
abbrev cX6_shorter : ByteArray := prog_8_method_6_code
def yX6_shorter : MethodName := ⟨RX6, "shorter", "(II)I"⟩
abbrev cX6_write : ByteArray := prog_8_method_7_code
def yX6_write : MethodName := ⟨RX6, "write", "(JI)I"⟩
abbrev cX6_erase : ByteArray := prog_8_method_8_code
def yX6_erase : MethodName := ⟨RX6, "erase", "()I"⟩
abbrev cX6_sort : ByteArray := prog_8_method_9_code
def yX6_sort : MethodName := ⟨RX6, "sort", "(I)I"⟩
abbrev cX6_token : ByteArray := prog_8_method_10_code
def yX6_token : MethodName := ⟨RX6, "token", "()V"⟩
abbrev cX6_isWord : ByteArray := prog_8_method_11_code
def yX6_isWord : MethodName := ⟨RX6, "isWord", "(II)Z"⟩
abbrev cX6_leafWord : ByteArray := prog_8_method_12_code
def yX6_leafWord : MethodName := ⟨RX6, "leafWord", "()I"⟩
abbrev cX6_wordOf : ByteArray := prog_8_method_13_code
def yX6_wordOf : MethodName := ⟨RX6, "wordOf", "()I"⟩
abbrev cX6_numberHere : ByteArray := prog_8_method_14_code
def yX6_numberHere : MethodName := ⟨RX6, "numberHere", "()I"⟩
abbrev cX6_reads : ByteArray := prog_8_method_15_code
def yX6_reads : MethodName := ⟨RX6, "reads", "(III)Z"⟩
abbrev cX6_readNext : ByteArray := prog_8_method_16_code
def yX6_readNext : MethodName := ⟨RX6, "readNext", "(I)I"⟩
abbrev cX6_fitsAngle : ByteArray := prog_8_method_17_code
def yX6_fitsAngle : MethodName := ⟨RX6, "fitsAngle", "(II)Z"⟩
abbrev cX6_isNewDoor : ByteArray := prog_8_method_18_code
def yX6_isNewDoor : MethodName := ⟨RX6, "isNewDoor", "(I)Z"⟩
abbrev cX6_readsLeaf : ByteArray := prog_8_method_19_code
def yX6_readsLeaf : MethodName := ⟨RX6, "readsLeaf", "()Z"⟩
abbrev cX6_readsPut : ByteArray := prog_8_method_20_code
def yX6_readsPut : MethodName := ⟨RX6, "readsPut", "()Z"⟩
abbrev cX6_readsRest : ByteArray := prog_8_method_21_code
def yX6_readsRest : MethodName := ⟨RX6, "readsRest", "(I)Z"⟩
abbrev cX6_goOn : ByteArray := prog_8_method_22_code
def yX6_goOn : MethodName := ⟨RX6, "goOn", "(III)V"⟩
abbrev cX6_readsLine : ByteArray := prog_8_method_23_code
def yX6_readsLine : MethodName := ⟨RX6, "readsLine", "()Z"⟩
abbrev cX6_fault : ByteArray := prog_8_method_24_code
def yX6_fault : MethodName := ⟨RX6, "fault", "()I"⟩
abbrev cX6_tell : ByteArray := prog_8_method_25_code
def yX6_tell : MethodName := ⟨RX6, "tell", "(I)V"⟩
abbrev cX6_house : ByteArray := prog_8_method_26_code
def yX6_house : MethodName := ⟨RX6, "house", "()I"⟩
abbrev cX6_isLeaf : ByteArray := prog_8_method_27_code
def yX6_isLeaf : MethodName := ⟨RX6, "isLeaf", "(I)Z"⟩
abbrev cX6_isPerson : ByteArray := prog_8_method_28_code
def yX6_isPerson : MethodName := ⟨RX6, "isPerson", "(I)Z"⟩
abbrev cX6_isSide : ByteArray := prog_8_method_29_code
def yX6_isSide : MethodName := ⟨RX6, "isSide", "(I)Z"⟩
abbrev cX6_next : ByteArray := prog_8_method_30_code
def yX6_next : MethodName := ⟨RX6, "next", "(I)I"⟩
abbrev cX6_ahead : ByteArray := prog_8_method_31_code
def yX6_ahead : MethodName := ⟨RX6, "ahead", "(I)I"⟩
abbrev cX6_width : ByteArray := prog_8_method_32_code
def yX6_width : MethodName := ⟨RX6, "width", "(II)I"⟩
abbrev cX6_isOpen : ByteArray := prog_8_method_33_code
def yX6_isOpen : MethodName := ⟨RX6, "isOpen", "(II)Z"⟩
abbrev cX6_leaf : ByteArray := prog_8_method_34_code
def yX6_leaf : MethodName := ⟨RX6, "leaf", "(II)I"⟩
abbrev cX6_inRoom : ByteArray := prog_8_method_35_code
def yX6_inRoom : MethodName := ⟨RX6, "inRoom", "(II)I"⟩
abbrev cX6_room : ByteArray := prog_8_method_36_code
def yX6_room : MethodName := ⟨RX6, "room", "(II)I"⟩
abbrev cX6_chain : ByteArray := prog_8_method_37_code
def yX6_chain : MethodName := ⟨RX6, "chain", "(III)I"⟩
abbrev cX6_step : ByteArray := prog_8_method_38_code
def yX6_step : MethodName := ⟨RX6, "step", "(III)Z"⟩
abbrev cX6_as : ByteArray := prog_8_method_39_code
def yX6_as : MethodName := ⟨RX6, "as", "(II)I"⟩
abbrev cX6_person : ByteArray := prog_8_method_40_code
def yX6_person : MethodName := ⟨RX6, "person", "(I)I"⟩
abbrev cX6_pushBy : ByteArray := prog_8_method_41_code
def yX6_pushBy : MethodName := ⟨RX6, "pushBy", "(IIII)I"⟩
abbrev cX6_push : ByteArray := prog_8_method_42_code
def yX6_push : MethodName := ⟨RX6, "push", "(III)I"⟩
abbrev cX6_hour : ByteArray := prog_8_method_43_code
def yX6_hour : MethodName := ⟨RX6, "hour", "()V"⟩
abbrev cX6_hours : ByteArray := prog_8_method_44_code
def yX6_hours : MethodName := ⟨RX6, "hours", "(I)I"⟩
abbrev cX6_leave : ByteArray := prog_8_method_45_code
def yX6_leave : MethodName := ⟨RX6, "leave", "(I)I"⟩
abbrev cX6_bits : ByteArray := prog_8_method_46_code
def yX6_bits : MethodName := ⟨RX6, "bits", "(I)I"⟩
abbrev cX6_enter : ByteArray := prog_8_method_47_code
def yX6_enter : MethodName := ⟨RX6, "enter", "(II)I"⟩
abbrev cX6_keep : ByteArray := prog_8_method_48_code
def yX6_keep : MethodName := ⟨RX6, "keep", "(I)I"⟩
abbrev cX6_back : ByteArray := prog_8_method_49_code
def yX6_back : MethodName := ⟨RX6, "back", "(I)I"⟩
abbrev cX6_turnOn : ByteArray := prog_8_method_50_code
def yX6_turnOn : MethodName := ⟨RX6, "turnOn", "(III)I"⟩
abbrev cX6_turnOf : ByteArray := prog_8_method_51_code
def yX6_turnOf : MethodName := ⟨RX6, "turnOf", "(III)I"⟩
abbrev cX6_turn : ByteArray := prog_8_method_52_code
def yX6_turn : MethodName := ⟨RX6, "turn", "(III)I"⟩
abbrev cX6_best : ByteArray := prog_8_method_53_code
def yX6_best : MethodName := ⟨RX6, "best", "(II)I"⟩
abbrev cX6_widest : ByteArray := prog_8_method_54_code
def yX6_widest : MethodName := ⟨RX6, "widest", "(I)I"⟩
abbrev cX6_further : ByteArray := prog_8_method_55_code
def yX6_further : MethodName := ⟨RX6, "further", "(I)I"⟩
abbrev cX6_share : ByteArray := prog_8_method_56_code
def yX6_share : MethodName := ⟨RX6, "share", "(II)I"⟩
abbrev cX6_rowOf : ByteArray := prog_8_method_57_code
def yX6_rowOf : MethodName := ⟨RX6, "rowOf", "(II)I"⟩
abbrev cX6_setAside : ByteArray := prog_8_method_58_code
def yX6_setAside : MethodName := ⟨RX6, "setAside", "()V"⟩
abbrev cX6_putBack : ByteArray := prog_8_method_59_code
def yX6_putBack : MethodName := ⟨RX6, "putBack", "()V"⟩
abbrev cX6_errandTo : ByteArray := prog_8_method_60_code
def yX6_errandTo : MethodName := ⟨RX6, "errandTo", "(II)I"⟩
abbrev cX6_stepsBy : ByteArray := prog_8_method_61_code
def yX6_stepsBy : MethodName := ⟨RX6, "stepsBy", "(II)I"⟩
abbrev cX6_errands : ByteArray := prog_8_method_62_code
def yX6_errands : MethodName := ⟨RX6, "errands", "(III)I"⟩
abbrev cX6_slam : ByteArray := prog_8_method_63_code
def yX6_slam : MethodName := ⟨RX6, "slam", "(III)I"⟩
abbrev cX6_saveFirst : ByteArray := prog_8_method_64_code
def yX6_saveFirst : MethodName := ⟨RX6, "saveFirst", "()V"⟩
abbrev cX6_areOut : ByteArray := prog_8_method_65_code
def yX6_areOut : MethodName := ⟨RX6, "areOut", "()Z"⟩
abbrev cX6_fire : ByteArray := prog_8_method_66_code
def yX6_fire : MethodName := ⟨RX6, "fire", "(II)I"⟩
abbrev cX6_seen : ByteArray := prog_8_method_67_code
def yX6_seen : MethodName := ⟨RX6, "seen", "(II)I"⟩
abbrev cX6_forget : ByteArray := prog_8_method_68_code
def yX6_forget : MethodName := ⟨RX6, "forget", "()I"⟩
abbrev cX6_least : ByteArray := prog_8_method_69_code
def yX6_least : MethodName := ⟨RX6, "least", "(I)I"⟩
abbrev cX6_count : ByteArray := prog_8_method_70_code
def yX6_count : MethodName := ⟨RX6, "count", "(I)I"⟩
def RJ6 : String := "java/lang/Integer"
def TJ6 : u_T := fun k => match k with
  | _ => ("", "", "", false)
def tyJ6 : Nat → FieldType := fun k => match k with
  | _ => .int
abbrev wsJ60 : List Cond := u_ws RJ6 TJ6 0
theorem nmJ6 : ∀ a, a < 0 → ∀ b, b < 0 → a ≠ b → (TJ6 a).2.1 ≠ (TJ6 b).2.1 := by decide +kernel
theorem tyJ6_ok : ∀ k, k < 0 → parseFieldDescriptor (TJ6 k).2.2.1 = some (tyJ6 k) := by decide +kernel
abbrev cJ6_bitCount_0f7a4 : ByteArray := prog_9_method_49_code
def yJ6_bitCount_0f7a4 : MethodName := ⟨RJ6, "bitCount", "(I)I"⟩
def RJ9 : String := "java/lang/Math"
def TJ9 : u_T := fun k => match k with
  | _ => ("", "", "", false)
def tyJ9 : Nat → FieldType := fun k => match k with
  | _ => .int
abbrev wsJ90 : List Cond := u_ws RJ9 TJ9 0
theorem nmJ9 : ∀ a, a < 0 → ∀ b, b < 0 → a ≠ b → (TJ9 a).2.1 ≠ (TJ9 b).2.1 := by decide +kernel
theorem tyJ9_ok : ∀ k, k < 0 → parseFieldDescriptor (TJ9 k).2.2.1 = some (tyJ9 k) := by decide +kernel
abbrev cJ9_min_7cf53 : ByteArray := prog_10_method_69_code
def yJ9_min_7cf53 : MethodName := ⟨RJ9, "min", "(II)I"⟩
def RJ0 : String := "java/lang/String"
def TJ0 : u_T := fun k => match k with
  | _ => ("", "", "", false)
def tyJ0 : Nat → FieldType := fun k => match k with
  | _ => .int
abbrev wsJ00 : List Cond := u_ws RJ0 TJ0 0
theorem nmJ0 : ∀ a, a < 0 → ∀ b, b < 0 → a ≠ b → (TJ0 a).2.1 ≠ (TJ0 b).2.1 := by decide +kernel
theorem tyJ0_ok : ∀ k, k < 0 → parseFieldDescriptor (TJ0 k).2.2.1 = some (tyJ0 k) := by decide +kernel
abbrev cJ0_length_8abf5 : ByteArray := prog_11_method_54_code
def yJ0_length_8abf5 : MethodName := ⟨RJ0, "length", "()I"⟩
abbrev cJ0_charAt_5068e : ByteArray := prog_11_method_56_code
def yJ0_charAt_5068e : MethodName := ⟨RJ0, "charAt", "(I)C"⟩
abbrev cJ0_coder_7d493 : ByteArray := prog_11_method_152_code
def yJ0_coder_7d493 : MethodName := ⟨RJ0, "coder", "()B"⟩
abbrev cJ0_isLatin1_aae02 : ByteArray := prog_11_method_154_code
def yJ0_isLatin1_aae02 : MethodName := ⟨RJ0, "isLatin1", "()Z"⟩
abbrev cJ0_checkIndex_df160 : ByteArray := prog_11_method_155_code
def yJ0_checkIndex_df160 : MethodName := ⟨RJ0, "checkIndex", "(II)V"⟩
def RJ1 : String := "java/lang/StringLatin1"
def TJ1 : u_T := fun k => match k with
  | _ => ("", "", "", false)
def tyJ1 : Nat → FieldType := fun k => match k with
  | _ => .int
abbrev wsJ10 : List Cond := u_ws RJ1 TJ1 0
theorem nmJ1 : ∀ a, a < 0 → ∀ b, b < 0 → a ≠ b → (TJ1 a).2.1 ≠ (TJ1 b).2.1 := by decide +kernel
theorem tyJ1_ok : ∀ k, k < 0 → parseFieldDescriptor (TJ1 k).2.2.1 = some (tyJ1 k) := by decide +kernel
abbrev cJ1_charAt_3b067 : ByteArray := prog_12_method_2_code
def yJ1_charAt_3b067 : MethodName := ⟨RJ1, "charAt", "([BI)C"⟩
def RJ2 : String := "java/lang/StringUTF16"
def TJ2 : u_T := fun k => match k with
  | _ => ("", "", "", false)
def tyJ2 : Nat → FieldType := fun k => match k with
  | _ => .int
abbrev wsJ20 : List Cond := u_ws RJ2 TJ2 0
theorem nmJ2 : ∀ a, a < 0 → ∀ b, b < 0 → a ≠ b → (TJ2 a).2.1 ≠ (TJ2 b).2.1 := by decide +kernel
theorem tyJ2_ok : ∀ k, k < 0 → parseFieldDescriptor (TJ2 k).2.2.1 = some (tyJ2 k) := by decide +kernel
abbrev cJ2_getChar_3b067 : ByteArray := prog_13_method_5_code
def yJ2_getChar_3b067 : MethodName := ⟨RJ2, "getChar", "([BI)C"⟩
abbrev cJ2_length_9d52b : ByteArray := prog_13_method_6_code
def yJ2_length_9d52b : MethodName := ⟨RJ2, "length", "([B)I"⟩
abbrev cJ2_charAt_3b067 : ByteArray := prog_13_method_83_code
def yJ2_charAt_3b067 : MethodName := ⟨RJ2, "charAt", "([BI)C"⟩
abbrev cJ2_checkIndex_2214a : ByteArray := prog_13_method_91_code
def yJ2_checkIndex_2214a : MethodName := ⟨RJ2, "checkIndex", "(I[B)V"⟩
def RJ10 : String := "java/lang/System"
def TJ10 : u_T := fun k => match k with
  | _ => ("", "", "", false)
def tyJ10 : Nat → FieldType := fun k => match k with
  | _ => .int
abbrev wsJ100 : List Cond := u_ws RJ10 TJ10 0
theorem nmJ10 : ∀ a, a < 0 → ∀ b, b < 0 → a ≠ b → (TJ10 a).2.1 ≠ (TJ10 b).2.1 := by decide +kernel
theorem tyJ10_ok : ∀ k, k < 0 → parseFieldDescriptor (TJ10 k).2.2.1 = some (tyJ10 k) := by decide +kernel
def RJ3 : String := "jdk/internal/util/Preconditions"
def TJ3 : u_T := fun k => match k with
  | _ => ("", "", "", false)
def tyJ3 : Nat → FieldType := fun k => match k with
  | _ => .int
abbrev wsJ30 : List Cond := u_ws RJ3 TJ3 0
theorem nmJ3 : ∀ a, a < 0 → ∀ b, b < 0 → a ≠ b → (TJ3 a).2.1 ≠ (TJ3 b).2.1 := by decide +kernel
theorem tyJ3_ok : ∀ k, k < 0 → parseFieldDescriptor (TJ3 k).2.2.1 = some (tyJ3 k) := by decide +kernel
abbrev cJ3_checkIndex_8e157 : ByteArray := prog_15_method_11_code
def yJ3_checkIndex_8e157 : MethodName := ⟨RJ3, "checkIndex", "(IILjava/util/function/BiFunction;)I"⟩
def RL : String := "OneHingeLaw"
abbrev cL_law : ByteArray := code
def yL_law : MethodName := ⟨RL, "law", "([I)Z"⟩
abbrev vwCl : List vw_C := [(RX0, TX0, 4), (RX1, TX1, 8), (RX2, TX2, 7), (RX3, TX3, 3), (RX4, TX4, 7), (RX5, TX5, 8), (RX6, TX6, 26)]
end
section
/-! THE CORE: a small machine over one flat world. A reference is a pair (kind, which); the world D gives each cell's ints; what a cell is (its class, which fields are references and to what) never changes once all is made, and is told by 'sh'. -/
abbrev Id2 : Type := Nat × Nat
abbrev AV : Type := Int32 ⊕ (Int64 ⊕ (Nat × Nat))
abbrev Wd : Type := Nat × Nat → Nat → Int32
/-- a method: its name, its code, its locals, what it returns -/
abbrev Mt : Type := MethodName × ByteArray × Nat × Option FieldType
abbrev vi (x : Int32) : AV := Sum.inl x
abbrev vl (x : Int64) : AV := Sum.inr (Sum.inl x)
abbrev vr (i : Id2) : AV := Sum.inr (Sum.inr i)
def cv (ad : Id2 → Nat) (v : AV) : Value := match v with
  | .inl x => .int x
  | .inr (.inl x) => .long x
  | .inr (.inr i) => .ref (ad i)
def isL (v : AV) : Bool := match v with
  | .inr (.inl _) => true
  | _ => false
theorem cv_cat (ad : Id2 → Nat) (v : AV) : (cv ad v).category = if isL v then 2 else 1 := by
  rcases v with x | x | x <;> rfl
def upA (D : Wd) (i : Id2) (f : Nat → Int32) : Wd := fun j => if j = i then f else D j
theorem upA_s (D : Wd) (i : Id2) (f : Nat → Int32) : upA D i f i = f := by simp [upA]
theorem upA_n (D : Wd) {i j : Id2} (f : Nat → Int32) (h : j ≠ i) : upA D i f j = D j := by simp [upA, h]
/-- an object: its class's number, its fields (none: an int; some j: the cell j); an array: its type's number, its length, what it refers to (none: ints) -/
abbrev Sh : Type := (Nat × List (Option Id2)) ⊕ (Nat × Nat × Option (Nat → Id2))
def sh (i : Id2) : Sh := match i.1 with
  | 0 => .inl (5, [some (1, 0), some (7, 0), some (9, 0), some (9, 1), some (12, 0), some (13, 0), some (14, 0), some (18, 0)])
  | 1 => .inl (1, [none, some (2, i.2), some (3, i.2), some (4, i.2), none, some (5, i.2), none, some (6, i.2)])
  | 2 => .inr (0, 8, none)
  | 3 => .inr (0, 8, none)
  | 4 => .inr (0, 8, none)
  | 5 => .inr (0, 3, none)
  | 6 => .inr (0, 5, none)
  | 7 => .inl (4, [some (8, 0), none, some (1, 1), none, none, none, none])
  | 8 => .inr (1, 200, none)
  | 9 => .inl (0, [some (1, 0), some (10, i.2), some (11, i.2), none])
  | 10 => .inr (0, 8, none)
  | 11 => .inr (0, 5, none)
  | 12 => .inr (3, 2, some (fun q => (9, q + 2)))
  | 13 => .inr (2, 2, none)
  | 14 => .inl (2, [some (1, 0), some (15, 0), some (9, 4), some (16, 0), some (17, 0), none, none])
  | 15 => .inr (3, 6, some (fun q => (9, q + 5)))
  | 16 => .inr (0, 5, none)
  | 17 => .inr (0, 5, none)
  | 18 => .inl (3, [some (19, 0), some (20, 0), none])
  | 19 => .inr (0, 8, none)
  | 20 => .inr (0, 8, none)
  | 30 => .inl (6, [some (31, 0), some (32, 0), some (33, 0), none, some (34, 0), none, none, some (35, 0), some (36, 0), some (37, 0), none, none, none, none, none, none, some (38, 0), some (39, 0), some (40, 0), none, none, some (41, 0), none, some (42, 0), some (43, 0), none])
  | 31 => .inr (0, 70, none)
  | 32 => .inr (2, 2, none)
  | 33 => .inr (0, 200, none)
  | 34 => .inr (0, 36, none)
  | 35 => .inr (0, 8, none)
  | 36 => .inr (0, 8, none)
  | 37 => .inr (0, 3, none)
  | 38 => .inr (0, 8, none)
  | 39 => .inr (0, 8, none)
  | 40 => .inr (0, 3, none)
  | 41 => .inr (0, 5, none)
  | 42 => .inr (0, 8, none)
  | 43 => .inr (0, 16, none)
  | _ => .inr (0, 0, none)
abbrev idsX : List Id2 := [(0, 0), (1, 0), (2, 0), (3, 0), (4, 0), (5, 0), (6, 0), (7, 0), (8, 0), (1, 1), (2, 1), (3, 1), (4, 1), (5, 1), (6, 1), (9, 0), (10, 0), (11, 0), (9, 1), (10, 1), (11, 1), (12, 0), (13, 0), (14, 0), (15, 0), (16, 0), (17, 0), (9, 4), (10, 4), (11, 4), (9, 5), (10, 5), (11, 5), (9, 6), (10, 6), (11, 6), (9, 7), (10, 7), (11, 7), (9, 8), (10, 8), (11, 8), (9, 9), (10, 9), (11, 9), (9, 10), (10, 10), (11, 10), (18, 0), (19, 0), (20, 0), (9, 2), (10, 2), (11, 2), (9, 3), (10, 3), (11, 3)]
abbrev idsM : List Id2 := [(30, 0), (31, 0), (32, 0), (33, 0), (34, 0), (35, 0), (36, 0), (37, 0), (38, 0), (39, 0), (40, 0), (41, 0), (42, 0), (43, 0)]
def fv (ad : Id2 → Nat) (w : Nat → Int32) (k : Nat) (f : Option Id2) : Value := match f with
  | none => .int (w k)
  | some j => .ref (ad j)
def ce (ad : Id2 → Nat) (dT : Nat → ClassId) (w : Nat → Int32) (i : Id2) : va_E := match sh i with
  | .inl (ci, fs) => .inr (ci, fs.mapIdx (fv ad w))
  | .inr (t, n, none) => .inl (dT t, n, .inl w)
  | .inr (t, n, some g) => .inl (dT t, n, .inr (.inr (.inr (.inr (fun q => some (ad (g q)))))))
def cw (ad : Id2 → Nat) (dT : Nat → ClassId) (ids : List Id2) (D : Wd) : va_W := ids.map (fun i => (ad i, ce ad dT (D i) i))
def aA (ad : Id2 → Nat) (ids : List Id2) : Nat → Prop := fun q => ∃ i ∈ ids, ad i = q
abbrev tyL (dT : Nat → ClassId) : List (ClassId × FieldType) := [(dT 0, .int), (dT 1, .byte), (dT 2, .boolean), (dT 3, .object "OneHinge$House")]
theorem cw_at {ad : Id2 → Nat} {dT : Nat → ClassId} {ids : List Id2} {D : Wd} {q : Nat} {i : Id2} (h : ids[q]? = some i) : (cw ad dT ids D)[q]? = some (ad i, ce ad dT (D i) i) := by
  simp [cw, h]
theorem cw_in {ids : List Id2} {i : Id2} (h : i ∈ ids) : ∃ q : Nat, ids[q]? = some i := List.getElem?_of_mem h
theorem cw_one {ad : Id2 → Nat} {dT : Nat → ClassId} {ids : List Id2} {D : Wd} {A : Nat → Prop} (hD : va_D A (cw ad dT ids D)) {q r : Nat} {i : Id2} (hq : ids[q]? = some i) (hr : ids[r]? = some i) : r = q :=
  hD.1 r q _ _ (cw_at hr) (cw_at hq) rfl
theorem cw_set {ad : Id2 → Nat} {dT : Nat → ClassId} {ids : List Id2} {D : Wd} {A : Nat → Prop} (hD : va_D A (cw ad dT ids D)) {q : Nat} {i : Id2} (hq : ids[q]? = some i) (f : Nat → Int32) : (cw ad dT ids D).set q (ad i, ce ad dT f i) = cw ad dT ids (upA D i f) := by
  apply List.ext_getElem?
  intro r
  by_cases h : q = r
  · subst h
    have hl : q < (cw ad dT ids D).length := (List.getElem?_eq_some_iff.mp (cw_at (ad := ad) (dT := dT) (D := D) hq)).1
    rw [List.getElem?_set_self hl, cw_at hq, upA_s]
  · rw [List.getElem?_set_ne h]
    cases hr : ids[r]? with
    | none => simp [cw, hr]
    | some j =>
      have hj : j ≠ i := fun e => h (cw_one hD (e ▸ hr) hq)
      rw [cw_at hr, cw_at hr, upA_n D f hj]
theorem cf_set {ad : Id2 → Nat} {w : Nat → Int32} {fs : List (Option Id2)} {k : Nat} (x : Int32) (h : fs[k]? = some none) : (fs.mapIdx (fv ad w)).set k (.int x) = fs.mapIdx (fv ad (upd w k x)) := by
  apply List.ext_getElem?
  intro r
  have hl : k < (fs.mapIdx (fv ad w)).length := by
    rw [List.length_mapIdx]; exact (List.getElem?_eq_some_iff.mp h).1
  by_cases e : k = r
  · subst e
    rw [List.getElem?_set_self hl, List.getElem?_mapIdx, h]
    simp [fv, upd]
  · rw [List.getElem?_set_ne e, List.getElem?_mapIdx, List.getElem?_mapIdx]
    cases hr : fs[r]? with
    | none => rfl
    | some f =>
      cases f with
      | none => simp [fv, upd, Ne.symm e]
      | some j => rfl
theorem cw_D {ad : Id2 → Nat} {dT : Nat → ClassId} {ids : List Id2} {D D2 : Wd} {A : Nat → Prop} (h : va_D A (cw ad dT ids D)) : va_D A (cw ad dT ids D2) := by
  have key : ∀ (k : Nat) (q : Nat × va_E), (cw ad dT ids D2)[k]? = some q → ∃ q0, (cw ad dT ids D)[k]? = some q0 ∧ q0.1 = q.1 := by
    intro k q hk
    cases hr : ids[k]? with
    | none => simp [cw, hr] at hk
    | some j =>
      rw [cw_at hr] at hk
      cases hk
      exact ⟨_, cw_at hr, rfl⟩
  refine ⟨fun i j x y hi hj hxy => ?_, fun k q hk => ?_⟩
  · obtain ⟨x0, h1, h2⟩ := key i x hi
    obtain ⟨y0, h3, h4⟩ := key j y hj
    exact h.1 i j x0 y0 h1 h3 (h2.trans (hxy.trans h4.symm))
  · obtain ⟨q0, h1, h2⟩ := key k q hk
    rw [← h2]
    exact h.2 k q0 h1
/-! what lies outside the world, and is only read: the table of kinds, the ten words -/
def tkF (j : Nat) : Int32 := match j with
  | 0 => 3
  | 1 => 7
  | 2 => 9
  | _ => 25
abbrev sIx : List Nat := [140, 142, 144, 146, 148, 150, 152, 154, 155, 157]
abbrev sTx : List String := ["house", "leaf", "plain", "sprung", "heavy", "fixed", "put", "door", "person", "empty"]
abbrev sLn : List Nat := [5, 4, 5, 6, 5, 5, 3, 4, 6, 5]
abbrev sBy : List (List Int32) := [[104, 111, 117, 115, 101], [108, 101, 97, 102], [112, 108, 97, 105, 110], [115, 112, 114, 117, 110, 103], [104, 101, 97, 118, 121], [102, 105, 120, 101, 100], [112, 117, 116], [100, 111, 111, 114], [112, 101, 114, 115, 111, 110], [101, 109, 112, 116, 121]]
/-- links to private members of nest mates (they stay, but by another law than the tables' other words) -/
abbrev nwM : List (String × Nat × MethodName × String) := [(RX1, 53, yX5_between, RX5), (RX0, 42, yX5_between, RX5), (RX5, 161, yX2_visit, RX5), (RX3, 26, yX5_between, RX5)]
abbrev nwF : List (String × Nat × String × String × String × String) := [(RX1, 50, RX5, "TAKEN_AS", "[I", RX5)]
def Nst (U : State) : Prop := (∀ q ∈ nwM, va_Nw (.methodLinkNest q.1 q.2.1 q.2.2.1 q.2.2.2) U) ∧ ∀ q ∈ nwF, va_Nw (.fieldLinkNest q.1 q.2.1 q.2.2.1 q.2.2.2.1 q.2.2.2.2.1 q.2.2.2.2.2) U
theorem Nst.warm {s U : State} (hW : s.WarmedH U.vm) (h : Nst s) : Nst U := ⟨fun q hq => (h.1 q hq).warmM hW, fun q hq => (h.2 q hq).warmF hW⟩
theorem Nst.same {s U : State} (hv : s.vm = U.vm) (h : Nst s) : Nst U := ⟨fun q hq => (h.1 q hq).same rfl hv, fun q hq => (h.2 q hq).same rfl hv⟩
def Ext (ad : Id2 → Nat) (A : Nat → Prop) (U : State) (H : Heap) : Prop :=
  va_Z "OneHinge" "TAKEN_AS" "[I" (.ref (ad (91, 0))) A U H ∧ va_T .int (ad (91, 0)) 4 (fun j => .int (tkF j)) A U H ∧ va_Z "java/lang/String" "COMPACT_STRINGS" "Z" (.int 1) A U H ∧
  vk_S 10 sLn sBy (fun i => ad (90, i)) (fun i => ad (92, i)) A U H ∧ (∀ i : Nat, i < 10 → vk_R "OneHinge$Text" (sIx.getD i 0) (sTx.getD i "") (ad (90, i)) U) ∧ Nst U
theorem Ext.warm {ad : Id2 → Nat} {A : Nat → Prop} {s U : State} {H : Heap} (hW : s.WarmedH U.vm) (hq : ∀ a : Nat, a < s.heap.size → ¬ A a → H[a]? = s.heap[a]?) (h : Ext ad A s s.heap) : Ext ad A U H :=
  ⟨(h.1.kept hq).moved hW.alike, (h.2.1.kept hq).moved hW.alike, (h.2.2.1.kept hq).moved hW.alike, (h.2.2.2.1.kept hq).moved hW.alike, fun i hi => (h.2.2.2.2.1 i hi).warm hW, h.2.2.2.2.2.warm hW⟩
theorem Ext.calling {ad : Id2 → Nat} {A : Nat → Prop} {U : State} {g : JFrame} {mk : MethodId} {a : Array Value} (h : Ext ad A U U.heap) : Ext ad A (U.calling g mk a) (U.calling g mk a).heap :=
  ⟨h.1.moved (u := U) (Vm.Alike.refl U.vm), h.2.1.moved (u := U) (Vm.Alike.refl U.vm), h.2.2.1.moved (u := U) (Vm.Alike.refl U.vm), h.2.2.2.1.moved (u := U) (Vm.Alike.refl U.vm), fun i hi => (h.2.2.2.2.1 i hi).same (u := U) rfl, h.2.2.2.2.2.same rfl⟩
/-! locals, by their places -/
abbrev Lc : Type := List (Option AV)
def lvO (ad : Id2 → Nat) : Nat → Lc → List (Nat × Value)
  | _, [] => []
  | k, none :: r => lvO ad (k + 1) r
  | k, some v :: r => (k, cv ad v) :: lvO ad (k + 1) r
theorem lvO_mem (ad : Id2 → Nat) : ∀ (L : Lc) (k : Nat) (q : Nat × Value), q ∈ lvO ad k L ↔ ∃ (j : Nat) (v : AV), L[j]? = some (some v) ∧ q = (k + j, cv ad v)
  | [], k, q => by simp [lvO]
  | none :: r, k, q => by
    rw [lvO, lvO_mem ad r (k + 1) q]
    constructor
    · rintro ⟨j, v, h1, h2⟩
      exact ⟨j + 1, v, by simpa using h1, by rw [h2]; congr 1; omega⟩
    · rintro ⟨j, v, h1, h2⟩
      cases j with
      | zero => simp at h1
      | succ j => exact ⟨j, v, by simpa using h1, by rw [h2]; congr 1; omega⟩
  | some v :: r, k, q => by
    rw [lvO, List.mem_cons, lvO_mem ad r (k + 1) q]
    constructor
    · rintro (h | ⟨j, v', h1, h2⟩)
      · exact ⟨0, v, rfl, by rw [h]; rfl⟩
      · exact ⟨j + 1, v', by simpa using h1, by rw [h2]; congr 1; omega⟩
    · rintro ⟨j, v', h1, h2⟩
      cases j with
      | zero =>
        have e : v = v' := by simpa using h1
        subst e
        exact Or.inl h2
      | succ j => exact Or.inr ⟨j, v', by simpa using h1, by rw [h2]; congr 1; omega⟩
def Lr (ad : Id2 → Nat) (ls : Array Slot) (nL : Nat) (L : Lc) : Prop := ls.size = nL ∧ lv_wf ls ∧ ∀ (i : Nat) (v : AV), L[i]? = some (some v) → ls[i]? = some (.val (cv ad v))
theorem Lr.has {ad : Id2 → Nat} {ls : Array Slot} {nL : Nat} {L : Lc} (h : Lr ad ls nL L) : lv_has ls nL (lvO ad 0 L) := by
  refine ⟨h.1, h.2.1, fun q hq => ?_⟩
  obtain ⟨j, v, h1, rfl⟩ := (lvO_mem ad L 0 q).mp hq
  simpa using h.2.2 j v h1
theorem Lr.of {ad : Id2 → Nat} {ls : Array Slot} {nL : Nat} {L : Lc} (h : lv_has ls nL (lvO ad 0 L)) : Lr ad ls nL L :=
  ⟨h.1, h.2.1, fun i v hv => h.2.2 (i, cv ad v) ((lvO_mem ad L 0 _).mpr ⟨i, v, hv, by simp⟩)⟩
/-- no long stands just ahead of the place -/
def nlb (L : Lc) (i : Nat) : Bool := match i with
  | 0 => true
  | k + 1 => match L[k]? with
    | some (some v) => !isL v
    | _ => true
theorem Lr.set {ad : Id2 → Nat} {ls' : Array Slot} {nL i : Nat} {L : Lc} {v : AV} (hn : nlb L i = true) (h : lv_has ls' nL ((i, cv ad v) :: (lvO ad 0 L).filter (fun q => !(q.1 == i) && !(q.1 + 1 == i && q.2.category == 2)))) : Lr ad ls' nL (L.set i (some v)) := by
  refine ⟨h.1, h.2.1, fun j u hj => ?_⟩
  by_cases e : i = j
  · subst e
    have hu : u = v := by
      by_cases hl : i < L.length
      · rw [List.getElem?_set_self hl] at hj
        exact (Option.some.inj (Option.some.inj hj)).symm
      · rw [List.getElem?_eq_none (by simp; omega)] at hj
        cases hj
    subst hu
    exact h.2.2 _ List.mem_cons_self
  · rw [List.getElem?_set_ne e] at hj
    refine h.2.2 (j, cv ad u) (List.mem_cons_of_mem _ (List.mem_filter.mpr ⟨(lvO_mem ad L 0 _).mpr ⟨j, u, hj, by simp⟩, ?_⟩))
    have h1 : ¬ j = i := fun z => e z.symm
    by_cases h2 : j + 1 = i
    · subst h2
      have h3 : isL u = false := by
        simp only [nlb, hj] at hn
        simpa using hn
      simp [cv_cat, h3]
    · simp [h1, h2]
/-! the tables' words that stay -/
def TB : List Cond := lw_tbl.filter goodWord
theorem TB_good : ∀ w ∈ TB, goodWord w = true := fun w h => (List.mem_filter.mp h).2
theorem TB_in : ∀ w ∈ TB, w ∈ lw_tbl := fun w h => (List.mem_filter.mp h).1
theorem tb_of {w : Cond} (i : Nat) (h : tables_1[i]? = some w) (hg : goodWord w = true) : w ∈ TB := List.mem_filter.mpr ⟨List.mem_append_right _ (List.mem_of_getElem? h), hg⟩
theorem tb_sel {w : Cond} (i : Nat) (h : (k2_sels lw_privs)[i]? = some w) (hg : goodWord w = true) : w ∈ TB := List.mem_filter.mpr ⟨List.mem_append_left _ (List.mem_of_getElem? h), hg⟩
/-- the words with which a method is begun -/
def wM (M : Mt) : List Cond := .code M.1 M.2.1 M.2.2.1 M.2.2.2 :: TB
theorem wM_good {M : Mt} (h : Cond.code M.1 M.2.1 M.2.2.1 M.2.2.2 ∈ TB) : GoodIn TB (wM M) := by
  intro w hw
  rcases List.mem_cons.mp hw with rfl | hw
  · exact ⟨h, good_of_word (TB_good _ h)⟩
  · exact ⟨hw, good_of_word (TB_good _ hw)⟩
def rmD (d : Nat) : Room := { frames := d, cells := 0, slots := 0, locals := 40 * d }
def Px (G : va_G) (dT : Nat → ClassId) (ad : Id2 → Nat) (ids : List Id2) (D : Wd) (U : State) : Prop :=
  va_P G vwCl (cw ad dT ids D) U.heap ∧ va_D (aA ad ids) (cw ad dT ids D) ∧ va_K G vwCl (tyL dT) U ∧ Ext ad (aA ad ids) U U.heap
def Qx (G : va_G) (dT : Nat → ClassId) (ad : Id2 → Nat) (ids : List Id2) (post : Option AV → Wd → Prop) : Array Value → State → Outcome → State → Prop := fun _ st oc t =>
  (∃ (r : Option AV) (D : Wd), oc = .returned (r.map (cv ad)) ∧ post r D ∧ va_P G vwCl (cw ad dT ids D) t.heap) ∧ va_F (aA ad ids) st t
/-- THE CONTRACT of a method: with these arguments, on this world, it returns, and what it answers and the world then are as 'post' says; at most d frames deep -/
def Mok (M : Mt) (ids : List Id2) (d : Nat) (av : List AV) (D : Wd) (post : Option AV → Wd → Prop) : Prop :=
  ∀ (l : Launch) (G : va_G) (dT : Nat → ClassId) (ad : Id2 → Nat), Met l M.1 (wM M) (rmD d) (va_Pc (av.map (cv ad)) (Px G dT ad ids D)) (Qx G dT ad ids post) 0 0 (aA ad ids)
theorem Mok.imp {M : Mt} {ids : List Id2} {d : Nat} {av : List AV} {D : Wd} {post post' : Option AV → Wd → Prop} (h : Mok M ids d av D post) (hp : ∀ r D', post r D' → post' r D') : Mok M ids d av D post' := by
  intro l G dT ad p e a b c s m args below f1 f2 f3 f4
  obtain ⟨n, o, x1, x2, x3, ⟨⟨r, D', q1, q2, q3⟩, y2⟩, z⟩ := h l G dT ad p e a b c s m args below f1 f2 f3 f4
  exact ⟨n, o, x1, x2, x3, ⟨⟨r, D', q1, hp _ _ q2, q3⟩, y2⟩, z⟩
end
section
/-! THE ROWS: one for each kind of instruction, over the small machine -/
/-- all of a walk that doesn't move: worlds' tables, addresses, program, launch, .. , room, state at the entry, .. , cells and slots so far, the end that is sought -/
abbrev Cxt : Type := va_G × (Nat → ClassId) × (Id2 → Nat) × Program × Launch × Env × Room × State × MethodId × Array Value × List Frame × Method × Code × Nat × Nat × (State → Prop)
abbrev xG (X : Cxt) : va_G := X.1
abbrev xT (X : Cxt) : Nat → ClassId := X.2.1
abbrev xa (X : Cxt) : Id2 → Nat := X.2.2.1
abbrev xp (X : Cxt) : Program := X.2.2.2.1
abbrev xl (X : Cxt) : Launch := X.2.2.2.2.1
abbrev xe (X : Cxt) : Env := X.2.2.2.2.2.1
abbrev xR (X : Cxt) : Room := X.2.2.2.2.2.2.1
abbrev xs (X : Cxt) : State := X.2.2.2.2.2.2.2.1
abbrev xm (X : Cxt) : MethodId := X.2.2.2.2.2.2.2.2.1
abbrev xv (X : Cxt) : Array Value := X.2.2.2.2.2.2.2.2.2.1
abbrev xb (X : Cxt) : List Frame := X.2.2.2.2.2.2.2.2.2.2.1
abbrev xh (X : Cxt) : Method := X.2.2.2.2.2.2.2.2.2.2.2.1
abbrev xc (X : Cxt) : Code := X.2.2.2.2.2.2.2.2.2.2.2.2.1
abbrev xk (X : Cxt) : Nat := X.2.2.2.2.2.2.2.2.2.2.2.2.2.1
abbrev xn (X : Cxt) : Nat := X.2.2.2.2.2.2.2.2.2.2.2.2.2.2.1
abbrev xQ (X : Cxt) : State → Prop := X.2.2.2.2.2.2.2.2.2.2.2.2.2.2.2
def Cx (X : Cxt) (M : Mt) (ids : List Id2) (d : Nat) : Prop :=
  (xp X).tables.exec = Jvm.exec ∧ (xc X).code = M.2.1 ∧ (xc X).maxLocals = M.2.2.1 ∧ (xh X).sig.returnType = M.2.2.2 ∧ (xh X).locks = false ∧ (xs X).vm.findClass M.1.cls = some (xm X).cls ∧ (∀ w ∈ TB, w.before (xv X) (xs X) = true) ∧ va_K (xG X) vwCl (tyL (xT X)) (xs X) ∧ Ext (xa X) (aA (xa X) ids) (xs X) (xs X).heap ∧ d ≤ (xR X).frames ∧ 40 * d ≤ (xR X).locals ∧ xk X ≤ (xR X).cells ∧ xn X ≤ (xR X).slots
def Hx (X : Cxt) (ids : List Id2) (H : Heap) (locs : List Loc) (D : Wd) : Prop :=
  va_P (xG X) vwCl (cw (xa X) (xT X) ids D) H ∧ va_D (aA (xa X) ids) (cw (xa X) (xT X) ids D) ∧ va_S (aA (xa X) ids) (xs X).heap H locs
/-- from this place of the method, with these locals, this stack and this world, the walk comes to its end -/
def Gk (X : Cxt) (M : Mt) (ids : List Id2) (pc : Nat) (L : Lc) (st : List AV) (D : Wd) : Prop :=
  ∀ (H : Heap) (locs : List Loc) (ls : Array Slot), Hx X ids H locs D → Lr (xa X) ls M.2.2.1 L →
    W (xp X) (xl X) (xe X) (xR X) (xs X) (xm X) (xv X) (xb X) (xh X) (xc X) H locs (xk X) (xn X) (xQ X) (F0 (xm X) pc ls (st.map (cv (xa X))))
/-- the end that a contract seeks -/
def Rq (X : Cxt) (ids : List Id2) (post : Option AV → Wd → Prop) : Prop :=
  xk X = 0 ∧ xn X = 0 ∧ xQ X = MQ (xb X) (Qx (xG X) (xT X) (xa X) ids post) (xv X) (xs X) 0 0 (aA (xa X) ids)
section ROWS
variable {X : Cxt} {M : Mt} {ids : List Id2} {d pc : Nat} {L : Lc} {st : List AV} {D : Wd}
theorem Gk.eq {pc' : Nat} {L' : Lc} {st' : List AV} {D' : Wd} (k : Gk X M ids pc' L' st' D') (h1 : pc = pc') (h2 : L = L') (h3 : st = st') (h4 : D = D') : Gk X M ids pc L st D := by subst h1 h2 h3 h4; exact k
theorem g_iconst {n : Int} {v : Int32} (cx : Cx X M ids d) (hd : decode M.2.1 pc = .ok (.iconst n, 1)) (hv : Int32.ofInt n = v) (k : Gk X M ids (pc + 1) L (vi v :: st) D) : Gk X M ids pc L st D :=
  fun H locs ls hH hL => lv_iconst cx.1 cx.2.1 hd hv (k H locs ls hH hL)
theorem g_bipush {n : Int} {v : Int32} (cx : Cx X M ids d) (hd : decode M.2.1 pc = .ok (.bipush n, 2)) (hv : (Int8.ofInt n).toInt32 = v) (k : Gk X M ids (pc + 2) L (vi v :: st) D) : Gk X M ids pc L st D :=
  fun H locs ls hH hL => lv_bipush cx.1 cx.2.1 hd hv (k H locs ls hH hL)
theorem g_sipush {n : Int} {v : Int32} (cx : Cx X M ids d) (hd : decode M.2.1 pc = .ok (.sipush n, 3)) (hv : (Int16.ofInt n).toInt32 = v) (k : Gk X M ids (pc + 3) L (vi v :: st) D) : Gk X M ids pc L st D :=
  fun H locs ls hH hL => lv_sipush cx.1 cx.2.1 hd hv (k H locs ls hH hL)
theorem g_lconst {n : Fin 2} {v : Int64} (cx : Cx X M ids d) (hd : decode M.2.1 pc = .ok (.lconst n, 1)) (hv : Int64.ofNat (n : Nat) = v) (k : Gk X M ids (pc + 1) L (vl v :: st) D) : Gk X M ids pc L st D :=
  fun H locs ls hH hL => lv_lconst cx.1 cx.2.1 hd hv (k H locs ls hH hL)
theorem g_ldc {ix : Nat} {v : Int32} (cx : Cx X M ids d) (hw : Cond.constant M.1.cls ix v ∈ TB) (hd : decode M.2.1 pc = .ok (.ldc ix, 2)) (k : Gk X M ids (pc + 2) L (vi v :: st) D) : Gk X M ids pc L st D :=
  fun H locs ls hH hL => lv_ldc cx.1 cx.2.1 cx.2.2.2.2.2.1 (cx.2.2.2.2.2.2.1 _ hw) hd (k H locs ls hH hL)
theorem g_ldcw {ix : Nat} {v : Int32} (cx : Cx X M ids d) (hw : Cond.constant M.1.cls ix v ∈ TB) (hd : decode M.2.1 pc = .ok (.ldc_w ix, 3)) (k : Gk X M ids (pc + 3) L (vi v :: st) D) : Gk X M ids pc L st D :=
  fun H locs ls hH hL => lv_ldcw cx.1 cx.2.1 cx.2.2.2.2.2.1 (cx.2.2.2.2.2.2.1 _ hw) hd (k H locs ls hH hL)
theorem g_ldc2 {ix : Nat} {v : Int64} (cx : Cx X M ids d) (hw : Cond.constantLong M.1.cls ix v ∈ TB) (hd : decode M.2.1 pc = .ok (.ldc2_w ix, 3)) (k : Gk X M ids (pc + 3) L (vl v :: st) D) : Gk X M ids pc L st D :=
  fun H locs ls hH hL => lv_ldc2 cx.1 cx.2.1 cx.2.2.2.2.2.1 (cx.2.2.2.2.2.2.1 _ hw) hd (k H locs ls hH hL)
theorem g_ldcS {ix i : Nat} {v : Id2} (cx : Cx X M ids d) (hM : M.1.cls = "OneHinge$Text") (hi : i < 10) (hx : sIx.getD i 0 = ix) (hv : (90, i) = v) (hd : decode M.2.1 pc = .ok (.ldc ix, 2)) (k : Gk X M ids (pc + 2) L (vr v :: st) D) : Gk X M ids pc L st D := by
  subst hx hv
  exact fun H locs ls hH hL => va_ldcS cx.1 cx.2.1 (hM ▸ cx.2.2.2.2.2.1) (cx.2.2.2.2.2.2.2.2.1.2.2.2.2.1 i hi) hd (k H locs ls hH hL)
theorem g_iload_n {n : Fin 4} {x : Int32} (cx : Cx X M ids d) (hd : decode M.2.1 pc = .ok (.iload_n n, 1)) (hl : L[(n : Nat)]? = some (some (vi x))) (k : Gk X M ids (pc + 1) L (vi x :: st) D) : Gk X M ids pc L st D :=
  fun H locs ls hH hL => lv_iload_n cx.1 cx.2.1 hd rfl (hL.2.2 _ _ hl) (k H locs ls hH hL)
theorem g_iload {i : Nat} {x : Int32} (cx : Cx X M ids d) (hd : decode M.2.1 pc = .ok (.iload i, 2)) (hl : L[i]? = some (some (vi x))) (k : Gk X M ids (pc + 2) L (vi x :: st) D) : Gk X M ids pc L st D :=
  fun H locs ls hH hL => lv_iload cx.1 cx.2.1 hd (hL.2.2 _ _ hl) (k H locs ls hH hL)
theorem g_lload_n {n : Fin 4} {x : Int64} (cx : Cx X M ids d) (hd : decode M.2.1 pc = .ok (.lload_n n, 1)) (hl : L[(n : Nat)]? = some (some (vl x))) (k : Gk X M ids (pc + 1) L (vl x :: st) D) : Gk X M ids pc L st D :=
  fun H locs ls hH hL => lv_lload_n cx.1 cx.2.1 hd rfl (hL.2.2 _ _ hl) (k H locs ls hH hL)
theorem g_lload {i : Nat} {x : Int64} (cx : Cx X M ids d) (hd : decode M.2.1 pc = .ok (.lload i, 2)) (hl : L[i]? = some (some (vl x))) (k : Gk X M ids (pc + 2) L (vl x :: st) D) : Gk X M ids pc L st D :=
  fun H locs ls hH hL => lv_lload cx.1 cx.2.1 hd (hL.2.2 _ _ hl) (k H locs ls hH hL)
theorem g_aload_n {n : Fin 4} {x : Id2} (cx : Cx X M ids d) (hd : decode M.2.1 pc = .ok (.aload_n n, 1)) (hl : L[(n : Nat)]? = some (some (vr x))) (k : Gk X M ids (pc + 1) L (vr x :: st) D) : Gk X M ids pc L st D :=
  fun H locs ls hH hL => lv_aload_n cx.1 cx.2.1 hd rfl (hL.2.2 _ _ hl) (k H locs ls hH hL)
theorem g_aload {i : Nat} {x : Id2} (cx : Cx X M ids d) (hd : decode M.2.1 pc = .ok (.aload i, 2)) (hl : L[i]? = some (some (vr x))) (k : Gk X M ids (pc + 2) L (vr x :: st) D) : Gk X M ids pc L st D :=
  fun H locs ls hH hL => lv_aload cx.1 cx.2.1 hd (hL.2.2 _ _ hl) (k H locs ls hH hL)
theorem g_istore_n {n : Fin 4} {x : Int32} {L' : Lc} (cx : Cx X M ids d) (hd : decode M.2.1 pc = .ok (.istore_n n, 1)) (hn : (n : Nat) < M.2.2.1) (hb : nlb L (n : Nat) = true) (hl : L.set (n : Nat) (some (vi x)) = L') (k : Gk X M ids (pc + 1) L' st D) : Gk X M ids pc L (vi x :: st) D := by
  subst hl
  exact fun H locs ls hH hL => lv_istore_n cx.1 cx.2.1 hd rfl hL.has hn rfl (fun ls' h => k H locs ls' hH (Lr.set (v := vi x) hb h))
theorem g_istore {i : Nat} {x : Int32} {L' : Lc} (cx : Cx X M ids d) (hd : decode M.2.1 pc = .ok (.istore i, 2)) (hn : i < M.2.2.1) (hb : nlb L i = true) (hl : L.set i (some (vi x)) = L') (k : Gk X M ids (pc + 2) L' st D) : Gk X M ids pc L (vi x :: st) D := by
  subst hl
  exact fun H locs ls hH hL => lv_istore cx.1 cx.2.1 hd hL.has hn rfl (fun ls' h => k H locs ls' hH (Lr.set (v := vi x) hb h))
theorem g_astore_n {n : Fin 4} {x : Id2} {L' : Lc} (cx : Cx X M ids d) (hd : decode M.2.1 pc = .ok (.astore_n n, 1)) (hn : (n : Nat) < M.2.2.1) (hb : nlb L (n : Nat) = true) (hl : L.set (n : Nat) (some (vr x)) = L') (k : Gk X M ids (pc + 1) L' st D) : Gk X M ids pc L (vr x :: st) D := by
  subst hl
  exact fun H locs ls hH hL => lv_astore_n cx.1 cx.2.1 hd rfl hL.has hn rfl (fun ls' h => k H locs ls' hH (Lr.set (v := vr x) hb h))
theorem g_astore {i : Nat} {x : Id2} {L' : Lc} (cx : Cx X M ids d) (hd : decode M.2.1 pc = .ok (.astore i, 2)) (hn : i < M.2.2.1) (hb : nlb L i = true) (hl : L.set i (some (vr x)) = L') (k : Gk X M ids (pc + 2) L' st D) : Gk X M ids pc L (vr x :: st) D := by
  subst hl
  exact fun H locs ls hH hL => lv_astore cx.1 cx.2.1 hd hL.has hn rfl (fun ls' h => k H locs ls' hH (Lr.set (v := vr x) hb h))
theorem g_iinc {i : Nat} {n : Int} {x v : Int32} {L' : Lc} (cx : Cx X M ids d) (hd : decode M.2.1 pc = .ok (.iinc i n, 3)) (hi : L[i]? = some (some (vi x))) (hv : x + Int32.ofInt n = v) (hn : i < M.2.2.1) (hb : nlb L i = true) (hl : L.set i (some (vi v)) = L') (k : Gk X M ids (pc + 3) L' st D) : Gk X M ids pc L st D := by
  subst hl
  intro H locs ls hH hL
  obtain ⟨q, hq⟩ := List.getElem?_of_mem ((lvO_mem (xa X) L 0 (i, cv (xa X) (vi x))).mpr ⟨i, vi x, hi, by simp⟩)
  exact lv_iinc cx.1 cx.2.1 hd hL.has (k := q) hq hv hn rfl (fun ls' h => k H locs ls' hH (Lr.set (v := vi v) hb h))
theorem g_iadd {x y : Int32} (cx : Cx X M ids d) (hd : decode M.2.1 pc = .ok (.iadd, 1)) (k : Gk X M ids (pc + 1) L (vi (x + y) :: st) D) : Gk X M ids pc L (vi y :: vi x :: st) D :=
  fun H locs ls hH hL => lv_iadd cx.1 cx.2.1 hd (k H locs ls hH hL)
theorem g_isub {x y : Int32} (cx : Cx X M ids d) (hd : decode M.2.1 pc = .ok (.isub, 1)) (k : Gk X M ids (pc + 1) L (vi (x - y) :: st) D) : Gk X M ids pc L (vi y :: vi x :: st) D :=
  fun H locs ls hH hL => lv_isub cx.1 cx.2.1 hd (k H locs ls hH hL)
theorem g_imul {x y : Int32} (cx : Cx X M ids d) (hd : decode M.2.1 pc = .ok (.imul, 1)) (k : Gk X M ids (pc + 1) L (vi (x * y) :: st) D) : Gk X M ids pc L (vi y :: vi x :: st) D :=
  fun H locs ls hH hL => lv_imul cx.1 cx.2.1 hd (k H locs ls hH hL)
theorem g_iand {x y : Int32} (cx : Cx X M ids d) (hd : decode M.2.1 pc = .ok (.iand, 1)) (k : Gk X M ids (pc + 1) L (vi (x &&& y) :: st) D) : Gk X M ids pc L (vi y :: vi x :: st) D :=
  fun H locs ls hH hL => lv_iand cx.1 cx.2.1 hd (k H locs ls hH hL)
theorem g_ior {x y : Int32} (cx : Cx X M ids d) (hd : decode M.2.1 pc = .ok (.ior, 1)) (k : Gk X M ids (pc + 1) L (vi (x ||| y) :: st) D) : Gk X M ids pc L (vi y :: vi x :: st) D :=
  fun H locs ls hH hL => lv_ior cx.1 cx.2.1 hd (k H locs ls hH hL)
theorem g_ixor {x y : Int32} (cx : Cx X M ids d) (hd : decode M.2.1 pc = .ok (.ixor, 1)) (k : Gk X M ids (pc + 1) L (vi (x ^^^ y) :: st) D) : Gk X M ids pc L (vi y :: vi x :: st) D :=
  fun H locs ls hH hL => lv_ixor cx.1 cx.2.1 hd (k H locs ls hH hL)
theorem g_ishl {x y : Int32} (cx : Cx X M ids d) (hd : decode M.2.1 pc = .ok (.ishl, 1)) (k : Gk X M ids (pc + 1) L (vi (x <<< (y &&& 31)) :: st) D) : Gk X M ids pc L (vi y :: vi x :: st) D :=
  fun H locs ls hH hL => lv_ishl cx.1 cx.2.1 hd (k H locs ls hH hL)
theorem g_ishr {x y : Int32} (cx : Cx X M ids d) (hd : decode M.2.1 pc = .ok (.ishr, 1)) (k : Gk X M ids (pc + 1) L (vi (x >>> (y &&& 31)) :: st) D) : Gk X M ids pc L (vi y :: vi x :: st) D :=
  fun H locs ls hH hL => lv_ishr cx.1 cx.2.1 hd (k H locs ls hH hL)
theorem g_idiv {x y : Int32} (cx : Cx X M ids d) (hd : decode M.2.1 pc = .ok (.idiv, 1)) (hne : ¬ y = 0) (k : Gk X M ids (pc + 1) L (vi (x / y) :: st) D) : Gk X M ids pc L (vi y :: vi x :: st) D :=
  fun H locs ls hH hL => lv_idiv cx.1 cx.2.1 hd hne (k H locs ls hH hL)
theorem g_irem {x y : Int32} (cx : Cx X M ids d) (hd : decode M.2.1 pc = .ok (.irem, 1)) (hne : ¬ y = 0) (k : Gk X M ids (pc + 1) L (vi (x - x / y * y) :: st) D) : Gk X M ids pc L (vi y :: vi x :: st) D :=
  fun H locs ls hH hL => lv_irem cx.1 cx.2.1 hd hne (k H locs ls hH hL)
theorem g_iushr {x y : Int32} (cx : Cx X M ids d) (hd : decode M.2.1 pc = .ok (.iushr, 1)) (k : Gk X M ids (pc + 1) L (vi ((x.toUInt32 >>> (y.toUInt32 &&& Int32.toUInt32 31)).toInt32) :: st) D) : Gk X M ids pc L (vi y :: vi x :: st) D :=
  fun H locs ls hH hL => lv_iushr cx.1 cx.2.1 hd rfl (k H locs ls hH hL)
theorem g_i2b {x : Int32} (cx : Cx X M ids d) (hd : decode M.2.1 pc = .ok (.i2b, 1)) (k : Gk X M ids (pc + 1) L (vi (x.toInt8.toInt32) :: st) D) : Gk X M ids pc L (vi x :: st) D :=
  fun H locs ls hH hL => lv_i2b cx.1 cx.2.1 hd rfl (k H locs ls hH hL)
theorem g_i2c {x : Int32} (cx : Cx X M ids d) (hd : decode M.2.1 pc = .ok (.i2c, 1)) (k : Gk X M ids (pc + 1) L (vi ((x.toUInt32 % 65536).toInt32) :: st) D) : Gk X M ids pc L (vi x :: st) D :=
  fun H locs ls hH hL => lv_i2c cx.1 cx.2.1 hd rfl (k H locs ls hH hL)
theorem g_i2l {x : Int32} (cx : Cx X M ids d) (hd : decode M.2.1 pc = .ok (.i2l, 1)) (k : Gk X M ids (pc + 1) L (vl (x.toInt64) :: st) D) : Gk X M ids pc L (vi x :: st) D :=
  fun H locs ls hH hL => lv_i2l cx.1 cx.2.1 hd rfl (k H locs ls hH hL)
theorem g_l2i {x : Int64} (cx : Cx X M ids d) (hd : decode M.2.1 pc = .ok (.l2i, 1)) (k : Gk X M ids (pc + 1) L (vi x.toInt32 :: st) D) : Gk X M ids pc L (vl x :: st) D :=
  fun H locs ls hH hL => lv_l2i cx.1 cx.2.1 hd rfl (k H locs ls hH hL)
theorem g_land {x y : Int64} (cx : Cx X M ids d) (hd : decode M.2.1 pc = .ok (.land, 1)) (k : Gk X M ids (pc + 1) L (vl (x &&& y) :: st) D) : Gk X M ids pc L (vl y :: vl x :: st) D :=
  fun H locs ls hH hL => lv_land cx.1 cx.2.1 hd (k H locs ls hH hL)
theorem g_lshr {x : Int64} {y : Int32} (cx : Cx X M ids d) (hd : decode M.2.1 pc = .ok (.lshr, 1)) (k : Gk X M ids (pc + 1) L (vl (x >>> (y.toInt64 &&& 63)) :: st) D) : Gk X M ids pc L (vi y :: vl x :: st) D :=
  fun H locs ls hH hL => lv_lshr cx.1 cx.2.1 hd rfl (k H locs ls hH hL)
theorem g_lcmp {x y : Int64} (cx : Cx X M ids d) (hd : decode M.2.1 pc = .ok (.lcmp, 1)) (k : Gk X M ids (pc + 1) L (vi (lg_cmp x y) :: st) D) : Gk X M ids pc L (vl y :: vl x :: st) D :=
  fun H locs ls hH hL => W.lcmp cx.1 cx.2.1 hd (k H locs ls hH hL)
theorem g_dup {a : AV} (cx : Cx X M ids d) (hd : decode M.2.1 pc = .ok (.dup, 1)) (ha : isL a = false) (k : Gk X M ids (pc + 1) L (a :: a :: st) D) : Gk X M ids pc L (a :: st) D :=
  fun H locs ls hH hL => lv_dup cx.1 cx.2.1 hd (by rw [cv_cat, ha]; rfl) (k H locs ls hH hL)
theorem g_pop {a : AV} (cx : Cx X M ids d) (hd : decode M.2.1 pc = .ok (.pop, 1)) (ha : isL a = false) (k : Gk X M ids (pc + 1) L st D) : Gk X M ids pc L (a :: st) D :=
  fun H locs ls hH hL => lv_pop cx.1 cx.2.1 hd (by rw [cv_cat, ha]; rfl) (k H locs ls hH hL)
theorem g_dup2 {a b : AV} (cx : Cx X M ids d) (hd : decode M.2.1 pc = .ok (.dup2, 1)) (ha : isL a = false) (hb : isL b = false) (k : Gk X M ids (pc + 1) L (a :: b :: a :: b :: st) D) : Gk X M ids pc L (a :: b :: st) D :=
  fun H locs ls hH hL => lv_dup2_11 cx.1 cx.2.1 hd (by rw [cv_cat, ha]; rfl) (by rw [cv_cat, hb]; rfl) (k H locs ls hH hL)
theorem g_if_eq {x : Int32} {off : Int} {tgt : Nat} (cx : Cx X M ids d) (hd : decode M.2.1 pc = .ok (.ifCond .eq off, 3)) (ht : (pc : Int) + off = (tgt : Int)) (kt : x = 0 → Gk X M ids tgt L st D) (kf : ¬ x = 0 → Gk X M ids (pc + 3) L st D) : Gk X M ids pc L (vi x :: st) D :=
  fun H locs ls hH hL => lv_if_eq cx.1 cx.2.1 hd ht (fun q => kt q H locs ls hH hL) (fun q => kf q H locs ls hH hL)
theorem g_icmp_eq {x y : Int32} {off : Int} {tgt : Nat} (cx : Cx X M ids d) (hd : decode M.2.1 pc = .ok (.if_icmp .eq off, 3)) (ht : (pc : Int) + off = (tgt : Int)) (kt : x = y → Gk X M ids tgt L st D) (kf : ¬ x = y → Gk X M ids (pc + 3) L st D) : Gk X M ids pc L (vi y :: vi x :: st) D :=
  fun H locs ls hH hL => lv_icmp_eq cx.1 cx.2.1 hd ht (fun q => kt q H locs ls hH hL) (fun q => kf q H locs ls hH hL)
theorem g_if_ne {x : Int32} {off : Int} {tgt : Nat} (cx : Cx X M ids d) (hd : decode M.2.1 pc = .ok (.ifCond .ne off, 3)) (ht : (pc : Int) + off = (tgt : Int)) (kt : ¬ x = 0 → Gk X M ids tgt L st D) (kf : x = 0 → Gk X M ids (pc + 3) L st D) : Gk X M ids pc L (vi x :: st) D :=
  fun H locs ls hH hL => lv_if_ne cx.1 cx.2.1 hd ht (fun q => kt q H locs ls hH hL) (fun q => kf q H locs ls hH hL)
theorem g_icmp_ne {x y : Int32} {off : Int} {tgt : Nat} (cx : Cx X M ids d) (hd : decode M.2.1 pc = .ok (.if_icmp .ne off, 3)) (ht : (pc : Int) + off = (tgt : Int)) (kt : ¬ x = y → Gk X M ids tgt L st D) (kf : x = y → Gk X M ids (pc + 3) L st D) : Gk X M ids pc L (vi y :: vi x :: st) D :=
  fun H locs ls hH hL => lv_icmp_ne cx.1 cx.2.1 hd ht (fun q => kt q H locs ls hH hL) (fun q => kf q H locs ls hH hL)
theorem g_if_lt {x : Int32} {off : Int} {tgt : Nat} (cx : Cx X M ids d) (hd : decode M.2.1 pc = .ok (.ifCond .lt off, 3)) (ht : (pc : Int) + off = (tgt : Int)) (kt : x < 0 → Gk X M ids tgt L st D) (kf : ¬ x < 0 → Gk X M ids (pc + 3) L st D) : Gk X M ids pc L (vi x :: st) D :=
  fun H locs ls hH hL => lv_if_lt cx.1 cx.2.1 hd ht (fun q => kt q H locs ls hH hL) (fun q => kf q H locs ls hH hL)
theorem g_icmp_lt {x y : Int32} {off : Int} {tgt : Nat} (cx : Cx X M ids d) (hd : decode M.2.1 pc = .ok (.if_icmp .lt off, 3)) (ht : (pc : Int) + off = (tgt : Int)) (kt : x < y → Gk X M ids tgt L st D) (kf : ¬ x < y → Gk X M ids (pc + 3) L st D) : Gk X M ids pc L (vi y :: vi x :: st) D :=
  fun H locs ls hH hL => lv_icmp_lt cx.1 cx.2.1 hd ht (fun q => kt q H locs ls hH hL) (fun q => kf q H locs ls hH hL)
theorem g_if_ge {x : Int32} {off : Int} {tgt : Nat} (cx : Cx X M ids d) (hd : decode M.2.1 pc = .ok (.ifCond .ge off, 3)) (ht : (pc : Int) + off = (tgt : Int)) (kt : 0 ≤ x → Gk X M ids tgt L st D) (kf : ¬ 0 ≤ x → Gk X M ids (pc + 3) L st D) : Gk X M ids pc L (vi x :: st) D :=
  fun H locs ls hH hL => lv_if_ge cx.1 cx.2.1 hd ht (fun q => kt q H locs ls hH hL) (fun q => kf q H locs ls hH hL)
theorem g_icmp_ge {x y : Int32} {off : Int} {tgt : Nat} (cx : Cx X M ids d) (hd : decode M.2.1 pc = .ok (.if_icmp .ge off, 3)) (ht : (pc : Int) + off = (tgt : Int)) (kt : y ≤ x → Gk X M ids tgt L st D) (kf : ¬ y ≤ x → Gk X M ids (pc + 3) L st D) : Gk X M ids pc L (vi y :: vi x :: st) D :=
  fun H locs ls hH hL => lv_icmp_ge cx.1 cx.2.1 hd ht (fun q => kt q H locs ls hH hL) (fun q => kf q H locs ls hH hL)
theorem g_if_gt {x : Int32} {off : Int} {tgt : Nat} (cx : Cx X M ids d) (hd : decode M.2.1 pc = .ok (.ifCond .gt off, 3)) (ht : (pc : Int) + off = (tgt : Int)) (kt : 0 < x → Gk X M ids tgt L st D) (kf : ¬ 0 < x → Gk X M ids (pc + 3) L st D) : Gk X M ids pc L (vi x :: st) D :=
  fun H locs ls hH hL => lv_if_gt cx.1 cx.2.1 hd ht (fun q => kt q H locs ls hH hL) (fun q => kf q H locs ls hH hL)
theorem g_icmp_gt {x y : Int32} {off : Int} {tgt : Nat} (cx : Cx X M ids d) (hd : decode M.2.1 pc = .ok (.if_icmp .gt off, 3)) (ht : (pc : Int) + off = (tgt : Int)) (kt : y < x → Gk X M ids tgt L st D) (kf : ¬ y < x → Gk X M ids (pc + 3) L st D) : Gk X M ids pc L (vi y :: vi x :: st) D :=
  fun H locs ls hH hL => lv_icmp_gt cx.1 cx.2.1 hd ht (fun q => kt q H locs ls hH hL) (fun q => kf q H locs ls hH hL)
theorem g_if_le {x : Int32} {off : Int} {tgt : Nat} (cx : Cx X M ids d) (hd : decode M.2.1 pc = .ok (.ifCond .le off, 3)) (ht : (pc : Int) + off = (tgt : Int)) (kt : x ≤ 0 → Gk X M ids tgt L st D) (kf : ¬ x ≤ 0 → Gk X M ids (pc + 3) L st D) : Gk X M ids pc L (vi x :: st) D :=
  fun H locs ls hH hL => lv_if_le cx.1 cx.2.1 hd ht (fun q => kt q H locs ls hH hL) (fun q => kf q H locs ls hH hL)
theorem g_icmp_le {x y : Int32} {off : Int} {tgt : Nat} (cx : Cx X M ids d) (hd : decode M.2.1 pc = .ok (.if_icmp .le off, 3)) (ht : (pc : Int) + off = (tgt : Int)) (kt : x ≤ y → Gk X M ids tgt L st D) (kf : ¬ x ≤ y → Gk X M ids (pc + 3) L st D) : Gk X M ids pc L (vi y :: vi x :: st) D :=
  fun H locs ls hH hL => lv_icmp_le cx.1 cx.2.1 hd ht (fun q => kt q H locs ls hH hL) (fun q => kf q H locs ls hH hL)
theorem g_goto {off : Int} {tgt : Nat} (cx : Cx X M ids d) (hd : decode M.2.1 pc = .ok (.goto off, 3)) (ht : (pc : Int) + off = (tgt : Int)) (k : Gk X M ids tgt L st D) : Gk X M ids pc L st D :=
  fun H locs ls hH hL => lv_goto cx.1 cx.2.1 hd ht (k H locs ls hH hL)
theorem g_tabOut {dflt lo hi : Int} {offs : Array Int} {len tgt : Nat} {x : Int32} (cx : Cx X M ids d) (hd : decode M.2.1 pc = .ok (.tableswitch dflt lo hi offs, len)) (h : x.toInt < lo ∨ hi < x.toInt) (ht : (pc : Int) + dflt = (tgt : Int)) (k : Gk X M ids tgt L st D) : Gk X M ids pc L (vi x :: st) D :=
  fun H locs ls hH hL => lv_tableOut cx.1 cx.2.1 hd h ht (k H locs ls hH hL)
theorem g_tabIn {dflt lo hi off : Int} {offs : Array Int} {len tgt : Nat} {x : Int32} (cx : Cx X M ids d) (hd : decode M.2.1 pc = .ok (.tableswitch dflt lo hi offs, len)) (h1 : ¬ x.toInt < lo) (h2 : ¬ hi < x.toInt) (ho : offs[(x.toInt - lo).toNat]? = some off) (ht : (pc : Int) + off = (tgt : Int)) (k : Gk X M ids tgt L st D) : Gk X M ids pc L (vi x :: st) D :=
  fun H locs ls hH hL => lv_tableIn cx.1 cx.2.1 hd h1 h2 ho ht (k H locs ls hH hL)
end ROWS
end
section
/-! THE ROWS for fields, arrays, calls and returns -/
section CELLS
variable {X : Cxt} {M : Mt} {ids : List Id2} {d pc : Nat} {L : Lc} {st : List AV} {D : Wd}
theorem ce_obj {ad : Id2 → Nat} {dT : Nat → ClassId} {w : Nat → Int32} {i : Id2} {ci : Nat} {fs : List (Option Id2)} (h : sh i = .inl (ci, fs)) : ce ad dT w i = .inr (ci, fs.mapIdx (fv ad w)) := by
  simp only [ce, h]
theorem ce_arr {ad : Id2 → Nat} {dT : Nat → ClassId} {w : Nat → Int32} {i : Id2} {t n : Nat} (h : sh i = .inr (t, n, none)) : ce ad dT w i = .inl (dT t, n, .inl w) := by
  simp only [ce, h]
theorem ce_ref {ad : Id2 → Nat} {dT : Nat → ClassId} {w : Nat → Int32} {i : Id2} {t n : Nat} {g : Nat → Id2} (h : sh i = .inr (t, n, some g)) : ce ad dT w i = .inl (dT t, n, .inr (.inr (.inr (.inr (fun q => some (ad (g q))))))) := by
  simp only [ce, h]
theorem fv_get {ad : Id2 → Nat} {w : Nat → Int32} {fs : List (Option Id2)} {k : Nat} {f : Option Id2} (h : fs[k]? = some f) : (fs.mapIdx (fv ad w))[k]? = some (fv ad w k f) := by
  rw [List.getElem?_mapIdx, h]; rfl
theorem g_getI {i : Id2} {ci k N ix : Nat} {fs : List (Option Id2)} {C : String} {T : u_T} (cx : Cx X M ids d) (hi : i ∈ ids) (hs : sh i = .inl (ci, fs)) (hf : fs[k]? = some none) (hc : vwCl[ci]? = some (C, T, N)) (hk : k < N) (hin : ∀ w ∈ u_ws C T N, w ∈ TB) (hw : Cond.fieldLink M.1.cls ix (T k).1 (T k).2.1 (T k).2.2.1 ∈ TB) (hd : decode M.2.1 pc = .ok (.getfield ix, 3)) (kk : Gk X M ids (pc + 3) L (vi (D i k) :: st) D) : Gk X M ids pc L (vr i :: st) D := by
  intro H locs ls hH hL
  obtain ⟨q, hq⟩ := cw_in hi
  have he := cw_at (ad := xa X) (dT := xT X) (D := D) hq
  rw [ce_obj hs] at he
  exact va_get cx.1 cx.2.1 cx.2.2.2.2.2.2.1 hin cx.2.2.2.2.2.1 cx.2.2.2.2.2.2.2.1 hH.1 q he hc k hk (cx.2.2.2.2.2.2.1 _ hw) (fun _ h => h) (fv_get hf) hd (kk H locs ls hH hL)
theorem g_getR {i j : Id2} {ci k N ix : Nat} {fs : List (Option Id2)} {C : String} {T : u_T} (cx : Cx X M ids d) (hi : i ∈ ids) (hs : sh i = .inl (ci, fs)) (hf : fs[k]? = some (some j)) (hc : vwCl[ci]? = some (C, T, N)) (hk : k < N) (hin : ∀ w ∈ u_ws C T N, w ∈ TB) (hw : Cond.fieldLink M.1.cls ix (T k).1 (T k).2.1 (T k).2.2.1 ∈ TB) (hd : decode M.2.1 pc = .ok (.getfield ix, 3)) (kk : Gk X M ids (pc + 3) L (vr j :: st) D) : Gk X M ids pc L (vr i :: st) D := by
  intro H locs ls hH hL
  obtain ⟨q, hq⟩ := cw_in hi
  have he := cw_at (ad := xa X) (dT := xT X) (D := D) hq
  rw [ce_obj hs] at he
  exact va_get cx.1 cx.2.1 cx.2.2.2.2.2.2.1 hin cx.2.2.2.2.2.1 cx.2.2.2.2.2.2.2.1 hH.1 q he hc k hk (cx.2.2.2.2.2.2.1 _ hw) (fun _ h => h) (fv_get hf) hd (kk H locs ls hH hL)
theorem g_putI {i : Id2} {ci k N ix : Nat} {fs : List (Option Id2)} {C : String} {T : u_T} {ty0 : Nat → FieldType} {x : Int32} (cx : Cx X M ids d) (hi : i ∈ ids) (hs : sh i = .inl (ci, fs)) (hf : fs[k]? = some none) (hc : vwCl[ci]? = some (C, T, N)) (hk : k < N) (hin : ∀ w ∈ u_ws C T N, w ∈ TB) (hty : ∀ k, k < N → parseFieldDescriptor (T k).2.2.1 = some (ty0 k)) (hnm : ∀ a, a < N → ∀ b, b < N → a ≠ b → (T a).2.1 ≠ (T b).2.1) (hfin : (T k).2.2.2 = false) (hI : ty0 k = .int) (hw : Cond.fieldLink M.1.cls ix (T k).1 (T k).2.1 (T k).2.2.1 ∈ TB) (hd : decode M.2.1 pc = .ok (.putfield ix, 3)) (kk : Gk X M ids (pc + 3) L st (upA D i (upd (D i) k x))) : Gk X M ids pc L (vi x :: vr i :: st) D := by
  intro H locs ls hH hL
  obtain ⟨q, hq⟩ := cw_in hi
  have he := cw_at (ad := xa X) (dT := xT X) (D := D) hq
  rw [ce_obj hs] at he
  have hlen : k < (fs.mapIdx (fv (xa X) (D i))).length := by
    rw [List.length_mapIdx]; exact (List.getElem?_eq_some_iff.mp hf).1
  refine va_put cx.1 cx.2.1 cx.2.2.2.2.2.2.1 hin ty0 hty hnm cx.2.2.2.2.2.1 cx.2.2.2.2.2.2.2.1 hH.1 hH.2.1 hH.2.2 q he hc k hk (cx.2.2.2.2.2.2.1 _ hw) (fun _ h => h) hfin (ty := .int) (v := .int x) (by rw [hty k hk, hI]) rfl rfl hlen hd (fun H1 locs1 hP hD hS => ?_)
  have e : (cw (xa X) (xT X) ids D).set q (xa X i, .inr (ci, (fs.mapIdx (fv (xa X) (D i))).set k (.int x))) = cw (xa X) (xT X) ids (upA D i (upd (D i) k x)) := by
    rw [cf_set x hf, ← ce_obj (dT := xT X) hs]; exact cw_set hH.2.1 hq _
  rw [e] at hP hD
  exact kk H1 locs1 ls ⟨hP, hD, hS⟩ hL
theorem g_iald {i : Id2} {n j : Nat} {x : Int32} (cx : Cx X M ids d) (hi : i ∈ ids) (hs : sh i = .inr (0, n, none)) (hx : x = nI j) (hj : j < n) (hn : n < 2 ^ 31) (hd : decode M.2.1 pc = .ok (.iaload, 1)) (kk : Gk X M ids (pc + 1) L (vi (D i j) :: st) D) : Gk X M ids pc L (vi x :: vr i :: st) D := by
  subst hx
  intro H locs ls hH hL
  obtain ⟨q, hq⟩ := cw_in hi
  have he := cw_at (ad := xa X) (dT := xT X) (D := D) hq
  rw [ce_arr hs] at he
  refine va_iald cx.1 cx.2.1 cx.2.2.2.2.2.2.2.1 hH.1 q 0 he rfl (vp_in_nI hj hn) hd ?_
  rw [nI_clamp (by omega)]
  exact kk H locs ls hH hL
theorem g_bald {i : Id2} {n j : Nat} {x : Int32} (cx : Cx X M ids d) (hi : i ∈ ids) (hs : sh i = .inr (1, n, none)) (hx : x = nI j) (hj : j < n) (hn : n < 2 ^ 31) (hd : decode M.2.1 pc = .ok (.baload, 1)) (kk : Gk X M ids (pc + 1) L (vi (D i j) :: st) D) : Gk X M ids pc L (vi x :: vr i :: st) D := by
  subst hx
  intro H locs ls hH hL
  obtain ⟨q, hq⟩ := cw_in hi
  have he := cw_at (ad := xa X) (dT := xT X) (D := D) hq
  rw [ce_arr hs] at he
  refine va_bald cx.1 cx.2.1 cx.2.2.2.2.2.2.2.1 hH.1 q 1 he rfl (vp_in_nI hj hn) hd ?_
  rw [nI_clamp (by omega)]
  exact kk H locs ls hH hL
theorem g_zald {i : Id2} {n j : Nat} {x : Int32} (cx : Cx X M ids d) (hi : i ∈ ids) (hs : sh i = .inr (2, n, none)) (hx : x = nI j) (hj : j < n) (hn : n < 2 ^ 31) (hd : decode M.2.1 pc = .ok (.baload, 1)) (kk : Gk X M ids (pc + 1) L (vi (D i j) :: st) D) : Gk X M ids pc L (vi x :: vr i :: st) D := by
  subst hx
  intro H locs ls hH hL
  obtain ⟨q, hq⟩ := cw_in hi
  have he := cw_at (ad := xa X) (dT := xT X) (D := D) hq
  rw [ce_arr hs] at he
  refine va_zald cx.1 cx.2.1 cx.2.2.2.2.2.2.2.1 hH.1 q 2 he rfl (vp_in_nI hj hn) hd ?_
  rw [nI_clamp (by omega)]
  exact kk H locs ls hH hL
theorem g_aald {i : Id2} {n j : Nat} {g : Nat → Id2} {x : Int32} (cx : Cx X M ids d) (hi : i ∈ ids) (hs : sh i = .inr (3, n, some g)) (hx : x = nI j) (hj : j < n) (hn : n < 2 ^ 31) (hd : decode M.2.1 pc = .ok (.aaload, 1)) (kk : Gk X M ids (pc + 1) L (vr (g j) :: st) D) : Gk X M ids pc L (vi x :: vr i :: st) D := by
  subst hx
  intro H locs ls hH hL
  obtain ⟨q, hq⟩ := cw_in hi
  have he := cw_at (ad := xa X) (dT := xT X) (D := D) hq
  rw [ce_ref hs] at he
  refine va_aldq cx.1 cx.2.1 cx.2.2.2.2.2.2.2.1 hH.1 q 3 he rfl (vp_in_nI hj hn) hd ?_
  rw [nI_clamp (by omega)]
  exact kk H locs ls hH hL
theorem g_iast {i : Id2} {n j : Nat} {x v : Int32} (cx : Cx X M ids d) (hi : i ∈ ids) (hs : sh i = .inr (0, n, none)) (hx : x = nI j) (hj : j < n) (hn : n < 2 ^ 31) (hd : decode M.2.1 pc = .ok (.iastore, 1)) (kk : Gk X M ids (pc + 1) L st (upA D i (upd (D i) j v))) : Gk X M ids pc L (vi v :: vi x :: vr i :: st) D := by
  subst hx
  intro H locs ls hH hL
  obtain ⟨q, hq⟩ := cw_in hi
  have he := cw_at (ad := xa X) (dT := xT X) (D := D) hq
  rw [ce_arr hs] at he
  refine va_iast cx.1 cx.2.1 cx.2.2.2.2.2.2.2.1 hH.1 hH.2.1 hH.2.2 q 0 he rfl (vp_in_nI hj hn) hd (fun H1 locs1 hP hD hS => ?_)
  rw [nI_clamp (by omega), ← ce_arr (ad := xa X) hs, cw_set hH.2.1 hq] at hP hD
  exact kk H1 locs1 ls ⟨hP, hD, hS⟩ hL
theorem g_bast {i : Id2} {n j : Nat} {x v : Int32} (cx : Cx X M ids d) (hi : i ∈ ids) (hs : sh i = .inr (1, n, none)) (hx : x = nI j) (hj : j < n) (hn : n < 2 ^ 31) (hd : decode M.2.1 pc = .ok (.bastore, 1)) (kk : Gk X M ids (pc + 1) L st (upA D i (upd (D i) j (v.toInt8.toInt32)))) : Gk X M ids pc L (vi v :: vi x :: vr i :: st) D := by
  subst hx
  intro H locs ls hH hL
  obtain ⟨q, hq⟩ := cw_in hi
  have he := cw_at (ad := xa X) (dT := xT X) (D := D) hq
  rw [ce_arr hs] at he
  refine va_bast cx.1 cx.2.1 cx.2.2.2.2.2.2.2.1 hH.1 hH.2.1 hH.2.2 q 1 he rfl (vp_in_nI hj hn) hd (fun H1 locs1 hP hD hS => ?_)
  rw [nI_clamp (by omega), ← ce_arr (ad := xa X) hs, cw_set hH.2.1 hq, vp_nar_byte] at hP hD
  exact kk H1 locs1 ls ⟨hP, hD, hS⟩ hL
theorem g_zast {i : Id2} {n j : Nat} {x v v' : Int32} (cx : Cx X M ids d) (hi : i ∈ ids) (hs : sh i = .inr (2, n, none)) (hx : x = nI j) (hj : j < n) (hn : n < 2 ^ 31) (hv : vp_nar .boolean v = v') (hd : decode M.2.1 pc = .ok (.bastore, 1)) (kk : Gk X M ids (pc + 1) L st (upA D i (upd (D i) j v'))) : Gk X M ids pc L (vi v :: vi x :: vr i :: st) D := by
  subst hx
  intro H locs ls hH hL
  obtain ⟨q, hq⟩ := cw_in hi
  have he := cw_at (ad := xa X) (dT := xT X) (D := D) hq
  rw [ce_arr hs] at he
  refine va_zast cx.1 cx.2.1 cx.2.2.2.2.2.2.2.1 hH.1 hH.2.1 hH.2.2 q 2 he rfl (vp_in_nI hj hn) hd (fun H1 locs1 hP hD hS => ?_)
  rw [nI_clamp (by omega), ← ce_arr (ad := xa X) hs, cw_set hH.2.1 hq, hv] at hP hD
  exact kk H1 locs1 ls ⟨hP, hD, hS⟩ hL
/-- the table of kinds: its reference, and what it holds -/
theorem g_tak {ix : Nat} (cx : Cx X M ids d) (hw : Cond.fieldLink M.1.cls ix "OneHinge" "TAKEN_AS" "[I" ∈ TB) (hd : decode M.2.1 pc = .ok (.getstatic ix, 3)) (kk : Gk X M ids (pc + 3) L (vr (91, 0) :: st) D) : Gk X M ids pc L st D :=
  fun H locs ls hH hL => va_gets cx.1 cx.2.1 cx.2.2.2.2.2.2.2.2.1.1 hH.2.2 cx.2.2.2.2.2.1 (cx.2.2.2.2.2.2.1 _ hw) (fun _ h => h) hd (kk H locs ls hH hL)
theorem g_takN {ix : Nat} {host : String} (cx : Cx X M ids d) (hw : (M.1.cls, ix, "OneHinge", "TAKEN_AS", "[I", host) ∈ nwF) (hd : decode M.2.1 pc = .ok (.getstatic ix, 3)) (kk : Gk X M ids (pc + 3) L (vr (91, 0) :: st) D) : Gk X M ids pc L st D :=
  fun H locs ls hH hL => va_getsN cx.1 cx.2.1 cx.2.2.2.2.2.2.2.2.1.1 hH.2.2 cx.2.2.2.2.2.1 ((cx.2.2.2.2.2.2.2.2.1.2.2.2.2.2.2 _ hw).use rfl) (fun _ h => h) hd (kk H locs ls hH hL)
theorem g_taki {j : Nat} {x : Int32} (cx : Cx X M ids d) (hx : x = nI j) (hj : j < 4) (hd : decode M.2.1 pc = .ok (.iaload, 1)) (kk : Gk X M ids (pc + 1) L (vi (tkF j) :: st) D) : Gk X M ids pc L (vi x :: vr (91, 0) :: st) D := by
  subst hx
  exact fun H locs ls hH hL => va_ti cx.1 cx.2.1 cx.2.2.2.2.2.2.2.2.1.2.1 hH.2.2 (vp_in_nI hj (by omega)) (by rw [nI_clamp (by omega)]; rfl) hd (kk H locs ls hH hL)
theorem g_compact {ix : Nat} (cx : Cx X M ids d) (hw : Cond.fieldLink M.1.cls ix "java/lang/String" "COMPACT_STRINGS" "Z" ∈ TB) (hd : decode M.2.1 pc = .ok (.getstatic ix, 3)) (kk : Gk X M ids (pc + 3) L (vi 1 :: st) D) : Gk X M ids pc L st D :=
  fun H locs ls hH hL => va_gets cx.1 cx.2.1 cx.2.2.2.2.2.2.2.2.1.2.2.1 hH.2.2 cx.2.2.2.2.2.1 (cx.2.2.2.2.2.2.1 _ hw) (fun _ h => h) hd (kk H locs ls hH hL)
/-! returns -/
theorem g_ret {post : Option AV → Wd → Prop} {x : Int32} {ty : FieldType} (cx : Cx X M ids d) (rq : Rq X ids post) (hr : M.2.2.2 = some ty) (hn : narrow ty (.int x) = .int x) (hd : decode M.2.1 pc = .ok (.ireturn, 1)) (hp : post (some (vi x)) D) : Gk X M ids pc L [vi x] D := by
  intro H locs ls hH hL
  obtain ⟨h1, h2, h3⟩ := rq
  rw [h1, h2, h3]
  exact W.zret (ty := ty) cx.1 cx.2.1 (by rw [cx.2.2.2.1, hr]) hn (fun t ht hW => ⟨⟨some (vi x), D, rfl, hp, by rw [ht]; exact hH.1⟩, hH.2.2.F ht⟩) hH.2.2.2.2 hd cx.2.2.2.2.1
theorem g_vret {post : Option AV → Wd → Prop} (cx : Cx X M ids d) (rq : Rq X ids post) (hr : M.2.2.2 = none) (hd : decode M.2.1 pc = .ok (.return_, 1)) (hp : post none D) : Gk X M ids pc L [] D := by
  intro H locs ls hH hL
  obtain ⟨h1, h2, h3⟩ := rq
  rw [h1, h2, h3]
  exact W.vret cx.1 cx.2.1 (by rw [cx.2.2.2.1, hr]) (fun t ht hW => ⟨⟨none, D, rfl, hp, by rw [ht]; exact hH.1⟩, hH.2.2.F ht⟩) hH.2.2.2.2 hd cx.2.2.2.2.1
theorem g_aret {post : Option AV → Wd → Prop} {i : Id2} {rt : FieldType} (cx : Cx X M ids d) (rq : Rq X ids post) (hr : M.2.2.2 = some rt) (hrt : (∃ n, rt = .object n) ∨ ∃ t, rt = .array t) (hd : decode M.2.1 pc = .ok (.areturn, 1)) (hp : post (some (vr i)) D) : Gk X M ids pc L [vr i] D := by
  intro H locs ls hH hL
  obtain ⟨h1, h2, h3⟩ := rq
  rw [h1, h2, h3]
  exact W.aret (v := .ref (xa X i)) cx.1 cx.2.1 (by rw [cx.2.2.2.1, hr]) hrt (Or.inr ⟨_, rfl⟩) (fun t ht hW => ⟨⟨some (vr i), D, rfl, hp, by rw [ht]; exact hH.1⟩, hH.2.2.F ht⟩) hH.2.2.2.2 hd cx.2.2.2.2.1
/-! a method's begin -/
theorem Mok.of {av : List AV} {post : Option AV → Wd → Prop} (hy : plainName M.1.cls = true) (hlen : (∀ ad, (lg_sl (av.map (cv ad))).length ≤ M.2.2.1)) (hL : ∀ ad, lvO ad 0 L = lv_args 0 (av.map (cv ad))) (k : ∀ X : Cxt, Cx X M ids d → Rq X ids post → Gk X M ids 0 L [] D) : Mok M ids d av D post := by
  intro l G dT ad
  refine Met.ofW (cc := M.2.1) (maxL := M.2.2.1) (ret := M.2.2.2) hy rfl ?_
  intro p e s m args below meth c s₁ B hml hv
  obtain ⟨rfl, hP, hD, hK, hE⟩ := hv
  have hts := atoms_spec (ws := wM M) B.pre
  have hown : s.vm.findClass M.1.cls = some m.cls := findClass_of_methodNamed B.named
  have hl := lv_entry (av.map (cv ad)) (n := M.2.2.1) (hlen ad)
  rw [lg_entry_eq]
  generalize (lg_sl (av.map (cv ad)) ++ List.replicate (M.2.2.1 - (lg_sl (av.map (cv ad))).length) Slot.unset).toArray = ls at hl ⊢
  rw [← hL ad] at hl
  exact k (G, dT, ad, p, l, e, rmD d, s, m, (av.map (cv ad)).toArray, below, meth, c, 0, 0, MQ below (Qx G dT ad ids post) (av.map (cv ad)).toArray s 0 0 (aA ad ids)) ⟨B.exec, B.bytes, hml, B.returns, B.notSynchronized, hown, fun w h => hts w (List.mem_cons_of_mem _ h), hK, hE, Nat.le_refl _, Nat.le_refl _, Nat.le_refl _, Nat.le_refl _⟩ ⟨rfl, rfl, rfl⟩ s.heap [] ls ⟨hP, hD, va_S.rf⟩ (Lr.of hl)
/-! calls -/
theorem Px.blind {G : va_G} {dT : Nat → ClassId} {ad : Id2 → Nat} {av : List Value} : FrameBlind (va_Pc av (Px G dT ad ids D)) := by
  intro a U g mk h
  obtain ⟨q0, qP, qD, qK, qE⟩ := h
  exact ⟨q0, qP, qD, va_K.moved (u := U) (U := U.calling g mk a) (Vm.Alike.refl U.vm) qK, qE.calling⟩
theorem Px.go {H : Heap} {locs : List Loc} {av : List AV} (cx : Cx X M ids d) (hH : Hx X ids H locs D) : ∀ U : State, U.heap = H → (xs X).WarmedH U.vm → va_Pc (av.map (cv (xa X))) (Px (xG X) (xT X) (xa X) ids D) (av.map (cv (xa X))).toArray U := by
  intro U hU hW
  exact ⟨rfl, by rw [hU]; exact hH.1, hH.2.1, va_K.moved hW.alike cx.2.2.2.2.2.2.2.1, by rw [hU]; exact Ext.warm hW hH.2.2.2.1 cx.2.2.2.2.2.2.2.2.1⟩
theorem g_back {rest : List AV} {st0 : List Value} {post' : Option AV → Wd → Prop} {H : Heap} {locs : List Loc} {ls : Array Slot} {vs : Array Value} (hH : Hx X ids H locs D) (hL : Lr (xa X) ls M.2.2.1 L)
    (hr : va_Run (xp X) (xl X) (xe X) (xR X) (xs X) (xm X) (xv X) (xb X) (xh X) (xc X) H locs (xk X) (xn X) 0 0 (F0 (xm X) pc ls st0) (rest.map (cv (xa X))) (Qx (xG X) (xT X) (xa X) ids post' vs) (aA (xa X) ids))
    (kk : ∀ r D', post' r D' → Gk X M ids (pc + 3) L (r.toList ++ rest) D') : W (xp X) (xl X) (xe X) (xR X) (xs X) (xm X) (xv X) (xb X) (xh X) (xc X) H locs (xk X) (xn X) (xQ X) (F0 (xm X) pc ls st0) := by
  intro T hT Y
  obtain ⟨v, st₀, t, T', Lo, h0, Y', hLo, e1, e2, ⟨⟨r, D', hv, hp, hP⟩, hz, hk⟩, stp⟩ := hr T hT Y
  cases hv
  rw [h0] at hz hk
  have hS : va_S (aA (xa X) ids) (xs X).heap T'.heap (locs ++ Lo) := ⟨Nat.le_trans hH.2.2.1 (by rw [e1]; exact hz), fun q h1 h2 => by rw [e1, hk q (Nat.lt_of_lt_of_le h1 hH.2.2.1) h2]; exact hH.2.2.2.1 q h1 h2, fun q hq => by
    rcases List.mem_append.mp hq with h | h
    · exact hH.2.2.2.2 q h
    · exact hLo q h⟩
  obtain ⟨t2, a1, b1⟩ := kk r D' hp T'.heap (locs ++ Lo) ls ⟨by rw [e1]; exact hP, cw_D hH.2.1, hS⟩ hL T' rfl Y'
  refine ⟨t2, stp t2 ?_, b1⟩
  have e : ((r.toList ++ rest).map (cv (xa X))) = (r.map (cv (xa X))).toList ++ rest.map (cv (xa X)) := by cases r <;> simp
  rw [e] at a1
  exact a1
/-- what must be known of a method that is called -/
def Kn (N : Mt) (n : Nat) : Prop := Cond.code N.1 N.2.1 N.2.2.1 N.2.2.2 ∈ TB ∧ Cond.initialized N.1.cls ∈ TB ∧ N.1.cls ≠ "java/lang/invoke/MethodHandle" ∧ N.1.cls ≠ "java/lang/invoke/VarHandle" ∧ (parseMethodDescriptor N.1.desc).map (fun d => d.parameters.length) = some n ∧ N.2.2.1 ≤ 21
def rcat (st : List AV) : Nat := (st.map (fun v => if isL v then 2 else 1)).sum
theorem rcat_eq (ad : Id2 → Nat) (st : List AV) : ((st.map (cv ad)).map fun v => v.category).sum = rcat st := by
  induction st with
  | nil => rfl
  | cons a r ih => simp only [List.map_cons, List.sum_cons, ih, rcat, cv_cat]
theorem rcat_room {rest : List AV} {ls : Array Slot} {st0 : List Value} (h : rcat rest ≤ 8) : 2 * (F0 (xm X) pc ls st0).monitorRoom + (((rest.map (cv (xa X))).map fun v => v.category)).sum ≤ 8 := by
  rw [rcat_eq]
  show 2 * 0 + rcat rest ≤ 8
  omega
/-- a virtual call of a method of a class of the world -/
theorem g_callV {N : Mt} {ix n d' ci nf : Nat} {i : Id2} {As rest : List AV} {fs : List (Option Id2)} {T : u_T} {post' : Option AV → Wd → Prop} (cx : Cx X M ids d) (hN : Kn N n) (hM : Mok N ids d' (vr i :: As) D post') (hi : i ∈ ids) (hs : sh i = .inl (ci, fs)) (hc : vwCl[ci]? = some (N.1.cls, T, nf)) (hw : Cond.methodLink M.1.cls ix N.1 ∈ TB) (hin : Cond.instanceMethod N.1 ∈ TB) (hse : Cond.selects N.1.cls N.1 N.1 ∈ TB) (hn : As.length = n) (hdd : d' + 1 ≤ d) (hr : rcat rest ≤ 8) (hst : st = As.reverse ++ vr i :: rest) (hd : decode M.2.1 pc = .ok (.invokevirtual ix, 3)) (kk : ∀ r D', post' r D' → Gk X M ids (pc + 3) L (r.toList ++ rest) D') : Gk X M ids pc L st D := by
  subst hst
  intro H locs ls hH hL
  obtain ⟨q, hq⟩ := cw_in hi
  have he := cw_at (ad := xa X) (dT := xT X) (D := D) hq
  rw [ce_obj hs] at he
  obtain ⟨k1, k2, k3, k4, k5, k6⟩ := hN
  have ht := cx.2.2.2.2.2.2.1
  have cw : CallW (xR X) (xs X) (xv X) M.1.cls N.1.cls ix N.1 N.2.1 N.2.2.1 N.2.2.2 (wM N) (rmD d') 0 0 n :=
    ⟨callB_of n ht (wM_good k1) rfl rfl rfl (ht _ k2) (ht _ hw) ⟨k3, k4, k5⟩ ⟨Nat.le_trans hdd cx.2.2.2.2.2.2.2.2.2.1, by have := cx.2.2.2.2.2.2.2.2.2.2.1; show 8 + (N.2.2.1 + 11) + 40 * d' ≤ _; omega⟩, ht _ hin, ht _ hse⟩
  refine g_back hH hL (va_runV (As := As.map (cv (xa X))) (b := xa X i) (rest := rest.map (cv (xa X))) ⟨cx.1, cx.2.1, cx.2.2.1, cx.2.2.2.2.2.1, ht⟩ (hM (xl X) (xG X) (xT X) (xa X)) cw ⟨Px.blind, va_recv cx.2.2.2.2.2.2.2.1 hH.1 hc he, Px.go cx hH⟩ rfl (by rw [List.length_map, hn]) hL.1 (by simp [cv]) (rcat_room hr) hd ⟨cx.2.2.2.2.2.2.2.2.2.2.2.1, cx.2.2.2.2.2.2.2.2.2.2.2.2⟩) kk
/-- a static call of a method of the own class -/
theorem g_callS {N : Mt} {ix n d' : Nat} {As rest : List AV} {post' : Option AV → Wd → Prop} (cx : Cx X M ids d) (hN : Kn N n) (hM : Mok N ids d' As D post') (hw : Cond.methodLink M.1.cls ix N.1 ∈ TB) (hstt : Cond.static N.1 ∈ TB) (hn : As.length = n) (hdd : d' + 1 ≤ d) (hr : rcat rest ≤ 8) (hst : st = As.reverse ++ rest) (hd : decode M.2.1 pc = .ok (.invokestatic ix, 3)) (kk : ∀ r D', post' r D' → Gk X M ids (pc + 3) L (r.toList ++ rest) D') : Gk X M ids pc L st D := by
  subst hst
  intro H locs ls hH hL
  obtain ⟨k1, k2, k3, k4, k5, k6⟩ := hN
  have ht := cx.2.2.2.2.2.2.1
  have cb : CallB (xR X) (xs X) (xv X) M.1.cls ix N.1 N.2.1 N.2.2.1 N.2.2.2 (wM N) (rmD d') 0 0 n :=
    callB_of n ht (wM_good k1) rfl rfl rfl (ht _ k2) (ht _ hw) ⟨k3, k4, k5⟩ ⟨Nat.le_trans hdd cx.2.2.2.2.2.2.2.2.2.1, by have := cx.2.2.2.2.2.2.2.2.2.2.1; show 8 + (N.2.2.1 + 11) + 40 * d' ≤ _; omega⟩
  refine g_back hH hL (va_runS (As := As.map (cv (xa X))) (rest := rest.map (cv (xa X))) ⟨cx.1, cx.2.1, cx.2.2.1, cx.2.2.2.2.2.1, ht⟩ (hM (xl X) (xG X) (xT X) (xa X)) ⟨cb, ht _ hstt⟩ ⟨Px.blind, Px.go cx hH⟩ rfl (by rw [List.length_map, hn]) hL.1 (by simp) (rcat_room hr) hd ⟨cx.2.2.2.2.2.2.2.2.2.2.2.1, cx.2.2.2.2.2.2.2.2.2.2.2.2⟩) kk
/-- a static call of a private method of a nest mate -/
theorem g_callSN {N : Mt} {ix n d' : Nat} {host : String} {As rest : List AV} {post' : Option AV → Wd → Prop} (cx : Cx X M ids d) (hN : Kn N n) (hM : Mok N ids d' As D post') (hw : (M.1.cls, ix, N.1, host) ∈ nwM) (hstt : Cond.static N.1 ∈ TB) (hn : As.length = n) (hdd : d' + 1 ≤ d) (hr : rcat rest ≤ 8) (hst : st = As.reverse ++ rest) (hd : decode M.2.1 pc = .ok (.invokestatic ix, 3)) (kk : ∀ r D', post' r D' → Gk X M ids (pc + 3) L (r.toList ++ rest) D') : Gk X M ids pc L st D := by
  subst hst
  intro H locs ls hH hL
  obtain ⟨k1, k2, k3, k4, k5, k6⟩ := hN
  have ht := cx.2.2.2.2.2.2.1
  have cb : va_CN (xR X) (xs X) (xv X) M.1.cls ix N.1 host N.2.1 N.2.2.1 N.2.2.2 (wM N) (rmD d') 0 0 n :=
    va_cnB n ht (wM_good k1) rfl rfl rfl (cx.2.2.2.2.2.2.2.2.1.2.2.2.2.2.1 _ hw) (ht _ k2) ⟨k3, k4, k5⟩ ⟨Nat.le_trans hdd cx.2.2.2.2.2.2.2.2.2.1, by have := cx.2.2.2.2.2.2.2.2.2.2.1; show 8 + (N.2.2.1 + 11) + 40 * d' ≤ _; omega⟩
  refine g_back hH hL (va_runSN (As := As.map (cv (xa X))) (rest := rest.map (cv (xa X))) ⟨cx.1, cx.2.1, cx.2.2.1, cx.2.2.2.2.2.1, ht⟩ (hM (xl X) (xG X) (xT X) (xa X)) ⟨cb, ht _ hstt, trivial⟩ ⟨Px.blind, Px.go cx hH⟩ rfl (by rw [List.length_map, hn]) hL.1 (by simp) (rcat_room hr) hd ⟨cx.2.2.2.2.2.2.2.2.2.2.2.1, cx.2.2.2.2.2.2.2.2.2.2.2.2⟩) kk
/-- a virtual call of a private method of a nest mate -/
theorem g_callVN {N : Mt} {ix n d' ci nf : Nat} {host : String} {i : Id2} {As rest : List AV} {fs : List (Option Id2)} {T : u_T} {post' : Option AV → Wd → Prop} (cx : Cx X M ids d) (hN : Kn N n) (hM : Mok N ids d' (vr i :: As) D post') (hi : i ∈ ids) (hs : sh i = .inl (ci, fs)) (hc : vwCl[ci]? = some (N.1.cls, T, nf)) (hw : (M.1.cls, ix, N.1, host) ∈ nwM) (hin : Cond.instanceMethod N.1 ∈ TB) (hse : Cond.selects N.1.cls N.1 N.1 ∈ TB) (hn : As.length = n) (hdd : d' + 1 ≤ d) (hr : rcat rest ≤ 8) (hst : st = As.reverse ++ vr i :: rest) (hd : decode M.2.1 pc = .ok (.invokevirtual ix, 3)) (kk : ∀ r D', post' r D' → Gk X M ids (pc + 3) L (r.toList ++ rest) D') : Gk X M ids pc L st D := by
  subst hst
  intro H locs ls hH hL
  obtain ⟨q, hq⟩ := cw_in hi
  have he := cw_at (ad := xa X) (dT := xT X) (D := D) hq
  rw [ce_obj hs] at he
  obtain ⟨k1, k2, k3, k4, k5, k6⟩ := hN
  have ht := cx.2.2.2.2.2.2.1
  have cb : va_CN (xR X) (xs X) (xv X) M.1.cls ix N.1 host N.2.1 N.2.2.1 N.2.2.2 (wM N) (rmD d') 0 0 n :=
    va_cnB n ht (wM_good k1) rfl rfl rfl (cx.2.2.2.2.2.2.2.2.1.2.2.2.2.2.1 _ hw) (ht _ k2) ⟨k3, k4, k5⟩ ⟨Nat.le_trans hdd cx.2.2.2.2.2.2.2.2.2.1, by have := cx.2.2.2.2.2.2.2.2.2.2.1; show 8 + (N.2.2.1 + 11) + 40 * d' ≤ _; omega⟩
  refine g_back hH hL (va_runVN (C := N.1.cls) (As := As.map (cv (xa X))) (b := xa X i) (rest := rest.map (cv (xa X))) ⟨cx.1, cx.2.1, cx.2.2.1, cx.2.2.2.2.2.1, ht⟩ (hM (xl X) (xG X) (xT X) (xa X)) ⟨cb, ht _ hin, ht _ hse⟩ ⟨Px.blind, va_recv cx.2.2.2.2.2.2.2.1 hH.1 hc he, Px.go cx hH⟩ rfl (by rw [List.length_map, hn]) hL.1 (by simp [cv]) (rcat_room hr) hd ⟨cx.2.2.2.2.2.2.2.2.2.2.2.1, cx.2.2.2.2.2.2.2.2.2.2.2.2⟩) kk
/-- System.arraycopy from one int array to another -/
theorem g_copy {ix n n0 n1 : Nat} {i j : Id2} {N sp dp : Int32} {rest : List AV} (cx : Cx X M ids d) (hi : i ∈ ids) (hj : j ∈ ids) (hsi : sh i = .inr (0, n0, none)) (hsj : sh j = .inr (0, n1, none)) (hN : N = nI n) (h0 : sp = 0) (h1 : dp = 0) (hn0 : n ≤ n0) (hn1 : n ≤ n1) (hlt : n < 2 ^ 31) (hw : Cond.methodLink M.1.cls ix arraycopyName ∈ TB) (hnat : Cond.native arraycopyName ∈ TB) (hstt : Cond.static arraycopyName ∈ TB) (hini : Cond.initialized "java/lang/System" ∈ TB) (hr : rcat st ≤ 8) (hdd : 1 ≤ d) (hd : decode M.2.1 pc = .ok (.invokestatic ix, 3)) (kk : Gk X M ids (pc + 3) L st (upA D j (va_cpy (D i) (D j) 0 0 n))) : Gk X M ids pc L (vi N :: vi dp :: vr j :: vi sp :: vr i :: st) D := by
  subst hN h0 h1
  intro H locs ls hH hL
  obtain ⟨q, hq⟩ := cw_in hi
  obtain ⟨q1, hq1⟩ := cw_in hj
  have he := cw_at (ad := xa X) (dT := xT X) (D := D) hq
  have he1 := cw_at (ad := xa X) (dT := xT X) (D := D) hq1
  rw [ce_arr hsi] at he
  rw [ce_arr hsj] at he1
  have ht := cx.2.2.2.2.2.2.1
  have hc0 : (0 : Int32).toNatClampNeg = 0 := by decide
  refine va_copyi (ty := .int) cx.1 cx.2.1 (by rw [cx.2.2.1, hL.1]) cx.2.2.2.2.2.1 (ht _ hw) (ht _ hnat) (ht _ hstt) (ht _ hini) cx.2.2.2.2.2.2.2.1 hH.1 hH.2.1 hH.2.2 q q1 0 0 he he1 rfl rfl rfl (by decide) (by decide) (nI_pos hlt) (by rw [hc0, nI_clamp hlt]; omega) (by rw [hc0, nI_clamp hlt]; omega) (fun _ _ => rfl) (by have := cx.2.2.2.2.2.2.2.2.2.1; omega) ?_ hd (fun H1 locs1 hP hD hS => ?_)
  · rw [rcat_eq]
    have := cx.2.2.2.2.2.2.2.2.2.2.1
    have e : nativeFrameWords "java/lang/System" "arraycopy" 5 + 11 ≤ 30 := by decide
    omega
  · rw [hc0, nI_clamp hlt, ← ce_arr (ad := xa X) hsj, cw_set hH.2.1 hq1] at hP hD
    exact kk H1 locs1 ls ⟨hP, hD, hS⟩ hL
/-- Math.min -/
theorem g_min {ix : Nat} {x y : Int32} (cx : Cx X M ids d) (hw : Cond.methodLink M.1.cls ix Lib.Math.min.name ∈ TB) (hstt : Cond.static Lib.Math.min.name ∈ TB) (hini : Cond.initialized "java/lang/Math" ∈ TB) (hcode : Cond.code Lib.Math.min.name Lib.Math.min.code 2 (some .int) ∈ TB) (hr : rcat st ≤ 8) (hdd : 1 ≤ d) (hd : decode M.2.1 pc = .ok (.invokestatic ix, 3)) (kk : Gk X M ids (pc + 3) L (vi (if y < x then y else x) :: st) D) : Gk X M ids pc L (vi y :: vi x :: st) D := by
  intro H locs ls hH hL
  have ht := cx.2.2.2.2.2.2.1
  refine va_mmin cx.1 cx.2.1 (by rw [cx.2.2.1, hL.1]) cx.2.2.2.2.2.1 (ht _ hw) (ht _ hstt) (ht _ hini) (ht _ hcode) (by have := cx.2.2.2.2.2.2.2.2.2.1; omega) ?_ cx.2.2.2.2.2.2.2.2.2.2.2.1 cx.2.2.2.2.2.2.2.2.2.2.2.2 hd (kk H locs ls hH hL)
  rw [rcat_eq]
  have := cx.2.2.2.2.2.2.2.2.2.2.1
  omega
end CELLS
end
section
abbrev mX5_init : Mt := (yX5_init, cX5_init, 2, none)
abbrev mX1_init : Mt := (yX1_init, cX1_init, 1, none)
abbrev mX4_init : Mt := (yX4_init, cX4_init, 1, none)
abbrev mX0_init : Mt := (yX0_init, cX0_init, 2, none)
abbrev mX2_init : Mt := (yX2_init, cX2_init, 3, none)
abbrev mX3_init : Mt := (yX3_init, cX3_init, 1, none)
abbrev mX1_begin : Mt := (yX1_begin, cX1_begin, 3, none)
abbrev mX0_begin : Mt := (yX0_begin, cX0_begin, 1, none)
abbrev mX5_write : Mt := (yX5_write, cX5_write, 5, (some .int))
abbrev mX5_erase : Mt := (yX5_erase, cX5_erase, 2, (some .int))
abbrev mX5_fault : Mt := (yX5_fault, cX5_fault, 1, (some .int))
abbrev mX4_read : Mt := (yX4_read, cX4_read, 2, (some .int))
abbrev mX1_copy : Mt := (yX1_copy, cX1_copy, 2, none)
abbrev mX4_readLine : Mt := (yX4_readLine, cX4_readLine, 2, (some .boolean))
abbrev mX4_nextToken : Mt := (yX4_nextToken, cX4_nextToken, 1, none)
abbrev mX4_isLetter : Mt := (yX4_isLetter, cX4_isLetter, 2, (some .boolean))
abbrev mX4_isDigit : Mt := (yX4_isDigit, cX4_isDigit, 2, (some .boolean))
abbrev mX4_wordHere : Mt := (yX4_wordHere, cX4_wordHere, 2, (some .int))
abbrev mX4_spelling : Mt := (yX4_spelling, cX4_spelling, 1, (some (.object "java/lang/String")))
abbrev mX4_isHere : Mt := (yX4_isHere, cX4_isHere, 3, (some .boolean))
abbrev mJ0_length_8abf5 : Mt := (yJ0_length_8abf5, cJ0_length_8abf5, 1, (some .int))
abbrev mJ0_coder_7d493 : Mt := (yJ0_coder_7d493, cJ0_coder_7d493, 1, (some .byte))
abbrev mJ0_charAt_5068e : Mt := (yJ0_charAt_5068e, cJ0_charAt_5068e, 2, (some .char))
abbrev mJ0_isLatin1_aae02 : Mt := (yJ0_isLatin1_aae02, cJ0_isLatin1_aae02, 1, (some .boolean))
abbrev mJ1_charAt_3b067 : Mt := (yJ1_charAt_3b067, cJ1_charAt_3b067, 2, (some .char))
abbrev mJ0_checkIndex_df160 : Mt := (yJ0_checkIndex_df160, cJ0_checkIndex_df160, 2, none)
abbrev mJ3_checkIndex_8e157 : Mt := (yJ3_checkIndex_8e157, cJ3_checkIndex_8e157, 3, (some .int))
abbrev mJ2_charAt_3b067 : Mt := (yJ2_charAt_3b067, cJ2_charAt_3b067, 2, (some .char))
abbrev mJ2_checkIndex_2214a : Mt := (yJ2_checkIndex_2214a, cJ2_checkIndex_2214a, 2, none)
abbrev mJ2_length_9d52b : Mt := (yJ2_length_9d52b, cJ2_length_9d52b, 1, (some .int))
abbrev mJ2_getChar_3b067 : Mt := (yJ2_getChar_3b067, cJ2_getChar_3b067, 2, (some .char))
abbrev mX4_readHouse : Mt := (yX4_readHouse, cX4_readHouse, 1, (some .boolean))
abbrev mX4_readNumber : Mt := (yX4_readNumber, cX4_readNumber, 3, (some .boolean))
abbrev mX4_numberHere : Mt := (yX4_numberHere, cX4_numberHere, 3, (some .int))
abbrev mX4_readLeaf : Mt := (yX4_readLeaf, cX4_readLeaf, 2, (some .boolean))
abbrev mX1_canStandAt : Mt := (yX1_canStandAt, cX1_canStandAt, 6, (some .boolean))
abbrev mX1_before : Mt := (yX1_before, cX1_before, 2, (some .int))
abbrev mX1_toldWidth : Mt := (yX1_toldWidth, cX1_toldWidth, 2, (some .int))
abbrev mX1_next : Mt := (yX1_next, cX1_next, 2, (some .int))
abbrev mX5_between : Mt := (yX5_between, cX5_between, 2, (some .int))
abbrev mX1_need : Mt := (yX1_need, cX1_need, 2, (some .int))
abbrev mX4_readPut : Mt := (yX4_readPut, cX4_readPut, 2, (some .boolean))
abbrev mX4_readDoor : Mt := (yX4_readDoor, cX4_readDoor, 1, (some .boolean))
abbrev mX1_hasDoorAt : Mt := (yX1_hasDoorAt, cX1_hasDoorAt, 3, (some .boolean))
abbrev mX4_readPerson : Mt := (yX4_readPerson, cX4_readPerson, 1, (some .boolean))
abbrev mX4_readKind : Mt := (yX4_readKind, cX4_readKind, 2, (some .boolean))
abbrev mX5_house : Mt := (yX5_house, cX5_house, 2, (some .int))
abbrev mX5_leaf : Mt := (yX5_leaf, cX5_leaf, 3, (some .int))
abbrev mX1_has : Mt := (yX1_has, cX1_has, 2, (some .boolean))
abbrev mX5_room : Mt := (yX5_room, cX5_room, 3, (some .int))
abbrev mX0_width : Mt := (yX0_width, cX0_width, 2, (some .int))
abbrev mX0_isOpen : Mt := (yX0_isOpen, cX0_isOpen, 5, (some .boolean))
abbrev mX0_peopleAt : Mt := (yX0_peopleAt, cX0_peopleAt, 4, (some .int))
abbrev mX5_as : Mt := (yX5_as, cX5_as, 5, (some .int))
abbrev mX1_isTakenAs : Mt := (yX1_isTakenAs, cX1_isTakenAs, 3, (some .boolean))
abbrev mX0_movers : Mt := (yX0_movers, cX0_movers, 6, (some .int))
abbrev mX1_roomBeside : Mt := (yX1_roomBeside, cX1_roomBeside, 3, (some .int))
abbrev mX1_leafBeside : Mt := (yX1_leafBeside, cX1_leafBeside, 3, (some .int))
abbrev mX5_person : Mt := (yX5_person, cX5_person, 2, (some .int))
abbrev mX5_isPerson : Mt := (yX5_isPerson, cX5_isPerson, 2, (some .boolean))
abbrev mX5_push : Mt := (yX5_push, cX5_push, 5, (some .int))
abbrev mX5_isSide : Mt := (yX5_isSide, cX5_isSide, 1, (some .boolean))
abbrev mX0_step : Mt := (yX0_step, cX0_step, 6, (some .boolean))
abbrev mX0_stepped : Mt := (yX0_stepped, cX0_stepped, 2, (some .int))
abbrev mX5_hours : Mt := (yX5_hours, cX5_hours, 3, (some .int))
abbrev mX0_passHour : Mt := (yX0_passHour, cX0_passHour, 3, none)
abbrev mX5_leave : Mt := (yX5_leave, cX5_leave, 3, (some .int))
abbrev mX5_enter : Mt := (yX5_enter, cX5_enter, 3, (some .int))
abbrev mJ6_bitCount_0f7a4 : Mt := (yJ6_bitCount_0f7a4, cJ6_bitCount_0f7a4, 1, (some .int))
abbrev mX5_keep : Mt := (yX5_keep, cX5_keep, 2, (some .int))
abbrev mX0_copy : Mt := (yX0_copy, cX0_copy, 2, none)
abbrev mX5_back : Mt := (yX5_back, cX5_back, 2, (some .int))
abbrev mX5_turn : Mt := (yX5_turn, cX5_turn, 4, (some .int))
abbrev mX0_goTillOpen : Mt := (yX0_goTillOpen, cX0_goTillOpen, 6, (some .int))
abbrev mX5_best : Mt := (yX5_best, cX5_best, 10, (some .int))
abbrev mX5_widest : Mt := (yX5_widest, cX5_widest, 2, (some .int))
abbrev mX0_stretched : Mt := (yX0_stretched, cX0_stretched, 6, (some .int))
abbrev mX0_slack : Mt := (yX0_slack, cX0_slack, 2, (some .int))
abbrev mX5_further : Mt := (yX5_further, cX5_further, 6, (some .int))
abbrev mX5_share : Mt := (yX5_share, cX5_share, 6, (some .int))
abbrev mX5_errands : Mt := (yX5_errands, cX5_errands, 5, (some .int))
abbrev mX2_begin : Mt := (yX2_begin, cX2_begin, 3, none)
abbrev mX2_visit : Mt := (yX2_visit, cX2_visit, 6, none)
abbrev mX2_goTo : Mt := (yX2_goTo, cX2_goTo, 8, (some .int))
abbrev mJ9_min_7cf53 : Mt := (yJ9_min_7cf53, cJ9_min_7cf53, 2, (some .int))
abbrev mX5_slam : Mt := (yX5_slam, cX5_slam, 4, (some .int))
abbrev mX5_fire : Mt := (yX5_fire, cX5_fire, 4, (some .int))
abbrev mX0_areAllOut : Mt := (yX0_areAllOut, cX0_areAllOut, 2, (some .boolean))
abbrev mX0_letOut : Mt := (yX0_letOut, cX0_letOut, 2, none)
abbrev mX0_letFirstOut : Mt := (yX0_letFirstOut, cX0_letFirstOut, 3, none)
abbrev mX5_seen : Mt := (yX5_seen, cX5_seen, 3, (some .int))
abbrev mX5_forget : Mt := (yX5_forget, cX5_forget, 2, (some .int))
abbrev mX5_least : Mt := (yX5_least, cX5_least, 2, (some .int))
abbrev mX3_way : Mt := (yX3_way, cX3_way, 7, (some .int))
abbrev mX3_shorter : Mt := (yX3_shorter, cX3_shorter, 3, (some .int))
abbrev mX5_count : Mt := (yX5_count, cX5_count, 2, (some .int))
abbrev mX0_openRooms : Mt := (yX0_openRooms, cX0_openRooms, 3, (some .int))
abbrev mX6_init : Mt := (yX6_init, cX6_init, 2, none)
abbrev mX6_write : Mt := (yX6_write, cX6_write, 5, (some .int))
abbrev mX6_in : Mt := (yX6_in, cX6_in, 6, (some .boolean))
abbrev mX6_erase : Mt := (yX6_erase, cX6_erase, 2, (some .int))
abbrev mX6_fault : Mt := (yX6_fault, cX6_fault, 2, (some .int))
abbrev mX6_token : Mt := (yX6_token, cX6_token, 1, none)
abbrev mX6_sort : Mt := (yX6_sort, cX6_sort, 1, (some .int))
abbrev mX6_readsLine : Mt := (yX6_readsLine, cX6_readsLine, 2, (some .boolean))
abbrev mX6_wordOf : Mt := (yX6_wordOf, cX6_wordOf, 2, (some .int))
abbrev mX6_leafWord : Mt := (yX6_leafWord, cX6_leafWord, 1, (some .int))
abbrev mX6_isWord : Mt := (yX6_isWord, cX6_isWord, 5, (some .boolean))
abbrev mX6_readsRest : Mt := (yX6_readsRest, cX6_readsRest, 2, (some .boolean))
abbrev mX6_reads : Mt := (yX6_reads, cX6_reads, 5, (some .boolean))
abbrev mX6_numberHere : Mt := (yX6_numberHere, cX6_numberHere, 3, (some .int))
abbrev mX6_readsLeaf : Mt := (yX6_readsLeaf, cX6_readsLeaf, 3, (some .boolean))
abbrev mX6_fitsAngle : Mt := (yX6_fitsAngle, cX6_fitsAngle, 6, (some .boolean))
abbrev mX6_readNext : Mt := (yX6_readNext, cX6_readNext, 2, (some .int))
abbrev mX6_on : Mt := (yX6_on, cX6_on, 2, (some .int))
abbrev mX6_readsPut : Mt := (yX6_readsPut, cX6_readsPut, 3, (some .boolean))
abbrev mX6_isNewDoor : Mt := (yX6_isNewDoor, cX6_isNewDoor, 4, (some .boolean))
abbrev mX6_goOn : Mt := (yX6_goOn, cX6_goOn, 5, none)
abbrev mX6_house : Mt := (yX6_house, cX6_house, 2, (some .int))
abbrev mX6_tell : Mt := (yX6_tell, cX6_tell, 5, none)
abbrev mX6_copy : Mt := (yX6_copy, cX6_copy, 4, none)
abbrev mX6_leaf : Mt := (yX6_leaf, cX6_leaf, 3, (some .int))
abbrev mX6_isLeaf : Mt := (yX6_isLeaf, cX6_isLeaf, 2, (some .boolean))
abbrev mX6_room : Mt := (yX6_room, cX6_room, 3, (some .int))
abbrev mX6_width : Mt := (yX6_width, cX6_width, 3, (some .int))
abbrev mX6_next : Mt := (yX6_next, cX6_next, 2, (some .int))
abbrev mX6_isOpen : Mt := (yX6_isOpen, cX6_isOpen, 6, (some .boolean))
abbrev mX6_inRoom : Mt := (yX6_inRoom, cX6_inRoom, 5, (some .int))
abbrev mX6_as : Mt := (yX6_as, cX6_as, 5, (some .int))
abbrev mX6_chain : Mt := (yX6_chain, cX6_chain, 8, (some .int))
abbrev mX6_ahead : Mt := (yX6_ahead, cX6_ahead, 2, (some .int))
abbrev mX6_person : Mt := (yX6_person, cX6_person, 2, (some .int))
abbrev mX6_isPerson : Mt := (yX6_isPerson, cX6_isPerson, 2, (some .boolean))
abbrev mX6_push : Mt := (yX6_push, cX6_push, 4, (some .int))
abbrev mX6_isSide : Mt := (yX6_isSide, cX6_isSide, 1, (some .boolean))
abbrev mX6_pushBy : Mt := (yX6_pushBy, cX6_pushBy, 6, (some .int))
abbrev mX6_step : Mt := (yX6_step, cX6_step, 6, (some .boolean))
abbrev mX6_has : Mt := (yX6_has, cX6_has, 2, (some .boolean))
abbrev mX6_hours : Mt := (yX6_hours, cX6_hours, 3, (some .int))
abbrev mX6_hour : Mt := (yX6_hour, cX6_hour, 3, none)
abbrev mX6_leave : Mt := (yX6_leave, cX6_leave, 3, (some .int))
abbrev mX6_enter : Mt := (yX6_enter, cX6_enter, 3, (some .int))
abbrev mX6_bits : Mt := (yX6_bits, cX6_bits, 3, (some .int))
abbrev mX6_keep : Mt := (yX6_keep, cX6_keep, 2, (some .int))
abbrev mX6_back : Mt := (yX6_back, cX6_back, 2, (some .int))
abbrev mX6_turn : Mt := (yX6_turn, cX6_turn, 4, (some .int))
abbrev mX6_turnOf : Mt := (yX6_turnOf, cX6_turnOf, 4, (some .int))
abbrev mX6_turnOn : Mt := (yX6_turnOn, cX6_turnOn, 5, (some .int))
abbrev mX6_best : Mt := (yX6_best, cX6_best, 7, (some .int))
abbrev mX6_widest : Mt := (yX6_widest, cX6_widest, 8, (some .int))
abbrev mX6_further : Mt := (yX6_further, cX6_further, 4, (some .int))
abbrev mX6_share : Mt := (yX6_share, cX6_share, 6, (some .int))
abbrev mX6_errands : Mt := (yX6_errands, cX6_errands, 9, (some .int))
abbrev mX6_stepsBy : Mt := (yX6_stepsBy, cX6_stepsBy, 6, (some .int))
abbrev mX6_rowOf : Mt := (yX6_rowOf, cX6_rowOf, 9, (some .int))
abbrev mX6_errandTo : Mt := (yX6_errandTo, cX6_errandTo, 6, (some .int))
abbrev mX6_setAside : Mt := (yX6_setAside, cX6_setAside, 2, none)
abbrev mX6_putBack : Mt := (yX6_putBack, cX6_putBack, 2, none)
abbrev mX6_slam : Mt := (yX6_slam, cX6_slam, 5, (some .int))
abbrev mX6_fire : Mt := (yX6_fire, cX6_fire, 4, (some .int))
abbrev mX6_areOut : Mt := (yX6_areOut, cX6_areOut, 3, (some .boolean))
abbrev mX6_saveFirst : Mt := (yX6_saveFirst, cX6_saveFirst, 3, none)
abbrev mX6_seen : Mt := (yX6_seen, cX6_seen, 3, (some .int))
abbrev mX6_forget : Mt := (yX6_forget, cX6_forget, 2, (some .int))
abbrev mX6_least : Mt := (yX6_least, cX6_least, 5, (some .int))
abbrev mX6_shorter : Mt := (yX6_shorter, cX6_shorter, 3, (some .int))
abbrev mX6_count : Mt := (yX6_count, cX6_count, 5, (some .int))
theorem nzL : Cond.initialized RL ∈ TB := tb_of 0 (by decide +kernel) rfl
theorem nzX5 : Cond.initialized RX5 ∈ TB := tb_of 1 (by decide +kernel) rfl
theorem nzX1 : Cond.initialized RX1 ∈ TB := tb_of 2 (by decide +kernel) rfl
theorem nzX4 : Cond.initialized RX4 ∈ TB := tb_of 3 (by decide +kernel) rfl
theorem nzX0 : Cond.initialized RX0 ∈ TB := tb_of 4 (by decide +kernel) rfl
theorem nzX2 : Cond.initialized RX2 ∈ TB := tb_of 5 (by decide +kernel) rfl
theorem nzX3 : Cond.initialized RX3 ∈ TB := tb_of 6 (by decide +kernel) rfl
theorem nzJ10 : Cond.initialized RJ10 ∈ TB := tb_of 7 (by decide +kernel) rfl
theorem nzX6 : Cond.initialized RX6 ∈ TB := tb_of 8 (by decide +kernel) rfl
theorem nzJ0 : Cond.initialized RJ0 ∈ TB := tb_of 9 (by decide +kernel) rfl
theorem nzJ1 : Cond.initialized RJ1 ∈ TB := tb_of 10 (by decide +kernel) rfl
theorem nzJ3 : Cond.initialized RJ3 ∈ TB := tb_of 11 (by decide +kernel) rfl
theorem nzJ2 : Cond.initialized RJ2 ∈ TB := tb_of 12 (by decide +kernel) rfl
theorem nzJ6 : Cond.initialized RJ6 ∈ TB := tb_of 13 (by decide +kernel) rfl
theorem nzJ9 : Cond.initialized RJ9 ∈ TB := tb_of 14 (by decide +kernel) rfl
theorem lmL_9 : Cond.methodLink RL 9 yX5_init ∈ TB := tb_of 17 (by decide +kernel) rfl
theorem niX5_init : Cond.instanceMethod yX5_init ∈ TB := tb_of 18 (by decide +kernel) rfl
theorem cdX5_init : Cond.code yX5_init cX5_init 2 none ∈ TB := tb_of 19 (by decide +kernel) rfl
theorem lmX5_1 : Cond.methodLink RX5 1 objectInit ∈ TB := tb_of 20 (by decide +kernel) rfl
theorem niX1_init : Cond.instanceMethod yX1_init ∈ TB := tb_of 26 (by decide +kernel) rfl
theorem cdX1_init : Cond.code yX1_init cX1_init 1 none ∈ TB := tb_of 27 (by decide +kernel) rfl
theorem lmX1_3 : Cond.methodLink RX1 3 objectInit ∈ TB := tb_of 28 (by decide +kernel) rfl
theorem lfX1_27 : Cond.fieldLink RX1 27 "OneHinge$Plan" "leaves" "I" ∈ TB := tb_of 29 (by decide +kernel) rfl
theorem lfX2_52 : Cond.fieldLink RX2 52 "OneHinge$Plan" "leaves" "I" ∈ TB := tb_of 30 (by decide +kernel) rfl
theorem lfX4_83 : Cond.fieldLink RX4 83 "OneHinge$Plan" "leaves" "I" ∈ TB := tb_of 31 (by decide +kernel) rfl
theorem lfX0_58 : Cond.fieldLink RX0 58 "OneHinge$Plan" "leaves" "I" ∈ TB := tb_of 32 (by decide +kernel) rfl
theorem lfX5_152 : Cond.fieldLink RX5 152 "OneHinge$Plan" "leaves" "I" ∈ TB := tb_of 33 (by decide +kernel) rfl
theorem lfX1_9 : Cond.fieldLink RX1 9 "OneHinge$Plan" "home" "[I" ∈ TB := tb_of 34 (by decide +kernel) rfl
theorem lfX0_22 : Cond.fieldLink RX0 22 "OneHinge$Plan" "home" "[I" ∈ TB := tb_of 35 (by decide +kernel) rfl
theorem lfX4_89 : Cond.fieldLink RX4 89 "OneHinge$Plan" "home" "[I" ∈ TB := tb_of 36 (by decide +kernel) rfl
theorem lfX5_98 : Cond.fieldLink RX5 98 "OneHinge$Plan" "home" "[I" ∈ TB := tb_of 37 (by decide +kernel) rfl
theorem lfX1_15 : Cond.fieldLink RX1 15 "OneHinge$Plan" "kind" "[I" ∈ TB := tb_of 38 (by decide +kernel) rfl
theorem lfX4_93 : Cond.fieldLink RX4 93 "OneHinge$Plan" "kind" "[I" ∈ TB := tb_of 39 (by decide +kernel) rfl
theorem lfX5_91 : Cond.fieldLink RX5 91 "OneHinge$Plan" "kind" "[I" ∈ TB := tb_of 40 (by decide +kernel) rfl
theorem lfX0_72 : Cond.fieldLink RX0 72 "OneHinge$Plan" "kind" "[I" ∈ TB := tb_of 41 (by decide +kernel) rfl
theorem lfX1_18 : Cond.fieldLink RX1 18 "OneHinge$Plan" "furniture" "[I" ∈ TB := tb_of 42 (by decide +kernel) rfl
theorem lfX4_100 : Cond.fieldLink RX4 100 "OneHinge$Plan" "furniture" "[I" ∈ TB := tb_of 43 (by decide +kernel) rfl
theorem lfX5_105 : Cond.fieldLink RX5 105 "OneHinge$Plan" "furniture" "[I" ∈ TB := tb_of 44 (by decide +kernel) rfl
theorem lfX1_31 : Cond.fieldLink RX1 31 "OneHinge$Plan" "doors" "I" ∈ TB := tb_of 45 (by decide +kernel) rfl
theorem lfX0_52 : Cond.fieldLink RX0 52 "OneHinge$Plan" "doors" "I" ∈ TB := tb_of 46 (by decide +kernel) rfl
theorem lfX4_106 : Cond.fieldLink RX4 106 "OneHinge$Plan" "doors" "I" ∈ TB := tb_of 47 (by decide +kernel) rfl
theorem lfX5_197 : Cond.fieldLink RX5 197 "OneHinge$Plan" "doors" "I" ∈ TB := tb_of 48 (by decide +kernel) rfl
theorem lfX1_21 : Cond.fieldLink RX1 21 "OneHinge$Plan" "door" "[I" ∈ TB := tb_of 49 (by decide +kernel) rfl
theorem lfX0_55 : Cond.fieldLink RX0 55 "OneHinge$Plan" "door" "[I" ∈ TB := tb_of 50 (by decide +kernel) rfl
theorem lfX4_109 : Cond.fieldLink RX4 109 "OneHinge$Plan" "door" "[I" ∈ TB := tb_of 51 (by decide +kernel) rfl
theorem lfX1_34 : Cond.fieldLink RX1 34 "OneHinge$Plan" "people" "I" ∈ TB := tb_of 52 (by decide +kernel) rfl
theorem lfX4_65 : Cond.fieldLink RX4 65 "OneHinge$Plan" "people" "I" ∈ TB := tb_of 53 (by decide +kernel) rfl
theorem lfX0_65 : Cond.fieldLink RX0 65 "OneHinge$Plan" "people" "I" ∈ TB := tb_of 54 (by decide +kernel) rfl
theorem lfX5_200 : Cond.fieldLink RX5 200 "OneHinge$Plan" "people" "I" ∈ TB := tb_of 55 (by decide +kernel) rfl
theorem lfX1_24 : Cond.fieldLink RX1 24 "OneHinge$Plan" "place" "[I" ∈ TB := tb_of 56 (by decide +kernel) rfl
theorem lfX0_33 : Cond.fieldLink RX0 33 "OneHinge$Plan" "place" "[I" ∈ TB := tb_of 57 (by decide +kernel) rfl
theorem lfX4_112 : Cond.fieldLink RX4 112 "OneHinge$Plan" "place" "[I" ∈ TB := tb_of 58 (by decide +kernel) rfl
theorem niX4_init : Cond.instanceMethod yX4_init ∈ TB := tb_of 80 (by decide +kernel) rfl
theorem cdX4_init : Cond.code yX4_init cX4_init 1 none ∈ TB := tb_of 81 (by decide +kernel) rfl
theorem lmX4_3 : Cond.methodLink RX4 3 objectInit ∈ TB := tb_of 82 (by decide +kernel) rfl
theorem lfX4_9 : Cond.fieldLink RX4 9 "OneHinge$Text" "bytes" "[B" ∈ TB := tb_of 85 (by decide +kernel) rfl
theorem lfX5_67 : Cond.fieldLink RX5 67 "OneHinge$Text" "bytes" "[B" ∈ TB := tb_of 86 (by decide +kernel) rfl
theorem lfX5_63 : Cond.fieldLink RX5 63 "OneHinge$Text" "length" "I" ∈ TB := tb_of 87 (by decide +kernel) rfl
theorem lfX4_43 : Cond.fieldLink RX4 43 "OneHinge$Text" "length" "I" ∈ TB := tb_of 88 (by decide +kernel) rfl
theorem lfX4_18 : Cond.fieldLink RX4 18 "OneHinge$Text" "draft" "LOneHinge$Plan;" ∈ TB := tb_of 89 (by decide +kernel) rfl
theorem lfX5_75 : Cond.fieldLink RX5 75 "OneHinge$Text" "draft" "LOneHinge$Plan;" ∈ TB := tb_of 90 (by decide +kernel) rfl
theorem lfX4_30 : Cond.fieldLink RX4 30 "OneHinge$Text" "lines" "I" ∈ TB := tb_of 91 (by decide +kernel) rfl
theorem lfX5_84 : Cond.fieldLink RX5 84 "OneHinge$Text" "lines" "I" ∈ TB := tb_of 92 (by decide +kernel) rfl
theorem lfX4_37 : Cond.fieldLink RX4 37 "OneHinge$Text" "start" "I" ∈ TB := tb_of 93 (by decide +kernel) rfl
theorem lfX4_26 : Cond.fieldLink RX4 26 "OneHinge$Text" "end" "I" ∈ TB := tb_of 94 (by decide +kernel) rfl
theorem lfX4_76 : Cond.fieldLink RX4 76 "OneHinge$Text" "number" "I" ∈ TB := tb_of 95 (by decide +kernel) rfl
theorem lmX5_25 : Cond.methodLink RX5 25 yX0_init ∈ TB := tb_of 114 (by decide +kernel) rfl
theorem niX0_init : Cond.instanceMethod yX0_init ∈ TB := tb_of 115 (by decide +kernel) rfl
theorem cdX0_init : Cond.code yX0_init cX0_init 2 none ∈ TB := tb_of 116 (by decide +kernel) rfl
theorem lmX0_3 : Cond.methodLink RX0 3 objectInit ∈ TB := tb_of 117 (by decide +kernel) rfl
theorem lfX0_18 : Cond.fieldLink RX0 18 "OneHinge$House" "plan" "LOneHinge$Plan;" ∈ TB := tb_of 118 (by decide +kernel) rfl
theorem lfX0_9 : Cond.fieldLink RX0 9 "OneHinge$House" "angle" "[I" ∈ TB := tb_of 119 (by decide +kernel) rfl
theorem lfX5_95 : Cond.fieldLink RX5 95 "OneHinge$House" "angle" "[I" ∈ TB := tb_of 120 (by decide +kernel) rfl
theorem lfX0_15 : Cond.fieldLink RX0 15 "OneHinge$House" "place" "[I" ∈ TB := tb_of 121 (by decide +kernel) rfl
theorem lfX5_125 : Cond.fieldLink RX5 125 "OneHinge$House" "place" "[I" ∈ TB := tb_of 122 (by decide +kernel) rfl
theorem lfX0_34 : Cond.fieldLink RX0 34 "OneHinge$House" "hour" "I" ∈ TB := tb_of 123 (by decide +kernel) rfl
theorem lfX5_134 : Cond.fieldLink RX5 134 "OneHinge$House" "hour" "I" ∈ TB := tb_of 124 (by decide +kernel) rfl
theorem lmX5_45 : Cond.methodLink RX5 45 yX2_init ∈ TB := tb_of 137 (by decide +kernel) rfl
theorem niX2_init : Cond.instanceMethod yX2_init ∈ TB := tb_of 138 (by decide +kernel) rfl
theorem cdX2_init : Cond.code yX2_init cX2_init 3 none ∈ TB := tb_of 139 (by decide +kernel) rfl
theorem lmX2_3 : Cond.methodLink RX2 3 objectInit ∈ TB := tb_of 140 (by decide +kernel) rfl
theorem lmX2_28 : Cond.methodLink RX2 28 yX0_init ∈ TB := tb_of 142 (by decide +kernel) rfl
theorem lfX2_24 : Cond.fieldLink RX2 24 "OneHinge$Round" "plan" "LOneHinge$Plan;" ∈ TB := tb_of 143 (by decide +kernel) rfl
theorem lfX2_11 : Cond.fieldLink RX2 11 "OneHinge$Round" "behind" "[LOneHinge$House;" ∈ TB := tb_of 144 (by decide +kernel) rfl
theorem lfX2_31 : Cond.fieldLink RX2 31 "OneHinge$Round" "pushedBack" "LOneHinge$House;" ∈ TB := tb_of 145 (by decide +kernel) rfl
theorem lfX2_17 : Cond.fieldLink RX2 17 "OneHinge$Round" "order" "[I" ∈ TB := tb_of 146 (by decide +kernel) rfl
theorem lfX2_21 : Cond.fieldLink RX2 21 "OneHinge$Round" "bestOrder" "[I" ∈ TB := tb_of 147 (by decide +kernel) rfl
theorem lfX5_168 : Cond.fieldLink RX5 168 "OneHinge$Round" "bestOrder" "[I" ∈ TB := tb_of 148 (by decide +kernel) rfl
theorem lfX2_35 : Cond.fieldLink RX2 35 "OneHinge$Round" "leaf" "I" ∈ TB := tb_of 149 (by decide +kernel) rfl
theorem lfX2_39 : Cond.fieldLink RX2 39 "OneHinge$Round" "fewest" "I" ∈ TB := tb_of 150 (by decide +kernel) rfl
theorem lfX5_165 : Cond.fieldLink RX5 165 "OneHinge$Round" "fewest" "I" ∈ TB := tb_of 151 (by decide +kernel) rfl
theorem niX3_init : Cond.instanceMethod yX3_init ∈ TB := tb_of 171 (by decide +kernel) rfl
theorem cdX3_init : Cond.code yX3_init cX3_init 1 none ∈ TB := tb_of 172 (by decide +kernel) rfl
theorem lmX3_3 : Cond.methodLink RX3 3 objectInit ∈ TB := tb_of 173 (by decide +kernel) rfl
theorem lfX3_9 : Cond.fieldLink RX3 9 "OneHinge$Scrapes" "leafOf" "[I" ∈ TB := tb_of 174 (by decide +kernel) rfl
theorem lfX5_187 : Cond.fieldLink RX5 187 "OneHinge$Scrapes" "leafOf" "[I" ∈ TB := tb_of 175 (by decide +kernel) rfl
theorem lfX3_15 : Cond.fieldLink RX3 15 "OneHinge$Scrapes" "angleOf" "[I" ∈ TB := tb_of 176 (by decide +kernel) rfl
theorem lfX5_190 : Cond.fieldLink RX5 190 "OneHinge$Scrapes" "angleOf" "[I" ∈ TB := tb_of 177 (by decide +kernel) rfl
theorem lfX3_18 : Cond.fieldLink RX3 18 "OneHinge$Scrapes" "many" "I" ∈ TB := tb_of 178 (by decide +kernel) rfl
theorem lfX5_81 : Cond.fieldLink RX5 81 "OneHinge$Scrapes" "many" "I" ∈ TB := tb_of 179 (by decide +kernel) rfl
theorem lmX5_57 : Cond.methodLink RX5 57 yX1_begin ∈ TB := tb_of 187 (by decide +kernel) rfl
theorem niX1_begin : Cond.instanceMethod yX1_begin ∈ TB := tb_of 188 (by decide +kernel) rfl
theorem seX1_begin : Cond.selects RX1 yX1_begin yX1_begin ∈ TB := tb_of 189 (by decide +kernel) rfl
theorem cdX1_begin : Cond.code yX1_begin cX1_begin 3 none ∈ TB := tb_of 190 (by decide +kernel) rfl
theorem lmX5_61 : Cond.methodLink RX5 61 yX0_begin ∈ TB := tb_of 191 (by decide +kernel) rfl
theorem niX0_begin : Cond.instanceMethod yX0_begin ∈ TB := tb_of 192 (by decide +kernel) rfl
theorem seX0_begin : Cond.selects RX0 yX0_begin yX0_begin ∈ TB := tb_of 193 (by decide +kernel) rfl
theorem cdX0_begin : Cond.code yX0_begin cX0_begin 1 none ∈ TB := tb_of 194 (by decide +kernel) rfl
theorem lmX0_27 : Cond.methodLink RX0 27 arraycopyName ∈ TB := tb_of 195 (by decide +kernel) rfl
theorem nsCopy : Cond.static arraycopyName ∈ TB := tb_of 196 (by decide +kernel) rfl
theorem nnCopy : Cond.native arraycopyName ∈ TB := tb_of 197 (by decide +kernel) rfl
theorem lfX5_10 : Cond.fieldLink RX5 10 "OneHinge" "told" "LOneHinge$Plan;" ∈ TB := tb_of 198 (by decide +kernel) rfl
theorem lfX5_19 : Cond.fieldLink RX5 19 "OneHinge" "text" "LOneHinge$Text;" ∈ TB := tb_of 199 (by decide +kernel) rfl
theorem lfX5_28 : Cond.fieldLink RX5 28 "OneHinge" "now" "LOneHinge$House;" ∈ TB := tb_of 200 (by decide +kernel) rfl
theorem lfX5_32 : Cond.fieldLink RX5 32 "OneHinge" "trial" "LOneHinge$House;" ∈ TB := tb_of 201 (by decide +kernel) rfl
theorem lfX5_35 : Cond.fieldLink RX5 35 "OneHinge" "kept" "[LOneHinge$House;" ∈ TB := tb_of 202 (by decide +kernel) rfl
theorem lfX5_39 : Cond.fieldLink RX5 39 "OneHinge" "isKept" "[Z" ∈ TB := tb_of 203 (by decide +kernel) rfl
theorem lfX5_46 : Cond.fieldLink RX5 46 "OneHinge" "round" "LOneHinge$Round;" ∈ TB := tb_of 204 (by decide +kernel) rfl
theorem lfX5_53 : Cond.fieldLink RX5 53 "OneHinge" "scrapes" "LOneHinge$Scrapes;" ∈ TB := tb_of 205 (by decide +kernel) rfl
theorem lmL_15 : Cond.methodLink RL 15 yX5_write ∈ TB := tb_of 223 (by decide +kernel) rfl
theorem niX5_write : Cond.instanceMethod yX5_write ∈ TB := tb_of 224 (by decide +kernel) rfl
theorem seX5_write : Cond.selects RX5 yX5_write yX5_write ∈ TB := tb_of 225 (by decide +kernel) rfl
theorem cdX5_write : Cond.code yX5_write cX5_write 5 (some .int) ∈ TB := tb_of 226 (by decide +kernel) rfl
theorem lmL_20 : Cond.methodLink RL 20 yX5_erase ∈ TB := tb_of 227 (by decide +kernel) rfl
theorem niX5_erase : Cond.instanceMethod yX5_erase ∈ TB := tb_of 228 (by decide +kernel) rfl
theorem seX5_erase : Cond.selects RX5 yX5_erase yX5_erase ∈ TB := tb_of 229 (by decide +kernel) rfl
theorem cdX5_erase : Cond.code yX5_erase cX5_erase 2 (some .int) ∈ TB := tb_of 230 (by decide +kernel) rfl
theorem lmL_25 : Cond.methodLink RL 25 yX5_fault ∈ TB := tb_of 231 (by decide +kernel) rfl
theorem niX5_fault : Cond.instanceMethod yX5_fault ∈ TB := tb_of 232 (by decide +kernel) rfl
theorem seX5_fault : Cond.selects RX5 yX5_fault yX5_fault ∈ TB := tb_of 233 (by decide +kernel) rfl
theorem cdX5_fault : Cond.code yX5_fault cX5_fault 1 (some .int) ∈ TB := tb_of 234 (by decide +kernel) rfl
theorem lmX5_71 : Cond.methodLink RX5 71 yX4_read ∈ TB := tb_of 235 (by decide +kernel) rfl
theorem niX4_read : Cond.instanceMethod yX4_read ∈ TB := tb_of 236 (by decide +kernel) rfl
theorem seX4_read : Cond.selects RX4 yX4_read yX4_read ∈ TB := tb_of 237 (by decide +kernel) rfl
theorem cdX4_read : Cond.code yX4_read cX4_read 2 (some .int) ∈ TB := tb_of 238 (by decide +kernel) rfl
theorem lmX4_22 : Cond.methodLink RX4 22 yX1_copy ∈ TB := tb_of 239 (by decide +kernel) rfl
theorem niX1_copy : Cond.instanceMethod yX1_copy ∈ TB := tb_of 240 (by decide +kernel) rfl
theorem seX1_copy : Cond.selects RX1 yX1_copy yX1_copy ∈ TB := tb_of 241 (by decide +kernel) rfl
theorem cdX1_copy : Cond.code yX1_copy cX1_copy 2 none ∈ TB := tb_of 242 (by decide +kernel) rfl
theorem lmX1_37 : Cond.methodLink RX1 37 arraycopyName ∈ TB := tb_of 243 (by decide +kernel) rfl
theorem lmX4_33 : Cond.methodLink RX4 33 yX4_readLine ∈ TB := tb_of 244 (by decide +kernel) rfl
theorem niX4_readLine : Cond.instanceMethod yX4_readLine ∈ TB := tb_of 246 (by decide +kernel) rfl
theorem cdX4_readLine : Cond.code yX4_readLine cX4_readLine 2 (some .boolean) ∈ TB := tb_of 247 (by decide +kernel) rfl
theorem lmX4_40 : Cond.methodLink RX4 40 yX4_nextToken ∈ TB := tb_of 248 (by decide +kernel) rfl
theorem niX4_nextToken : Cond.instanceMethod yX4_nextToken ∈ TB := tb_of 250 (by decide +kernel) rfl
theorem cdX4_nextToken : Cond.code yX4_nextToken cX4_nextToken 1 none ∈ TB := tb_of 251 (by decide +kernel) rfl
theorem lmX4_118 : Cond.methodLink RX4 118 yX4_isLetter ∈ TB := tb_of 252 (by decide +kernel) rfl
theorem niX4_isLetter : Cond.instanceMethod yX4_isLetter ∈ TB := tb_of 254 (by decide +kernel) rfl
theorem cdX4_isLetter : Cond.code yX4_isLetter cX4_isLetter 2 (some .boolean) ∈ TB := tb_of 255 (by decide +kernel) rfl
theorem lmX4_121 : Cond.methodLink RX4 121 yX4_isDigit ∈ TB := tb_of 256 (by decide +kernel) rfl
theorem niX4_isDigit : Cond.instanceMethod yX4_isDigit ∈ TB := tb_of 258 (by decide +kernel) rfl
theorem cdX4_isDigit : Cond.code yX4_isDigit cX4_isDigit 2 (some .boolean) ∈ TB := tb_of 259 (by decide +kernel) rfl
theorem lmX4_46 : Cond.methodLink RX4 46 yX4_wordHere ∈ TB := tb_of 260 (by decide +kernel) rfl
theorem niX4_wordHere : Cond.instanceMethod yX4_wordHere ∈ TB := tb_of 262 (by decide +kernel) rfl
theorem cdX4_wordHere : Cond.code yX4_wordHere cX4_wordHere 2 (some .int) ∈ TB := tb_of 263 (by decide +kernel) rfl
theorem lmX4_124 : Cond.methodLink RX4 124 yX4_spelling ∈ TB := tb_of 264 (by decide +kernel) rfl
theorem nsX4_spelling : Cond.static yX4_spelling ∈ TB := tb_of 265 (by decide +kernel) rfl
theorem cdX4_spelling : Cond.code yX4_spelling cX4_spelling 1 (some (.object "java/lang/String")) ∈ TB := tb_of 266 (by decide +kernel) rfl
theorem lmX4_128 : Cond.methodLink RX4 128 yX4_isHere ∈ TB := tb_of 277 (by decide +kernel) rfl
theorem niX4_isHere : Cond.instanceMethod yX4_isHere ∈ TB := tb_of 279 (by decide +kernel) rfl
theorem cdX4_isHere : Cond.code yX4_isHere cX4_isHere 3 (some .boolean) ∈ TB := tb_of 280 (by decide +kernel) rfl
theorem lmX4_132 : Cond.methodLink RX4 132 yJ0_length_8abf5 ∈ TB := tb_of 281 (by decide +kernel) rfl
theorem niJ0_length_8abf5 : Cond.instanceMethod yJ0_length_8abf5 ∈ TB := tb_of 282 (by decide +kernel) rfl
theorem seJ0_length_8abf5 : Cond.selects RJ0 yJ0_length_8abf5 yJ0_length_8abf5 ∈ TB := tb_of 283 (by decide +kernel) rfl
theorem cdJ0_length_8abf5 : Cond.code yJ0_length_8abf5 cJ0_length_8abf5 1 (some .int) ∈ TB := tb_of 284 (by decide +kernel) rfl
theorem lmJ0_335 : Cond.methodLink RJ0 335 yJ0_coder_7d493 ∈ TB := tb_of 285 (by decide +kernel) rfl
theorem niJ0_coder_7d493 : Cond.instanceMethod yJ0_coder_7d493 ∈ TB := tb_of 286 (by decide +kernel) rfl
theorem seJ0_coder_7d493 : Cond.selects RJ0 yJ0_coder_7d493 yJ0_coder_7d493 ∈ TB := tb_of 287 (by decide +kernel) rfl
theorem cdJ0_coder_7d493 : Cond.code yJ0_coder_7d493 cJ0_coder_7d493 1 (some .byte) ∈ TB := tb_of 288 (by decide +kernel) rfl
theorem lfJ0_38 : Cond.fieldLink RJ0 38 "java/lang/String" "COMPACT_STRINGS" "Z" ∈ TB := tb_of 289 (by decide +kernel) rfl
theorem lmX4_136 : Cond.methodLink RX4 136 yJ0_charAt_5068e ∈ TB := tb_of 291 (by decide +kernel) rfl
theorem niJ0_charAt_5068e : Cond.instanceMethod yJ0_charAt_5068e ∈ TB := tb_of 292 (by decide +kernel) rfl
theorem seJ0_charAt_5068e : Cond.selects RJ0 yJ0_charAt_5068e yJ0_charAt_5068e ∈ TB := tb_of 293 (by decide +kernel) rfl
theorem cdJ0_charAt_5068e : Cond.code yJ0_charAt_5068e cJ0_charAt_5068e 2 (some .char) ∈ TB := tb_of 294 (by decide +kernel) rfl
theorem lmJ0_492 : Cond.methodLink RJ0 492 yJ0_isLatin1_aae02 ∈ TB := tb_of 295 (by decide +kernel) rfl
theorem niJ0_isLatin1_aae02 : Cond.instanceMethod yJ0_isLatin1_aae02 ∈ TB := tb_of 296 (by decide +kernel) rfl
theorem seJ0_isLatin1_aae02 : Cond.selects RJ0 yJ0_isLatin1_aae02 yJ0_isLatin1_aae02 ∈ TB := tb_of 297 (by decide +kernel) rfl
theorem cdJ0_isLatin1_aae02 : Cond.code yJ0_isLatin1_aae02 cJ0_isLatin1_aae02 1 (some .boolean) ∈ TB := tb_of 298 (by decide +kernel) rfl
theorem lmJ0_495 : Cond.methodLink RJ0 495 yJ1_charAt_3b067 ∈ TB := tb_of 299 (by decide +kernel) rfl
theorem nsJ1_charAt_3b067 : Cond.static yJ1_charAt_3b067 ∈ TB := tb_of 300 (by decide +kernel) rfl
theorem cdJ1_charAt_3b067 : Cond.code yJ1_charAt_3b067 cJ1_charAt_3b067 2 (some .char) ∈ TB := tb_of 301 (by decide +kernel) rfl
theorem lmJ1_9 : Cond.methodLink RJ1 9 yJ0_checkIndex_df160 ∈ TB := tb_of 302 (by decide +kernel) rfl
theorem nsJ0_checkIndex_df160 : Cond.static yJ0_checkIndex_df160 ∈ TB := tb_of 303 (by decide +kernel) rfl
theorem cdJ0_checkIndex_df160 : Cond.code yJ0_checkIndex_df160 cJ0_checkIndex_df160 2 none ∈ TB := tb_of 304 (by decide +kernel) rfl
theorem lfJ0_1053 : Cond.fieldLink RJ0 1053 "jdk/internal/util/Preconditions" "SIOOBE_FORMATTER" "Ljava/util/function/BiFunction;" ∈ TB := tb_of 305 (by decide +kernel) rfl
theorem lmJ0_1059 : Cond.methodLink RJ0 1059 yJ3_checkIndex_8e157 ∈ TB := tb_of 307 (by decide +kernel) rfl
theorem nsJ3_checkIndex_8e157 : Cond.static yJ3_checkIndex_8e157 ∈ TB := tb_of 308 (by decide +kernel) rfl
theorem cdJ3_checkIndex_8e157 : Cond.code yJ3_checkIndex_8e157 cJ3_checkIndex_8e157 3 (some .int) ∈ TB := tb_of 309 (by decide +kernel) rfl
theorem lmJ0_498 : Cond.methodLink RJ0 498 yJ2_charAt_3b067 ∈ TB := tb_of 310 (by decide +kernel) rfl
theorem nsJ2_charAt_3b067 : Cond.static yJ2_charAt_3b067 ∈ TB := tb_of 311 (by decide +kernel) rfl
theorem cdJ2_charAt_3b067 : Cond.code yJ2_charAt_3b067 cJ2_charAt_3b067 2 (some .char) ∈ TB := tb_of 312 (by decide +kernel) rfl
theorem lmJ2_67 : Cond.methodLink RJ2 67 yJ2_checkIndex_2214a ∈ TB := tb_of 313 (by decide +kernel) rfl
theorem nsJ2_checkIndex_2214a : Cond.static yJ2_checkIndex_2214a ∈ TB := tb_of 314 (by decide +kernel) rfl
theorem cdJ2_checkIndex_2214a : Cond.code yJ2_checkIndex_2214a cJ2_checkIndex_2214a 2 none ∈ TB := tb_of 315 (by decide +kernel) rfl
theorem lmJ2_48 : Cond.methodLink RJ2 48 yJ2_length_9d52b ∈ TB := tb_of 316 (by decide +kernel) rfl
theorem nsJ2_length_9d52b : Cond.static yJ2_length_9d52b ∈ TB := tb_of 317 (by decide +kernel) rfl
theorem cdJ2_length_9d52b : Cond.code yJ2_length_9d52b cJ2_length_9d52b 1 (some .int) ∈ TB := tb_of 318 (by decide +kernel) rfl
theorem lmJ2_414 : Cond.methodLink RJ2 414 yJ0_checkIndex_df160 ∈ TB := tb_of 319 (by decide +kernel) rfl
theorem lmJ2_71 : Cond.methodLink RJ2 71 yJ2_getChar_3b067 ∈ TB := tb_of 320 (by decide +kernel) rfl
theorem nsJ2_getChar_3b067 : Cond.static yJ2_getChar_3b067 ∈ TB := tb_of 321 (by decide +kernel) rfl
theorem cdJ2_getChar_3b067 : Cond.code yJ2_getChar_3b067 cJ2_getChar_3b067 2 (some .char) ∈ TB := tb_of 322 (by decide +kernel) rfl
theorem lfJ2_44 : Cond.fieldLink RJ2 44 "java/lang/StringUTF16" "$assertionsDisabled" "Z" ∈ TB := tb_of 323 (by decide +kernel) rfl
theorem lfJ2_59 : Cond.fieldLink RJ2 59 "java/lang/StringUTF16" "HI_BYTE_SHIFT" "I" ∈ TB := tb_of 325 (by decide +kernel) rfl
theorem lfJ2_63 : Cond.fieldLink RJ2 63 "java/lang/StringUTF16" "LO_BYTE_SHIFT" "I" ∈ TB := tb_of 327 (by decide +kernel) rfl
theorem lmX4_50 : Cond.methodLink RX4 50 yX4_readHouse ∈ TB := tb_of 329 (by decide +kernel) rfl
theorem niX4_readHouse : Cond.instanceMethod yX4_readHouse ∈ TB := tb_of 331 (by decide +kernel) rfl
theorem cdX4_readHouse : Cond.code yX4_readHouse cX4_readHouse 1 (some .boolean) ∈ TB := tb_of 332 (by decide +kernel) rfl
theorem lmX4_72 : Cond.methodLink RX4 72 yX4_readNumber ∈ TB := tb_of 333 (by decide +kernel) rfl
theorem niX4_readNumber : Cond.instanceMethod yX4_readNumber ∈ TB := tb_of 335 (by decide +kernel) rfl
theorem cdX4_readNumber : Cond.code yX4_readNumber cX4_readNumber 3 (some .boolean) ∈ TB := tb_of 336 (by decide +kernel) rfl
theorem lmX4_115 : Cond.methodLink RX4 115 yX4_numberHere ∈ TB := tb_of 337 (by decide +kernel) rfl
theorem niX4_numberHere : Cond.instanceMethod yX4_numberHere ∈ TB := tb_of 339 (by decide +kernel) rfl
theorem cdX4_numberHere : Cond.code yX4_numberHere cX4_numberHere 3 (some .int) ∈ TB := tb_of 340 (by decide +kernel) rfl
theorem lmX4_79 : Cond.methodLink RX4 79 yX1_begin ∈ TB := tb_of 341 (by decide +kernel) rfl
theorem lmX4_53 : Cond.methodLink RX4 53 yX4_readLeaf ∈ TB := tb_of 342 (by decide +kernel) rfl
theorem niX4_readLeaf : Cond.instanceMethod yX4_readLeaf ∈ TB := tb_of 344 (by decide +kernel) rfl
theorem cdX4_readLeaf : Cond.code yX4_readLeaf cX4_readLeaf 2 (some .boolean) ∈ TB := tb_of 345 (by decide +kernel) rfl
theorem lmX4_86 : Cond.methodLink RX4 86 yX1_canStandAt ∈ TB := tb_of 346 (by decide +kernel) rfl
theorem niX1_canStandAt : Cond.instanceMethod yX1_canStandAt ∈ TB := tb_of 347 (by decide +kernel) rfl
theorem seX1_canStandAt : Cond.selects RX1 yX1_canStandAt yX1_canStandAt ∈ TB := tb_of 348 (by decide +kernel) rfl
theorem cdX1_canStandAt : Cond.code yX1_canStandAt cX1_canStandAt 6 (some .boolean) ∈ TB := tb_of 349 (by decide +kernel) rfl
theorem lmX1_47 : Cond.methodLink RX1 47 yX1_before ∈ TB := tb_of 350 (by decide +kernel) rfl
theorem niX1_before : Cond.instanceMethod yX1_before ∈ TB := tb_of 351 (by decide +kernel) rfl
theorem seX1_before : Cond.selects RX1 yX1_before yX1_before ∈ TB := tb_of 352 (by decide +kernel) rfl
theorem cdX1_before : Cond.code yX1_before cX1_before 2 (some .int) ∈ TB := tb_of 353 (by decide +kernel) rfl
theorem lmX1_57 : Cond.methodLink RX1 57 yX1_toldWidth ∈ TB := tb_of 354 (by decide +kernel) rfl
theorem niX1_toldWidth : Cond.instanceMethod yX1_toldWidth ∈ TB := tb_of 355 (by decide +kernel) rfl
theorem seX1_toldWidth : Cond.selects RX1 yX1_toldWidth yX1_toldWidth ∈ TB := tb_of 356 (by decide +kernel) rfl
theorem cdX1_toldWidth : Cond.code yX1_toldWidth cX1_toldWidth 2 (some .int) ∈ TB := tb_of 357 (by decide +kernel) rfl
theorem lmX1_43 : Cond.methodLink RX1 43 yX1_next ∈ TB := tb_of 358 (by decide +kernel) rfl
theorem niX1_next : Cond.instanceMethod yX1_next ∈ TB := tb_of 359 (by decide +kernel) rfl
theorem seX1_next : Cond.selects RX1 yX1_next yX1_next ∈ TB := tb_of 360 (by decide +kernel) rfl
theorem cdX1_next : Cond.code yX1_next cX1_next 2 (some .int) ∈ TB := tb_of 361 (by decide +kernel) rfl
theorem nsX5_between : Cond.static yX5_between ∈ TB := tb_of 363 (by decide +kernel) rfl
theorem cdX5_between : Cond.code yX5_between cX5_between 2 (some .int) ∈ TB := tb_of 364 (by decide +kernel) rfl
theorem lmX1_60 : Cond.methodLink RX1 60 yX1_need ∈ TB := tb_of 365 (by decide +kernel) rfl
theorem niX1_need : Cond.instanceMethod yX1_need ∈ TB := tb_of 366 (by decide +kernel) rfl
theorem seX1_need : Cond.selects RX1 yX1_need yX1_need ∈ TB := tb_of 367 (by decide +kernel) rfl
theorem cdX1_need : Cond.code yX1_need cX1_need 2 (some .int) ∈ TB := tb_of 368 (by decide +kernel) rfl
theorem lmX4_56 : Cond.methodLink RX4 56 yX4_readPut ∈ TB := tb_of 369 (by decide +kernel) rfl
theorem niX4_readPut : Cond.instanceMethod yX4_readPut ∈ TB := tb_of 371 (by decide +kernel) rfl
theorem cdX4_readPut : Cond.code yX4_readPut cX4_readPut 2 (some .boolean) ∈ TB := tb_of 372 (by decide +kernel) rfl
theorem lmX4_96 : Cond.methodLink RX4 96 yX1_toldWidth ∈ TB := tb_of 373 (by decide +kernel) rfl
theorem lmX4_59 : Cond.methodLink RX4 59 yX4_readDoor ∈ TB := tb_of 374 (by decide +kernel) rfl
theorem niX4_readDoor : Cond.instanceMethod yX4_readDoor ∈ TB := tb_of 376 (by decide +kernel) rfl
theorem cdX4_readDoor : Cond.code yX4_readDoor cX4_readDoor 1 (some .boolean) ∈ TB := tb_of 377 (by decide +kernel) rfl
theorem lmX4_103 : Cond.methodLink RX4 103 yX1_hasDoorAt ∈ TB := tb_of 378 (by decide +kernel) rfl
theorem niX1_hasDoorAt : Cond.instanceMethod yX1_hasDoorAt ∈ TB := tb_of 379 (by decide +kernel) rfl
theorem seX1_hasDoorAt : Cond.selects RX1 yX1_hasDoorAt yX1_hasDoorAt ∈ TB := tb_of 380 (by decide +kernel) rfl
theorem cdX1_hasDoorAt : Cond.code yX1_hasDoorAt cX1_hasDoorAt 3 (some .boolean) ∈ TB := tb_of 381 (by decide +kernel) rfl
theorem lmX4_62 : Cond.methodLink RX4 62 yX4_readPerson ∈ TB := tb_of 382 (by decide +kernel) rfl
theorem niX4_readPerson : Cond.instanceMethod yX4_readPerson ∈ TB := tb_of 384 (by decide +kernel) rfl
theorem cdX4_readPerson : Cond.code yX4_readPerson cX4_readPerson 1 (some .boolean) ∈ TB := tb_of 385 (by decide +kernel) rfl
theorem lmX4_68 : Cond.methodLink RX4 68 yX4_readKind ∈ TB := tb_of 386 (by decide +kernel) rfl
theorem niX4_readKind : Cond.instanceMethod yX4_readKind ∈ TB := tb_of 388 (by decide +kernel) rfl
theorem cdX4_readKind : Cond.code yX4_readKind cX4_readKind 2 (some .boolean) ∈ TB := tb_of 389 (by decide +kernel) rfl
theorem lmL_29 : Cond.methodLink RL 29 yX5_house ∈ TB := tb_of 390 (by decide +kernel) rfl
theorem niX5_house : Cond.instanceMethod yX5_house ∈ TB := tb_of 391 (by decide +kernel) rfl
theorem seX5_house : Cond.selects RX5 yX5_house yX5_house ∈ TB := tb_of 392 (by decide +kernel) rfl
theorem cdX5_house : Cond.code yX5_house cX5_house 2 (some .int) ∈ TB := tb_of 393 (by decide +kernel) rfl
theorem lmX5_78 : Cond.methodLink RX5 78 yX1_copy ∈ TB := tb_of 394 (by decide +kernel) rfl
theorem lmL_33 : Cond.methodLink RL 33 yX5_leaf ∈ TB := tb_of 395 (by decide +kernel) rfl
theorem niX5_leaf : Cond.instanceMethod yX5_leaf ∈ TB := tb_of 396 (by decide +kernel) rfl
theorem seX5_leaf : Cond.selects RX5 yX5_leaf yX5_leaf ∈ TB := tb_of 397 (by decide +kernel) rfl
theorem cdX5_leaf : Cond.code yX5_leaf cX5_leaf 3 (some .int) ∈ TB := tb_of 398 (by decide +kernel) rfl
theorem lmX5_87 : Cond.methodLink RX5 87 yX1_has ∈ TB := tb_of 399 (by decide +kernel) rfl
theorem niX1_has : Cond.instanceMethod yX1_has ∈ TB := tb_of 400 (by decide +kernel) rfl
theorem seX1_has : Cond.selects RX1 yX1_has yX1_has ∈ TB := tb_of 401 (by decide +kernel) rfl
theorem cdX1_has : Cond.code yX1_has cX1_has 2 (some .boolean) ∈ TB := tb_of 402 (by decide +kernel) rfl
theorem lmL_38 : Cond.methodLink RL 38 yX5_room ∈ TB := tb_of 403 (by decide +kernel) rfl
theorem niX5_room : Cond.instanceMethod yX5_room ∈ TB := tb_of 404 (by decide +kernel) rfl
theorem seX5_room : Cond.selects RX5 yX5_room yX5_room ∈ TB := tb_of 405 (by decide +kernel) rfl
theorem cdX5_room : Cond.code yX5_room cX5_room 3 (some .int) ∈ TB := tb_of 406 (by decide +kernel) rfl
theorem lmX5_101 : Cond.methodLink RX5 101 yX0_width ∈ TB := tb_of 407 (by decide +kernel) rfl
theorem niX0_width : Cond.instanceMethod yX0_width ∈ TB := tb_of 408 (by decide +kernel) rfl
theorem seX0_width : Cond.selects RX0 yX0_width yX0_width ∈ TB := tb_of 409 (by decide +kernel) rfl
theorem cdX0_width : Cond.code yX0_width cX0_width 2 (some .int) ∈ TB := tb_of 410 (by decide +kernel) rfl
theorem lmX0_38 : Cond.methodLink RX0 38 yX1_next ∈ TB := tb_of 411 (by decide +kernel) rfl
theorem lmX5_108 : Cond.methodLink RX5 108 yX0_isOpen ∈ TB := tb_of 413 (by decide +kernel) rfl
theorem niX0_isOpen : Cond.instanceMethod yX0_isOpen ∈ TB := tb_of 414 (by decide +kernel) rfl
theorem seX0_isOpen : Cond.selects RX0 yX0_isOpen yX0_isOpen ∈ TB := tb_of 415 (by decide +kernel) rfl
theorem cdX0_isOpen : Cond.code yX0_isOpen cX0_isOpen 5 (some .boolean) ∈ TB := tb_of 416 (by decide +kernel) rfl
theorem lmX0_46 : Cond.methodLink RX0 46 yX0_width ∈ TB := tb_of 417 (by decide +kernel) rfl
theorem lmX5_111 : Cond.methodLink RX5 111 yX0_peopleAt ∈ TB := tb_of 418 (by decide +kernel) rfl
theorem niX0_peopleAt : Cond.instanceMethod yX0_peopleAt ∈ TB := tb_of 419 (by decide +kernel) rfl
theorem seX0_peopleAt : Cond.selects RX0 yX0_peopleAt yX0_peopleAt ∈ TB := tb_of 420 (by decide +kernel) rfl
theorem cdX0_peopleAt : Cond.code yX0_peopleAt cX0_peopleAt 4 (some .int) ∈ TB := tb_of 421 (by decide +kernel) rfl
theorem lmL_42 : Cond.methodLink RL 42 yX5_as ∈ TB := tb_of 422 (by decide +kernel) rfl
theorem niX5_as : Cond.instanceMethod yX5_as ∈ TB := tb_of 423 (by decide +kernel) rfl
theorem seX5_as : Cond.selects RX5 yX5_as yX5_as ∈ TB := tb_of 424 (by decide +kernel) rfl
theorem cdX5_as : Cond.code yX5_as cX5_as 5 (some .int) ∈ TB := tb_of 425 (by decide +kernel) rfl
theorem lmX5_114 : Cond.methodLink RX5 114 yX1_isTakenAs ∈ TB := tb_of 426 (by decide +kernel) rfl
theorem niX1_isTakenAs : Cond.instanceMethod yX1_isTakenAs ∈ TB := tb_of 427 (by decide +kernel) rfl
theorem seX1_isTakenAs : Cond.selects RX1 yX1_isTakenAs yX1_isTakenAs ∈ TB := tb_of 428 (by decide +kernel) rfl
theorem cdX1_isTakenAs : Cond.code yX1_isTakenAs cX1_isTakenAs 3 (some .boolean) ∈ TB := tb_of 429 (by decide +kernel) rfl
theorem lmX5_118 : Cond.methodLink RX5 118 yX0_movers ∈ TB := tb_of 432 (by decide +kernel) rfl
theorem niX0_movers : Cond.instanceMethod yX0_movers ∈ TB := tb_of 433 (by decide +kernel) rfl
theorem seX0_movers : Cond.selects RX0 yX0_movers yX0_movers ∈ TB := tb_of 434 (by decide +kernel) rfl
theorem cdX0_movers : Cond.code yX0_movers cX0_movers 6 (some .int) ∈ TB := tb_of 435 (by decide +kernel) rfl
theorem lmX0_75 : Cond.methodLink RX0 75 yX1_roomBeside ∈ TB := tb_of 436 (by decide +kernel) rfl
theorem niX1_roomBeside : Cond.instanceMethod yX1_roomBeside ∈ TB := tb_of 437 (by decide +kernel) rfl
theorem seX1_roomBeside : Cond.selects RX1 yX1_roomBeside yX1_roomBeside ∈ TB := tb_of 438 (by decide +kernel) rfl
theorem cdX1_roomBeside : Cond.code yX1_roomBeside cX1_roomBeside 3 (some .int) ∈ TB := tb_of 439 (by decide +kernel) rfl
theorem lmX0_49 : Cond.methodLink RX0 49 yX1_need ∈ TB := tb_of 440 (by decide +kernel) rfl
theorem lmX0_78 : Cond.methodLink RX0 78 yX1_leafBeside ∈ TB := tb_of 441 (by decide +kernel) rfl
theorem niX1_leafBeside : Cond.instanceMethod yX1_leafBeside ∈ TB := tb_of 442 (by decide +kernel) rfl
theorem seX1_leafBeside : Cond.selects RX1 yX1_leafBeside yX1_leafBeside ∈ TB := tb_of 443 (by decide +kernel) rfl
theorem cdX1_leafBeside : Cond.code yX1_leafBeside cX1_leafBeside 3 (some .int) ∈ TB := tb_of 444 (by decide +kernel) rfl
theorem lmX0_81 : Cond.methodLink RX0 81 yX1_isTakenAs ∈ TB := tb_of 445 (by decide +kernel) rfl
theorem lmL_46 : Cond.methodLink RL 46 yX5_person ∈ TB := tb_of 446 (by decide +kernel) rfl
theorem niX5_person : Cond.instanceMethod yX5_person ∈ TB := tb_of 447 (by decide +kernel) rfl
theorem seX5_person : Cond.selects RX5 yX5_person yX5_person ∈ TB := tb_of 448 (by decide +kernel) rfl
theorem cdX5_person : Cond.code yX5_person cX5_person 2 (some .int) ∈ TB := tb_of 449 (by decide +kernel) rfl
theorem lmX5_122 : Cond.methodLink RX5 122 yX5_isPerson ∈ TB := tb_of 450 (by decide +kernel) rfl
theorem niX5_isPerson : Cond.instanceMethod yX5_isPerson ∈ TB := tb_of 452 (by decide +kernel) rfl
theorem cdX5_isPerson : Cond.code yX5_isPerson cX5_isPerson 2 (some .boolean) ∈ TB := tb_of 453 (by decide +kernel) rfl
theorem lmL_51 : Cond.methodLink RL 51 yX5_push ∈ TB := tb_of 454 (by decide +kernel) rfl
theorem niX5_push : Cond.instanceMethod yX5_push ∈ TB := tb_of 455 (by decide +kernel) rfl
theorem seX5_push : Cond.selects RX5 yX5_push yX5_push ∈ TB := tb_of 456 (by decide +kernel) rfl
theorem cdX5_push : Cond.code yX5_push cX5_push 5 (some .int) ∈ TB := tb_of 457 (by decide +kernel) rfl
theorem lmX5_128 : Cond.methodLink RX5 128 yX5_isSide ∈ TB := tb_of 458 (by decide +kernel) rfl
theorem nsX5_isSide : Cond.static yX5_isSide ∈ TB := tb_of 459 (by decide +kernel) rfl
theorem cdX5_isSide : Cond.code yX5_isSide cX5_isSide 1 (some .boolean) ∈ TB := tb_of 460 (by decide +kernel) rfl
theorem lmX5_131 : Cond.methodLink RX5 131 yX0_step ∈ TB := tb_of 461 (by decide +kernel) rfl
theorem niX0_step : Cond.instanceMethod yX0_step ∈ TB := tb_of 462 (by decide +kernel) rfl
theorem seX0_step : Cond.selects RX0 yX0_step yX0_step ∈ TB := tb_of 463 (by decide +kernel) rfl
theorem cdX0_step : Cond.code yX0_step cX0_step 6 (some .boolean) ∈ TB := tb_of 464 (by decide +kernel) rfl
theorem lmX0_85 : Cond.methodLink RX0 85 yX0_movers ∈ TB := tb_of 465 (by decide +kernel) rfl
theorem lmX0_88 : Cond.methodLink RX0 88 yX0_stepped ∈ TB := tb_of 466 (by decide +kernel) rfl
theorem nsX0_stepped : Cond.static yX0_stepped ∈ TB := tb_of 467 (by decide +kernel) rfl
theorem cdX0_stepped : Cond.code yX0_stepped cX0_stepped 2 (some .int) ∈ TB := tb_of 468 (by decide +kernel) rfl
theorem lmL_56 : Cond.methodLink RL 56 yX5_hours ∈ TB := tb_of 469 (by decide +kernel) rfl
theorem niX5_hours : Cond.instanceMethod yX5_hours ∈ TB := tb_of 470 (by decide +kernel) rfl
theorem seX5_hours : Cond.selects RX5 yX5_hours yX5_hours ∈ TB := tb_of 471 (by decide +kernel) rfl
theorem cdX5_hours : Cond.code yX5_hours cX5_hours 3 (some .int) ∈ TB := tb_of 472 (by decide +kernel) rfl
theorem lmX5_137 : Cond.methodLink RX5 137 yX0_passHour ∈ TB := tb_of 473 (by decide +kernel) rfl
theorem niX0_passHour : Cond.instanceMethod yX0_passHour ∈ TB := tb_of 474 (by decide +kernel) rfl
theorem seX0_passHour : Cond.selects RX0 yX0_passHour yX0_passHour ∈ TB := tb_of 475 (by decide +kernel) rfl
theorem cdX0_passHour : Cond.code yX0_passHour cX0_passHour 3 none ∈ TB := tb_of 476 (by decide +kernel) rfl
theorem lmX0_91 : Cond.methodLink RX0 91 yX0_step ∈ TB := tb_of 477 (by decide +kernel) rfl
theorem lmL_60 : Cond.methodLink RL 60 yX5_leave ∈ TB := tb_of 478 (by decide +kernel) rfl
theorem niX5_leave : Cond.instanceMethod yX5_leave ∈ TB := tb_of 479 (by decide +kernel) rfl
theorem seX5_leave : Cond.selects RX5 yX5_leave yX5_leave ∈ TB := tb_of 480 (by decide +kernel) rfl
theorem cdX5_leave : Cond.code yX5_leave cX5_leave 3 (some .int) ∈ TB := tb_of 481 (by decide +kernel) rfl
theorem lmL_64 : Cond.methodLink RL 64 yX5_enter ∈ TB := tb_of 482 (by decide +kernel) rfl
theorem niX5_enter : Cond.instanceMethod yX5_enter ∈ TB := tb_of 483 (by decide +kernel) rfl
theorem seX5_enter : Cond.selects RX5 yX5_enter yX5_enter ∈ TB := tb_of 484 (by decide +kernel) rfl
theorem cdX5_enter : Cond.code yX5_enter cX5_enter 3 (some .int) ∈ TB := tb_of 485 (by decide +kernel) rfl
theorem lmX5_140 : Cond.methodLink RX5 140 yJ6_bitCount_0f7a4 ∈ TB := tb_of 486 (by decide +kernel) rfl
theorem nsJ6_bitCount_0f7a4 : Cond.static yJ6_bitCount_0f7a4 ∈ TB := tb_of 487 (by decide +kernel) rfl
theorem cdJ6_bitCount_0f7a4 : Cond.code yJ6_bitCount_0f7a4 cJ6_bitCount_0f7a4 1 (some .int) ∈ TB := tb_of 488 (by decide +kernel) rfl
theorem lcJ6_265 : Cond.constant RJ6 265 1431655765 ∈ TB := tb_of 489 (by decide +kernel) rfl
theorem lcJ6_266 : Cond.constant RJ6 266 858993459 ∈ TB := tb_of 490 (by decide +kernel) rfl
theorem lcJ6_267 : Cond.constant RJ6 267 252645135 ∈ TB := tb_of 491 (by decide +kernel) rfl
theorem lmL_68 : Cond.methodLink RL 68 yX5_keep ∈ TB := tb_of 492 (by decide +kernel) rfl
theorem niX5_keep : Cond.instanceMethod yX5_keep ∈ TB := tb_of 493 (by decide +kernel) rfl
theorem seX5_keep : Cond.selects RX5 yX5_keep yX5_keep ∈ TB := tb_of 494 (by decide +kernel) rfl
theorem cdX5_keep : Cond.code yX5_keep cX5_keep 2 (some .int) ∈ TB := tb_of 495 (by decide +kernel) rfl
theorem lmX5_145 : Cond.methodLink RX5 145 yX0_copy ∈ TB := tb_of 496 (by decide +kernel) rfl
theorem niX0_copy : Cond.instanceMethod yX0_copy ∈ TB := tb_of 497 (by decide +kernel) rfl
theorem seX0_copy : Cond.selects RX0 yX0_copy yX0_copy ∈ TB := tb_of 498 (by decide +kernel) rfl
theorem cdX0_copy : Cond.code yX0_copy cX0_copy 2 none ∈ TB := tb_of 499 (by decide +kernel) rfl
theorem lmL_72 : Cond.methodLink RL 72 yX5_back ∈ TB := tb_of 500 (by decide +kernel) rfl
theorem niX5_back : Cond.instanceMethod yX5_back ∈ TB := tb_of 501 (by decide +kernel) rfl
theorem seX5_back : Cond.selects RX5 yX5_back yX5_back ∈ TB := tb_of 502 (by decide +kernel) rfl
theorem cdX5_back : Cond.code yX5_back cX5_back 2 (some .int) ∈ TB := tb_of 503 (by decide +kernel) rfl
theorem lmL_76 : Cond.methodLink RL 76 yX5_turn ∈ TB := tb_of 504 (by decide +kernel) rfl
theorem niX5_turn : Cond.instanceMethod yX5_turn ∈ TB := tb_of 505 (by decide +kernel) rfl
theorem seX5_turn : Cond.selects RX5 yX5_turn yX5_turn ∈ TB := tb_of 506 (by decide +kernel) rfl
theorem cdX5_turn : Cond.code yX5_turn cX5_turn 4 (some .int) ∈ TB := tb_of 507 (by decide +kernel) rfl
theorem lmX5_148 : Cond.methodLink RX5 148 yX0_goTillOpen ∈ TB := tb_of 508 (by decide +kernel) rfl
theorem niX0_goTillOpen : Cond.instanceMethod yX0_goTillOpen ∈ TB := tb_of 509 (by decide +kernel) rfl
theorem seX0_goTillOpen : Cond.selects RX0 yX0_goTillOpen yX0_goTillOpen ∈ TB := tb_of 510 (by decide +kernel) rfl
theorem cdX0_goTillOpen : Cond.code yX0_goTillOpen cX0_goTillOpen 6 (some .int) ∈ TB := tb_of 511 (by decide +kernel) rfl
theorem lmX0_61 : Cond.methodLink RX0 61 yX0_isOpen ∈ TB := tb_of 512 (by decide +kernel) rfl
theorem lmL_80 : Cond.methodLink RL 80 yX5_best ∈ TB := tb_of 513 (by decide +kernel) rfl
theorem niX5_best : Cond.instanceMethod yX5_best ∈ TB := tb_of 514 (by decide +kernel) rfl
theorem seX5_best : Cond.selects RX5 yX5_best yX5_best ∈ TB := tb_of 515 (by decide +kernel) rfl
theorem cdX5_best : Cond.code yX5_best cX5_best 10 (some .int) ∈ TB := tb_of 516 (by decide +kernel) rfl
theorem lmL_84 : Cond.methodLink RL 84 yX5_widest ∈ TB := tb_of 517 (by decide +kernel) rfl
theorem niX5_widest : Cond.instanceMethod yX5_widest ∈ TB := tb_of 518 (by decide +kernel) rfl
theorem seX5_widest : Cond.selects RX5 yX5_widest yX5_widest ∈ TB := tb_of 519 (by decide +kernel) rfl
theorem cdX5_widest : Cond.code yX5_widest cX5_widest 2 (some .int) ∈ TB := tb_of 520 (by decide +kernel) rfl
theorem lmX5_155 : Cond.methodLink RX5 155 yX0_stretched ∈ TB := tb_of 521 (by decide +kernel) rfl
theorem niX0_stretched : Cond.instanceMethod yX0_stretched ∈ TB := tb_of 522 (by decide +kernel) rfl
theorem seX0_stretched : Cond.selects RX0 yX0_stretched yX0_stretched ∈ TB := tb_of 523 (by decide +kernel) rfl
theorem cdX0_stretched : Cond.code yX0_stretched cX0_stretched 6 (some .int) ∈ TB := tb_of 524 (by decide +kernel) rfl
theorem lmX0_94 : Cond.methodLink RX0 94 yX0_slack ∈ TB := tb_of 525 (by decide +kernel) rfl
theorem niX0_slack : Cond.instanceMethod yX0_slack ∈ TB := tb_of 526 (by decide +kernel) rfl
theorem seX0_slack : Cond.selects RX0 yX0_slack yX0_slack ∈ TB := tb_of 527 (by decide +kernel) rfl
theorem cdX0_slack : Cond.code yX0_slack cX0_slack 2 (some .int) ∈ TB := tb_of 528 (by decide +kernel) rfl
theorem lmL_88 : Cond.methodLink RL 88 yX5_further ∈ TB := tb_of 529 (by decide +kernel) rfl
theorem niX5_further : Cond.instanceMethod yX5_further ∈ TB := tb_of 530 (by decide +kernel) rfl
theorem seX5_further : Cond.selects RX5 yX5_further yX5_further ∈ TB := tb_of 531 (by decide +kernel) rfl
theorem cdX5_further : Cond.code yX5_further cX5_further 6 (some .int) ∈ TB := tb_of 532 (by decide +kernel) rfl
theorem lmL_92 : Cond.methodLink RL 92 yX5_share ∈ TB := tb_of 533 (by decide +kernel) rfl
theorem niX5_share : Cond.instanceMethod yX5_share ∈ TB := tb_of 534 (by decide +kernel) rfl
theorem seX5_share : Cond.selects RX5 yX5_share yX5_share ∈ TB := tb_of 535 (by decide +kernel) rfl
theorem cdX5_share : Cond.code yX5_share cX5_share 6 (some .int) ∈ TB := tb_of 536 (by decide +kernel) rfl
theorem lmL_96 : Cond.methodLink RL 96 yX5_errands ∈ TB := tb_of 537 (by decide +kernel) rfl
theorem niX5_errands : Cond.instanceMethod yX5_errands ∈ TB := tb_of 538 (by decide +kernel) rfl
theorem seX5_errands : Cond.selects RX5 yX5_errands yX5_errands ∈ TB := tb_of 539 (by decide +kernel) rfl
theorem cdX5_errands : Cond.code yX5_errands cX5_errands 5 (some .int) ∈ TB := tb_of 540 (by decide +kernel) rfl
theorem lmX5_158 : Cond.methodLink RX5 158 yX2_begin ∈ TB := tb_of 541 (by decide +kernel) rfl
theorem niX2_begin : Cond.instanceMethod yX2_begin ∈ TB := tb_of 542 (by decide +kernel) rfl
theorem seX2_begin : Cond.selects RX2 yX2_begin yX2_begin ∈ TB := tb_of 543 (by decide +kernel) rfl
theorem cdX2_begin : Cond.code yX2_begin cX2_begin 3 none ∈ TB := tb_of 544 (by decide +kernel) rfl
theorem lmX2_42 : Cond.methodLink RX2 42 yX0_copy ∈ TB := tb_of 545 (by decide +kernel) rfl
theorem niX2_visit : Cond.instanceMethod yX2_visit ∈ TB := tb_of 548 (by decide +kernel) rfl
theorem cdX2_visit : Cond.code yX2_visit cX2_visit 6 none ∈ TB := tb_of 549 (by decide +kernel) rfl
theorem lmX2_46 : Cond.methodLink RX2 46 arraycopyName ∈ TB := tb_of 550 (by decide +kernel) rfl
theorem lmX2_57 : Cond.methodLink RX2 57 yX2_goTo ∈ TB := tb_of 551 (by decide +kernel) rfl
theorem niX2_goTo : Cond.instanceMethod yX2_goTo ∈ TB := tb_of 553 (by decide +kernel) rfl
theorem cdX2_goTo : Cond.code yX2_goTo cX2_goTo 8 (some .int) ∈ TB := tb_of 554 (by decide +kernel) rfl
theorem lmX2_65 : Cond.methodLink RX2 65 Lib.Math.min.name ∈ TB := tb_of 555 (by decide +kernel) rfl
theorem nsMin : Cond.static Lib.Math.min.name ∈ TB := tb_of 556 (by decide +kernel) rfl
theorem cdMin : Cond.code Lib.Math.min.name Lib.Math.min.code 2 (some .int) ∈ TB := tb_of 557 (by decide +kernel) rfl
theorem lmX2_71 : Cond.methodLink RX2 71 yX0_goTillOpen ∈ TB := tb_of 558 (by decide +kernel) rfl
theorem lmX2_61 : Cond.methodLink RX2 61 yX2_visit ∈ TB := tb_of 559 (by decide +kernel) rfl
theorem lmL_100 : Cond.methodLink RL 100 yX5_slam ∈ TB := tb_of 560 (by decide +kernel) rfl
theorem niX5_slam : Cond.instanceMethod yX5_slam ∈ TB := tb_of 561 (by decide +kernel) rfl
theorem seX5_slam : Cond.selects RX5 yX5_slam yX5_slam ∈ TB := tb_of 562 (by decide +kernel) rfl
theorem cdX5_slam : Cond.code yX5_slam cX5_slam 4 (some .int) ∈ TB := tb_of 563 (by decide +kernel) rfl
theorem lmX5_171 : Cond.methodLink RX5 171 yX1_roomBeside ∈ TB := tb_of 564 (by decide +kernel) rfl
theorem lmX5_174 : Cond.methodLink RX5 174 yX0_slack ∈ TB := tb_of 565 (by decide +kernel) rfl
theorem lmX5_177 : Cond.methodLink RX5 177 yX1_leafBeside ∈ TB := tb_of 566 (by decide +kernel) rfl
theorem lmL_104 : Cond.methodLink RL 104 yX5_fire ∈ TB := tb_of 567 (by decide +kernel) rfl
theorem niX5_fire : Cond.instanceMethod yX5_fire ∈ TB := tb_of 568 (by decide +kernel) rfl
theorem seX5_fire : Cond.selects RX5 yX5_fire yX5_fire ∈ TB := tb_of 569 (by decide +kernel) rfl
theorem cdX5_fire : Cond.code yX5_fire cX5_fire 4 (some .int) ∈ TB := tb_of 570 (by decide +kernel) rfl
theorem lmX5_180 : Cond.methodLink RX5 180 yX0_areAllOut ∈ TB := tb_of 571 (by decide +kernel) rfl
theorem niX0_areAllOut : Cond.instanceMethod yX0_areAllOut ∈ TB := tb_of 572 (by decide +kernel) rfl
theorem seX0_areAllOut : Cond.selects RX0 yX0_areAllOut yX0_areAllOut ∈ TB := tb_of 573 (by decide +kernel) rfl
theorem cdX0_areAllOut : Cond.code yX0_areAllOut cX0_areAllOut 2 (some .boolean) ∈ TB := tb_of 574 (by decide +kernel) rfl
theorem lmX5_184 : Cond.methodLink RX5 184 yX0_letOut ∈ TB := tb_of 575 (by decide +kernel) rfl
theorem niX0_letOut : Cond.instanceMethod yX0_letOut ∈ TB := tb_of 576 (by decide +kernel) rfl
theorem seX0_letOut : Cond.selects RX0 yX0_letOut yX0_letOut ∈ TB := tb_of 577 (by decide +kernel) rfl
theorem cdX0_letOut : Cond.code yX0_letOut cX0_letOut 2 none ∈ TB := tb_of 578 (by decide +kernel) rfl
theorem lmX0_68 : Cond.methodLink RX0 68 yX0_letFirstOut ∈ TB := tb_of 579 (by decide +kernel) rfl
theorem niX0_letFirstOut : Cond.instanceMethod yX0_letFirstOut ∈ TB := tb_of 581 (by decide +kernel) rfl
theorem cdX0_letFirstOut : Cond.code yX0_letFirstOut cX0_letFirstOut 3 none ∈ TB := tb_of 582 (by decide +kernel) rfl
theorem lmL_108 : Cond.methodLink RL 108 yX5_seen ∈ TB := tb_of 583 (by decide +kernel) rfl
theorem niX5_seen : Cond.instanceMethod yX5_seen ∈ TB := tb_of 584 (by decide +kernel) rfl
theorem seX5_seen : Cond.selects RX5 yX5_seen yX5_seen ∈ TB := tb_of 585 (by decide +kernel) rfl
theorem cdX5_seen : Cond.code yX5_seen cX5_seen 3 (some .int) ∈ TB := tb_of 586 (by decide +kernel) rfl
theorem lmL_112 : Cond.methodLink RL 112 yX5_forget ∈ TB := tb_of 587 (by decide +kernel) rfl
theorem niX5_forget : Cond.instanceMethod yX5_forget ∈ TB := tb_of 588 (by decide +kernel) rfl
theorem seX5_forget : Cond.selects RX5 yX5_forget yX5_forget ∈ TB := tb_of 589 (by decide +kernel) rfl
theorem cdX5_forget : Cond.code yX5_forget cX5_forget 2 (some .int) ∈ TB := tb_of 590 (by decide +kernel) rfl
theorem lmL_116 : Cond.methodLink RL 116 yX5_least ∈ TB := tb_of 591 (by decide +kernel) rfl
theorem niX5_least : Cond.instanceMethod yX5_least ∈ TB := tb_of 592 (by decide +kernel) rfl
theorem seX5_least : Cond.selects RX5 yX5_least yX5_least ∈ TB := tb_of 593 (by decide +kernel) rfl
theorem cdX5_least : Cond.code yX5_least cX5_least 2 (some .int) ∈ TB := tb_of 594 (by decide +kernel) rfl
theorem lmX5_193 : Cond.methodLink RX5 193 yX3_way ∈ TB := tb_of 595 (by decide +kernel) rfl
theorem niX3_way : Cond.instanceMethod yX3_way ∈ TB := tb_of 596 (by decide +kernel) rfl
theorem seX3_way : Cond.selects RX3 yX3_way yX3_way ∈ TB := tb_of 597 (by decide +kernel) rfl
theorem cdX3_way : Cond.code yX3_way cX3_way 7 (some .int) ∈ TB := tb_of 598 (by decide +kernel) rfl
theorem lmX3_22 : Cond.methodLink RX3 22 yX3_shorter ∈ TB := tb_of 599 (by decide +kernel) rfl
theorem nsX3_shorter : Cond.static yX3_shorter ∈ TB := tb_of 600 (by decide +kernel) rfl
theorem cdX3_shorter : Cond.code yX3_shorter cX3_shorter 3 (some .int) ∈ TB := tb_of 601 (by decide +kernel) rfl
theorem lmX3_29 : Cond.methodLink RX3 29 Lib.Math.min.name ∈ TB := tb_of 603 (by decide +kernel) rfl
theorem lmL_120 : Cond.methodLink RL 120 yX5_count ∈ TB := tb_of 604 (by decide +kernel) rfl
theorem niX5_count : Cond.instanceMethod yX5_count ∈ TB := tb_of 605 (by decide +kernel) rfl
theorem seX5_count : Cond.selects RX5 yX5_count yX5_count ∈ TB := tb_of 606 (by decide +kernel) rfl
theorem cdX5_count : Cond.code yX5_count cX5_count 2 (some .int) ∈ TB := tb_of 607 (by decide +kernel) rfl
theorem lmX5_203 : Cond.methodLink RX5 203 yX0_openRooms ∈ TB := tb_of 608 (by decide +kernel) rfl
theorem niX0_openRooms : Cond.instanceMethod yX0_openRooms ∈ TB := tb_of 609 (by decide +kernel) rfl
theorem seX0_openRooms : Cond.selects RX0 yX0_openRooms yX0_openRooms ∈ TB := tb_of 610 (by decide +kernel) rfl
theorem cdX0_openRooms : Cond.code yX0_openRooms cX0_openRooms 3 (some .int) ∈ TB := tb_of 611 (by decide +kernel) rfl
theorem lmL_12 : Cond.methodLink RL 12 yX6_init ∈ TB := tb_of 614 (by decide +kernel) rfl
theorem niX6_init : Cond.instanceMethod yX6_init ∈ TB := tb_of 615 (by decide +kernel) rfl
theorem cdX6_init : Cond.code yX6_init cX6_init 2 none ∈ TB := tb_of 616 (by decide +kernel) rfl
theorem lmX6_1 : Cond.methodLink RX6 1 objectInit ∈ TB := tb_of 617 (by decide +kernel) rfl
theorem lfX6_7 : Cond.fieldLink RX6 7 "OneHingeModel" "row" "[I" ∈ TB := tb_of 618 (by decide +kernel) rfl
theorem lfX6_13 : Cond.fieldLink RX6 13 "OneHingeModel" "isKept" "[Z" ∈ TB := tb_of 619 (by decide +kernel) rfl
theorem lfX6_17 : Cond.fieldLink RX6 17 "OneHingeModel" "text" "[I" ∈ TB := tb_of 620 (by decide +kernel) rfl
theorem lfX6_64 : Cond.fieldLink RX6 64 "OneHingeModel" "length" "I" ∈ TB := tb_of 621 (by decide +kernel) rfl
theorem lfX6_20 : Cond.fieldLink RX6 20 "OneHingeModel" "read" "[I" ∈ TB := tb_of 622 (by decide +kernel) rfl
theorem lfX6_102 : Cond.fieldLink RX6 102 "OneHingeModel" "readMany" "I" ∈ TB := tb_of 623 (by decide +kernel) rfl
theorem lfX6_23 : Cond.fieldLink RX6 23 "OneHingeModel" "leaves" "I" ∈ TB := tb_of 624 (by decide +kernel) rfl
theorem lfX6_27 : Cond.fieldLink RX6 27 "OneHingeModel" "kinds" "[I" ∈ TB := tb_of 625 (by decide +kernel) rfl
theorem lfX6_30 : Cond.fieldLink RX6 30 "OneHingeModel" "stuff" "[I" ∈ TB := tb_of 626 (by decide +kernel) rfl
theorem lfX6_33 : Cond.fieldLink RX6 33 "OneHingeModel" "doors" "[I" ∈ TB := tb_of 627 (by decide +kernel) rfl
theorem lfX6_150 : Cond.fieldLink RX6 150 "OneHingeModel" "doorMany" "I" ∈ TB := tb_of 628 (by decide +kernel) rfl
theorem lfX6_153 : Cond.fieldLink RX6 153 "OneHingeModel" "people" "I" ∈ TB := tb_of 629 (by decide +kernel) rfl
theorem lfX6_69 : Cond.fieldLink RX6 69 "OneHingeModel" "at" "I" ∈ TB := tb_of 630 (by decide +kernel) rfl
theorem lfX6_72 : Cond.fieldLink RX6 72 "OneHingeModel" "place" "I" ∈ TB := tb_of 631 (by decide +kernel) rfl
theorem lfX6_79 : Cond.fieldLink RX6 79 "OneHingeModel" "end" "I" ∈ TB := tb_of 632 (by decide +kernel) rfl
theorem lfX6_108 : Cond.fieldLink RX6 108 "OneHingeModel" "readLeaves" "I" ∈ TB := tb_of 633 (by decide +kernel) rfl
theorem lfX6_36 : Cond.fieldLink RX6 36 "OneHingeModel" "readAngles" "[I" ∈ TB := tb_of 634 (by decide +kernel) rfl
theorem lfX6_39 : Cond.fieldLink RX6 39 "OneHingeModel" "readStuff" "[I" ∈ TB := tb_of 635 (by decide +kernel) rfl
theorem lfX6_42 : Cond.fieldLink RX6 42 "OneHingeModel" "readDoors" "[I" ∈ TB := tb_of 636 (by decide +kernel) rfl
theorem lfX6_116 : Cond.fieldLink RX6 116 "OneHingeModel" "readDoorMany" "I" ∈ TB := tb_of 637 (by decide +kernel) rfl
theorem lfX6_137 : Cond.fieldLink RX6 137 "OneHingeModel" "readPeople" "I" ∈ TB := tb_of 638 (by decide +kernel) rfl
theorem lfX6_45 : Cond.fieldLink RX6 45 "OneHingeModel" "chosen" "[I" ∈ TB := tb_of 639 (by decide +kernel) rfl
theorem lfX6_233 : Cond.fieldLink RX6 233 "OneHingeModel" "chosenMany" "I" ∈ TB := tb_of 640 (by decide +kernel) rfl
theorem lfX6_48 : Cond.fieldLink RX6 48 "OneHingeModel" "aside" "[I" ∈ TB := tb_of 641 (by decide +kernel) rfl
theorem lfX6_51 : Cond.fieldLink RX6 51 "OneHingeModel" "sights" "[I" ∈ TB := tb_of 642 (by decide +kernel) rfl
theorem lfX6_174 : Cond.fieldLink RX6 174 "OneHingeModel" "seenMany" "I" ∈ TB := tb_of 643 (by decide +kernel) rfl
theorem lmL_19 : Cond.methodLink RL 19 yX6_write ∈ TB := tb_of 697 (by decide +kernel) rfl
theorem niX6_write : Cond.instanceMethod yX6_write ∈ TB := tb_of 698 (by decide +kernel) rfl
theorem seX6_write : Cond.selects RX6 yX6_write yX6_write ∈ TB := tb_of 699 (by decide +kernel) rfl
theorem cdX6_write : Cond.code yX6_write cX6_write 5 (some .int) ∈ TB := tb_of 700 (by decide +kernel) rfl
theorem lcX6_58 : Cond.constantLong RX6 58 8 ∈ TB := tb_of 701 (by decide +kernel) rfl
theorem lmX6_60 : Cond.methodLink RX6 60 yX6_in ∈ TB := tb_of 702 (by decide +kernel) rfl
theorem nsX6_in : Cond.static yX6_in ∈ TB := tb_of 703 (by decide +kernel) rfl
theorem cdX6_in : Cond.code yX6_in cX6_in 6 (some .boolean) ∈ TB := tb_of 704 (by decide +kernel) rfl
theorem lcX6_67 : Cond.constantLong RX6 67 255 ∈ TB := tb_of 705 (by decide +kernel) rfl
theorem lmL_24 : Cond.methodLink RL 24 yX6_erase ∈ TB := tb_of 706 (by decide +kernel) rfl
theorem niX6_erase : Cond.instanceMethod yX6_erase ∈ TB := tb_of 707 (by decide +kernel) rfl
theorem seX6_erase : Cond.selects RX6 yX6_erase yX6_erase ∈ TB := tb_of 708 (by decide +kernel) rfl
theorem cdX6_erase : Cond.code yX6_erase cX6_erase 2 (some .int) ∈ TB := tb_of 709 (by decide +kernel) rfl
theorem lmL_28 : Cond.methodLink RL 28 yX6_fault ∈ TB := tb_of 710 (by decide +kernel) rfl
theorem niX6_fault : Cond.instanceMethod yX6_fault ∈ TB := tb_of 711 (by decide +kernel) rfl
theorem seX6_fault : Cond.selects RX6 yX6_fault yX6_fault ∈ TB := tb_of 712 (by decide +kernel) rfl
theorem cdX6_fault : Cond.code yX6_fault cX6_fault 2 (some .int) ∈ TB := tb_of 713 (by decide +kernel) rfl
theorem lmX6_105 : Cond.methodLink RX6 105 yX6_token ∈ TB := tb_of 714 (by decide +kernel) rfl
theorem niX6_token : Cond.instanceMethod yX6_token ∈ TB := tb_of 716 (by decide +kernel) rfl
theorem cdX6_token : Cond.code yX6_token cX6_token 1 none ∈ TB := tb_of 717 (by decide +kernel) rfl
theorem lmX6_75 : Cond.methodLink RX6 75 yX6_sort ∈ TB := tb_of 718 (by decide +kernel) rfl
theorem nsX6_sort : Cond.static yX6_sort ∈ TB := tb_of 719 (by decide +kernel) rfl
theorem cdX6_sort : Cond.code yX6_sort cX6_sort 1 (some .int) ∈ TB := tb_of 720 (by decide +kernel) rfl
theorem lmX6_156 : Cond.methodLink RX6 156 yX6_readsLine ∈ TB := tb_of 721 (by decide +kernel) rfl
theorem niX6_readsLine : Cond.instanceMethod yX6_readsLine ∈ TB := tb_of 723 (by decide +kernel) rfl
theorem cdX6_readsLine : Cond.code yX6_readsLine cX6_readsLine 2 (some .boolean) ∈ TB := tb_of 724 (by decide +kernel) rfl
theorem lmX6_140 : Cond.methodLink RX6 140 yX6_wordOf ∈ TB := tb_of 725 (by decide +kernel) rfl
theorem niX6_wordOf : Cond.instanceMethod yX6_wordOf ∈ TB := tb_of 727 (by decide +kernel) rfl
theorem cdX6_wordOf : Cond.code yX6_wordOf cX6_wordOf 2 (some .int) ∈ TB := tb_of 728 (by decide +kernel) rfl
theorem lmX6_90 : Cond.methodLink RX6 90 yX6_leafWord ∈ TB := tb_of 729 (by decide +kernel) rfl
theorem niX6_leafWord : Cond.instanceMethod yX6_leafWord ∈ TB := tb_of 731 (by decide +kernel) rfl
theorem cdX6_leafWord : Cond.code yX6_leafWord cX6_leafWord 1 (some .int) ∈ TB := tb_of 732 (by decide +kernel) rfl
theorem lcX6_82 : Cond.constant RX6 82 14976400 ∈ TB := tb_of 733 (by decide +kernel) rfl
theorem lmX6_83 : Cond.methodLink RX6 83 yX6_isWord ∈ TB := tb_of 734 (by decide +kernel) rfl
theorem niX6_isWord : Cond.instanceMethod yX6_isWord ∈ TB := tb_of 736 (by decide +kernel) rfl
theorem cdX6_isWord : Cond.code yX6_isWord cX6_isWord 5 (some .boolean) ∈ TB := tb_of 737 (by decide +kernel) rfl
theorem lcX6_87 : Cond.constant RX6 87 250268179 ∈ TB := tb_of 738 (by decide +kernel) rfl
theorem lcX6_88 : Cond.constant RX6 88 26936488 ∈ TB := tb_of 739 (by decide +kernel) rfl
theorem lcX6_89 : Cond.constant RX6 89 4383014 ∈ TB := tb_of 740 (by decide +kernel) rfl
theorem lcX6_94 : Cond.constant RX6 94 5887464 ∈ TB := tb_of 741 (by decide +kernel) rfl
theorem lcX6_95 : Cond.constant RX6 95 197804 ∈ TB := tb_of 742 (by decide +kernel) rfl
theorem lcX6_96 : Cond.constant RX6 96 605668 ∈ TB := tb_of 743 (by decide +kernel) rfl
theorem lcX6_97 : Cond.constant RX6 97 486131888 ∈ TB := tb_of 744 (by decide +kernel) rfl
theorem lcX6_98 : Cond.constant RX6 98 26886565 ∈ TB := tb_of 745 (by decide +kernel) rfl
theorem lmX6_143 : Cond.methodLink RX6 143 yX6_readsRest ∈ TB := tb_of 746 (by decide +kernel) rfl
theorem niX6_readsRest : Cond.instanceMethod yX6_readsRest ∈ TB := tb_of 748 (by decide +kernel) rfl
theorem cdX6_readsRest : Cond.code yX6_readsRest cX6_readsRest 2 (some .boolean) ∈ TB := tb_of 749 (by decide +kernel) rfl
theorem lmX6_119 : Cond.methodLink RX6 119 yX6_reads ∈ TB := tb_of 750 (by decide +kernel) rfl
theorem niX6_reads : Cond.instanceMethod yX6_reads ∈ TB := tb_of 752 (by decide +kernel) rfl
theorem cdX6_reads : Cond.code yX6_reads cX6_reads 5 (some .boolean) ∈ TB := tb_of 753 (by decide +kernel) rfl
theorem lmX6_99 : Cond.methodLink RX6 99 yX6_numberHere ∈ TB := tb_of 754 (by decide +kernel) rfl
theorem niX6_numberHere : Cond.instanceMethod yX6_numberHere ∈ TB := tb_of 756 (by decide +kernel) rfl
theorem cdX6_numberHere : Cond.code yX6_numberHere cX6_numberHere 3 (some .int) ∈ TB := tb_of 757 (by decide +kernel) rfl
theorem lmX6_126 : Cond.methodLink RX6 126 yX6_readsLeaf ∈ TB := tb_of 758 (by decide +kernel) rfl
theorem niX6_readsLeaf : Cond.instanceMethod yX6_readsLeaf ∈ TB := tb_of 760 (by decide +kernel) rfl
theorem cdX6_readsLeaf : Cond.code yX6_readsLeaf cX6_readsLeaf 3 (some .boolean) ∈ TB := tb_of 761 (by decide +kernel) rfl
theorem lcX6_114 : Cond.constantLong RX6 114 71 ∈ TB := tb_of 762 (by decide +kernel) rfl
theorem lmX6_123 : Cond.methodLink RX6 123 yX6_fitsAngle ∈ TB := tb_of 763 (by decide +kernel) rfl
theorem niX6_fitsAngle : Cond.instanceMethod yX6_fitsAngle ∈ TB := tb_of 765 (by decide +kernel) rfl
theorem cdX6_fitsAngle : Cond.code yX6_fitsAngle cX6_fitsAngle 6 (some .boolean) ∈ TB := tb_of 766 (by decide +kernel) rfl
theorem lmX6_111 : Cond.methodLink RX6 111 yX6_readNext ∈ TB := tb_of 767 (by decide +kernel) rfl
theorem niX6_readNext : Cond.instanceMethod yX6_readNext ∈ TB := tb_of 769 (by decide +kernel) rfl
theorem cdX6_readNext : Cond.code yX6_readNext cX6_readNext 2 (some .int) ∈ TB := tb_of 770 (by decide +kernel) rfl
theorem lmX6_54 : Cond.methodLink RX6 54 yX6_on ∈ TB := tb_of 771 (by decide +kernel) rfl
theorem nsX6_on : Cond.static yX6_on ∈ TB := tb_of 772 (by decide +kernel) rfl
theorem cdX6_on : Cond.code yX6_on cX6_on 2 (some .int) ∈ TB := tb_of 773 (by decide +kernel) rfl
theorem lmX6_130 : Cond.methodLink RX6 130 yX6_readsPut ∈ TB := tb_of 774 (by decide +kernel) rfl
theorem niX6_readsPut : Cond.instanceMethod yX6_readsPut ∈ TB := tb_of 776 (by decide +kernel) rfl
theorem cdX6_readsPut : Cond.code yX6_readsPut cX6_readsPut 3 (some .boolean) ∈ TB := tb_of 777 (by decide +kernel) rfl
theorem lmX6_133 : Cond.methodLink RX6 133 yX6_isNewDoor ∈ TB := tb_of 778 (by decide +kernel) rfl
theorem niX6_isNewDoor : Cond.instanceMethod yX6_isNewDoor ∈ TB := tb_of 780 (by decide +kernel) rfl
theorem cdX6_isNewDoor : Cond.code yX6_isNewDoor cX6_isNewDoor 4 (some .boolean) ∈ TB := tb_of 781 (by decide +kernel) rfl
theorem lmX6_146 : Cond.methodLink RX6 146 yX6_goOn ∈ TB := tb_of 782 (by decide +kernel) rfl
theorem niX6_goOn : Cond.instanceMethod yX6_goOn ∈ TB := tb_of 784 (by decide +kernel) rfl
theorem cdX6_goOn : Cond.code yX6_goOn cX6_goOn 5 none ∈ TB := tb_of 785 (by decide +kernel) rfl
theorem lmL_32 : Cond.methodLink RL 32 yX6_house ∈ TB := tb_of 786 (by decide +kernel) rfl
theorem niX6_house : Cond.instanceMethod yX6_house ∈ TB := tb_of 787 (by decide +kernel) rfl
theorem seX6_house : Cond.selects RX6 yX6_house yX6_house ∈ TB := tb_of 788 (by decide +kernel) rfl
theorem cdX6_house : Cond.code yX6_house cX6_house 2 (some .int) ∈ TB := tb_of 789 (by decide +kernel) rfl
theorem lmX6_163 : Cond.methodLink RX6 163 yX6_fault ∈ TB := tb_of 790 (by decide +kernel) rfl
theorem lmX6_166 : Cond.methodLink RX6 166 yX6_tell ∈ TB := tb_of 791 (by decide +kernel) rfl
theorem niX6_tell : Cond.instanceMethod yX6_tell ∈ TB := tb_of 793 (by decide +kernel) rfl
theorem cdX6_tell : Cond.code yX6_tell cX6_tell 5 none ∈ TB := tb_of 794 (by decide +kernel) rfl
theorem lcX6_159 : Cond.constantLong RX6 159 2 ∈ TB := tb_of 795 (by decide +kernel) rfl
theorem lcX6_161 : Cond.constantLong RX6 161 5 ∈ TB := tb_of 796 (by decide +kernel) rfl
theorem lmX6_170 : Cond.methodLink RX6 170 yX6_copy ∈ TB := tb_of 797 (by decide +kernel) rfl
theorem niX6_copy : Cond.instanceMethod yX6_copy ∈ TB := tb_of 799 (by decide +kernel) rfl
theorem cdX6_copy : Cond.code yX6_copy cX6_copy 4 none ∈ TB := tb_of 800 (by decide +kernel) rfl
theorem lmL_37 : Cond.methodLink RL 37 yX6_leaf ∈ TB := tb_of 801 (by decide +kernel) rfl
theorem niX6_leaf : Cond.instanceMethod yX6_leaf ∈ TB := tb_of 802 (by decide +kernel) rfl
theorem seX6_leaf : Cond.selects RX6 yX6_leaf yX6_leaf ∈ TB := tb_of 803 (by decide +kernel) rfl
theorem cdX6_leaf : Cond.code yX6_leaf cX6_leaf 3 (some .int) ∈ TB := tb_of 804 (by decide +kernel) rfl
theorem lmX6_183 : Cond.methodLink RX6 183 yX6_isLeaf ∈ TB := tb_of 805 (by decide +kernel) rfl
theorem niX6_isLeaf : Cond.instanceMethod yX6_isLeaf ∈ TB := tb_of 807 (by decide +kernel) rfl
theorem cdX6_isLeaf : Cond.code yX6_isLeaf cX6_isLeaf 2 (some .boolean) ∈ TB := tb_of 808 (by decide +kernel) rfl
theorem lmL_41 : Cond.methodLink RL 41 yX6_room ∈ TB := tb_of 809 (by decide +kernel) rfl
theorem niX6_room : Cond.instanceMethod yX6_room ∈ TB := tb_of 810 (by decide +kernel) rfl
theorem seX6_room : Cond.selects RX6 yX6_room yX6_room ∈ TB := tb_of 811 (by decide +kernel) rfl
theorem cdX6_room : Cond.code yX6_room cX6_room 3 (some .int) ∈ TB := tb_of 812 (by decide +kernel) rfl
theorem lmX6_180 : Cond.methodLink RX6 180 yX6_width ∈ TB := tb_of 813 (by decide +kernel) rfl
theorem niX6_width : Cond.instanceMethod yX6_width ∈ TB := tb_of 815 (by decide +kernel) rfl
theorem cdX6_width : Cond.code yX6_width cX6_width 3 (some .int) ∈ TB := tb_of 816 (by decide +kernel) rfl
theorem lmX6_177 : Cond.methodLink RX6 177 yX6_next ∈ TB := tb_of 817 (by decide +kernel) rfl
theorem niX6_next : Cond.instanceMethod yX6_next ∈ TB := tb_of 819 (by decide +kernel) rfl
theorem cdX6_next : Cond.code yX6_next cX6_next 2 (some .int) ∈ TB := tb_of 820 (by decide +kernel) rfl
theorem lmX6_186 : Cond.methodLink RX6 186 yX6_isOpen ∈ TB := tb_of 821 (by decide +kernel) rfl
theorem niX6_isOpen : Cond.instanceMethod yX6_isOpen ∈ TB := tb_of 823 (by decide +kernel) rfl
theorem cdX6_isOpen : Cond.code yX6_isOpen cX6_isOpen 6 (some .boolean) ∈ TB := tb_of 824 (by decide +kernel) rfl
theorem lmX6_189 : Cond.methodLink RX6 189 yX6_inRoom ∈ TB := tb_of 825 (by decide +kernel) rfl
theorem niX6_inRoom : Cond.instanceMethod yX6_inRoom ∈ TB := tb_of 827 (by decide +kernel) rfl
theorem cdX6_inRoom : Cond.code yX6_inRoom cX6_inRoom 5 (some .int) ∈ TB := tb_of 828 (by decide +kernel) rfl
theorem lmL_45 : Cond.methodLink RL 45 yX6_as ∈ TB := tb_of 829 (by decide +kernel) rfl
theorem niX6_as : Cond.instanceMethod yX6_as ∈ TB := tb_of 830 (by decide +kernel) rfl
theorem seX6_as : Cond.selects RX6 yX6_as yX6_as ∈ TB := tb_of 831 (by decide +kernel) rfl
theorem cdX6_as : Cond.code yX6_as cX6_as 5 (some .int) ∈ TB := tb_of 832 (by decide +kernel) rfl
theorem lcX6_202 : Cond.constantLong RX6 202 4 ∈ TB := tb_of 833 (by decide +kernel) rfl
theorem lmX6_195 : Cond.methodLink RX6 195 yX6_chain ∈ TB := tb_of 834 (by decide +kernel) rfl
theorem niX6_chain : Cond.instanceMethod yX6_chain ∈ TB := tb_of 836 (by decide +kernel) rfl
theorem cdX6_chain : Cond.code yX6_chain cX6_chain 8 (some .int) ∈ TB := tb_of 837 (by decide +kernel) rfl
theorem lmX6_192 : Cond.methodLink RX6 192 yX6_ahead ∈ TB := tb_of 838 (by decide +kernel) rfl
theorem niX6_ahead : Cond.instanceMethod yX6_ahead ∈ TB := tb_of 840 (by decide +kernel) rfl
theorem cdX6_ahead : Cond.code yX6_ahead cX6_ahead 2 (some .int) ∈ TB := tb_of 841 (by decide +kernel) rfl
theorem lmL_50 : Cond.methodLink RL 50 yX6_person ∈ TB := tb_of 842 (by decide +kernel) rfl
theorem niX6_person : Cond.instanceMethod yX6_person ∈ TB := tb_of 843 (by decide +kernel) rfl
theorem seX6_person : Cond.selects RX6 yX6_person yX6_person ∈ TB := tb_of 844 (by decide +kernel) rfl
theorem cdX6_person : Cond.code yX6_person cX6_person 2 (some .int) ∈ TB := tb_of 845 (by decide +kernel) rfl
theorem lmX6_204 : Cond.methodLink RX6 204 yX6_isPerson ∈ TB := tb_of 846 (by decide +kernel) rfl
theorem niX6_isPerson : Cond.instanceMethod yX6_isPerson ∈ TB := tb_of 848 (by decide +kernel) rfl
theorem cdX6_isPerson : Cond.code yX6_isPerson cX6_isPerson 2 (some .boolean) ∈ TB := tb_of 849 (by decide +kernel) rfl
theorem lmL_55 : Cond.methodLink RL 55 yX6_push ∈ TB := tb_of 850 (by decide +kernel) rfl
theorem niX6_push : Cond.instanceMethod yX6_push ∈ TB := tb_of 851 (by decide +kernel) rfl
theorem seX6_push : Cond.selects RX6 yX6_push yX6_push ∈ TB := tb_of 852 (by decide +kernel) rfl
theorem cdX6_push : Cond.code yX6_push cX6_push 4 (some .int) ∈ TB := tb_of 853 (by decide +kernel) rfl
theorem lmX6_210 : Cond.methodLink RX6 210 yX6_isSide ∈ TB := tb_of 854 (by decide +kernel) rfl
theorem nsX6_isSide : Cond.static yX6_isSide ∈ TB := tb_of 855 (by decide +kernel) rfl
theorem cdX6_isSide : Cond.code yX6_isSide cX6_isSide 1 (some .boolean) ∈ TB := tb_of 856 (by decide +kernel) rfl
theorem lcX6_213 : Cond.constantLong RX6 213 72 ∈ TB := tb_of 857 (by decide +kernel) rfl
theorem lmX6_215 : Cond.methodLink RX6 215 yX6_pushBy ∈ TB := tb_of 858 (by decide +kernel) rfl
theorem niX6_pushBy : Cond.instanceMethod yX6_pushBy ∈ TB := tb_of 860 (by decide +kernel) rfl
theorem cdX6_pushBy : Cond.code yX6_pushBy cX6_pushBy 6 (some .int) ∈ TB := tb_of 861 (by decide +kernel) rfl
theorem lmX6_207 : Cond.methodLink RX6 207 yX6_step ∈ TB := tb_of 862 (by decide +kernel) rfl
theorem niX6_step : Cond.instanceMethod yX6_step ∈ TB := tb_of 864 (by decide +kernel) rfl
theorem cdX6_step : Cond.code yX6_step cX6_step 6 (some .boolean) ∈ TB := tb_of 865 (by decide +kernel) rfl
theorem lmX6_199 : Cond.methodLink RX6 199 yX6_has ∈ TB := tb_of 866 (by decide +kernel) rfl
theorem nsX6_has : Cond.static yX6_has ∈ TB := tb_of 867 (by decide +kernel) rfl
theorem cdX6_has : Cond.code yX6_has cX6_has 2 (some .boolean) ∈ TB := tb_of 868 (by decide +kernel) rfl
theorem lmL_59 : Cond.methodLink RL 59 yX6_hours ∈ TB := tb_of 869 (by decide +kernel) rfl
theorem niX6_hours : Cond.instanceMethod yX6_hours ∈ TB := tb_of 870 (by decide +kernel) rfl
theorem seX6_hours : Cond.selects RX6 yX6_hours yX6_hours ∈ TB := tb_of 871 (by decide +kernel) rfl
theorem cdX6_hours : Cond.code yX6_hours cX6_hours 3 (some .int) ∈ TB := tb_of 872 (by decide +kernel) rfl
theorem lcX6_219 : Cond.constantLong RX6 219 99 ∈ TB := tb_of 873 (by decide +kernel) rfl
theorem lmX6_221 : Cond.methodLink RX6 221 yX6_hour ∈ TB := tb_of 874 (by decide +kernel) rfl
theorem niX6_hour : Cond.instanceMethod yX6_hour ∈ TB := tb_of 876 (by decide +kernel) rfl
theorem cdX6_hour : Cond.code yX6_hour cX6_hour 3 none ∈ TB := tb_of 877 (by decide +kernel) rfl
theorem lmL_63 : Cond.methodLink RL 63 yX6_leave ∈ TB := tb_of 878 (by decide +kernel) rfl
theorem niX6_leave : Cond.instanceMethod yX6_leave ∈ TB := tb_of 879 (by decide +kernel) rfl
theorem seX6_leave : Cond.selects RX6 yX6_leave yX6_leave ∈ TB := tb_of 880 (by decide +kernel) rfl
theorem cdX6_leave : Cond.code yX6_leave cX6_leave 3 (some .int) ∈ TB := tb_of 881 (by decide +kernel) rfl
theorem lmL_67 : Cond.methodLink RL 67 yX6_enter ∈ TB := tb_of 882 (by decide +kernel) rfl
theorem niX6_enter : Cond.instanceMethod yX6_enter ∈ TB := tb_of 883 (by decide +kernel) rfl
theorem seX6_enter : Cond.selects RX6 yX6_enter yX6_enter ∈ TB := tb_of 884 (by decide +kernel) rfl
theorem cdX6_enter : Cond.code yX6_enter cX6_enter 3 (some .int) ∈ TB := tb_of 885 (by decide +kernel) rfl
theorem lmX6_224 : Cond.methodLink RX6 224 yX6_bits ∈ TB := tb_of 886 (by decide +kernel) rfl
theorem nsX6_bits : Cond.static yX6_bits ∈ TB := tb_of 887 (by decide +kernel) rfl
theorem cdX6_bits : Cond.code yX6_bits cX6_bits 3 (some .int) ∈ TB := tb_of 888 (by decide +kernel) rfl
theorem lmL_71 : Cond.methodLink RL 71 yX6_keep ∈ TB := tb_of 889 (by decide +kernel) rfl
theorem niX6_keep : Cond.instanceMethod yX6_keep ∈ TB := tb_of 890 (by decide +kernel) rfl
theorem seX6_keep : Cond.selects RX6 yX6_keep yX6_keep ∈ TB := tb_of 891 (by decide +kernel) rfl
theorem cdX6_keep : Cond.code yX6_keep cX6_keep 2 (some .int) ∈ TB := tb_of 892 (by decide +kernel) rfl
theorem lmL_75 : Cond.methodLink RL 75 yX6_back ∈ TB := tb_of 893 (by decide +kernel) rfl
theorem niX6_back : Cond.instanceMethod yX6_back ∈ TB := tb_of 894 (by decide +kernel) rfl
theorem seX6_back : Cond.selects RX6 yX6_back yX6_back ∈ TB := tb_of 895 (by decide +kernel) rfl
theorem cdX6_back : Cond.code yX6_back cX6_back 2 (some .int) ∈ TB := tb_of 896 (by decide +kernel) rfl
theorem lmL_79 : Cond.methodLink RL 79 yX6_turn ∈ TB := tb_of 897 (by decide +kernel) rfl
theorem niX6_turn : Cond.instanceMethod yX6_turn ∈ TB := tb_of 898 (by decide +kernel) rfl
theorem seX6_turn : Cond.selects RX6 yX6_turn yX6_turn ∈ TB := tb_of 899 (by decide +kernel) rfl
theorem cdX6_turn : Cond.code yX6_turn cX6_turn 4 (some .int) ∈ TB := tb_of 900 (by decide +kernel) rfl
theorem lmX6_230 : Cond.methodLink RX6 230 yX6_turnOf ∈ TB := tb_of 901 (by decide +kernel) rfl
theorem niX6_turnOf : Cond.instanceMethod yX6_turnOf ∈ TB := tb_of 903 (by decide +kernel) rfl
theorem cdX6_turnOf : Cond.code yX6_turnOf cX6_turnOf 4 (some .int) ∈ TB := tb_of 904 (by decide +kernel) rfl
theorem lmX6_227 : Cond.methodLink RX6 227 yX6_turnOn ∈ TB := tb_of 905 (by decide +kernel) rfl
theorem niX6_turnOn : Cond.instanceMethod yX6_turnOn ∈ TB := tb_of 907 (by decide +kernel) rfl
theorem cdX6_turnOn : Cond.code yX6_turnOn cX6_turnOn 5 (some .int) ∈ TB := tb_of 908 (by decide +kernel) rfl
theorem lmL_83 : Cond.methodLink RL 83 yX6_best ∈ TB := tb_of 909 (by decide +kernel) rfl
theorem niX6_best : Cond.instanceMethod yX6_best ∈ TB := tb_of 910 (by decide +kernel) rfl
theorem seX6_best : Cond.selects RX6 yX6_best yX6_best ∈ TB := tb_of 911 (by decide +kernel) rfl
theorem cdX6_best : Cond.code yX6_best cX6_best 7 (some .int) ∈ TB := tb_of 912 (by decide +kernel) rfl
theorem lmL_87 : Cond.methodLink RL 87 yX6_widest ∈ TB := tb_of 913 (by decide +kernel) rfl
theorem niX6_widest : Cond.instanceMethod yX6_widest ∈ TB := tb_of 914 (by decide +kernel) rfl
theorem seX6_widest : Cond.selects RX6 yX6_widest yX6_widest ∈ TB := tb_of 915 (by decide +kernel) rfl
theorem cdX6_widest : Cond.code yX6_widest cX6_widest 8 (some .int) ∈ TB := tb_of 916 (by decide +kernel) rfl
theorem lmL_91 : Cond.methodLink RL 91 yX6_further ∈ TB := tb_of 917 (by decide +kernel) rfl
theorem niX6_further : Cond.instanceMethod yX6_further ∈ TB := tb_of 918 (by decide +kernel) rfl
theorem seX6_further : Cond.selects RX6 yX6_further yX6_further ∈ TB := tb_of 919 (by decide +kernel) rfl
theorem cdX6_further : Cond.code yX6_further cX6_further 4 (some .int) ∈ TB := tb_of 920 (by decide +kernel) rfl
theorem lmL_95 : Cond.methodLink RL 95 yX6_share ∈ TB := tb_of 921 (by decide +kernel) rfl
theorem niX6_share : Cond.instanceMethod yX6_share ∈ TB := tb_of 922 (by decide +kernel) rfl
theorem seX6_share : Cond.selects RX6 yX6_share yX6_share ∈ TB := tb_of 923 (by decide +kernel) rfl
theorem cdX6_share : Cond.code yX6_share cX6_share 6 (some .int) ∈ TB := tb_of 924 (by decide +kernel) rfl
theorem lmL_99 : Cond.methodLink RL 99 yX6_errands ∈ TB := tb_of 925 (by decide +kernel) rfl
theorem niX6_errands : Cond.instanceMethod yX6_errands ∈ TB := tb_of 926 (by decide +kernel) rfl
theorem seX6_errands : Cond.selects RX6 yX6_errands yX6_errands ∈ TB := tb_of 927 (by decide +kernel) rfl
theorem cdX6_errands : Cond.code yX6_errands cX6_errands 9 (some .int) ∈ TB := tb_of 928 (by decide +kernel) rfl
theorem lcX6_248 : Cond.constant RX6 248 268435456 ∈ TB := tb_of 929 (by decide +kernel) rfl
theorem lmX6_249 : Cond.methodLink RX6 249 yX6_stepsBy ∈ TB := tb_of 930 (by decide +kernel) rfl
theorem niX6_stepsBy : Cond.instanceMethod yX6_stepsBy ∈ TB := tb_of 932 (by decide +kernel) rfl
theorem cdX6_stepsBy : Cond.code yX6_stepsBy cX6_stepsBy 6 (some .int) ∈ TB := tb_of 933 (by decide +kernel) rfl
theorem lmX6_242 : Cond.methodLink RX6 242 yX6_rowOf ∈ TB := tb_of 934 (by decide +kernel) rfl
theorem niX6_rowOf : Cond.instanceMethod yX6_rowOf ∈ TB := tb_of 936 (by decide +kernel) rfl
theorem cdX6_rowOf : Cond.code yX6_rowOf cX6_rowOf 9 (some .int) ∈ TB := tb_of 937 (by decide +kernel) rfl
theorem lmX6_245 : Cond.methodLink RX6 245 yX6_errandTo ∈ TB := tb_of 938 (by decide +kernel) rfl
theorem niX6_errandTo : Cond.instanceMethod yX6_errandTo ∈ TB := tb_of 940 (by decide +kernel) rfl
theorem cdX6_errandTo : Cond.code yX6_errandTo cX6_errandTo 6 (some .int) ∈ TB := tb_of 941 (by decide +kernel) rfl
theorem lmX6_236 : Cond.methodLink RX6 236 yX6_setAside ∈ TB := tb_of 942 (by decide +kernel) rfl
theorem niX6_setAside : Cond.instanceMethod yX6_setAside ∈ TB := tb_of 944 (by decide +kernel) rfl
theorem cdX6_setAside : Cond.code yX6_setAside cX6_setAside 2 none ∈ TB := tb_of 945 (by decide +kernel) rfl
theorem lmX6_239 : Cond.methodLink RX6 239 yX6_putBack ∈ TB := tb_of 946 (by decide +kernel) rfl
theorem niX6_putBack : Cond.instanceMethod yX6_putBack ∈ TB := tb_of 948 (by decide +kernel) rfl
theorem cdX6_putBack : Cond.code yX6_putBack cX6_putBack 2 none ∈ TB := tb_of 949 (by decide +kernel) rfl
theorem lmL_103 : Cond.methodLink RL 103 yX6_slam ∈ TB := tb_of 950 (by decide +kernel) rfl
theorem niX6_slam : Cond.instanceMethod yX6_slam ∈ TB := tb_of 951 (by decide +kernel) rfl
theorem seX6_slam : Cond.selects RX6 yX6_slam yX6_slam ∈ TB := tb_of 952 (by decide +kernel) rfl
theorem cdX6_slam : Cond.code yX6_slam cX6_slam 5 (some .int) ∈ TB := tb_of 953 (by decide +kernel) rfl
theorem lmL_107 : Cond.methodLink RL 107 yX6_fire ∈ TB := tb_of 954 (by decide +kernel) rfl
theorem niX6_fire : Cond.instanceMethod yX6_fire ∈ TB := tb_of 955 (by decide +kernel) rfl
theorem seX6_fire : Cond.selects RX6 yX6_fire yX6_fire ∈ TB := tb_of 956 (by decide +kernel) rfl
theorem cdX6_fire : Cond.code yX6_fire cX6_fire 4 (some .int) ∈ TB := tb_of 957 (by decide +kernel) rfl
theorem lmX6_252 : Cond.methodLink RX6 252 yX6_areOut ∈ TB := tb_of 958 (by decide +kernel) rfl
theorem niX6_areOut : Cond.instanceMethod yX6_areOut ∈ TB := tb_of 960 (by decide +kernel) rfl
theorem cdX6_areOut : Cond.code yX6_areOut cX6_areOut 3 (some .boolean) ∈ TB := tb_of 961 (by decide +kernel) rfl
theorem lmX6_255 : Cond.methodLink RX6 255 yX6_saveFirst ∈ TB := tb_of 962 (by decide +kernel) rfl
theorem niX6_saveFirst : Cond.instanceMethod yX6_saveFirst ∈ TB := tb_of 964 (by decide +kernel) rfl
theorem cdX6_saveFirst : Cond.code yX6_saveFirst cX6_saveFirst 3 none ∈ TB := tb_of 965 (by decide +kernel) rfl
theorem lmL_111 : Cond.methodLink RL 111 yX6_seen ∈ TB := tb_of 966 (by decide +kernel) rfl
theorem niX6_seen : Cond.instanceMethod yX6_seen ∈ TB := tb_of 967 (by decide +kernel) rfl
theorem seX6_seen : Cond.selects RX6 yX6_seen yX6_seen ∈ TB := tb_of 968 (by decide +kernel) rfl
theorem cdX6_seen : Cond.code yX6_seen cX6_seen 3 (some .int) ∈ TB := tb_of 969 (by decide +kernel) rfl
theorem lmL_115 : Cond.methodLink RL 115 yX6_forget ∈ TB := tb_of 970 (by decide +kernel) rfl
theorem niX6_forget : Cond.instanceMethod yX6_forget ∈ TB := tb_of 971 (by decide +kernel) rfl
theorem seX6_forget : Cond.selects RX6 yX6_forget yX6_forget ∈ TB := tb_of 972 (by decide +kernel) rfl
theorem cdX6_forget : Cond.code yX6_forget cX6_forget 2 (some .int) ∈ TB := tb_of 973 (by decide +kernel) rfl
theorem lmL_119 : Cond.methodLink RL 119 yX6_least ∈ TB := tb_of 974 (by decide +kernel) rfl
theorem niX6_least : Cond.instanceMethod yX6_least ∈ TB := tb_of 975 (by decide +kernel) rfl
theorem seX6_least : Cond.selects RX6 yX6_least yX6_least ∈ TB := tb_of 976 (by decide +kernel) rfl
theorem cdX6_least : Cond.code yX6_least cX6_least 5 (some .int) ∈ TB := tb_of 977 (by decide +kernel) rfl
theorem lmX6_258 : Cond.methodLink RX6 258 yX6_shorter ∈ TB := tb_of 978 (by decide +kernel) rfl
theorem nsX6_shorter : Cond.static yX6_shorter ∈ TB := tb_of 979 (by decide +kernel) rfl
theorem cdX6_shorter : Cond.code yX6_shorter cX6_shorter 3 (some .int) ∈ TB := tb_of 980 (by decide +kernel) rfl
theorem lmL_123 : Cond.methodLink RL 123 yX6_count ∈ TB := tb_of 981 (by decide +kernel) rfl
theorem niX6_count : Cond.instanceMethod yX6_count ∈ TB := tb_of 982 (by decide +kernel) rfl
theorem seX6_count : Cond.selects RX6 yX6_count yX6_count ∈ TB := tb_of 983 (by decide +kernel) rfl
theorem cdX6_count : Cond.code yX6_count cX6_count 5 (some .int) ∈ TB := tb_of 984 (by decide +kernel) rfl
theorem lcL_13 : Cond.constantLong RL 13 4294967295 ∈ TB := tb_of 985 (by decide +kernel) rfl
theorem lfJ0_9 : Cond.fieldLink RJ0 9 "java/lang/String" "value" "[B" ∈ TB := tb_of 986 (by decide +kernel) rfl
theorem lfJ0_15 : Cond.fieldLink RJ0 15 "java/lang/String" "coder" "B" ∈ TB := tb_of 987 (by decide +kernel) rfl
theorem seX4_readLine : Cond.selects RX4 yX4_readLine yX4_readLine ∈ TB := tb_sel 0 (by decide +kernel) rfl
theorem seX4_nextToken : Cond.selects RX4 yX4_nextToken yX4_nextToken ∈ TB := tb_sel 1 (by decide +kernel) rfl
theorem seX4_isLetter : Cond.selects RX4 yX4_isLetter yX4_isLetter ∈ TB := tb_sel 2 (by decide +kernel) rfl
theorem seX4_isDigit : Cond.selects RX4 yX4_isDigit yX4_isDigit ∈ TB := tb_sel 3 (by decide +kernel) rfl
theorem seX4_wordHere : Cond.selects RX4 yX4_wordHere yX4_wordHere ∈ TB := tb_sel 4 (by decide +kernel) rfl
theorem seX4_isHere : Cond.selects RX4 yX4_isHere yX4_isHere ∈ TB := tb_sel 5 (by decide +kernel) rfl
theorem seX4_readHouse : Cond.selects RX4 yX4_readHouse yX4_readHouse ∈ TB := tb_sel 6 (by decide +kernel) rfl
theorem seX4_readNumber : Cond.selects RX4 yX4_readNumber yX4_readNumber ∈ TB := tb_sel 7 (by decide +kernel) rfl
theorem seX4_numberHere : Cond.selects RX4 yX4_numberHere yX4_numberHere ∈ TB := tb_sel 8 (by decide +kernel) rfl
theorem seX4_readLeaf : Cond.selects RX4 yX4_readLeaf yX4_readLeaf ∈ TB := tb_sel 9 (by decide +kernel) rfl
theorem seX4_readPut : Cond.selects RX4 yX4_readPut yX4_readPut ∈ TB := tb_sel 10 (by decide +kernel) rfl
theorem seX4_readDoor : Cond.selects RX4 yX4_readDoor yX4_readDoor ∈ TB := tb_sel 11 (by decide +kernel) rfl
theorem seX4_readPerson : Cond.selects RX4 yX4_readPerson yX4_readPerson ∈ TB := tb_sel 12 (by decide +kernel) rfl
theorem seX4_readKind : Cond.selects RX4 yX4_readKind yX4_readKind ∈ TB := tb_sel 13 (by decide +kernel) rfl
theorem seX5_isPerson : Cond.selects RX5 yX5_isPerson yX5_isPerson ∈ TB := tb_sel 14 (by decide +kernel) rfl
theorem seX2_visit : Cond.selects RX2 yX2_visit yX2_visit ∈ TB := tb_sel 15 (by decide +kernel) rfl
theorem seX2_goTo : Cond.selects RX2 yX2_goTo yX2_goTo ∈ TB := tb_sel 16 (by decide +kernel) rfl
theorem seX0_letFirstOut : Cond.selects RX0 yX0_letFirstOut yX0_letFirstOut ∈ TB := tb_sel 17 (by decide +kernel) rfl
theorem seX6_token : Cond.selects RX6 yX6_token yX6_token ∈ TB := tb_sel 18 (by decide +kernel) rfl
theorem seX6_readsLine : Cond.selects RX6 yX6_readsLine yX6_readsLine ∈ TB := tb_sel 19 (by decide +kernel) rfl
theorem seX6_wordOf : Cond.selects RX6 yX6_wordOf yX6_wordOf ∈ TB := tb_sel 20 (by decide +kernel) rfl
theorem seX6_leafWord : Cond.selects RX6 yX6_leafWord yX6_leafWord ∈ TB := tb_sel 21 (by decide +kernel) rfl
theorem seX6_isWord : Cond.selects RX6 yX6_isWord yX6_isWord ∈ TB := tb_sel 22 (by decide +kernel) rfl
theorem seX6_readsRest : Cond.selects RX6 yX6_readsRest yX6_readsRest ∈ TB := tb_sel 23 (by decide +kernel) rfl
theorem seX6_reads : Cond.selects RX6 yX6_reads yX6_reads ∈ TB := tb_sel 24 (by decide +kernel) rfl
theorem seX6_numberHere : Cond.selects RX6 yX6_numberHere yX6_numberHere ∈ TB := tb_sel 25 (by decide +kernel) rfl
theorem seX6_readsLeaf : Cond.selects RX6 yX6_readsLeaf yX6_readsLeaf ∈ TB := tb_sel 26 (by decide +kernel) rfl
theorem seX6_fitsAngle : Cond.selects RX6 yX6_fitsAngle yX6_fitsAngle ∈ TB := tb_sel 27 (by decide +kernel) rfl
theorem seX6_readNext : Cond.selects RX6 yX6_readNext yX6_readNext ∈ TB := tb_sel 28 (by decide +kernel) rfl
theorem seX6_readsPut : Cond.selects RX6 yX6_readsPut yX6_readsPut ∈ TB := tb_sel 29 (by decide +kernel) rfl
theorem seX6_isNewDoor : Cond.selects RX6 yX6_isNewDoor yX6_isNewDoor ∈ TB := tb_sel 30 (by decide +kernel) rfl
theorem seX6_goOn : Cond.selects RX6 yX6_goOn yX6_goOn ∈ TB := tb_sel 31 (by decide +kernel) rfl
theorem seX6_tell : Cond.selects RX6 yX6_tell yX6_tell ∈ TB := tb_sel 32 (by decide +kernel) rfl
theorem seX6_copy : Cond.selects RX6 yX6_copy yX6_copy ∈ TB := tb_sel 33 (by decide +kernel) rfl
theorem seX6_isLeaf : Cond.selects RX6 yX6_isLeaf yX6_isLeaf ∈ TB := tb_sel 34 (by decide +kernel) rfl
theorem seX6_width : Cond.selects RX6 yX6_width yX6_width ∈ TB := tb_sel 35 (by decide +kernel) rfl
theorem seX6_next : Cond.selects RX6 yX6_next yX6_next ∈ TB := tb_sel 36 (by decide +kernel) rfl
theorem seX6_isOpen : Cond.selects RX6 yX6_isOpen yX6_isOpen ∈ TB := tb_sel 37 (by decide +kernel) rfl
theorem seX6_inRoom : Cond.selects RX6 yX6_inRoom yX6_inRoom ∈ TB := tb_sel 38 (by decide +kernel) rfl
theorem seX6_chain : Cond.selects RX6 yX6_chain yX6_chain ∈ TB := tb_sel 39 (by decide +kernel) rfl
theorem seX6_ahead : Cond.selects RX6 yX6_ahead yX6_ahead ∈ TB := tb_sel 40 (by decide +kernel) rfl
theorem seX6_isPerson : Cond.selects RX6 yX6_isPerson yX6_isPerson ∈ TB := tb_sel 41 (by decide +kernel) rfl
theorem seX6_pushBy : Cond.selects RX6 yX6_pushBy yX6_pushBy ∈ TB := tb_sel 42 (by decide +kernel) rfl
theorem seX6_step : Cond.selects RX6 yX6_step yX6_step ∈ TB := tb_sel 43 (by decide +kernel) rfl
theorem seX6_hour : Cond.selects RX6 yX6_hour yX6_hour ∈ TB := tb_sel 44 (by decide +kernel) rfl
theorem seX6_turnOf : Cond.selects RX6 yX6_turnOf yX6_turnOf ∈ TB := tb_sel 45 (by decide +kernel) rfl
theorem seX6_turnOn : Cond.selects RX6 yX6_turnOn yX6_turnOn ∈ TB := tb_sel 46 (by decide +kernel) rfl
theorem seX6_stepsBy : Cond.selects RX6 yX6_stepsBy yX6_stepsBy ∈ TB := tb_sel 47 (by decide +kernel) rfl
theorem seX6_rowOf : Cond.selects RX6 yX6_rowOf yX6_rowOf ∈ TB := tb_sel 48 (by decide +kernel) rfl
theorem seX6_errandTo : Cond.selects RX6 yX6_errandTo yX6_errandTo ∈ TB := tb_sel 49 (by decide +kernel) rfl
theorem seX6_setAside : Cond.selects RX6 yX6_setAside yX6_setAside ∈ TB := tb_sel 50 (by decide +kernel) rfl
theorem seX6_putBack : Cond.selects RX6 yX6_putBack yX6_putBack ∈ TB := tb_sel 51 (by decide +kernel) rfl
theorem seX6_areOut : Cond.selects RX6 yX6_areOut yX6_areOut ∈ TB := tb_sel 52 (by decide +kernel) rfl
theorem seX6_saveFirst : Cond.selects RX6 yX6_saveFirst yX6_saveFirst ∈ TB := tb_sel 53 (by decide +kernel) rfl
theorem knX5_init : Kn mX5_init 0 := ⟨cdX5_init, nzX5, by decide +kernel, by decide +kernel, by decide +kernel, by decide⟩
theorem knX1_init : Kn mX1_init 0 := ⟨cdX1_init, nzX1, by decide +kernel, by decide +kernel, by decide +kernel, by decide⟩
theorem knX4_init : Kn mX4_init 0 := ⟨cdX4_init, nzX4, by decide +kernel, by decide +kernel, by decide +kernel, by decide⟩
theorem knX0_init : Kn mX0_init 1 := ⟨cdX0_init, nzX0, by decide +kernel, by decide +kernel, by decide +kernel, by decide⟩
theorem knX2_init : Kn mX2_init 1 := ⟨cdX2_init, nzX2, by decide +kernel, by decide +kernel, by decide +kernel, by decide⟩
theorem knX3_init : Kn mX3_init 0 := ⟨cdX3_init, nzX3, by decide +kernel, by decide +kernel, by decide +kernel, by decide⟩
theorem knX1_begin : Kn mX1_begin 1 := ⟨cdX1_begin, nzX1, by decide +kernel, by decide +kernel, by decide +kernel, by decide⟩
theorem knX0_begin : Kn mX0_begin 0 := ⟨cdX0_begin, nzX0, by decide +kernel, by decide +kernel, by decide +kernel, by decide⟩
theorem knX5_write : Kn mX5_write 2 := ⟨cdX5_write, nzX5, by decide +kernel, by decide +kernel, by decide +kernel, by decide⟩
theorem knX5_erase : Kn mX5_erase 0 := ⟨cdX5_erase, nzX5, by decide +kernel, by decide +kernel, by decide +kernel, by decide⟩
theorem knX5_fault : Kn mX5_fault 0 := ⟨cdX5_fault, nzX5, by decide +kernel, by decide +kernel, by decide +kernel, by decide⟩
theorem knX4_read : Kn mX4_read 1 := ⟨cdX4_read, nzX4, by decide +kernel, by decide +kernel, by decide +kernel, by decide⟩
theorem knX1_copy : Kn mX1_copy 1 := ⟨cdX1_copy, nzX1, by decide +kernel, by decide +kernel, by decide +kernel, by decide⟩
theorem knX4_readLine : Kn mX4_readLine 0 := ⟨cdX4_readLine, nzX4, by decide +kernel, by decide +kernel, by decide +kernel, by decide⟩
theorem knX4_nextToken : Kn mX4_nextToken 0 := ⟨cdX4_nextToken, nzX4, by decide +kernel, by decide +kernel, by decide +kernel, by decide⟩
theorem knX4_isLetter : Kn mX4_isLetter 1 := ⟨cdX4_isLetter, nzX4, by decide +kernel, by decide +kernel, by decide +kernel, by decide⟩
theorem knX4_isDigit : Kn mX4_isDigit 1 := ⟨cdX4_isDigit, nzX4, by decide +kernel, by decide +kernel, by decide +kernel, by decide⟩
theorem knX4_wordHere : Kn mX4_wordHere 0 := ⟨cdX4_wordHere, nzX4, by decide +kernel, by decide +kernel, by decide +kernel, by decide⟩
theorem knX4_spelling : Kn mX4_spelling 1 := ⟨cdX4_spelling, nzX4, by decide +kernel, by decide +kernel, by decide +kernel, by decide⟩
theorem knX4_isHere : Kn mX4_isHere 1 := ⟨cdX4_isHere, nzX4, by decide +kernel, by decide +kernel, by decide +kernel, by decide⟩
theorem knJ0_length_8abf5 : Kn mJ0_length_8abf5 0 := ⟨cdJ0_length_8abf5, nzJ0, by decide +kernel, by decide +kernel, by decide +kernel, by decide⟩
theorem knJ0_coder_7d493 : Kn mJ0_coder_7d493 0 := ⟨cdJ0_coder_7d493, nzJ0, by decide +kernel, by decide +kernel, by decide +kernel, by decide⟩
theorem knJ0_charAt_5068e : Kn mJ0_charAt_5068e 1 := ⟨cdJ0_charAt_5068e, nzJ0, by decide +kernel, by decide +kernel, by decide +kernel, by decide⟩
theorem knJ0_isLatin1_aae02 : Kn mJ0_isLatin1_aae02 0 := ⟨cdJ0_isLatin1_aae02, nzJ0, by decide +kernel, by decide +kernel, by decide +kernel, by decide⟩
theorem knJ1_charAt_3b067 : Kn mJ1_charAt_3b067 2 := ⟨cdJ1_charAt_3b067, nzJ1, by decide +kernel, by decide +kernel, by decide +kernel, by decide⟩
theorem knJ0_checkIndex_df160 : Kn mJ0_checkIndex_df160 2 := ⟨cdJ0_checkIndex_df160, nzJ0, by decide +kernel, by decide +kernel, by decide +kernel, by decide⟩
theorem knJ3_checkIndex_8e157 : Kn mJ3_checkIndex_8e157 3 := ⟨cdJ3_checkIndex_8e157, nzJ3, by decide +kernel, by decide +kernel, by decide +kernel, by decide⟩
theorem knJ2_charAt_3b067 : Kn mJ2_charAt_3b067 2 := ⟨cdJ2_charAt_3b067, nzJ2, by decide +kernel, by decide +kernel, by decide +kernel, by decide⟩
theorem knJ2_checkIndex_2214a : Kn mJ2_checkIndex_2214a 2 := ⟨cdJ2_checkIndex_2214a, nzJ2, by decide +kernel, by decide +kernel, by decide +kernel, by decide⟩
theorem knJ2_length_9d52b : Kn mJ2_length_9d52b 1 := ⟨cdJ2_length_9d52b, nzJ2, by decide +kernel, by decide +kernel, by decide +kernel, by decide⟩
theorem knJ2_getChar_3b067 : Kn mJ2_getChar_3b067 2 := ⟨cdJ2_getChar_3b067, nzJ2, by decide +kernel, by decide +kernel, by decide +kernel, by decide⟩
theorem knX4_readHouse : Kn mX4_readHouse 0 := ⟨cdX4_readHouse, nzX4, by decide +kernel, by decide +kernel, by decide +kernel, by decide⟩
theorem knX4_readNumber : Kn mX4_readNumber 2 := ⟨cdX4_readNumber, nzX4, by decide +kernel, by decide +kernel, by decide +kernel, by decide⟩
theorem knX4_numberHere : Kn mX4_numberHere 0 := ⟨cdX4_numberHere, nzX4, by decide +kernel, by decide +kernel, by decide +kernel, by decide⟩
theorem knX4_readLeaf : Kn mX4_readLeaf 0 := ⟨cdX4_readLeaf, nzX4, by decide +kernel, by decide +kernel, by decide +kernel, by decide⟩
theorem knX1_canStandAt : Kn mX1_canStandAt 2 := ⟨cdX1_canStandAt, nzX1, by decide +kernel, by decide +kernel, by decide +kernel, by decide⟩
theorem knX1_before : Kn mX1_before 1 := ⟨cdX1_before, nzX1, by decide +kernel, by decide +kernel, by decide +kernel, by decide⟩
theorem knX1_toldWidth : Kn mX1_toldWidth 1 := ⟨cdX1_toldWidth, nzX1, by decide +kernel, by decide +kernel, by decide +kernel, by decide⟩
theorem knX1_next : Kn mX1_next 1 := ⟨cdX1_next, nzX1, by decide +kernel, by decide +kernel, by decide +kernel, by decide⟩
theorem knX5_between : Kn mX5_between 2 := ⟨cdX5_between, nzX5, by decide +kernel, by decide +kernel, by decide +kernel, by decide⟩
theorem knX1_need : Kn mX1_need 1 := ⟨cdX1_need, nzX1, by decide +kernel, by decide +kernel, by decide +kernel, by decide⟩
theorem knX4_readPut : Kn mX4_readPut 0 := ⟨cdX4_readPut, nzX4, by decide +kernel, by decide +kernel, by decide +kernel, by decide⟩
theorem knX4_readDoor : Kn mX4_readDoor 0 := ⟨cdX4_readDoor, nzX4, by decide +kernel, by decide +kernel, by decide +kernel, by decide⟩
theorem knX1_hasDoorAt : Kn mX1_hasDoorAt 1 := ⟨cdX1_hasDoorAt, nzX1, by decide +kernel, by decide +kernel, by decide +kernel, by decide⟩
theorem knX4_readPerson : Kn mX4_readPerson 0 := ⟨cdX4_readPerson, nzX4, by decide +kernel, by decide +kernel, by decide +kernel, by decide⟩
theorem knX4_readKind : Kn mX4_readKind 1 := ⟨cdX4_readKind, nzX4, by decide +kernel, by decide +kernel, by decide +kernel, by decide⟩
theorem knX5_house : Kn mX5_house 0 := ⟨cdX5_house, nzX5, by decide +kernel, by decide +kernel, by decide +kernel, by decide⟩
theorem knX5_leaf : Kn mX5_leaf 2 := ⟨cdX5_leaf, nzX5, by decide +kernel, by decide +kernel, by decide +kernel, by decide⟩
theorem knX1_has : Kn mX1_has 1 := ⟨cdX1_has, nzX1, by decide +kernel, by decide +kernel, by decide +kernel, by decide⟩
theorem knX5_room : Kn mX5_room 2 := ⟨cdX5_room, nzX5, by decide +kernel, by decide +kernel, by decide +kernel, by decide⟩
theorem knX0_width : Kn mX0_width 1 := ⟨cdX0_width, nzX0, by decide +kernel, by decide +kernel, by decide +kernel, by decide⟩
theorem knX0_isOpen : Kn mX0_isOpen 1 := ⟨cdX0_isOpen, nzX0, by decide +kernel, by decide +kernel, by decide +kernel, by decide⟩
theorem knX0_peopleAt : Kn mX0_peopleAt 1 := ⟨cdX0_peopleAt, nzX0, by decide +kernel, by decide +kernel, by decide +kernel, by decide⟩
theorem knX5_as : Kn mX5_as 2 := ⟨cdX5_as, nzX5, by decide +kernel, by decide +kernel, by decide +kernel, by decide⟩
theorem knX1_isTakenAs : Kn mX1_isTakenAs 2 := ⟨cdX1_isTakenAs, nzX1, by decide +kernel, by decide +kernel, by decide +kernel, by decide⟩
theorem knX0_movers : Kn mX0_movers 2 := ⟨cdX0_movers, nzX0, by decide +kernel, by decide +kernel, by decide +kernel, by decide⟩
theorem knX1_roomBeside : Kn mX1_roomBeside 2 := ⟨cdX1_roomBeside, nzX1, by decide +kernel, by decide +kernel, by decide +kernel, by decide⟩
theorem knX1_leafBeside : Kn mX1_leafBeside 2 := ⟨cdX1_leafBeside, nzX1, by decide +kernel, by decide +kernel, by decide +kernel, by decide⟩
theorem knX5_person : Kn mX5_person 1 := ⟨cdX5_person, nzX5, by decide +kernel, by decide +kernel, by decide +kernel, by decide⟩
theorem knX5_isPerson : Kn mX5_isPerson 1 := ⟨cdX5_isPerson, nzX5, by decide +kernel, by decide +kernel, by decide +kernel, by decide⟩
theorem knX5_push : Kn mX5_push 3 := ⟨cdX5_push, nzX5, by decide +kernel, by decide +kernel, by decide +kernel, by decide⟩
theorem knX5_isSide : Kn mX5_isSide 1 := ⟨cdX5_isSide, nzX5, by decide +kernel, by decide +kernel, by decide +kernel, by decide⟩
theorem knX0_step : Kn mX0_step 2 := ⟨cdX0_step, nzX0, by decide +kernel, by decide +kernel, by decide +kernel, by decide⟩
theorem knX0_stepped : Kn mX0_stepped 2 := ⟨cdX0_stepped, nzX0, by decide +kernel, by decide +kernel, by decide +kernel, by decide⟩
theorem knX5_hours : Kn mX5_hours 1 := ⟨cdX5_hours, nzX5, by decide +kernel, by decide +kernel, by decide +kernel, by decide⟩
theorem knX0_passHour : Kn mX0_passHour 0 := ⟨cdX0_passHour, nzX0, by decide +kernel, by decide +kernel, by decide +kernel, by decide⟩
theorem knX5_leave : Kn mX5_leave 1 := ⟨cdX5_leave, nzX5, by decide +kernel, by decide +kernel, by decide +kernel, by decide⟩
theorem knX5_enter : Kn mX5_enter 2 := ⟨cdX5_enter, nzX5, by decide +kernel, by decide +kernel, by decide +kernel, by decide⟩
theorem knJ6_bitCount_0f7a4 : Kn mJ6_bitCount_0f7a4 1 := ⟨cdJ6_bitCount_0f7a4, nzJ6, by decide +kernel, by decide +kernel, by decide +kernel, by decide⟩
theorem knX5_keep : Kn mX5_keep 1 := ⟨cdX5_keep, nzX5, by decide +kernel, by decide +kernel, by decide +kernel, by decide⟩
theorem knX0_copy : Kn mX0_copy 1 := ⟨cdX0_copy, nzX0, by decide +kernel, by decide +kernel, by decide +kernel, by decide⟩
theorem knX5_back : Kn mX5_back 1 := ⟨cdX5_back, nzX5, by decide +kernel, by decide +kernel, by decide +kernel, by decide⟩
theorem knX5_turn : Kn mX5_turn 3 := ⟨cdX5_turn, nzX5, by decide +kernel, by decide +kernel, by decide +kernel, by decide⟩
theorem knX0_goTillOpen : Kn mX0_goTillOpen 4 := ⟨cdX0_goTillOpen, nzX0, by decide +kernel, by decide +kernel, by decide +kernel, by decide⟩
theorem knX5_best : Kn mX5_best 2 := ⟨cdX5_best, nzX5, by decide +kernel, by decide +kernel, by decide +kernel, by decide⟩
theorem knX5_widest : Kn mX5_widest 1 := ⟨cdX5_widest, nzX5, by decide +kernel, by decide +kernel, by decide +kernel, by decide⟩
theorem knX0_stretched : Kn mX0_stretched 1 := ⟨cdX0_stretched, nzX0, by decide +kernel, by decide +kernel, by decide +kernel, by decide⟩
theorem knX0_slack : Kn mX0_slack 1 := ⟨cdX0_slack, nzX0, by decide +kernel, by decide +kernel, by decide +kernel, by decide⟩
theorem knX5_further : Kn mX5_further 1 := ⟨cdX5_further, nzX5, by decide +kernel, by decide +kernel, by decide +kernel, by decide⟩
theorem knX5_share : Kn mX5_share 2 := ⟨cdX5_share, nzX5, by decide +kernel, by decide +kernel, by decide +kernel, by decide⟩
theorem knX5_errands : Kn mX5_errands 3 := ⟨cdX5_errands, nzX5, by decide +kernel, by decide +kernel, by decide +kernel, by decide⟩
theorem knX2_begin : Kn mX2_begin 2 := ⟨cdX2_begin, nzX2, by decide +kernel, by decide +kernel, by decide +kernel, by decide⟩
theorem knX2_visit : Kn mX2_visit 3 := ⟨cdX2_visit, nzX2, by decide +kernel, by decide +kernel, by decide +kernel, by decide⟩
theorem knX2_goTo : Kn mX2_goTo 3 := ⟨cdX2_goTo, nzX2, by decide +kernel, by decide +kernel, by decide +kernel, by decide⟩
theorem knX5_slam : Kn mX5_slam 3 := ⟨cdX5_slam, nzX5, by decide +kernel, by decide +kernel, by decide +kernel, by decide⟩
theorem knX5_fire : Kn mX5_fire 2 := ⟨cdX5_fire, nzX5, by decide +kernel, by decide +kernel, by decide +kernel, by decide⟩
theorem knX0_areAllOut : Kn mX0_areAllOut 0 := ⟨cdX0_areAllOut, nzX0, by decide +kernel, by decide +kernel, by decide +kernel, by decide⟩
theorem knX0_letOut : Kn mX0_letOut 0 := ⟨cdX0_letOut, nzX0, by decide +kernel, by decide +kernel, by decide +kernel, by decide⟩
theorem knX0_letFirstOut : Kn mX0_letFirstOut 1 := ⟨cdX0_letFirstOut, nzX0, by decide +kernel, by decide +kernel, by decide +kernel, by decide⟩
theorem knX5_seen : Kn mX5_seen 2 := ⟨cdX5_seen, nzX5, by decide +kernel, by decide +kernel, by decide +kernel, by decide⟩
theorem knX5_forget : Kn mX5_forget 0 := ⟨cdX5_forget, nzX5, by decide +kernel, by decide +kernel, by decide +kernel, by decide⟩
theorem knX5_least : Kn mX5_least 1 := ⟨cdX5_least, nzX5, by decide +kernel, by decide +kernel, by decide +kernel, by decide⟩
theorem knX3_way : Kn mX3_way 3 := ⟨cdX3_way, nzX3, by decide +kernel, by decide +kernel, by decide +kernel, by decide⟩
theorem knX3_shorter : Kn mX3_shorter 2 := ⟨cdX3_shorter, nzX3, by decide +kernel, by decide +kernel, by decide +kernel, by decide⟩
theorem knX5_count : Kn mX5_count 1 := ⟨cdX5_count, nzX5, by decide +kernel, by decide +kernel, by decide +kernel, by decide⟩
theorem knX0_openRooms : Kn mX0_openRooms 0 := ⟨cdX0_openRooms, nzX0, by decide +kernel, by decide +kernel, by decide +kernel, by decide⟩
theorem knX6_init : Kn mX6_init 0 := ⟨cdX6_init, nzX6, by decide +kernel, by decide +kernel, by decide +kernel, by decide⟩
theorem knX6_write : Kn mX6_write 2 := ⟨cdX6_write, nzX6, by decide +kernel, by decide +kernel, by decide +kernel, by decide⟩
theorem knX6_in : Kn mX6_in 3 := ⟨cdX6_in, nzX6, by decide +kernel, by decide +kernel, by decide +kernel, by decide⟩
theorem knX6_erase : Kn mX6_erase 0 := ⟨cdX6_erase, nzX6, by decide +kernel, by decide +kernel, by decide +kernel, by decide⟩
theorem knX6_fault : Kn mX6_fault 0 := ⟨cdX6_fault, nzX6, by decide +kernel, by decide +kernel, by decide +kernel, by decide⟩
theorem knX6_token : Kn mX6_token 0 := ⟨cdX6_token, nzX6, by decide +kernel, by decide +kernel, by decide +kernel, by decide⟩
theorem knX6_sort : Kn mX6_sort 1 := ⟨cdX6_sort, nzX6, by decide +kernel, by decide +kernel, by decide +kernel, by decide⟩
theorem knX6_readsLine : Kn mX6_readsLine 0 := ⟨cdX6_readsLine, nzX6, by decide +kernel, by decide +kernel, by decide +kernel, by decide⟩
theorem knX6_wordOf : Kn mX6_wordOf 0 := ⟨cdX6_wordOf, nzX6, by decide +kernel, by decide +kernel, by decide +kernel, by decide⟩
theorem knX6_leafWord : Kn mX6_leafWord 0 := ⟨cdX6_leafWord, nzX6, by decide +kernel, by decide +kernel, by decide +kernel, by decide⟩
theorem knX6_isWord : Kn mX6_isWord 2 := ⟨cdX6_isWord, nzX6, by decide +kernel, by decide +kernel, by decide +kernel, by decide⟩
theorem knX6_readsRest : Kn mX6_readsRest 1 := ⟨cdX6_readsRest, nzX6, by decide +kernel, by decide +kernel, by decide +kernel, by decide⟩
theorem knX6_reads : Kn mX6_reads 3 := ⟨cdX6_reads, nzX6, by decide +kernel, by decide +kernel, by decide +kernel, by decide⟩
theorem knX6_numberHere : Kn mX6_numberHere 0 := ⟨cdX6_numberHere, nzX6, by decide +kernel, by decide +kernel, by decide +kernel, by decide⟩
theorem knX6_readsLeaf : Kn mX6_readsLeaf 0 := ⟨cdX6_readsLeaf, nzX6, by decide +kernel, by decide +kernel, by decide +kernel, by decide⟩
theorem knX6_fitsAngle : Kn mX6_fitsAngle 2 := ⟨cdX6_fitsAngle, nzX6, by decide +kernel, by decide +kernel, by decide +kernel, by decide⟩
theorem knX6_readNext : Kn mX6_readNext 1 := ⟨cdX6_readNext, nzX6, by decide +kernel, by decide +kernel, by decide +kernel, by decide⟩
theorem knX6_on : Kn mX6_on 2 := ⟨cdX6_on, nzX6, by decide +kernel, by decide +kernel, by decide +kernel, by decide⟩
theorem knX6_readsPut : Kn mX6_readsPut 0 := ⟨cdX6_readsPut, nzX6, by decide +kernel, by decide +kernel, by decide +kernel, by decide⟩
theorem knX6_isNewDoor : Kn mX6_isNewDoor 1 := ⟨cdX6_isNewDoor, nzX6, by decide +kernel, by decide +kernel, by decide +kernel, by decide⟩
theorem knX6_goOn : Kn mX6_goOn 3 := ⟨cdX6_goOn, nzX6, by decide +kernel, by decide +kernel, by decide +kernel, by decide⟩
theorem knX6_house : Kn mX6_house 0 := ⟨cdX6_house, nzX6, by decide +kernel, by decide +kernel, by decide +kernel, by decide⟩
theorem knX6_tell : Kn mX6_tell 1 := ⟨cdX6_tell, nzX6, by decide +kernel, by decide +kernel, by decide +kernel, by decide⟩
theorem knX6_copy : Kn mX6_copy 2 := ⟨cdX6_copy, nzX6, by decide +kernel, by decide +kernel, by decide +kernel, by decide⟩
theorem knX6_leaf : Kn mX6_leaf 2 := ⟨cdX6_leaf, nzX6, by decide +kernel, by decide +kernel, by decide +kernel, by decide⟩
theorem knX6_isLeaf : Kn mX6_isLeaf 1 := ⟨cdX6_isLeaf, nzX6, by decide +kernel, by decide +kernel, by decide +kernel, by decide⟩
theorem knX6_room : Kn mX6_room 2 := ⟨cdX6_room, nzX6, by decide +kernel, by decide +kernel, by decide +kernel, by decide⟩
theorem knX6_width : Kn mX6_width 2 := ⟨cdX6_width, nzX6, by decide +kernel, by decide +kernel, by decide +kernel, by decide⟩
theorem knX6_next : Kn mX6_next 1 := ⟨cdX6_next, nzX6, by decide +kernel, by decide +kernel, by decide +kernel, by decide⟩
theorem knX6_isOpen : Kn mX6_isOpen 2 := ⟨cdX6_isOpen, nzX6, by decide +kernel, by decide +kernel, by decide +kernel, by decide⟩
theorem knX6_inRoom : Kn mX6_inRoom 2 := ⟨cdX6_inRoom, nzX6, by decide +kernel, by decide +kernel, by decide +kernel, by decide⟩
theorem knX6_as : Kn mX6_as 2 := ⟨cdX6_as, nzX6, by decide +kernel, by decide +kernel, by decide +kernel, by decide⟩
theorem knX6_chain : Kn mX6_chain 3 := ⟨cdX6_chain, nzX6, by decide +kernel, by decide +kernel, by decide +kernel, by decide⟩
theorem knX6_ahead : Kn mX6_ahead 1 := ⟨cdX6_ahead, nzX6, by decide +kernel, by decide +kernel, by decide +kernel, by decide⟩
theorem knX6_person : Kn mX6_person 1 := ⟨cdX6_person, nzX6, by decide +kernel, by decide +kernel, by decide +kernel, by decide⟩
theorem knX6_isPerson : Kn mX6_isPerson 1 := ⟨cdX6_isPerson, nzX6, by decide +kernel, by decide +kernel, by decide +kernel, by decide⟩
theorem knX6_push : Kn mX6_push 3 := ⟨cdX6_push, nzX6, by decide +kernel, by decide +kernel, by decide +kernel, by decide⟩
theorem knX6_isSide : Kn mX6_isSide 1 := ⟨cdX6_isSide, nzX6, by decide +kernel, by decide +kernel, by decide +kernel, by decide⟩
theorem knX6_pushBy : Kn mX6_pushBy 4 := ⟨cdX6_pushBy, nzX6, by decide +kernel, by decide +kernel, by decide +kernel, by decide⟩
theorem knX6_step : Kn mX6_step 3 := ⟨cdX6_step, nzX6, by decide +kernel, by decide +kernel, by decide +kernel, by decide⟩
theorem knX6_has : Kn mX6_has 2 := ⟨cdX6_has, nzX6, by decide +kernel, by decide +kernel, by decide +kernel, by decide⟩
theorem knX6_hours : Kn mX6_hours 1 := ⟨cdX6_hours, nzX6, by decide +kernel, by decide +kernel, by decide +kernel, by decide⟩
theorem knX6_hour : Kn mX6_hour 0 := ⟨cdX6_hour, nzX6, by decide +kernel, by decide +kernel, by decide +kernel, by decide⟩
theorem knX6_leave : Kn mX6_leave 1 := ⟨cdX6_leave, nzX6, by decide +kernel, by decide +kernel, by decide +kernel, by decide⟩
theorem knX6_enter : Kn mX6_enter 2 := ⟨cdX6_enter, nzX6, by decide +kernel, by decide +kernel, by decide +kernel, by decide⟩
theorem knX6_bits : Kn mX6_bits 1 := ⟨cdX6_bits, nzX6, by decide +kernel, by decide +kernel, by decide +kernel, by decide⟩
theorem knX6_keep : Kn mX6_keep 1 := ⟨cdX6_keep, nzX6, by decide +kernel, by decide +kernel, by decide +kernel, by decide⟩
theorem knX6_back : Kn mX6_back 1 := ⟨cdX6_back, nzX6, by decide +kernel, by decide +kernel, by decide +kernel, by decide⟩
theorem knX6_turn : Kn mX6_turn 3 := ⟨cdX6_turn, nzX6, by decide +kernel, by decide +kernel, by decide +kernel, by decide⟩
theorem knX6_turnOf : Kn mX6_turnOf 3 := ⟨cdX6_turnOf, nzX6, by decide +kernel, by decide +kernel, by decide +kernel, by decide⟩
theorem knX6_turnOn : Kn mX6_turnOn 3 := ⟨cdX6_turnOn, nzX6, by decide +kernel, by decide +kernel, by decide +kernel, by decide⟩
theorem knX6_best : Kn mX6_best 2 := ⟨cdX6_best, nzX6, by decide +kernel, by decide +kernel, by decide +kernel, by decide⟩
theorem knX6_widest : Kn mX6_widest 1 := ⟨cdX6_widest, nzX6, by decide +kernel, by decide +kernel, by decide +kernel, by decide⟩
theorem knX6_further : Kn mX6_further 1 := ⟨cdX6_further, nzX6, by decide +kernel, by decide +kernel, by decide +kernel, by decide⟩
theorem knX6_share : Kn mX6_share 2 := ⟨cdX6_share, nzX6, by decide +kernel, by decide +kernel, by decide +kernel, by decide⟩
theorem knX6_errands : Kn mX6_errands 3 := ⟨cdX6_errands, nzX6, by decide +kernel, by decide +kernel, by decide +kernel, by decide⟩
theorem knX6_stepsBy : Kn mX6_stepsBy 2 := ⟨cdX6_stepsBy, nzX6, by decide +kernel, by decide +kernel, by decide +kernel, by decide⟩
theorem knX6_rowOf : Kn mX6_rowOf 2 := ⟨cdX6_rowOf, nzX6, by decide +kernel, by decide +kernel, by decide +kernel, by decide⟩
theorem knX6_errandTo : Kn mX6_errandTo 2 := ⟨cdX6_errandTo, nzX6, by decide +kernel, by decide +kernel, by decide +kernel, by decide⟩
theorem knX6_setAside : Kn mX6_setAside 0 := ⟨cdX6_setAside, nzX6, by decide +kernel, by decide +kernel, by decide +kernel, by decide⟩
theorem knX6_putBack : Kn mX6_putBack 0 := ⟨cdX6_putBack, nzX6, by decide +kernel, by decide +kernel, by decide +kernel, by decide⟩
theorem knX6_slam : Kn mX6_slam 3 := ⟨cdX6_slam, nzX6, by decide +kernel, by decide +kernel, by decide +kernel, by decide⟩
theorem knX6_fire : Kn mX6_fire 2 := ⟨cdX6_fire, nzX6, by decide +kernel, by decide +kernel, by decide +kernel, by decide⟩
theorem knX6_areOut : Kn mX6_areOut 0 := ⟨cdX6_areOut, nzX6, by decide +kernel, by decide +kernel, by decide +kernel, by decide⟩
theorem knX6_saveFirst : Kn mX6_saveFirst 0 := ⟨cdX6_saveFirst, nzX6, by decide +kernel, by decide +kernel, by decide +kernel, by decide⟩
theorem knX6_seen : Kn mX6_seen 2 := ⟨cdX6_seen, nzX6, by decide +kernel, by decide +kernel, by decide +kernel, by decide⟩
theorem knX6_forget : Kn mX6_forget 0 := ⟨cdX6_forget, nzX6, by decide +kernel, by decide +kernel, by decide +kernel, by decide⟩
theorem knX6_least : Kn mX6_least 1 := ⟨cdX6_least, nzX6, by decide +kernel, by decide +kernel, by decide +kernel, by decide⟩
theorem knX6_shorter : Kn mX6_shorter 2 := ⟨cdX6_shorter, nzX6, by decide +kernel, by decide +kernel, by decide +kernel, by decide⟩
theorem knX6_count : Kn mX6_count 1 := ⟨cdX6_count, nzX6, by decide +kernel, by decide +kernel, by decide +kernel, by decide⟩
theorem inX0 : ∀ w ∈ u_ws RX0 TX0 4, w ∈ TB := by decide +kernel
theorem inX1 : ∀ w ∈ u_ws RX1 TX1 8, w ∈ TB := by decide +kernel
theorem inX2 : ∀ w ∈ u_ws RX2 TX2 7, w ∈ TB := by decide +kernel
theorem inX3 : ∀ w ∈ u_ws RX3 TX3 3, w ∈ TB := by decide +kernel
theorem inX4 : ∀ w ∈ u_ws RX4 TX4 7, w ∈ TB := by decide +kernel
theorem inX5 : ∀ w ∈ u_ws RX5 TX5 8, w ∈ TB := by decide +kernel
theorem inX6 : ∀ w ∈ u_ws RX6 TX6 26, w ∈ TB := by decide +kernel
end
section
theorem dX6_init_0 : decode cX6_init 0 = .ok (.aload_n 0, 1) := by decide +kernel
theorem dX6_init_1 : decode cX6_init 1 = .ok (.invokespecial 1, 3) := by decide +kernel
theorem dX6_init_4 : decode cX6_init 4 = .ok (.aload_n 0, 1) := by decide +kernel
theorem dX6_init_5 : decode cX6_init 5 = .ok (.bipush 70, 2) := by decide +kernel
theorem dX6_init_7 : decode cX6_init 7 = .ok (.newarray .int, 2) := by decide +kernel
theorem dX6_init_9 : decode cX6_init 9 = .ok (.putfield 7, 3) := by decide +kernel
theorem dX6_init_12 : decode cX6_init 12 = .ok (.aload_n 0, 1) := by decide +kernel
theorem dX6_init_13 : decode cX6_init 13 = .ok (.iconst 2, 1) := by decide +kernel
theorem dX6_init_14 : decode cX6_init 14 = .ok (.newarray .boolean, 2) := by decide +kernel
theorem dX6_init_16 : decode cX6_init 16 = .ok (.putfield 13, 3) := by decide +kernel
theorem dX6_init_19 : decode cX6_init 19 = .ok (.aload_n 0, 1) := by decide +kernel
theorem dX6_init_20 : decode cX6_init 20 = .ok (.sipush 200, 3) := by decide +kernel
theorem dX6_init_23 : decode cX6_init 23 = .ok (.newarray .int, 2) := by decide +kernel
theorem dX6_init_25 : decode cX6_init 25 = .ok (.putfield 17, 3) := by decide +kernel
theorem dX6_init_28 : decode cX6_init 28 = .ok (.aload_n 0, 1) := by decide +kernel
theorem dX6_init_29 : decode cX6_init 29 = .ok (.bipush 36, 2) := by decide +kernel
theorem dX6_init_31 : decode cX6_init 31 = .ok (.newarray .int, 2) := by decide +kernel
theorem dX6_init_33 : decode cX6_init 33 = .ok (.putfield 20, 3) := by decide +kernel
theorem dX6_init_36 : decode cX6_init 36 = .ok (.aload_n 0, 1) := by decide +kernel
theorem dX6_init_37 : decode cX6_init 37 = .ok (.iconst 4, 1) := by decide +kernel
theorem dX6_init_38 : decode cX6_init 38 = .ok (.putfield 23, 3) := by decide +kernel
theorem dX6_init_41 : decode cX6_init 41 = .ok (.aload_n 0, 1) := by decide +kernel
theorem dX6_init_42 : decode cX6_init 42 = .ok (.bipush 8, 2) := by decide +kernel
theorem dX6_init_44 : decode cX6_init 44 = .ok (.newarray .int, 2) := by decide +kernel
theorem dX6_init_46 : decode cX6_init 46 = .ok (.putfield 27, 3) := by decide +kernel
theorem dX6_init_49 : decode cX6_init 49 = .ok (.aload_n 0, 1) := by decide +kernel
theorem dX6_init_50 : decode cX6_init 50 = .ok (.bipush 8, 2) := by decide +kernel
theorem dX6_init_52 : decode cX6_init 52 = .ok (.newarray .int, 2) := by decide +kernel
theorem dX6_init_54 : decode cX6_init 54 = .ok (.putfield 30, 3) := by decide +kernel
theorem dX6_init_57 : decode cX6_init 57 = .ok (.aload_n 0, 1) := by decide +kernel
theorem dX6_init_58 : decode cX6_init 58 = .ok (.iconst 3, 1) := by decide +kernel
theorem dX6_init_59 : decode cX6_init 59 = .ok (.newarray .int, 2) := by decide +kernel
theorem dX6_init_61 : decode cX6_init 61 = .ok (.putfield 33, 3) := by decide +kernel
theorem dX6_init_64 : decode cX6_init 64 = .ok (.aload_n 0, 1) := by decide +kernel
theorem dX6_init_65 : decode cX6_init 65 = .ok (.bipush 8, 2) := by decide +kernel
theorem dX6_init_67 : decode cX6_init 67 = .ok (.newarray .int, 2) := by decide +kernel
theorem dX6_init_69 : decode cX6_init 69 = .ok (.putfield 36, 3) := by decide +kernel
theorem dX6_init_72 : decode cX6_init 72 = .ok (.aload_n 0, 1) := by decide +kernel
theorem dX6_init_73 : decode cX6_init 73 = .ok (.bipush 8, 2) := by decide +kernel
theorem dX6_init_75 : decode cX6_init 75 = .ok (.newarray .int, 2) := by decide +kernel
theorem dX6_init_77 : decode cX6_init 77 = .ok (.putfield 39, 3) := by decide +kernel
theorem dX6_init_80 : decode cX6_init 80 = .ok (.aload_n 0, 1) := by decide +kernel
theorem dX6_init_81 : decode cX6_init 81 = .ok (.iconst 3, 1) := by decide +kernel
theorem dX6_init_82 : decode cX6_init 82 = .ok (.newarray .int, 2) := by decide +kernel
theorem dX6_init_84 : decode cX6_init 84 = .ok (.putfield 42, 3) := by decide +kernel
theorem dX6_init_87 : decode cX6_init 87 = .ok (.aload_n 0, 1) := by decide +kernel
theorem dX6_init_88 : decode cX6_init 88 = .ok (.iconst 5, 1) := by decide +kernel
theorem dX6_init_89 : decode cX6_init 89 = .ok (.newarray .int, 2) := by decide +kernel
theorem dX6_init_91 : decode cX6_init 91 = .ok (.putfield 45, 3) := by decide +kernel
theorem dX6_init_94 : decode cX6_init 94 = .ok (.aload_n 0, 1) := by decide +kernel
theorem dX6_init_95 : decode cX6_init 95 = .ok (.bipush 8, 2) := by decide +kernel
theorem dX6_init_97 : decode cX6_init 97 = .ok (.newarray .int, 2) := by decide +kernel
theorem dX6_init_99 : decode cX6_init 99 = .ok (.putfield 48, 3) := by decide +kernel
theorem dX6_init_102 : decode cX6_init 102 = .ok (.aload_n 0, 1) := by decide +kernel
theorem dX6_init_103 : decode cX6_init 103 = .ok (.bipush 16, 2) := by decide +kernel
theorem dX6_init_105 : decode cX6_init 105 = .ok (.newarray .int, 2) := by decide +kernel
theorem dX6_init_107 : decode cX6_init 107 = .ok (.putfield 51, 3) := by decide +kernel
theorem dX6_init_110 : decode cX6_init 110 = .ok (.iconst 0, 1) := by decide +kernel
theorem dX6_init_111 : decode cX6_init 111 = .ok (.istore_n 1, 1) := by decide +kernel
theorem dX6_init_112 : decode cX6_init 112 = .ok (.iload_n 1, 1) := by decide +kernel
theorem dX6_init_113 : decode cX6_init 113 = .ok (.iconst 4, 1) := by decide +kernel
theorem dX6_init_114 : decode cX6_init 114 = .ok (.if_icmp .ge 39, 3) := by decide +kernel
theorem dX6_init_117 : decode cX6_init 117 = .ok (.aload_n 0, 1) := by decide +kernel
theorem dX6_init_118 : decode cX6_init 118 = .ok (.getfield 7, 3) := by decide +kernel
theorem dX6_init_121 : decode cX6_init 121 = .ok (.bipush 56, 2) := by decide +kernel
theorem dX6_init_123 : decode cX6_init 123 = .ok (.iload_n 1, 1) := by decide +kernel
theorem dX6_init_124 : decode cX6_init 124 = .ok (.iadd, 1) := by decide +kernel
theorem dX6_init_125 : decode cX6_init 125 = .ok (.bipush 72, 2) := by decide +kernel
theorem dX6_init_127 : decode cX6_init 127 = .ok (.iload_n 1, 1) := by decide +kernel
theorem dX6_init_128 : decode cX6_init 128 = .ok (.imul, 1) := by decide +kernel
theorem dX6_init_129 : decode cX6_init 129 = .ok (.iconst 4, 1) := by decide +kernel
theorem dX6_init_130 : decode cX6_init 130 = .ok (.idiv, 1) := by decide +kernel
theorem dX6_init_131 : decode cX6_init 131 = .ok (.iastore, 1) := by decide +kernel
theorem dX6_init_132 : decode cX6_init 132 = .ok (.aload_n 0, 1) := by decide +kernel
theorem dX6_init_133 : decode cX6_init 133 = .ok (.getfield 7, 3) := by decide +kernel
theorem dX6_init_136 : decode cX6_init 136 = .ok (.iload_n 1, 1) := by decide +kernel
theorem dX6_init_137 : decode cX6_init 137 = .ok (.aload_n 0, 1) := by decide +kernel
theorem dX6_init_138 : decode cX6_init 138 = .ok (.getfield 7, 3) := by decide +kernel
theorem dX6_init_141 : decode cX6_init 141 = .ok (.bipush 56, 2) := by decide +kernel
theorem dX6_init_143 : decode cX6_init 143 = .ok (.iload_n 1, 1) := by decide +kernel
theorem dX6_init_144 : decode cX6_init 144 = .ok (.iadd, 1) := by decide +kernel
theorem dX6_init_145 : decode cX6_init 145 = .ok (.iaload, 1) := by decide +kernel
theorem dX6_init_146 : decode cX6_init 146 = .ok (.iastore, 1) := by decide +kernel
theorem dX6_init_147 : decode cX6_init 147 = .ok (.iinc 1 1, 3) := by decide +kernel
theorem dX6_init_150 : decode cX6_init 150 = .ok (.goto (-38), 3) := by decide +kernel
theorem dX6_init_153 : decode cX6_init 153 = .ok (.return_, 1) := by decide +kernel
theorem dX6_in_0 : decode cX6_in 0 = .ok (.lload_n 0, 1) := by decide +kernel
theorem dX6_in_1 : decode cX6_in 1 = .ok (.lload_n 2, 1) := by decide +kernel
theorem dX6_in_2 : decode cX6_in 2 = .ok (.lcmp, 1) := by decide +kernel
theorem dX6_in_3 : decode cX6_in 3 = .ok (.ifCond .lt 14, 3) := by decide +kernel
theorem dX6_in_6 : decode cX6_in 6 = .ok (.lload_n 0, 1) := by decide +kernel
theorem dX6_in_7 : decode cX6_in 7 = .ok (.lload 4, 2) := by decide +kernel
theorem dX6_in_9 : decode cX6_in 9 = .ok (.lcmp, 1) := by decide +kernel
theorem dX6_in_10 : decode cX6_in 10 = .ok (.ifCond .gt 7, 3) := by decide +kernel
theorem dX6_in_13 : decode cX6_in 13 = .ok (.iconst 1, 1) := by decide +kernel
theorem dX6_in_14 : decode cX6_in 14 = .ok (.goto 4, 3) := by decide +kernel
theorem dX6_in_17 : decode cX6_in 17 = .ok (.iconst 0, 1) := by decide +kernel
theorem dX6_in_18 : decode cX6_in 18 = .ok (.ireturn, 1) := by decide +kernel
theorem dX6_has_0 : decode cX6_has 0 = .ok (.iload_n 0, 1) := by decide +kernel
theorem dX6_has_1 : decode cX6_has 1 = .ok (.iload_n 1, 1) := by decide +kernel
theorem dX6_has_2 : decode cX6_has 2 = .ok (.ishr, 1) := by decide +kernel
theorem dX6_has_3 : decode cX6_has 3 = .ok (.iconst 1, 1) := by decide +kernel
theorem dX6_has_4 : decode cX6_has 4 = .ok (.iand, 1) := by decide +kernel
theorem dX6_has_5 : decode cX6_has 5 = .ok (.iconst 1, 1) := by decide +kernel
theorem dX6_has_6 : decode cX6_has 6 = .ok (.if_icmp .ne 7, 3) := by decide +kernel
theorem dX6_has_9 : decode cX6_has 9 = .ok (.iconst 1, 1) := by decide +kernel
theorem dX6_has_10 : decode cX6_has 10 = .ok (.goto 4, 3) := by decide +kernel
theorem dX6_has_13 : decode cX6_has 13 = .ok (.iconst 0, 1) := by decide +kernel
theorem dX6_has_14 : decode cX6_has 14 = .ok (.ireturn, 1) := by decide +kernel
theorem dX6_copy_0 : decode cX6_copy 0 = .ok (.iconst 0, 1) := by decide +kernel
theorem dX6_copy_1 : decode cX6_copy 1 = .ok (.istore_n 3, 1) := by decide +kernel
theorem dX6_copy_2 : decode cX6_copy 2 = .ok (.iload_n 3, 1) := by decide +kernel
theorem dX6_copy_3 : decode cX6_copy 3 = .ok (.bipush 14, 2) := by decide +kernel
theorem dX6_copy_5 : decode cX6_copy 5 = .ok (.if_icmp .ge 25, 3) := by decide +kernel
theorem dX6_copy_8 : decode cX6_copy 8 = .ok (.aload_n 0, 1) := by decide +kernel
theorem dX6_copy_9 : decode cX6_copy 9 = .ok (.getfield 7, 3) := by decide +kernel
theorem dX6_copy_12 : decode cX6_copy 12 = .ok (.iload_n 2, 1) := by decide +kernel
theorem dX6_copy_13 : decode cX6_copy 13 = .ok (.iload_n 3, 1) := by decide +kernel
theorem dX6_copy_14 : decode cX6_copy 14 = .ok (.iadd, 1) := by decide +kernel
theorem dX6_copy_15 : decode cX6_copy 15 = .ok (.aload_n 0, 1) := by decide +kernel
theorem dX6_copy_16 : decode cX6_copy 16 = .ok (.getfield 7, 3) := by decide +kernel
theorem dX6_copy_19 : decode cX6_copy 19 = .ok (.iload_n 1, 1) := by decide +kernel
theorem dX6_copy_20 : decode cX6_copy 20 = .ok (.iload_n 3, 1) := by decide +kernel
theorem dX6_copy_21 : decode cX6_copy 21 = .ok (.iadd, 1) := by decide +kernel
theorem dX6_copy_22 : decode cX6_copy 22 = .ok (.iaload, 1) := by decide +kernel
theorem dX6_copy_23 : decode cX6_copy 23 = .ok (.iastore, 1) := by decide +kernel
theorem dX6_copy_24 : decode cX6_copy 24 = .ok (.iinc 3 1, 3) := by decide +kernel
theorem dX6_copy_27 : decode cX6_copy 27 = .ok (.goto (-25), 3) := by decide +kernel
theorem dX6_copy_30 : decode cX6_copy 30 = .ok (.return_, 1) := by decide +kernel
theorem dX6_on_0 : decode cX6_on 0 = .ok (.iload_n 1, 1) := by decide +kernel
theorem dX6_on_1 : decode cX6_on 1 = .ok (.iload_n 0, 1) := by decide +kernel
theorem dX6_on_2 : decode cX6_on 2 = .ok (.isub, 1) := by decide +kernel
theorem dX6_on_3 : decode cX6_on 3 = .ok (.bipush 72, 2) := by decide +kernel
theorem dX6_on_5 : decode cX6_on 5 = .ok (.iadd, 1) := by decide +kernel
theorem dX6_on_6 : decode cX6_on 6 = .ok (.bipush 72, 2) := by decide +kernel
theorem dX6_on_8 : decode cX6_on 8 = .ok (.irem, 1) := by decide +kernel
theorem dX6_on_9 : decode cX6_on 9 = .ok (.ireturn, 1) := by decide +kernel
theorem dX6_shorter_0 : decode cX6_shorter 0 = .ok (.iload_n 0, 1) := by decide +kernel
theorem dX6_shorter_1 : decode cX6_shorter 1 = .ok (.iload_n 1, 1) := by decide +kernel
theorem dX6_shorter_2 : decode cX6_shorter 2 = .ok (.invokestatic 54, 3) := by decide +kernel
theorem dX6_shorter_5 : decode cX6_shorter 5 = .ok (.istore_n 2, 1) := by decide +kernel
theorem dX6_shorter_6 : decode cX6_shorter 6 = .ok (.iload_n 2, 1) := by decide +kernel
theorem dX6_shorter_7 : decode cX6_shorter 7 = .ok (.bipush 72, 2) := by decide +kernel
theorem dX6_shorter_9 : decode cX6_shorter 9 = .ok (.iload_n 2, 1) := by decide +kernel
theorem dX6_shorter_10 : decode cX6_shorter 10 = .ok (.isub, 1) := by decide +kernel
theorem dX6_shorter_11 : decode cX6_shorter 11 = .ok (.if_icmp .ge 7, 3) := by decide +kernel
theorem dX6_shorter_14 : decode cX6_shorter 14 = .ok (.iload_n 2, 1) := by decide +kernel
theorem dX6_shorter_15 : decode cX6_shorter 15 = .ok (.goto 7, 3) := by decide +kernel
theorem dX6_shorter_18 : decode cX6_shorter 18 = .ok (.bipush 72, 2) := by decide +kernel
theorem dX6_shorter_20 : decode cX6_shorter 20 = .ok (.iload_n 2, 1) := by decide +kernel
theorem dX6_shorter_21 : decode cX6_shorter 21 = .ok (.isub, 1) := by decide +kernel
theorem dX6_shorter_22 : decode cX6_shorter 22 = .ok (.ireturn, 1) := by decide +kernel
theorem dX6_write_0 : decode cX6_write 0 = .ok (.iload_n 3, 1) := by decide +kernel
theorem dX6_write_1 : decode cX6_write 1 = .ok (.i2l, 1) := by decide +kernel
theorem dX6_write_2 : decode cX6_write 2 = .ok (.lconst 1, 1) := by decide +kernel
theorem dX6_write_3 : decode cX6_write 3 = .ok (.ldc2_w 58, 3) := by decide +kernel
theorem dX6_write_6 : decode cX6_write 6 = .ok (.invokestatic 60, 3) := by decide +kernel
theorem dX6_write_9 : decode cX6_write 9 = .ok (.ifCond .ne 6, 3) := by decide +kernel
theorem dX6_write_12 : decode cX6_write 12 = .ok (.bipush (-3), 2) := by decide +kernel
theorem dX6_write_14 : decode cX6_write 14 = .ok (.ireturn, 1) := by decide +kernel
theorem dX6_write_15 : decode cX6_write 15 = .ok (.aload_n 0, 1) := by decide +kernel
theorem dX6_write_16 : decode cX6_write 16 = .ok (.getfield 64, 3) := by decide +kernel
theorem dX6_write_19 : decode cX6_write 19 = .ok (.iload_n 3, 1) := by decide +kernel
theorem dX6_write_20 : decode cX6_write 20 = .ok (.iadd, 1) := by decide +kernel
theorem dX6_write_21 : decode cX6_write 21 = .ok (.sipush 200, 3) := by decide +kernel
theorem dX6_write_24 : decode cX6_write 24 = .ok (.if_icmp .le 6, 3) := by decide +kernel
theorem dX6_write_27 : decode cX6_write 27 = .ok (.bipush (-5), 2) := by decide +kernel
theorem dX6_write_29 : decode cX6_write 29 = .ok (.ireturn, 1) := by decide +kernel
theorem dX6_write_30 : decode cX6_write 30 = .ok (.iconst 0, 1) := by decide +kernel
theorem dX6_write_31 : decode cX6_write 31 = .ok (.istore 4, 2) := by decide +kernel
theorem dX6_write_33 : decode cX6_write 33 = .ok (.iload 4, 2) := by decide +kernel
theorem dX6_write_35 : decode cX6_write 35 = .ok (.iload_n 3, 1) := by decide +kernel
theorem dX6_write_36 : decode cX6_write 36 = .ok (.if_icmp .ge 40, 3) := by decide +kernel
theorem dX6_write_39 : decode cX6_write 39 = .ok (.aload_n 0, 1) := by decide +kernel
theorem dX6_write_40 : decode cX6_write 40 = .ok (.getfield 17, 3) := by decide +kernel
theorem dX6_write_43 : decode cX6_write 43 = .ok (.aload_n 0, 1) := by decide +kernel
theorem dX6_write_44 : decode cX6_write 44 = .ok (.getfield 64, 3) := by decide +kernel
theorem dX6_write_47 : decode cX6_write 47 = .ok (.lload_n 1, 1) := by decide +kernel
theorem dX6_write_48 : decode cX6_write 48 = .ok (.bipush 8, 2) := by decide +kernel
theorem dX6_write_50 : decode cX6_write 50 = .ok (.iload 4, 2) := by decide +kernel
theorem dX6_write_52 : decode cX6_write 52 = .ok (.imul, 1) := by decide +kernel
theorem dX6_write_53 : decode cX6_write 53 = .ok (.lshr, 1) := by decide +kernel
theorem dX6_write_54 : decode cX6_write 54 = .ok (.ldc2_w 67, 3) := by decide +kernel
theorem dX6_write_57 : decode cX6_write 57 = .ok (.land, 1) := by decide +kernel
theorem dX6_write_58 : decode cX6_write 58 = .ok (.l2i, 1) := by decide +kernel
theorem dX6_write_59 : decode cX6_write 59 = .ok (.iastore, 1) := by decide +kernel
theorem dX6_write_60 : decode cX6_write 60 = .ok (.aload_n 0, 1) := by decide +kernel
theorem dX6_write_61 : decode cX6_write 61 = .ok (.dup, 1) := by decide +kernel
theorem dX6_write_62 : decode cX6_write 62 = .ok (.getfield 64, 3) := by decide +kernel
theorem dX6_write_65 : decode cX6_write 65 = .ok (.iconst 1, 1) := by decide +kernel
theorem dX6_write_66 : decode cX6_write 66 = .ok (.iadd, 1) := by decide +kernel
theorem dX6_write_67 : decode cX6_write 67 = .ok (.putfield 64, 3) := by decide +kernel
theorem dX6_write_70 : decode cX6_write 70 = .ok (.iinc 4 1, 3) := by decide +kernel
theorem dX6_write_73 : decode cX6_write 73 = .ok (.goto (-40), 3) := by decide +kernel
theorem dX6_write_76 : decode cX6_write 76 = .ok (.aload_n 0, 1) := by decide +kernel
theorem dX6_write_77 : decode cX6_write 77 = .ok (.getfield 64, 3) := by decide +kernel
theorem dX6_write_80 : decode cX6_write 80 = .ok (.ireturn, 1) := by decide +kernel
theorem dX6_erase_0 : decode cX6_erase 0 = .ok (.aload_n 0, 1) := by decide +kernel
theorem dX6_erase_1 : decode cX6_erase 1 = .ok (.getfield 64, 3) := by decide +kernel
theorem dX6_erase_4 : decode cX6_erase 4 = .ok (.istore_n 1, 1) := by decide +kernel
theorem dX6_erase_5 : decode cX6_erase 5 = .ok (.aload_n 0, 1) := by decide +kernel
theorem dX6_erase_6 : decode cX6_erase 6 = .ok (.iconst 0, 1) := by decide +kernel
theorem dX6_erase_7 : decode cX6_erase 7 = .ok (.putfield 64, 3) := by decide +kernel
theorem dX6_erase_10 : decode cX6_erase 10 = .ok (.iload_n 1, 1) := by decide +kernel
theorem dX6_erase_11 : decode cX6_erase 11 = .ok (.ireturn, 1) := by decide +kernel
theorem dX6_sort_0 : decode cX6_sort 0 = .ok (.iload_n 0, 1) := by decide +kernel
theorem dX6_sort_1 : decode cX6_sort 1 = .ok (.bipush 97, 2) := by decide +kernel
theorem dX6_sort_3 : decode cX6_sort 3 = .ok (.if_icmp .lt 13, 3) := by decide +kernel
theorem dX6_sort_6 : decode cX6_sort 6 = .ok (.iload_n 0, 1) := by decide +kernel
theorem dX6_sort_7 : decode cX6_sort 7 = .ok (.bipush 122, 2) := by decide +kernel
theorem dX6_sort_9 : decode cX6_sort 9 = .ok (.if_icmp .gt 7, 3) := by decide +kernel
theorem dX6_sort_12 : decode cX6_sort 12 = .ok (.iconst 1, 1) := by decide +kernel
theorem dX6_sort_13 : decode cX6_sort 13 = .ok (.goto 20, 3) := by decide +kernel
theorem dX6_sort_16 : decode cX6_sort 16 = .ok (.iload_n 0, 1) := by decide +kernel
theorem dX6_sort_17 : decode cX6_sort 17 = .ok (.bipush 48, 2) := by decide +kernel
theorem dX6_sort_19 : decode cX6_sort 19 = .ok (.if_icmp .lt 13, 3) := by decide +kernel
theorem dX6_sort_22 : decode cX6_sort 22 = .ok (.iload_n 0, 1) := by decide +kernel
theorem dX6_sort_23 : decode cX6_sort 23 = .ok (.bipush 57, 2) := by decide +kernel
theorem dX6_sort_25 : decode cX6_sort 25 = .ok (.if_icmp .gt 7, 3) := by decide +kernel
theorem dX6_sort_28 : decode cX6_sort 28 = .ok (.iconst 2, 1) := by decide +kernel
theorem dX6_sort_29 : decode cX6_sort 29 = .ok (.goto 4, 3) := by decide +kernel
theorem dX6_sort_32 : decode cX6_sort 32 = .ok (.iconst 0, 1) := by decide +kernel
theorem dX6_sort_33 : decode cX6_sort 33 = .ok (.ireturn, 1) := by decide +kernel
theorem dX6_token_0 : decode cX6_token 0 = .ok (.aload_n 0, 1) := by decide +kernel
theorem dX6_token_1 : decode cX6_token 1 = .ok (.getfield 69, 3) := by decide +kernel
theorem dX6_token_4 : decode cX6_token 4 = .ok (.aload_n 0, 1) := by decide +kernel
theorem dX6_token_5 : decode cX6_token 5 = .ok (.getfield 64, 3) := by decide +kernel
theorem dX6_token_8 : decode cX6_token 8 = .ok (.if_icmp .ge 30, 3) := by decide +kernel
theorem dX6_token_11 : decode cX6_token 11 = .ok (.aload_n 0, 1) := by decide +kernel
theorem dX6_token_12 : decode cX6_token 12 = .ok (.getfield 17, 3) := by decide +kernel
theorem dX6_token_15 : decode cX6_token 15 = .ok (.aload_n 0, 1) := by decide +kernel
theorem dX6_token_16 : decode cX6_token 16 = .ok (.getfield 69, 3) := by decide +kernel
theorem dX6_token_19 : decode cX6_token 19 = .ok (.iaload, 1) := by decide +kernel
theorem dX6_token_20 : decode cX6_token 20 = .ok (.bipush 32, 2) := by decide +kernel
theorem dX6_token_22 : decode cX6_token 22 = .ok (.if_icmp .ne 16, 3) := by decide +kernel
theorem dX6_token_25 : decode cX6_token 25 = .ok (.aload_n 0, 1) := by decide +kernel
theorem dX6_token_26 : decode cX6_token 26 = .ok (.dup, 1) := by decide +kernel
theorem dX6_token_27 : decode cX6_token 27 = .ok (.getfield 69, 3) := by decide +kernel
theorem dX6_token_30 : decode cX6_token 30 = .ok (.iconst 1, 1) := by decide +kernel
theorem dX6_token_31 : decode cX6_token 31 = .ok (.iadd, 1) := by decide +kernel
theorem dX6_token_32 : decode cX6_token 32 = .ok (.putfield 69, 3) := by decide +kernel
theorem dX6_token_35 : decode cX6_token 35 = .ok (.goto (-35), 3) := by decide +kernel
theorem dX6_token_38 : decode cX6_token 38 = .ok (.aload_n 0, 1) := by decide +kernel
theorem dX6_token_39 : decode cX6_token 39 = .ok (.aload_n 0, 1) := by decide +kernel
theorem dX6_token_40 : decode cX6_token 40 = .ok (.getfield 69, 3) := by decide +kernel
theorem dX6_token_43 : decode cX6_token 43 = .ok (.putfield 72, 3) := by decide +kernel
theorem dX6_token_46 : decode cX6_token 46 = .ok (.aload_n 0, 1) := by decide +kernel
theorem dX6_token_47 : decode cX6_token 47 = .ok (.dup, 1) := by decide +kernel
theorem dX6_token_48 : decode cX6_token 48 = .ok (.getfield 69, 3) := by decide +kernel
theorem dX6_token_51 : decode cX6_token 51 = .ok (.aload_n 0, 1) := by decide +kernel
theorem dX6_token_52 : decode cX6_token 52 = .ok (.getfield 69, 3) := by decide +kernel
theorem dX6_token_55 : decode cX6_token 55 = .ok (.aload_n 0, 1) := by decide +kernel
theorem dX6_token_56 : decode cX6_token 56 = .ok (.getfield 64, 3) := by decide +kernel
theorem dX6_token_59 : decode cX6_token 59 = .ok (.if_icmp .ge 7, 3) := by decide +kernel
theorem dX6_token_62 : decode cX6_token 62 = .ok (.iconst 1, 1) := by decide +kernel
theorem dX6_token_63 : decode cX6_token 63 = .ok (.goto 4, 3) := by decide +kernel
theorem dX6_token_66 : decode cX6_token 66 = .ok (.iconst 0, 1) := by decide +kernel
theorem dX6_token_67 : decode cX6_token 67 = .ok (.iadd, 1) := by decide +kernel
theorem dX6_token_68 : decode cX6_token 68 = .ok (.putfield 69, 3) := by decide +kernel
theorem dX6_token_71 : decode cX6_token 71 = .ok (.aload_n 0, 1) := by decide +kernel
theorem dX6_token_72 : decode cX6_token 72 = .ok (.getfield 69, 3) := by decide +kernel
theorem dX6_token_75 : decode cX6_token 75 = .ok (.aload_n 0, 1) := by decide +kernel
theorem dX6_token_76 : decode cX6_token 76 = .ok (.getfield 64, 3) := by decide +kernel
theorem dX6_token_79 : decode cX6_token 79 = .ok (.if_icmp .ge 58, 3) := by decide +kernel
theorem dX6_token_82 : decode cX6_token 82 = .ok (.aload_n 0, 1) := by decide +kernel
theorem dX6_token_83 : decode cX6_token 83 = .ok (.getfield 17, 3) := by decide +kernel
theorem dX6_token_86 : decode cX6_token 86 = .ok (.aload_n 0, 1) := by decide +kernel
theorem dX6_token_87 : decode cX6_token 87 = .ok (.getfield 72, 3) := by decide +kernel
theorem dX6_token_90 : decode cX6_token 90 = .ok (.iaload, 1) := by decide +kernel
theorem dX6_token_91 : decode cX6_token 91 = .ok (.invokestatic 75, 3) := by decide +kernel
theorem dX6_token_94 : decode cX6_token 94 = .ok (.ifCond .le 43, 3) := by decide +kernel
theorem dX6_token_97 : decode cX6_token 97 = .ok (.aload_n 0, 1) := by decide +kernel
theorem dX6_token_98 : decode cX6_token 98 = .ok (.getfield 17, 3) := by decide +kernel
theorem dX6_token_101 : decode cX6_token 101 = .ok (.aload_n 0, 1) := by decide +kernel
theorem dX6_token_102 : decode cX6_token 102 = .ok (.getfield 69, 3) := by decide +kernel
theorem dX6_token_105 : decode cX6_token 105 = .ok (.iaload, 1) := by decide +kernel
theorem dX6_token_106 : decode cX6_token 106 = .ok (.invokestatic 75, 3) := by decide +kernel
theorem dX6_token_109 : decode cX6_token 109 = .ok (.aload_n 0, 1) := by decide +kernel
theorem dX6_token_110 : decode cX6_token 110 = .ok (.getfield 17, 3) := by decide +kernel
theorem dX6_token_113 : decode cX6_token 113 = .ok (.aload_n 0, 1) := by decide +kernel
theorem dX6_token_114 : decode cX6_token 114 = .ok (.getfield 72, 3) := by decide +kernel
theorem dX6_token_117 : decode cX6_token 117 = .ok (.iaload, 1) := by decide +kernel
theorem dX6_token_118 : decode cX6_token 118 = .ok (.invokestatic 75, 3) := by decide +kernel
theorem dX6_token_121 : decode cX6_token 121 = .ok (.if_icmp .ne 16, 3) := by decide +kernel
theorem dX6_token_124 : decode cX6_token 124 = .ok (.aload_n 0, 1) := by decide +kernel
theorem dX6_token_125 : decode cX6_token 125 = .ok (.dup, 1) := by decide +kernel
theorem dX6_token_126 : decode cX6_token 126 = .ok (.getfield 69, 3) := by decide +kernel
theorem dX6_token_129 : decode cX6_token 129 = .ok (.iconst 1, 1) := by decide +kernel
theorem dX6_token_130 : decode cX6_token 130 = .ok (.iadd, 1) := by decide +kernel
theorem dX6_token_131 : decode cX6_token 131 = .ok (.putfield 69, 3) := by decide +kernel
theorem dX6_token_134 : decode cX6_token 134 = .ok (.goto (-63), 3) := by decide +kernel
theorem dX6_token_137 : decode cX6_token 137 = .ok (.aload_n 0, 1) := by decide +kernel
theorem dX6_token_138 : decode cX6_token 138 = .ok (.aload_n 0, 1) := by decide +kernel
theorem dX6_token_139 : decode cX6_token 139 = .ok (.getfield 69, 3) := by decide +kernel
theorem dX6_token_142 : decode cX6_token 142 = .ok (.putfield 79, 3) := by decide +kernel
theorem dX6_token_145 : decode cX6_token 145 = .ok (.return_, 1) := by decide +kernel
theorem dX6_isWord_0 : decode cX6_isWord 0 = .ok (.aload_n 0, 1) := by decide +kernel
theorem dX6_isWord_1 : decode cX6_isWord 1 = .ok (.getfield 79, 3) := by decide +kernel
theorem dX6_isWord_4 : decode cX6_isWord 4 = .ok (.aload_n 0, 1) := by decide +kernel
theorem dX6_isWord_5 : decode cX6_isWord 5 = .ok (.getfield 72, 3) := by decide +kernel
theorem dX6_isWord_8 : decode cX6_isWord 8 = .ok (.isub, 1) := by decide +kernel
theorem dX6_isWord_9 : decode cX6_isWord 9 = .ok (.iload_n 2, 1) := by decide +kernel
theorem dX6_isWord_10 : decode cX6_isWord 10 = .ok (.if_icmp .ne 7, 3) := by decide +kernel
theorem dX6_isWord_13 : decode cX6_isWord 13 = .ok (.iconst 1, 1) := by decide +kernel
theorem dX6_isWord_14 : decode cX6_isWord 14 = .ok (.goto 4, 3) := by decide +kernel
theorem dX6_isWord_17 : decode cX6_isWord 17 = .ok (.iconst 0, 1) := by decide +kernel
theorem dX6_isWord_18 : decode cX6_isWord 18 = .ok (.istore_n 3, 1) := by decide +kernel
theorem dX6_isWord_19 : decode cX6_isWord 19 = .ok (.iconst 0, 1) := by decide +kernel
theorem dX6_isWord_20 : decode cX6_isWord 20 = .ok (.istore 4, 2) := by decide +kernel
theorem dX6_isWord_22 : decode cX6_isWord 22 = .ok (.iload_n 3, 1) := by decide +kernel
theorem dX6_isWord_23 : decode cX6_isWord 23 = .ok (.ifCond .eq 48, 3) := by decide +kernel
theorem dX6_isWord_26 : decode cX6_isWord 26 = .ok (.iload 4, 2) := by decide +kernel
theorem dX6_isWord_28 : decode cX6_isWord 28 = .ok (.iload_n 2, 1) := by decide +kernel
theorem dX6_isWord_29 : decode cX6_isWord 29 = .ok (.if_icmp .ge 42, 3) := by decide +kernel
theorem dX6_isWord_32 : decode cX6_isWord 32 = .ok (.aload_n 0, 1) := by decide +kernel
theorem dX6_isWord_33 : decode cX6_isWord 33 = .ok (.getfield 17, 3) := by decide +kernel
theorem dX6_isWord_36 : decode cX6_isWord 36 = .ok (.aload_n 0, 1) := by decide +kernel
theorem dX6_isWord_37 : decode cX6_isWord 37 = .ok (.getfield 72, 3) := by decide +kernel
theorem dX6_isWord_40 : decode cX6_isWord 40 = .ok (.iload 4, 2) := by decide +kernel
theorem dX6_isWord_42 : decode cX6_isWord 42 = .ok (.iadd, 1) := by decide +kernel
theorem dX6_isWord_43 : decode cX6_isWord 43 = .ok (.iaload, 1) := by decide +kernel
theorem dX6_isWord_44 : decode cX6_isWord 44 = .ok (.bipush 96, 2) := by decide +kernel
theorem dX6_isWord_46 : decode cX6_isWord 46 = .ok (.iload_n 1, 1) := by decide +kernel
theorem dX6_isWord_47 : decode cX6_isWord 47 = .ok (.iconst 5, 1) := by decide +kernel
theorem dX6_isWord_48 : decode cX6_isWord 48 = .ok (.iload 4, 2) := by decide +kernel
theorem dX6_isWord_50 : decode cX6_isWord 50 = .ok (.imul, 1) := by decide +kernel
theorem dX6_isWord_51 : decode cX6_isWord 51 = .ok (.ishr, 1) := by decide +kernel
theorem dX6_isWord_52 : decode cX6_isWord 52 = .ok (.bipush 31, 2) := by decide +kernel
theorem dX6_isWord_54 : decode cX6_isWord 54 = .ok (.iand, 1) := by decide +kernel
theorem dX6_isWord_55 : decode cX6_isWord 55 = .ok (.iadd, 1) := by decide +kernel
theorem dX6_isWord_56 : decode cX6_isWord 56 = .ok (.if_icmp .ne 7, 3) := by decide +kernel
theorem dX6_isWord_59 : decode cX6_isWord 59 = .ok (.iconst 1, 1) := by decide +kernel
theorem dX6_isWord_60 : decode cX6_isWord 60 = .ok (.goto 4, 3) := by decide +kernel
theorem dX6_isWord_63 : decode cX6_isWord 63 = .ok (.iconst 0, 1) := by decide +kernel
theorem dX6_isWord_64 : decode cX6_isWord 64 = .ok (.istore_n 3, 1) := by decide +kernel
theorem dX6_isWord_65 : decode cX6_isWord 65 = .ok (.iinc 4 1, 3) := by decide +kernel
theorem dX6_isWord_68 : decode cX6_isWord 68 = .ok (.goto (-46), 3) := by decide +kernel
theorem dX6_isWord_71 : decode cX6_isWord 71 = .ok (.iload_n 3, 1) := by decide +kernel
theorem dX6_isWord_72 : decode cX6_isWord 72 = .ok (.ireturn, 1) := by decide +kernel
theorem dX6_leafWord_0 : decode cX6_leafWord 0 = .ok (.aload_n 0, 1) := by decide +kernel
theorem dX6_leafWord_1 : decode cX6_leafWord 1 = .ok (.ldc 82, 2) := by decide +kernel
theorem dX6_leafWord_3 : decode cX6_leafWord 3 = .ok (.iconst 5, 1) := by decide +kernel
theorem dX6_leafWord_4 : decode cX6_leafWord 4 = .ok (.invokevirtual 83, 3) := by decide +kernel
theorem dX6_leafWord_7 : decode cX6_leafWord 7 = .ok (.ifCond .eq 7, 3) := by decide +kernel
theorem dX6_leafWord_10 : decode cX6_leafWord 10 = .ok (.iconst 2, 1) := by decide +kernel
theorem dX6_leafWord_11 : decode cX6_leafWord 11 = .ok (.goto 47, 3) := by decide +kernel
theorem dX6_leafWord_14 : decode cX6_leafWord 14 = .ok (.aload_n 0, 1) := by decide +kernel
theorem dX6_leafWord_15 : decode cX6_leafWord 15 = .ok (.ldc 87, 2) := by decide +kernel
theorem dX6_leafWord_17 : decode cX6_leafWord 17 = .ok (.bipush 6, 2) := by decide +kernel
theorem dX6_leafWord_19 : decode cX6_leafWord 19 = .ok (.invokevirtual 83, 3) := by decide +kernel
theorem dX6_leafWord_22 : decode cX6_leafWord 22 = .ok (.ifCond .eq 7, 3) := by decide +kernel
theorem dX6_leafWord_25 : decode cX6_leafWord 25 = .ok (.iconst 3, 1) := by decide +kernel
theorem dX6_leafWord_26 : decode cX6_leafWord 26 = .ok (.goto 32, 3) := by decide +kernel
theorem dX6_leafWord_29 : decode cX6_leafWord 29 = .ok (.aload_n 0, 1) := by decide +kernel
theorem dX6_leafWord_30 : decode cX6_leafWord 30 = .ok (.ldc 88, 2) := by decide +kernel
theorem dX6_leafWord_32 : decode cX6_leafWord 32 = .ok (.iconst 5, 1) := by decide +kernel
theorem dX6_leafWord_33 : decode cX6_leafWord 33 = .ok (.invokevirtual 83, 3) := by decide +kernel
theorem dX6_leafWord_36 : decode cX6_leafWord 36 = .ok (.ifCond .eq 7, 3) := by decide +kernel
theorem dX6_leafWord_39 : decode cX6_leafWord 39 = .ok (.iconst 4, 1) := by decide +kernel
theorem dX6_leafWord_40 : decode cX6_leafWord 40 = .ok (.goto 18, 3) := by decide +kernel
theorem dX6_leafWord_43 : decode cX6_leafWord 43 = .ok (.aload_n 0, 1) := by decide +kernel
theorem dX6_leafWord_44 : decode cX6_leafWord 44 = .ok (.ldc 89, 2) := by decide +kernel
theorem dX6_leafWord_46 : decode cX6_leafWord 46 = .ok (.iconst 5, 1) := by decide +kernel
theorem dX6_leafWord_47 : decode cX6_leafWord 47 = .ok (.invokevirtual 83, 3) := by decide +kernel
theorem dX6_leafWord_50 : decode cX6_leafWord 50 = .ok (.ifCond .eq 7, 3) := by decide +kernel
theorem dX6_leafWord_53 : decode cX6_leafWord 53 = .ok (.iconst 5, 1) := by decide +kernel
theorem dX6_leafWord_54 : decode cX6_leafWord 54 = .ok (.goto 4, 3) := by decide +kernel
theorem dX6_leafWord_57 : decode cX6_leafWord 57 = .ok (.iconst (-1), 1) := by decide +kernel
theorem dX6_leafWord_58 : decode cX6_leafWord 58 = .ok (.ireturn, 1) := by decide +kernel
theorem dX6_wordOf_0 : decode cX6_wordOf 0 = .ok (.aload_n 0, 1) := by decide +kernel
theorem dX6_wordOf_1 : decode cX6_wordOf 1 = .ok (.invokevirtual 90, 3) := by decide +kernel
theorem dX6_wordOf_4 : decode cX6_wordOf 4 = .ok (.istore_n 1, 1) := by decide +kernel
theorem dX6_wordOf_5 : decode cX6_wordOf 5 = .ok (.iload_n 1, 1) := by decide +kernel
theorem dX6_wordOf_6 : decode cX6_wordOf 6 = .ok (.iconst (-1), 1) := by decide +kernel
theorem dX6_wordOf_7 : decode cX6_wordOf 7 = .ok (.if_icmp .eq 7, 3) := by decide +kernel
theorem dX6_wordOf_10 : decode cX6_wordOf 10 = .ok (.iload_n 1, 1) := by decide +kernel
theorem dX6_wordOf_11 : decode cX6_wordOf 11 = .ok (.goto 94, 3) := by decide +kernel
theorem dX6_wordOf_14 : decode cX6_wordOf 14 = .ok (.aload_n 0, 1) := by decide +kernel
theorem dX6_wordOf_15 : decode cX6_wordOf 15 = .ok (.ldc 94, 2) := by decide +kernel
theorem dX6_wordOf_17 : decode cX6_wordOf 17 = .ok (.iconst 5, 1) := by decide +kernel
theorem dX6_wordOf_18 : decode cX6_wordOf 18 = .ok (.invokevirtual 83, 3) := by decide +kernel
theorem dX6_wordOf_21 : decode cX6_wordOf 21 = .ok (.ifCond .eq 7, 3) := by decide +kernel
theorem dX6_wordOf_24 : decode cX6_wordOf 24 = .ok (.iconst 0, 1) := by decide +kernel
theorem dX6_wordOf_25 : decode cX6_wordOf 25 = .ok (.goto 80, 3) := by decide +kernel
theorem dX6_wordOf_28 : decode cX6_wordOf 28 = .ok (.aload_n 0, 1) := by decide +kernel
theorem dX6_wordOf_29 : decode cX6_wordOf 29 = .ok (.ldc 95, 2) := by decide +kernel
theorem dX6_wordOf_31 : decode cX6_wordOf 31 = .ok (.iconst 4, 1) := by decide +kernel
theorem dX6_wordOf_32 : decode cX6_wordOf 32 = .ok (.invokevirtual 83, 3) := by decide +kernel
theorem dX6_wordOf_35 : decode cX6_wordOf 35 = .ok (.ifCond .eq 7, 3) := by decide +kernel
theorem dX6_wordOf_38 : decode cX6_wordOf 38 = .ok (.iconst 1, 1) := by decide +kernel
theorem dX6_wordOf_39 : decode cX6_wordOf 39 = .ok (.goto 66, 3) := by decide +kernel
theorem dX6_wordOf_42 : decode cX6_wordOf 42 = .ok (.aload_n 0, 1) := by decide +kernel
theorem dX6_wordOf_43 : decode cX6_wordOf 43 = .ok (.sipush 21168, 3) := by decide +kernel
theorem dX6_wordOf_46 : decode cX6_wordOf 46 = .ok (.iconst 3, 1) := by decide +kernel
theorem dX6_wordOf_47 : decode cX6_wordOf 47 = .ok (.invokevirtual 83, 3) := by decide +kernel
theorem dX6_wordOf_50 : decode cX6_wordOf 50 = .ok (.ifCond .eq 8, 3) := by decide +kernel
theorem dX6_wordOf_53 : decode cX6_wordOf 53 = .ok (.bipush 6, 2) := by decide +kernel
theorem dX6_wordOf_55 : decode cX6_wordOf 55 = .ok (.goto 50, 3) := by decide +kernel
theorem dX6_wordOf_58 : decode cX6_wordOf 58 = .ok (.aload_n 0, 1) := by decide +kernel
theorem dX6_wordOf_59 : decode cX6_wordOf 59 = .ok (.ldc 96, 2) := by decide +kernel
theorem dX6_wordOf_61 : decode cX6_wordOf 61 = .ok (.iconst 4, 1) := by decide +kernel
theorem dX6_wordOf_62 : decode cX6_wordOf 62 = .ok (.invokevirtual 83, 3) := by decide +kernel
theorem dX6_wordOf_65 : decode cX6_wordOf 65 = .ok (.ifCond .eq 8, 3) := by decide +kernel
theorem dX6_wordOf_68 : decode cX6_wordOf 68 = .ok (.bipush 7, 2) := by decide +kernel
theorem dX6_wordOf_70 : decode cX6_wordOf 70 = .ok (.goto 35, 3) := by decide +kernel
theorem dX6_wordOf_73 : decode cX6_wordOf 73 = .ok (.aload_n 0, 1) := by decide +kernel
theorem dX6_wordOf_74 : decode cX6_wordOf 74 = .ok (.ldc 97, 2) := by decide +kernel
theorem dX6_wordOf_76 : decode cX6_wordOf 76 = .ok (.bipush 6, 2) := by decide +kernel
theorem dX6_wordOf_78 : decode cX6_wordOf 78 = .ok (.invokevirtual 83, 3) := by decide +kernel
theorem dX6_wordOf_81 : decode cX6_wordOf 81 = .ok (.ifCond .eq 8, 3) := by decide +kernel
theorem dX6_wordOf_84 : decode cX6_wordOf 84 = .ok (.bipush 8, 2) := by decide +kernel
theorem dX6_wordOf_86 : decode cX6_wordOf 86 = .ok (.goto 19, 3) := by decide +kernel
theorem dX6_wordOf_89 : decode cX6_wordOf 89 = .ok (.aload_n 0, 1) := by decide +kernel
theorem dX6_wordOf_90 : decode cX6_wordOf 90 = .ok (.ldc 98, 2) := by decide +kernel
theorem dX6_wordOf_92 : decode cX6_wordOf 92 = .ok (.iconst 5, 1) := by decide +kernel
theorem dX6_wordOf_93 : decode cX6_wordOf 93 = .ok (.invokevirtual 83, 3) := by decide +kernel
theorem dX6_wordOf_96 : decode cX6_wordOf 96 = .ok (.ifCond .eq 8, 3) := by decide +kernel
theorem dX6_wordOf_99 : decode cX6_wordOf 99 = .ok (.bipush 9, 2) := by decide +kernel
theorem dX6_wordOf_101 : decode cX6_wordOf 101 = .ok (.goto 4, 3) := by decide +kernel
theorem dX6_wordOf_104 : decode cX6_wordOf 104 = .ok (.iconst (-1), 1) := by decide +kernel
theorem dX6_wordOf_105 : decode cX6_wordOf 105 = .ok (.ireturn, 1) := by decide +kernel
theorem dX6_numberHere_0 : decode cX6_numberHere 0 = .ok (.aload_n 0, 1) := by decide +kernel
theorem dX6_numberHere_1 : decode cX6_numberHere 1 = .ok (.getfield 72, 3) := by decide +kernel
theorem dX6_numberHere_4 : decode cX6_numberHere 4 = .ok (.aload_n 0, 1) := by decide +kernel
theorem dX6_numberHere_5 : decode cX6_numberHere 5 = .ok (.getfield 64, 3) := by decide +kernel
theorem dX6_numberHere_8 : decode cX6_numberHere 8 = .ok (.if_icmp .eq 32, 3) := by decide +kernel
theorem dX6_numberHere_11 : decode cX6_numberHere 11 = .ok (.aload_n 0, 1) := by decide +kernel
theorem dX6_numberHere_12 : decode cX6_numberHere 12 = .ok (.getfield 17, 3) := by decide +kernel
theorem dX6_numberHere_15 : decode cX6_numberHere 15 = .ok (.aload_n 0, 1) := by decide +kernel
theorem dX6_numberHere_16 : decode cX6_numberHere 16 = .ok (.getfield 72, 3) := by decide +kernel
theorem dX6_numberHere_19 : decode cX6_numberHere 19 = .ok (.iaload, 1) := by decide +kernel
theorem dX6_numberHere_20 : decode cX6_numberHere 20 = .ok (.invokestatic 75, 3) := by decide +kernel
theorem dX6_numberHere_23 : decode cX6_numberHere 23 = .ok (.iconst 2, 1) := by decide +kernel
theorem dX6_numberHere_24 : decode cX6_numberHere 24 = .ok (.if_icmp .ne 16, 3) := by decide +kernel
theorem dX6_numberHere_27 : decode cX6_numberHere 27 = .ok (.aload_n 0, 1) := by decide +kernel
theorem dX6_numberHere_28 : decode cX6_numberHere 28 = .ok (.getfield 79, 3) := by decide +kernel
theorem dX6_numberHere_31 : decode cX6_numberHere 31 = .ok (.aload_n 0, 1) := by decide +kernel
theorem dX6_numberHere_32 : decode cX6_numberHere 32 = .ok (.getfield 72, 3) := by decide +kernel
theorem dX6_numberHere_35 : decode cX6_numberHere 35 = .ok (.isub, 1) := by decide +kernel
theorem dX6_numberHere_36 : decode cX6_numberHere 36 = .ok (.iconst 2, 1) := by decide +kernel
theorem dX6_numberHere_37 : decode cX6_numberHere 37 = .ok (.if_icmp .le 5, 3) := by decide +kernel
theorem dX6_numberHere_40 : decode cX6_numberHere 40 = .ok (.iconst (-1), 1) := by decide +kernel
theorem dX6_numberHere_41 : decode cX6_numberHere 41 = .ok (.ireturn, 1) := by decide +kernel
theorem dX6_numberHere_42 : decode cX6_numberHere 42 = .ok (.iconst 0, 1) := by decide +kernel
theorem dX6_numberHere_43 : decode cX6_numberHere 43 = .ok (.istore_n 1, 1) := by decide +kernel
theorem dX6_numberHere_44 : decode cX6_numberHere 44 = .ok (.aload_n 0, 1) := by decide +kernel
theorem dX6_numberHere_45 : decode cX6_numberHere 45 = .ok (.getfield 72, 3) := by decide +kernel
theorem dX6_numberHere_48 : decode cX6_numberHere 48 = .ok (.istore_n 2, 1) := by decide +kernel
theorem dX6_numberHere_49 : decode cX6_numberHere 49 = .ok (.iload_n 2, 1) := by decide +kernel
theorem dX6_numberHere_50 : decode cX6_numberHere 50 = .ok (.aload_n 0, 1) := by decide +kernel
theorem dX6_numberHere_51 : decode cX6_numberHere 51 = .ok (.getfield 79, 3) := by decide +kernel
theorem dX6_numberHere_54 : decode cX6_numberHere 54 = .ok (.if_icmp .ge 24, 3) := by decide +kernel
theorem dX6_numberHere_57 : decode cX6_numberHere 57 = .ok (.bipush 10, 2) := by decide +kernel
theorem dX6_numberHere_59 : decode cX6_numberHere 59 = .ok (.iload_n 1, 1) := by decide +kernel
theorem dX6_numberHere_60 : decode cX6_numberHere 60 = .ok (.imul, 1) := by decide +kernel
theorem dX6_numberHere_61 : decode cX6_numberHere 61 = .ok (.aload_n 0, 1) := by decide +kernel
theorem dX6_numberHere_62 : decode cX6_numberHere 62 = .ok (.getfield 17, 3) := by decide +kernel
theorem dX6_numberHere_65 : decode cX6_numberHere 65 = .ok (.iload_n 2, 1) := by decide +kernel
theorem dX6_numberHere_66 : decode cX6_numberHere 66 = .ok (.iaload, 1) := by decide +kernel
theorem dX6_numberHere_67 : decode cX6_numberHere 67 = .ok (.iadd, 1) := by decide +kernel
theorem dX6_numberHere_68 : decode cX6_numberHere 68 = .ok (.bipush 48, 2) := by decide +kernel
theorem dX6_numberHere_70 : decode cX6_numberHere 70 = .ok (.isub, 1) := by decide +kernel
theorem dX6_numberHere_71 : decode cX6_numberHere 71 = .ok (.istore_n 1, 1) := by decide +kernel
theorem dX6_numberHere_72 : decode cX6_numberHere 72 = .ok (.iinc 2 1, 3) := by decide +kernel
theorem dX6_numberHere_75 : decode cX6_numberHere 75 = .ok (.goto (-26), 3) := by decide +kernel
theorem dX6_numberHere_78 : decode cX6_numberHere 78 = .ok (.iload_n 1, 1) := by decide +kernel
theorem dX6_numberHere_79 : decode cX6_numberHere 79 = .ok (.ireturn, 1) := by decide +kernel
theorem dX6_reads_0 : decode cX6_reads 0 = .ok (.aload_n 0, 1) := by decide +kernel
theorem dX6_reads_1 : decode cX6_reads 1 = .ok (.invokevirtual 99, 3) := by decide +kernel
theorem dX6_reads_4 : decode cX6_reads 4 = .ok (.istore 4, 2) := by decide +kernel
theorem dX6_reads_6 : decode cX6_reads 6 = .ok (.iload 4, 2) := by decide +kernel
theorem dX6_reads_8 : decode cX6_reads 8 = .ok (.i2l, 1) := by decide +kernel
theorem dX6_reads_9 : decode cX6_reads 9 = .ok (.iload_n 2, 1) := by decide +kernel
theorem dX6_reads_10 : decode cX6_reads 10 = .ok (.i2l, 1) := by decide +kernel
theorem dX6_reads_11 : decode cX6_reads 11 = .ok (.iload_n 3, 1) := by decide +kernel
theorem dX6_reads_12 : decode cX6_reads 12 = .ok (.i2l, 1) := by decide +kernel
theorem dX6_reads_13 : decode cX6_reads 13 = .ok (.invokestatic 60, 3) := by decide +kernel
theorem dX6_reads_16 : decode cX6_reads 16 = .ok (.ifCond .ne 5, 3) := by decide +kernel
theorem dX6_reads_19 : decode cX6_reads 19 = .ok (.iconst 0, 1) := by decide +kernel
theorem dX6_reads_20 : decode cX6_reads 20 = .ok (.ireturn, 1) := by decide +kernel
theorem dX6_reads_21 : decode cX6_reads 21 = .ok (.aload_n 0, 1) := by decide +kernel
theorem dX6_reads_22 : decode cX6_reads 22 = .ok (.getfield 20, 3) := by decide +kernel
theorem dX6_reads_25 : decode cX6_reads 25 = .ok (.iconst 3, 1) := by decide +kernel
theorem dX6_reads_26 : decode cX6_reads 26 = .ok (.aload_n 0, 1) := by decide +kernel
theorem dX6_reads_27 : decode cX6_reads 27 = .ok (.getfield 102, 3) := by decide +kernel
theorem dX6_reads_30 : decode cX6_reads 30 = .ok (.imul, 1) := by decide +kernel
theorem dX6_reads_31 : decode cX6_reads 31 = .ok (.iconst 1, 1) := by decide +kernel
theorem dX6_reads_32 : decode cX6_reads 32 = .ok (.iadd, 1) := by decide +kernel
theorem dX6_reads_33 : decode cX6_reads 33 = .ok (.iload_n 1, 1) := by decide +kernel
theorem dX6_reads_34 : decode cX6_reads 34 = .ok (.iadd, 1) := by decide +kernel
theorem dX6_reads_35 : decode cX6_reads 35 = .ok (.iload 4, 2) := by decide +kernel
theorem dX6_reads_37 : decode cX6_reads 37 = .ok (.iastore, 1) := by decide +kernel
theorem dX6_reads_38 : decode cX6_reads 38 = .ok (.aload_n 0, 1) := by decide +kernel
theorem dX6_reads_39 : decode cX6_reads 39 = .ok (.invokevirtual 105, 3) := by decide +kernel
theorem dX6_reads_42 : decode cX6_reads 42 = .ok (.iconst 1, 1) := by decide +kernel
theorem dX6_reads_43 : decode cX6_reads 43 = .ok (.ireturn, 1) := by decide +kernel
theorem dX6_readNext_0 : decode cX6_readNext 0 = .ok (.iload_n 1, 1) := by decide +kernel
theorem dX6_readNext_1 : decode cX6_readNext 1 = .ok (.iconst 1, 1) := by decide +kernel
theorem dX6_readNext_2 : decode cX6_readNext 2 = .ok (.iadd, 1) := by decide +kernel
theorem dX6_readNext_3 : decode cX6_readNext 3 = .ok (.aload_n 0, 1) := by decide +kernel
theorem dX6_readNext_4 : decode cX6_readNext 4 = .ok (.getfield 108, 3) := by decide +kernel
theorem dX6_readNext_7 : decode cX6_readNext 7 = .ok (.irem, 1) := by decide +kernel
theorem dX6_readNext_8 : decode cX6_readNext 8 = .ok (.ireturn, 1) := by decide +kernel
theorem dX6_fitsAngle_0 : decode cX6_fitsAngle 0 = .ok (.iload_n 1, 1) := by decide +kernel
theorem dX6_fitsAngle_1 : decode cX6_fitsAngle 1 = .ok (.aload_n 0, 1) := by decide +kernel
theorem dX6_fitsAngle_2 : decode cX6_fitsAngle 2 = .ok (.getfield 108, 3) := by decide +kernel
theorem dX6_fitsAngle_5 : decode cX6_fitsAngle 5 = .ok (.iadd, 1) := by decide +kernel
theorem dX6_fitsAngle_6 : decode cX6_fitsAngle 6 = .ok (.iconst 1, 1) := by decide +kernel
theorem dX6_fitsAngle_7 : decode cX6_fitsAngle 7 = .ok (.isub, 1) := by decide +kernel
theorem dX6_fitsAngle_8 : decode cX6_fitsAngle 8 = .ok (.aload_n 0, 1) := by decide +kernel
theorem dX6_fitsAngle_9 : decode cX6_fitsAngle 9 = .ok (.getfield 108, 3) := by decide +kernel
theorem dX6_fitsAngle_12 : decode cX6_fitsAngle 12 = .ok (.irem, 1) := by decide +kernel
theorem dX6_fitsAngle_13 : decode cX6_fitsAngle 13 = .ok (.istore_n 3, 1) := by decide +kernel
theorem dX6_fitsAngle_14 : decode cX6_fitsAngle 14 = .ok (.aload_n 0, 1) := by decide +kernel
theorem dX6_fitsAngle_15 : decode cX6_fitsAngle 15 = .ok (.getfield 36, 3) := by decide +kernel
theorem dX6_fitsAngle_18 : decode cX6_fitsAngle 18 = .ok (.iload_n 3, 1) := by decide +kernel
theorem dX6_fitsAngle_19 : decode cX6_fitsAngle 19 = .ok (.iaload, 1) := by decide +kernel
theorem dX6_fitsAngle_20 : decode cX6_fitsAngle 20 = .ok (.istore 4, 2) := by decide +kernel
theorem dX6_fitsAngle_22 : decode cX6_fitsAngle 22 = .ok (.aload_n 0, 1) := by decide +kernel
theorem dX6_fitsAngle_23 : decode cX6_fitsAngle 23 = .ok (.getfield 36, 3) := by decide +kernel
theorem dX6_fitsAngle_26 : decode cX6_fitsAngle 26 = .ok (.aload_n 0, 1) := by decide +kernel
theorem dX6_fitsAngle_27 : decode cX6_fitsAngle 27 = .ok (.iload_n 1, 1) := by decide +kernel
theorem dX6_fitsAngle_28 : decode cX6_fitsAngle 28 = .ok (.invokevirtual 111, 3) := by decide +kernel
theorem dX6_fitsAngle_31 : decode cX6_fitsAngle 31 = .ok (.iaload, 1) := by decide +kernel
theorem dX6_fitsAngle_32 : decode cX6_fitsAngle 32 = .ok (.istore 5, 2) := by decide +kernel
theorem dX6_fitsAngle_34 : decode cX6_fitsAngle 34 = .ok (.iload 4, 2) := by decide +kernel
theorem dX6_fitsAngle_36 : decode cX6_fitsAngle 36 = .ok (.iload_n 2, 1) := by decide +kernel
theorem dX6_fitsAngle_37 : decode cX6_fitsAngle 37 = .ok (.invokestatic 54, 3) := by decide +kernel
theorem dX6_fitsAngle_40 : decode cX6_fitsAngle 40 = .ok (.iload_n 2, 1) := by decide +kernel
theorem dX6_fitsAngle_41 : decode cX6_fitsAngle 41 = .ok (.iload 5, 2) := by decide +kernel
theorem dX6_fitsAngle_43 : decode cX6_fitsAngle 43 = .ok (.invokestatic 54, 3) := by decide +kernel
theorem dX6_fitsAngle_46 : decode cX6_fitsAngle 46 = .ok (.iadd, 1) := by decide +kernel
theorem dX6_fitsAngle_47 : decode cX6_fitsAngle 47 = .ok (.iload 4, 2) := by decide +kernel
theorem dX6_fitsAngle_49 : decode cX6_fitsAngle 49 = .ok (.iload 5, 2) := by decide +kernel
theorem dX6_fitsAngle_51 : decode cX6_fitsAngle 51 = .ok (.invokestatic 54, 3) := by decide +kernel
theorem dX6_fitsAngle_54 : decode cX6_fitsAngle 54 = .ok (.if_icmp .ne 37, 3) := by decide +kernel
theorem dX6_fitsAngle_57 : decode cX6_fitsAngle 57 = .ok (.iload 4, 2) := by decide +kernel
theorem dX6_fitsAngle_59 : decode cX6_fitsAngle 59 = .ok (.iload_n 2, 1) := by decide +kernel
theorem dX6_fitsAngle_60 : decode cX6_fitsAngle 60 = .ok (.invokestatic 54, 3) := by decide +kernel
theorem dX6_fitsAngle_63 : decode cX6_fitsAngle 63 = .ok (.aload_n 0, 1) := by decide +kernel
theorem dX6_fitsAngle_64 : decode cX6_fitsAngle 64 = .ok (.getfield 39, 3) := by decide +kernel
theorem dX6_fitsAngle_67 : decode cX6_fitsAngle 67 = .ok (.iload_n 3, 1) := by decide +kernel
theorem dX6_fitsAngle_68 : decode cX6_fitsAngle 68 = .ok (.iaload, 1) := by decide +kernel
theorem dX6_fitsAngle_69 : decode cX6_fitsAngle 69 = .ok (.if_icmp .le 22, 3) := by decide +kernel
theorem dX6_fitsAngle_72 : decode cX6_fitsAngle 72 = .ok (.iload_n 2, 1) := by decide +kernel
theorem dX6_fitsAngle_73 : decode cX6_fitsAngle 73 = .ok (.iload 5, 2) := by decide +kernel
theorem dX6_fitsAngle_75 : decode cX6_fitsAngle 75 = .ok (.invokestatic 54, 3) := by decide +kernel
theorem dX6_fitsAngle_78 : decode cX6_fitsAngle 78 = .ok (.aload_n 0, 1) := by decide +kernel
theorem dX6_fitsAngle_79 : decode cX6_fitsAngle 79 = .ok (.getfield 39, 3) := by decide +kernel
theorem dX6_fitsAngle_82 : decode cX6_fitsAngle 82 = .ok (.iload_n 1, 1) := by decide +kernel
theorem dX6_fitsAngle_83 : decode cX6_fitsAngle 83 = .ok (.iaload, 1) := by decide +kernel
theorem dX6_fitsAngle_84 : decode cX6_fitsAngle 84 = .ok (.if_icmp .le 7, 3) := by decide +kernel
theorem dX6_fitsAngle_87 : decode cX6_fitsAngle 87 = .ok (.iconst 1, 1) := by decide +kernel
theorem dX6_fitsAngle_88 : decode cX6_fitsAngle 88 = .ok (.goto 4, 3) := by decide +kernel
theorem dX6_fitsAngle_91 : decode cX6_fitsAngle 91 = .ok (.iconst 0, 1) := by decide +kernel
theorem dX6_fitsAngle_92 : decode cX6_fitsAngle 92 = .ok (.ireturn, 1) := by decide +kernel
theorem dX6_isNewDoor_0 : decode cX6_isNewDoor 0 = .ok (.iload_n 1, 1) := by decide +kernel
theorem dX6_isNewDoor_1 : decode cX6_isNewDoor 1 = .ok (.i2l, 1) := by decide +kernel
theorem dX6_isNewDoor_2 : decode cX6_isNewDoor 2 = .ok (.lconst 0, 1) := by decide +kernel
theorem dX6_isNewDoor_3 : decode cX6_isNewDoor 3 = .ok (.ldc2_w 114, 3) := by decide +kernel
theorem dX6_isNewDoor_6 : decode cX6_isNewDoor 6 = .ok (.invokestatic 60, 3) := by decide +kernel
theorem dX6_isNewDoor_9 : decode cX6_isNewDoor 9 = .ok (.ifCond .eq 15, 3) := by decide +kernel
theorem dX6_isNewDoor_12 : decode cX6_isNewDoor 12 = .ok (.aload_n 0, 1) := by decide +kernel
theorem dX6_isNewDoor_13 : decode cX6_isNewDoor 13 = .ok (.getfield 116, 3) := by decide +kernel
theorem dX6_isNewDoor_16 : decode cX6_isNewDoor 16 = .ok (.iconst 3, 1) := by decide +kernel
theorem dX6_isNewDoor_17 : decode cX6_isNewDoor 17 = .ok (.if_icmp .ge 7, 3) := by decide +kernel
theorem dX6_isNewDoor_20 : decode cX6_isNewDoor 20 = .ok (.iconst 1, 1) := by decide +kernel
theorem dX6_isNewDoor_21 : decode cX6_isNewDoor 21 = .ok (.goto 4, 3) := by decide +kernel
theorem dX6_isNewDoor_24 : decode cX6_isNewDoor 24 = .ok (.iconst 0, 1) := by decide +kernel
theorem dX6_isNewDoor_25 : decode cX6_isNewDoor 25 = .ok (.istore_n 2, 1) := by decide +kernel
theorem dX6_isNewDoor_26 : decode cX6_isNewDoor 26 = .ok (.iconst 0, 1) := by decide +kernel
theorem dX6_isNewDoor_27 : decode cX6_isNewDoor 27 = .ok (.istore_n 3, 1) := by decide +kernel
theorem dX6_isNewDoor_28 : decode cX6_isNewDoor 28 = .ok (.iload_n 3, 1) := by decide +kernel
theorem dX6_isNewDoor_29 : decode cX6_isNewDoor 29 = .ok (.aload_n 0, 1) := by decide +kernel
theorem dX6_isNewDoor_30 : decode cX6_isNewDoor 30 = .ok (.getfield 116, 3) := by decide +kernel
theorem dX6_isNewDoor_33 : decode cX6_isNewDoor 33 = .ok (.if_icmp .ge 29, 3) := by decide +kernel
theorem dX6_isNewDoor_36 : decode cX6_isNewDoor 36 = .ok (.iload_n 2, 1) := by decide +kernel
theorem dX6_isNewDoor_37 : decode cX6_isNewDoor 37 = .ok (.ifCond .eq 17, 3) := by decide +kernel
theorem dX6_isNewDoor_40 : decode cX6_isNewDoor 40 = .ok (.aload_n 0, 1) := by decide +kernel
theorem dX6_isNewDoor_41 : decode cX6_isNewDoor 41 = .ok (.getfield 42, 3) := by decide +kernel
theorem dX6_isNewDoor_44 : decode cX6_isNewDoor 44 = .ok (.iload_n 3, 1) := by decide +kernel
theorem dX6_isNewDoor_45 : decode cX6_isNewDoor 45 = .ok (.iaload, 1) := by decide +kernel
theorem dX6_isNewDoor_46 : decode cX6_isNewDoor 46 = .ok (.iload_n 1, 1) := by decide +kernel
theorem dX6_isNewDoor_47 : decode cX6_isNewDoor 47 = .ok (.if_icmp .eq 7, 3) := by decide +kernel
theorem dX6_isNewDoor_50 : decode cX6_isNewDoor 50 = .ok (.iconst 1, 1) := by decide +kernel
theorem dX6_isNewDoor_51 : decode cX6_isNewDoor 51 = .ok (.goto 4, 3) := by decide +kernel
theorem dX6_isNewDoor_54 : decode cX6_isNewDoor 54 = .ok (.iconst 0, 1) := by decide +kernel
theorem dX6_isNewDoor_55 : decode cX6_isNewDoor 55 = .ok (.istore_n 2, 1) := by decide +kernel
theorem dX6_isNewDoor_56 : decode cX6_isNewDoor 56 = .ok (.iinc 3 1, 3) := by decide +kernel
theorem dX6_isNewDoor_59 : decode cX6_isNewDoor 59 = .ok (.goto (-31), 3) := by decide +kernel
theorem dX6_isNewDoor_62 : decode cX6_isNewDoor 62 = .ok (.iload_n 2, 1) := by decide +kernel
theorem dX6_isNewDoor_63 : decode cX6_isNewDoor 63 = .ok (.ireturn, 1) := by decide +kernel
theorem dX6_readsLeaf_0 : decode cX6_readsLeaf 0 = .ok (.aload_n 0, 1) := by decide +kernel
theorem dX6_readsLeaf_1 : decode cX6_readsLeaf 1 = .ok (.iconst 0, 1) := by decide +kernel
theorem dX6_readsLeaf_2 : decode cX6_readsLeaf 2 = .ok (.iconst 0, 1) := by decide +kernel
theorem dX6_readsLeaf_3 : decode cX6_readsLeaf 3 = .ok (.aload_n 0, 1) := by decide +kernel
theorem dX6_readsLeaf_4 : decode cX6_readsLeaf 4 = .ok (.getfield 108, 3) := by decide +kernel
theorem dX6_readsLeaf_7 : decode cX6_readsLeaf 7 = .ok (.iconst 1, 1) := by decide +kernel
theorem dX6_readsLeaf_8 : decode cX6_readsLeaf 8 = .ok (.isub, 1) := by decide +kernel
theorem dX6_readsLeaf_9 : decode cX6_readsLeaf 9 = .ok (.invokevirtual 119, 3) := by decide +kernel
theorem dX6_readsLeaf_12 : decode cX6_readsLeaf 12 = .ok (.ifCond .ne 5, 3) := by decide +kernel
theorem dX6_readsLeaf_15 : decode cX6_readsLeaf 15 = .ok (.iconst 0, 1) := by decide +kernel
theorem dX6_readsLeaf_16 : decode cX6_readsLeaf 16 = .ok (.ireturn, 1) := by decide +kernel
theorem dX6_readsLeaf_17 : decode cX6_readsLeaf 17 = .ok (.aload_n 0, 1) := by decide +kernel
theorem dX6_readsLeaf_18 : decode cX6_readsLeaf 18 = .ok (.getfield 20, 3) := by decide +kernel
theorem dX6_readsLeaf_21 : decode cX6_readsLeaf 21 = .ok (.iconst 3, 1) := by decide +kernel
theorem dX6_readsLeaf_22 : decode cX6_readsLeaf 22 = .ok (.aload_n 0, 1) := by decide +kernel
theorem dX6_readsLeaf_23 : decode cX6_readsLeaf 23 = .ok (.getfield 102, 3) := by decide +kernel
theorem dX6_readsLeaf_26 : decode cX6_readsLeaf 26 = .ok (.imul, 1) := by decide +kernel
theorem dX6_readsLeaf_27 : decode cX6_readsLeaf 27 = .ok (.iconst 1, 1) := by decide +kernel
theorem dX6_readsLeaf_28 : decode cX6_readsLeaf 28 = .ok (.iadd, 1) := by decide +kernel
theorem dX6_readsLeaf_29 : decode cX6_readsLeaf 29 = .ok (.iaload, 1) := by decide +kernel
theorem dX6_readsLeaf_30 : decode cX6_readsLeaf 30 = .ok (.istore_n 1, 1) := by decide +kernel
theorem dX6_readsLeaf_31 : decode cX6_readsLeaf 31 = .ok (.aload_n 0, 1) := by decide +kernel
theorem dX6_readsLeaf_32 : decode cX6_readsLeaf 32 = .ok (.invokevirtual 99, 3) := by decide +kernel
theorem dX6_readsLeaf_35 : decode cX6_readsLeaf 35 = .ok (.istore_n 2, 1) := by decide +kernel
theorem dX6_readsLeaf_36 : decode cX6_readsLeaf 36 = .ok (.iload_n 2, 1) := by decide +kernel
theorem dX6_readsLeaf_37 : decode cX6_readsLeaf 37 = .ok (.i2l, 1) := by decide +kernel
theorem dX6_readsLeaf_38 : decode cX6_readsLeaf 38 = .ok (.lconst 0, 1) := by decide +kernel
theorem dX6_readsLeaf_39 : decode cX6_readsLeaf 39 = .ok (.ldc2_w 114, 3) := by decide +kernel
theorem dX6_readsLeaf_42 : decode cX6_readsLeaf 42 = .ok (.invokestatic 60, 3) := by decide +kernel
theorem dX6_readsLeaf_45 : decode cX6_readsLeaf 45 = .ok (.ifCond .eq 27, 3) := by decide +kernel
theorem dX6_readsLeaf_48 : decode cX6_readsLeaf 48 = .ok (.aload_n 0, 1) := by decide +kernel
theorem dX6_readsLeaf_49 : decode cX6_readsLeaf 49 = .ok (.iload_n 1, 1) := by decide +kernel
theorem dX6_readsLeaf_50 : decode cX6_readsLeaf 50 = .ok (.iload_n 2, 1) := by decide +kernel
theorem dX6_readsLeaf_51 : decode cX6_readsLeaf 51 = .ok (.invokevirtual 123, 3) := by decide +kernel
theorem dX6_readsLeaf_54 : decode cX6_readsLeaf 54 = .ok (.ifCond .eq 18, 3) := by decide +kernel
theorem dX6_readsLeaf_57 : decode cX6_readsLeaf 57 = .ok (.aload_n 0, 1) := by decide +kernel
theorem dX6_readsLeaf_58 : decode cX6_readsLeaf 58 = .ok (.iconst 1, 1) := by decide +kernel
theorem dX6_readsLeaf_59 : decode cX6_readsLeaf 59 = .ok (.iconst 0, 1) := by decide +kernel
theorem dX6_readsLeaf_60 : decode cX6_readsLeaf 60 = .ok (.bipush 71, 2) := by decide +kernel
theorem dX6_readsLeaf_62 : decode cX6_readsLeaf 62 = .ok (.invokevirtual 119, 3) := by decide +kernel
theorem dX6_readsLeaf_65 : decode cX6_readsLeaf 65 = .ok (.ifCond .eq 7, 3) := by decide +kernel
theorem dX6_readsLeaf_68 : decode cX6_readsLeaf 68 = .ok (.iconst 1, 1) := by decide +kernel
theorem dX6_readsLeaf_69 : decode cX6_readsLeaf 69 = .ok (.goto 4, 3) := by decide +kernel
theorem dX6_readsLeaf_72 : decode cX6_readsLeaf 72 = .ok (.iconst 0, 1) := by decide +kernel
theorem dX6_readsLeaf_73 : decode cX6_readsLeaf 73 = .ok (.ireturn, 1) := by decide +kernel
theorem dX6_readsPut_0 : decode cX6_readsPut 0 = .ok (.aload_n 0, 1) := by decide +kernel
theorem dX6_readsPut_1 : decode cX6_readsPut 1 = .ok (.iconst 0, 1) := by decide +kernel
theorem dX6_readsPut_2 : decode cX6_readsPut 2 = .ok (.iconst 0, 1) := by decide +kernel
theorem dX6_readsPut_3 : decode cX6_readsPut 3 = .ok (.aload_n 0, 1) := by decide +kernel
theorem dX6_readsPut_4 : decode cX6_readsPut 4 = .ok (.getfield 108, 3) := by decide +kernel
theorem dX6_readsPut_7 : decode cX6_readsPut 7 = .ok (.iconst 1, 1) := by decide +kernel
theorem dX6_readsPut_8 : decode cX6_readsPut 8 = .ok (.isub, 1) := by decide +kernel
theorem dX6_readsPut_9 : decode cX6_readsPut 9 = .ok (.invokevirtual 119, 3) := by decide +kernel
theorem dX6_readsPut_12 : decode cX6_readsPut 12 = .ok (.ifCond .ne 5, 3) := by decide +kernel
theorem dX6_readsPut_15 : decode cX6_readsPut 15 = .ok (.iconst 0, 1) := by decide +kernel
theorem dX6_readsPut_16 : decode cX6_readsPut 16 = .ok (.ireturn, 1) := by decide +kernel
theorem dX6_readsPut_17 : decode cX6_readsPut 17 = .ok (.aload_n 0, 1) := by decide +kernel
theorem dX6_readsPut_18 : decode cX6_readsPut 18 = .ok (.getfield 20, 3) := by decide +kernel
theorem dX6_readsPut_21 : decode cX6_readsPut 21 = .ok (.iconst 3, 1) := by decide +kernel
theorem dX6_readsPut_22 : decode cX6_readsPut 22 = .ok (.aload_n 0, 1) := by decide +kernel
theorem dX6_readsPut_23 : decode cX6_readsPut 23 = .ok (.getfield 102, 3) := by decide +kernel
theorem dX6_readsPut_26 : decode cX6_readsPut 26 = .ok (.imul, 1) := by decide +kernel
theorem dX6_readsPut_27 : decode cX6_readsPut 27 = .ok (.iconst 1, 1) := by decide +kernel
theorem dX6_readsPut_28 : decode cX6_readsPut 28 = .ok (.iadd, 1) := by decide +kernel
theorem dX6_readsPut_29 : decode cX6_readsPut 29 = .ok (.iaload, 1) := by decide +kernel
theorem dX6_readsPut_30 : decode cX6_readsPut 30 = .ok (.istore_n 1, 1) := by decide +kernel
theorem dX6_readsPut_31 : decode cX6_readsPut 31 = .ok (.aload_n 0, 1) := by decide +kernel
theorem dX6_readsPut_32 : decode cX6_readsPut 32 = .ok (.getfield 36, 3) := by decide +kernel
theorem dX6_readsPut_35 : decode cX6_readsPut 35 = .ok (.iload_n 1, 1) := by decide +kernel
theorem dX6_readsPut_36 : decode cX6_readsPut 36 = .ok (.iaload, 1) := by decide +kernel
theorem dX6_readsPut_37 : decode cX6_readsPut 37 = .ok (.aload_n 0, 1) := by decide +kernel
theorem dX6_readsPut_38 : decode cX6_readsPut 38 = .ok (.getfield 36, 3) := by decide +kernel
theorem dX6_readsPut_41 : decode cX6_readsPut 41 = .ok (.aload_n 0, 1) := by decide +kernel
theorem dX6_readsPut_42 : decode cX6_readsPut 42 = .ok (.iload_n 1, 1) := by decide +kernel
theorem dX6_readsPut_43 : decode cX6_readsPut 43 = .ok (.invokevirtual 111, 3) := by decide +kernel
theorem dX6_readsPut_46 : decode cX6_readsPut 46 = .ok (.iaload, 1) := by decide +kernel
theorem dX6_readsPut_47 : decode cX6_readsPut 47 = .ok (.invokestatic 54, 3) := by decide +kernel
theorem dX6_readsPut_50 : decode cX6_readsPut 50 = .ok (.istore_n 2, 1) := by decide +kernel
theorem dX6_readsPut_51 : decode cX6_readsPut 51 = .ok (.aload_n 0, 1) := by decide +kernel
theorem dX6_readsPut_52 : decode cX6_readsPut 52 = .ok (.iconst 1, 1) := by decide +kernel
theorem dX6_readsPut_53 : decode cX6_readsPut 53 = .ok (.iconst 0, 1) := by decide +kernel
theorem dX6_readsPut_54 : decode cX6_readsPut 54 = .ok (.iload_n 2, 1) := by decide +kernel
theorem dX6_readsPut_55 : decode cX6_readsPut 55 = .ok (.iconst 1, 1) := by decide +kernel
theorem dX6_readsPut_56 : decode cX6_readsPut 56 = .ok (.isub, 1) := by decide +kernel
theorem dX6_readsPut_57 : decode cX6_readsPut 57 = .ok (.bipush 20, 2) := by decide +kernel
theorem dX6_readsPut_59 : decode cX6_readsPut 59 = .ok (.if_icmp .ge 9, 3) := by decide +kernel
theorem dX6_readsPut_62 : decode cX6_readsPut 62 = .ok (.iload_n 2, 1) := by decide +kernel
theorem dX6_readsPut_63 : decode cX6_readsPut 63 = .ok (.iconst 1, 1) := by decide +kernel
theorem dX6_readsPut_64 : decode cX6_readsPut 64 = .ok (.isub, 1) := by decide +kernel
theorem dX6_readsPut_65 : decode cX6_readsPut 65 = .ok (.goto 5, 3) := by decide +kernel
theorem dX6_readsPut_68 : decode cX6_readsPut 68 = .ok (.bipush 20, 2) := by decide +kernel
theorem dX6_readsPut_70 : decode cX6_readsPut 70 = .ok (.invokevirtual 119, 3) := by decide +kernel
theorem dX6_readsPut_73 : decode cX6_readsPut 73 = .ok (.ireturn, 1) := by decide +kernel
theorem dX6_readsRest_0 : decode cX6_readsRest 0 = .ok (.iload_n 1, 1) := by decide +kernel
theorem dX6_readsRest_1 : decode cX6_readsRest 1 = .ok (.tableswitch 104 0 9 #[55, 64, 104, 104, 104, 104, 69, 74, 104, 102], 55) := by decide +kernel
theorem dX6_readsRest_56 : decode cX6_readsRest 56 = .ok (.aload_n 0, 1) := by decide +kernel
theorem dX6_readsRest_57 : decode cX6_readsRest 57 = .ok (.iconst 0, 1) := by decide +kernel
theorem dX6_readsRest_58 : decode cX6_readsRest 58 = .ok (.iconst 3, 1) := by decide +kernel
theorem dX6_readsRest_59 : decode cX6_readsRest 59 = .ok (.bipush 8, 2) := by decide +kernel
theorem dX6_readsRest_61 : decode cX6_readsRest 61 = .ok (.invokevirtual 119, 3) := by decide +kernel
theorem dX6_readsRest_64 : decode cX6_readsRest 64 = .ok (.ireturn, 1) := by decide +kernel
theorem dX6_readsRest_65 : decode cX6_readsRest 65 = .ok (.aload_n 0, 1) := by decide +kernel
theorem dX6_readsRest_66 : decode cX6_readsRest 66 = .ok (.invokevirtual 126, 3) := by decide +kernel
theorem dX6_readsRest_69 : decode cX6_readsRest 69 = .ok (.ireturn, 1) := by decide +kernel
theorem dX6_readsRest_70 : decode cX6_readsRest 70 = .ok (.aload_n 0, 1) := by decide +kernel
theorem dX6_readsRest_71 : decode cX6_readsRest 71 = .ok (.invokevirtual 130, 3) := by decide +kernel
theorem dX6_readsRest_74 : decode cX6_readsRest 74 = .ok (.ireturn, 1) := by decide +kernel
theorem dX6_readsRest_75 : decode cX6_readsRest 75 = .ok (.aload_n 0, 1) := by decide +kernel
theorem dX6_readsRest_76 : decode cX6_readsRest 76 = .ok (.aload_n 0, 1) := by decide +kernel
theorem dX6_readsRest_77 : decode cX6_readsRest 77 = .ok (.invokevirtual 99, 3) := by decide +kernel
theorem dX6_readsRest_80 : decode cX6_readsRest 80 = .ok (.invokevirtual 133, 3) := by decide +kernel
theorem dX6_readsRest_83 : decode cX6_readsRest 83 = .ok (.ifCond .eq 18, 3) := by decide +kernel
theorem dX6_readsRest_86 : decode cX6_readsRest 86 = .ok (.aload_n 0, 1) := by decide +kernel
theorem dX6_readsRest_87 : decode cX6_readsRest 87 = .ok (.iconst 0, 1) := by decide +kernel
theorem dX6_readsRest_88 : decode cX6_readsRest 88 = .ok (.iconst 0, 1) := by decide +kernel
theorem dX6_readsRest_89 : decode cX6_readsRest 89 = .ok (.bipush 71, 2) := by decide +kernel
theorem dX6_readsRest_91 : decode cX6_readsRest 91 = .ok (.invokevirtual 119, 3) := by decide +kernel
theorem dX6_readsRest_94 : decode cX6_readsRest 94 = .ok (.ifCond .eq 7, 3) := by decide +kernel
theorem dX6_readsRest_97 : decode cX6_readsRest 97 = .ok (.iconst 1, 1) := by decide +kernel
theorem dX6_readsRest_98 : decode cX6_readsRest 98 = .ok (.goto 4, 3) := by decide +kernel
theorem dX6_readsRest_101 : decode cX6_readsRest 101 = .ok (.iconst 0, 1) := by decide +kernel
theorem dX6_readsRest_102 : decode cX6_readsRest 102 = .ok (.ireturn, 1) := by decide +kernel
theorem dX6_readsRest_103 : decode cX6_readsRest 103 = .ok (.iconst 1, 1) := by decide +kernel
theorem dX6_readsRest_104 : decode cX6_readsRest 104 = .ok (.ireturn, 1) := by decide +kernel
theorem dX6_readsRest_105 : decode cX6_readsRest 105 = .ok (.aload_n 0, 1) := by decide +kernel
theorem dX6_readsRest_106 : decode cX6_readsRest 106 = .ok (.iconst 0, 1) := by decide +kernel
theorem dX6_readsRest_107 : decode cX6_readsRest 107 = .ok (.iconst 0, 1) := by decide +kernel
theorem dX6_readsRest_108 : decode cX6_readsRest 108 = .ok (.aload_n 0, 1) := by decide +kernel
theorem dX6_readsRest_109 : decode cX6_readsRest 109 = .ok (.getfield 108, 3) := by decide +kernel
theorem dX6_readsRest_112 : decode cX6_readsRest 112 = .ok (.iconst 1, 1) := by decide +kernel
theorem dX6_readsRest_113 : decode cX6_readsRest 113 = .ok (.isub, 1) := by decide +kernel
theorem dX6_readsRest_114 : decode cX6_readsRest 114 = .ok (.invokevirtual 119, 3) := by decide +kernel
theorem dX6_readsRest_117 : decode cX6_readsRest 117 = .ok (.ireturn, 1) := by decide +kernel
theorem dX6_goOn_0 : decode cX6_goOn 0 = .ok (.iload_n 1, 1) := by decide +kernel
theorem dX6_goOn_1 : decode cX6_goOn 1 = .ok (.ifCond .ne 51, 3) := by decide +kernel
theorem dX6_goOn_4 : decode cX6_goOn 4 = .ok (.aload_n 0, 1) := by decide +kernel
theorem dX6_goOn_5 : decode cX6_goOn 5 = .ok (.iload_n 2, 1) := by decide +kernel
theorem dX6_goOn_6 : decode cX6_goOn 6 = .ok (.putfield 108, 3) := by decide +kernel
theorem dX6_goOn_9 : decode cX6_goOn 9 = .ok (.aload_n 0, 1) := by decide +kernel
theorem dX6_goOn_10 : decode cX6_goOn 10 = .ok (.iconst 0, 1) := by decide +kernel
theorem dX6_goOn_11 : decode cX6_goOn 11 = .ok (.putfield 116, 3) := by decide +kernel
theorem dX6_goOn_14 : decode cX6_goOn 14 = .ok (.iconst 0, 1) := by decide +kernel
theorem dX6_goOn_15 : decode cX6_goOn 15 = .ok (.istore 4, 2) := by decide +kernel
theorem dX6_goOn_17 : decode cX6_goOn 17 = .ok (.iload 4, 2) := by decide +kernel
theorem dX6_goOn_19 : decode cX6_goOn 19 = .ok (.bipush 8, 2) := by decide +kernel
theorem dX6_goOn_21 : decode cX6_goOn 21 = .ok (.if_icmp .ge 31, 3) := by decide +kernel
theorem dX6_goOn_24 : decode cX6_goOn 24 = .ok (.aload_n 0, 1) := by decide +kernel
theorem dX6_goOn_25 : decode cX6_goOn 25 = .ok (.getfield 36, 3) := by decide +kernel
theorem dX6_goOn_28 : decode cX6_goOn 28 = .ok (.iload 4, 2) := by decide +kernel
theorem dX6_goOn_30 : decode cX6_goOn 30 = .ok (.bipush 72, 2) := by decide +kernel
theorem dX6_goOn_32 : decode cX6_goOn 32 = .ok (.iload 4, 2) := by decide +kernel
theorem dX6_goOn_34 : decode cX6_goOn 34 = .ok (.imul, 1) := by decide +kernel
theorem dX6_goOn_35 : decode cX6_goOn 35 = .ok (.iload_n 2, 1) := by decide +kernel
theorem dX6_goOn_36 : decode cX6_goOn 36 = .ok (.idiv, 1) := by decide +kernel
theorem dX6_goOn_37 : decode cX6_goOn 37 = .ok (.iastore, 1) := by decide +kernel
theorem dX6_goOn_38 : decode cX6_goOn 38 = .ok (.aload_n 0, 1) := by decide +kernel
theorem dX6_goOn_39 : decode cX6_goOn 39 = .ok (.getfield 39, 3) := by decide +kernel
theorem dX6_goOn_42 : decode cX6_goOn 42 = .ok (.iload 4, 2) := by decide +kernel
theorem dX6_goOn_44 : decode cX6_goOn 44 = .ok (.iconst 0, 1) := by decide +kernel
theorem dX6_goOn_45 : decode cX6_goOn 45 = .ok (.iastore, 1) := by decide +kernel
theorem dX6_goOn_46 : decode cX6_goOn 46 = .ok (.iinc 4 1, 3) := by decide +kernel
theorem dX6_goOn_49 : decode cX6_goOn 49 = .ok (.goto (-32), 3) := by decide +kernel
theorem dX6_goOn_52 : decode cX6_goOn 52 = .ok (.iload_n 1, 1) := by decide +kernel
theorem dX6_goOn_53 : decode cX6_goOn 53 = .ok (.iconst 1, 1) := by decide +kernel
theorem dX6_goOn_54 : decode cX6_goOn 54 = .ok (.if_icmp .ne 10, 3) := by decide +kernel
theorem dX6_goOn_57 : decode cX6_goOn 57 = .ok (.aload_n 0, 1) := by decide +kernel
theorem dX6_goOn_58 : decode cX6_goOn 58 = .ok (.getfield 36, 3) := by decide +kernel
theorem dX6_goOn_61 : decode cX6_goOn 61 = .ok (.iload_n 2, 1) := by decide +kernel
theorem dX6_goOn_62 : decode cX6_goOn 62 = .ok (.iload_n 3, 1) := by decide +kernel
theorem dX6_goOn_63 : decode cX6_goOn 63 = .ok (.iastore, 1) := by decide +kernel
theorem dX6_goOn_64 : decode cX6_goOn 64 = .ok (.iload_n 1, 1) := by decide +kernel
theorem dX6_goOn_65 : decode cX6_goOn 65 = .ok (.bipush 6, 2) := by decide +kernel
theorem dX6_goOn_67 : decode cX6_goOn 67 = .ok (.if_icmp .ne 10, 3) := by decide +kernel
theorem dX6_goOn_70 : decode cX6_goOn 70 = .ok (.aload_n 0, 1) := by decide +kernel
theorem dX6_goOn_71 : decode cX6_goOn 71 = .ok (.getfield 39, 3) := by decide +kernel
theorem dX6_goOn_74 : decode cX6_goOn 74 = .ok (.iload_n 2, 1) := by decide +kernel
theorem dX6_goOn_75 : decode cX6_goOn 75 = .ok (.iload_n 3, 1) := by decide +kernel
theorem dX6_goOn_76 : decode cX6_goOn 76 = .ok (.iastore, 1) := by decide +kernel
theorem dX6_goOn_77 : decode cX6_goOn 77 = .ok (.iload_n 1, 1) := by decide +kernel
theorem dX6_goOn_78 : decode cX6_goOn 78 = .ok (.bipush 7, 2) := by decide +kernel
theorem dX6_goOn_80 : decode cX6_goOn 80 = .ok (.if_icmp .ne 23, 3) := by decide +kernel
theorem dX6_goOn_83 : decode cX6_goOn 83 = .ok (.aload_n 0, 1) := by decide +kernel
theorem dX6_goOn_84 : decode cX6_goOn 84 = .ok (.getfield 42, 3) := by decide +kernel
theorem dX6_goOn_87 : decode cX6_goOn 87 = .ok (.aload_n 0, 1) := by decide +kernel
theorem dX6_goOn_88 : decode cX6_goOn 88 = .ok (.getfield 116, 3) := by decide +kernel
theorem dX6_goOn_91 : decode cX6_goOn 91 = .ok (.iload_n 2, 1) := by decide +kernel
theorem dX6_goOn_92 : decode cX6_goOn 92 = .ok (.iastore, 1) := by decide +kernel
theorem dX6_goOn_93 : decode cX6_goOn 93 = .ok (.aload_n 0, 1) := by decide +kernel
theorem dX6_goOn_94 : decode cX6_goOn 94 = .ok (.dup, 1) := by decide +kernel
theorem dX6_goOn_95 : decode cX6_goOn 95 = .ok (.getfield 116, 3) := by decide +kernel
theorem dX6_goOn_98 : decode cX6_goOn 98 = .ok (.iconst 1, 1) := by decide +kernel
theorem dX6_goOn_99 : decode cX6_goOn 99 = .ok (.iadd, 1) := by decide +kernel
theorem dX6_goOn_100 : decode cX6_goOn 100 = .ok (.putfield 116, 3) := by decide +kernel
theorem dX6_goOn_103 : decode cX6_goOn 103 = .ok (.aload_n 0, 1) := by decide +kernel
theorem dX6_goOn_104 : decode cX6_goOn 104 = .ok (.iload_n 1, 1) := by decide +kernel
theorem dX6_goOn_105 : decode cX6_goOn 105 = .ok (.ifCond .eq 9, 3) := by decide +kernel
theorem dX6_goOn_108 : decode cX6_goOn 108 = .ok (.iload_n 1, 1) := by decide +kernel
theorem dX6_goOn_109 : decode cX6_goOn 109 = .ok (.bipush 9, 2) := by decide +kernel
theorem dX6_goOn_111 : decode cX6_goOn 111 = .ok (.if_icmp .ne 7, 3) := by decide +kernel
theorem dX6_goOn_114 : decode cX6_goOn 114 = .ok (.iconst 0, 1) := by decide +kernel
theorem dX6_goOn_115 : decode cX6_goOn 115 = .ok (.goto 22, 3) := by decide +kernel
theorem dX6_goOn_118 : decode cX6_goOn 118 = .ok (.iload_n 1, 1) := by decide +kernel
theorem dX6_goOn_119 : decode cX6_goOn 119 = .ok (.bipush 8, 2) := by decide +kernel
theorem dX6_goOn_121 : decode cX6_goOn 121 = .ok (.if_icmp .ne 12, 3) := by decide +kernel
theorem dX6_goOn_124 : decode cX6_goOn 124 = .ok (.aload_n 0, 1) := by decide +kernel
theorem dX6_goOn_125 : decode cX6_goOn 125 = .ok (.getfield 137, 3) := by decide +kernel
theorem dX6_goOn_128 : decode cX6_goOn 128 = .ok (.iconst 1, 1) := by decide +kernel
theorem dX6_goOn_129 : decode cX6_goOn 129 = .ok (.iadd, 1) := by decide +kernel
theorem dX6_goOn_130 : decode cX6_goOn 130 = .ok (.goto 7, 3) := by decide +kernel
theorem dX6_goOn_133 : decode cX6_goOn 133 = .ok (.aload_n 0, 1) := by decide +kernel
theorem dX6_goOn_134 : decode cX6_goOn 134 = .ok (.getfield 137, 3) := by decide +kernel
theorem dX6_goOn_137 : decode cX6_goOn 137 = .ok (.putfield 137, 3) := by decide +kernel
theorem dX6_goOn_140 : decode cX6_goOn 140 = .ok (.return_, 1) := by decide +kernel
theorem dX6_readsLine_0 : decode cX6_readsLine 0 = .ok (.aload_n 0, 1) := by decide +kernel
theorem dX6_readsLine_1 : decode cX6_readsLine 1 = .ok (.invokevirtual 140, 3) := by decide +kernel
theorem dX6_readsLine_4 : decode cX6_readsLine 4 = .ok (.istore_n 1, 1) := by decide +kernel
theorem dX6_readsLine_5 : decode cX6_readsLine 5 = .ok (.iload_n 1, 1) := by decide +kernel
theorem dX6_readsLine_6 : decode cX6_readsLine 6 = .ok (.iconst (-1), 1) := by decide +kernel
theorem dX6_readsLine_7 : decode cX6_readsLine 7 = .ok (.if_icmp .eq 17, 3) := by decide +kernel
theorem dX6_readsLine_10 : decode cX6_readsLine 10 = .ok (.iload_n 1, 1) := by decide +kernel
theorem dX6_readsLine_11 : decode cX6_readsLine 11 = .ok (.bipush 8, 2) := by decide +kernel
theorem dX6_readsLine_13 : decode cX6_readsLine 13 = .ok (.if_icmp .ne 13, 3) := by decide +kernel
theorem dX6_readsLine_16 : decode cX6_readsLine 16 = .ok (.aload_n 0, 1) := by decide +kernel
theorem dX6_readsLine_17 : decode cX6_readsLine 17 = .ok (.getfield 137, 3) := by decide +kernel
theorem dX6_readsLine_20 : decode cX6_readsLine 20 = .ok (.iconst 5, 1) := by decide +kernel
theorem dX6_readsLine_21 : decode cX6_readsLine 21 = .ok (.if_icmp .ne 5, 3) := by decide +kernel
theorem dX6_readsLine_24 : decode cX6_readsLine 24 = .ok (.iconst 0, 1) := by decide +kernel
theorem dX6_readsLine_25 : decode cX6_readsLine 25 = .ok (.ireturn, 1) := by decide +kernel
theorem dX6_readsLine_26 : decode cX6_readsLine 26 = .ok (.aload_n 0, 1) := by decide +kernel
theorem dX6_readsLine_27 : decode cX6_readsLine 27 = .ok (.invokevirtual 105, 3) := by decide +kernel
theorem dX6_readsLine_30 : decode cX6_readsLine 30 = .ok (.aload_n 0, 1) := by decide +kernel
theorem dX6_readsLine_31 : decode cX6_readsLine 31 = .ok (.getfield 20, 3) := by decide +kernel
theorem dX6_readsLine_34 : decode cX6_readsLine 34 = .ok (.iconst 3, 1) := by decide +kernel
theorem dX6_readsLine_35 : decode cX6_readsLine 35 = .ok (.aload_n 0, 1) := by decide +kernel
theorem dX6_readsLine_36 : decode cX6_readsLine 36 = .ok (.getfield 102, 3) := by decide +kernel
theorem dX6_readsLine_39 : decode cX6_readsLine 39 = .ok (.imul, 1) := by decide +kernel
theorem dX6_readsLine_40 : decode cX6_readsLine 40 = .ok (.iload_n 1, 1) := by decide +kernel
theorem dX6_readsLine_41 : decode cX6_readsLine 41 = .ok (.iastore, 1) := by decide +kernel
theorem dX6_readsLine_42 : decode cX6_readsLine 42 = .ok (.aload_n 0, 1) := by decide +kernel
theorem dX6_readsLine_43 : decode cX6_readsLine 43 = .ok (.iload_n 1, 1) := by decide +kernel
theorem dX6_readsLine_44 : decode cX6_readsLine 44 = .ok (.invokevirtual 143, 3) := by decide +kernel
theorem dX6_readsLine_47 : decode cX6_readsLine 47 = .ok (.ifCond .ne 5, 3) := by decide +kernel
theorem dX6_readsLine_50 : decode cX6_readsLine 50 = .ok (.iconst 0, 1) := by decide +kernel
theorem dX6_readsLine_51 : decode cX6_readsLine 51 = .ok (.ireturn, 1) := by decide +kernel
theorem dX6_readsLine_52 : decode cX6_readsLine 52 = .ok (.aload_n 0, 1) := by decide +kernel
theorem dX6_readsLine_53 : decode cX6_readsLine 53 = .ok (.iload_n 1, 1) := by decide +kernel
theorem dX6_readsLine_54 : decode cX6_readsLine 54 = .ok (.aload_n 0, 1) := by decide +kernel
theorem dX6_readsLine_55 : decode cX6_readsLine 55 = .ok (.getfield 20, 3) := by decide +kernel
theorem dX6_readsLine_58 : decode cX6_readsLine 58 = .ok (.iconst 3, 1) := by decide +kernel
theorem dX6_readsLine_59 : decode cX6_readsLine 59 = .ok (.aload_n 0, 1) := by decide +kernel
theorem dX6_readsLine_60 : decode cX6_readsLine 60 = .ok (.getfield 102, 3) := by decide +kernel
theorem dX6_readsLine_63 : decode cX6_readsLine 63 = .ok (.imul, 1) := by decide +kernel
theorem dX6_readsLine_64 : decode cX6_readsLine 64 = .ok (.iconst 1, 1) := by decide +kernel
theorem dX6_readsLine_65 : decode cX6_readsLine 65 = .ok (.iadd, 1) := by decide +kernel
theorem dX6_readsLine_66 : decode cX6_readsLine 66 = .ok (.iaload, 1) := by decide +kernel
theorem dX6_readsLine_67 : decode cX6_readsLine 67 = .ok (.aload_n 0, 1) := by decide +kernel
theorem dX6_readsLine_68 : decode cX6_readsLine 68 = .ok (.getfield 20, 3) := by decide +kernel
theorem dX6_readsLine_71 : decode cX6_readsLine 71 = .ok (.iconst 3, 1) := by decide +kernel
theorem dX6_readsLine_72 : decode cX6_readsLine 72 = .ok (.aload_n 0, 1) := by decide +kernel
theorem dX6_readsLine_73 : decode cX6_readsLine 73 = .ok (.getfield 102, 3) := by decide +kernel
theorem dX6_readsLine_76 : decode cX6_readsLine 76 = .ok (.imul, 1) := by decide +kernel
theorem dX6_readsLine_77 : decode cX6_readsLine 77 = .ok (.iconst 2, 1) := by decide +kernel
theorem dX6_readsLine_78 : decode cX6_readsLine 78 = .ok (.iadd, 1) := by decide +kernel
theorem dX6_readsLine_79 : decode cX6_readsLine 79 = .ok (.iaload, 1) := by decide +kernel
theorem dX6_readsLine_80 : decode cX6_readsLine 80 = .ok (.invokevirtual 146, 3) := by decide +kernel
theorem dX6_readsLine_83 : decode cX6_readsLine 83 = .ok (.aload_n 0, 1) := by decide +kernel
theorem dX6_readsLine_84 : decode cX6_readsLine 84 = .ok (.dup, 1) := by decide +kernel
theorem dX6_readsLine_85 : decode cX6_readsLine 85 = .ok (.getfield 102, 3) := by decide +kernel
theorem dX6_readsLine_88 : decode cX6_readsLine 88 = .ok (.iconst 1, 1) := by decide +kernel
theorem dX6_readsLine_89 : decode cX6_readsLine 89 = .ok (.iadd, 1) := by decide +kernel
theorem dX6_readsLine_90 : decode cX6_readsLine 90 = .ok (.putfield 102, 3) := by decide +kernel
theorem dX6_readsLine_93 : decode cX6_readsLine 93 = .ok (.iconst 1, 1) := by decide +kernel
theorem dX6_readsLine_94 : decode cX6_readsLine 94 = .ok (.ireturn, 1) := by decide +kernel
theorem dX6_fault_0 : decode cX6_fault 0 = .ok (.aload_n 0, 1) := by decide +kernel
theorem dX6_fault_1 : decode cX6_fault 1 = .ok (.iconst 0, 1) := by decide +kernel
theorem dX6_fault_2 : decode cX6_fault 2 = .ok (.putfield 69, 3) := by decide +kernel
theorem dX6_fault_5 : decode cX6_fault 5 = .ok (.aload_n 0, 1) := by decide +kernel
theorem dX6_fault_6 : decode cX6_fault 6 = .ok (.iconst 0, 1) := by decide +kernel
theorem dX6_fault_7 : decode cX6_fault 7 = .ok (.putfield 102, 3) := by decide +kernel
theorem dX6_fault_10 : decode cX6_fault 10 = .ok (.aload_n 0, 1) := by decide +kernel
theorem dX6_fault_11 : decode cX6_fault 11 = .ok (.aload_n 0, 1) := by decide +kernel
theorem dX6_fault_12 : decode cX6_fault 12 = .ok (.getfield 23, 3) := by decide +kernel
theorem dX6_fault_15 : decode cX6_fault 15 = .ok (.putfield 108, 3) := by decide +kernel
theorem dX6_fault_18 : decode cX6_fault 18 = .ok (.aload_n 0, 1) := by decide +kernel
theorem dX6_fault_19 : decode cX6_fault 19 = .ok (.aload_n 0, 1) := by decide +kernel
theorem dX6_fault_20 : decode cX6_fault 20 = .ok (.getfield 150, 3) := by decide +kernel
theorem dX6_fault_23 : decode cX6_fault 23 = .ok (.putfield 116, 3) := by decide +kernel
theorem dX6_fault_26 : decode cX6_fault 26 = .ok (.aload_n 0, 1) := by decide +kernel
theorem dX6_fault_27 : decode cX6_fault 27 = .ok (.aload_n 0, 1) := by decide +kernel
theorem dX6_fault_28 : decode cX6_fault 28 = .ok (.getfield 153, 3) := by decide +kernel
theorem dX6_fault_31 : decode cX6_fault 31 = .ok (.putfield 137, 3) := by decide +kernel
theorem dX6_fault_34 : decode cX6_fault 34 = .ok (.iconst 0, 1) := by decide +kernel
theorem dX6_fault_35 : decode cX6_fault 35 = .ok (.istore_n 1, 1) := by decide +kernel
theorem dX6_fault_36 : decode cX6_fault 36 = .ok (.iload_n 1, 1) := by decide +kernel
theorem dX6_fault_37 : decode cX6_fault 37 = .ok (.bipush 8, 2) := by decide +kernel
theorem dX6_fault_39 : decode cX6_fault 39 = .ok (.if_icmp .ge 36, 3) := by decide +kernel
theorem dX6_fault_42 : decode cX6_fault 42 = .ok (.aload_n 0, 1) := by decide +kernel
theorem dX6_fault_43 : decode cX6_fault 43 = .ok (.getfield 36, 3) := by decide +kernel
theorem dX6_fault_46 : decode cX6_fault 46 = .ok (.iload_n 1, 1) := by decide +kernel
theorem dX6_fault_47 : decode cX6_fault 47 = .ok (.aload_n 0, 1) := by decide +kernel
theorem dX6_fault_48 : decode cX6_fault 48 = .ok (.getfield 7, 3) := by decide +kernel
theorem dX6_fault_51 : decode cX6_fault 51 = .ok (.bipush 56, 2) := by decide +kernel
theorem dX6_fault_53 : decode cX6_fault 53 = .ok (.iload_n 1, 1) := by decide +kernel
theorem dX6_fault_54 : decode cX6_fault 54 = .ok (.iadd, 1) := by decide +kernel
theorem dX6_fault_55 : decode cX6_fault 55 = .ok (.iaload, 1) := by decide +kernel
theorem dX6_fault_56 : decode cX6_fault 56 = .ok (.iastore, 1) := by decide +kernel
theorem dX6_fault_57 : decode cX6_fault 57 = .ok (.aload_n 0, 1) := by decide +kernel
theorem dX6_fault_58 : decode cX6_fault 58 = .ok (.getfield 39, 3) := by decide +kernel
theorem dX6_fault_61 : decode cX6_fault 61 = .ok (.iload_n 1, 1) := by decide +kernel
theorem dX6_fault_62 : decode cX6_fault 62 = .ok (.aload_n 0, 1) := by decide +kernel
theorem dX6_fault_63 : decode cX6_fault 63 = .ok (.getfield 30, 3) := by decide +kernel
theorem dX6_fault_66 : decode cX6_fault 66 = .ok (.iload_n 1, 1) := by decide +kernel
theorem dX6_fault_67 : decode cX6_fault 67 = .ok (.iaload, 1) := by decide +kernel
theorem dX6_fault_68 : decode cX6_fault 68 = .ok (.iastore, 1) := by decide +kernel
theorem dX6_fault_69 : decode cX6_fault 69 = .ok (.iinc 1 1, 3) := by decide +kernel
theorem dX6_fault_72 : decode cX6_fault 72 = .ok (.goto (-36), 3) := by decide +kernel
theorem dX6_fault_75 : decode cX6_fault 75 = .ok (.iconst 0, 1) := by decide +kernel
theorem dX6_fault_76 : decode cX6_fault 76 = .ok (.istore_n 1, 1) := by decide +kernel
theorem dX6_fault_77 : decode cX6_fault 77 = .ok (.iload_n 1, 1) := by decide +kernel
theorem dX6_fault_78 : decode cX6_fault 78 = .ok (.iconst 3, 1) := by decide +kernel
theorem dX6_fault_79 : decode cX6_fault 79 = .ok (.if_icmp .ge 21, 3) := by decide +kernel
theorem dX6_fault_82 : decode cX6_fault 82 = .ok (.aload_n 0, 1) := by decide +kernel
theorem dX6_fault_83 : decode cX6_fault 83 = .ok (.getfield 42, 3) := by decide +kernel
theorem dX6_fault_86 : decode cX6_fault 86 = .ok (.iload_n 1, 1) := by decide +kernel
theorem dX6_fault_87 : decode cX6_fault 87 = .ok (.aload_n 0, 1) := by decide +kernel
theorem dX6_fault_88 : decode cX6_fault 88 = .ok (.getfield 33, 3) := by decide +kernel
theorem dX6_fault_91 : decode cX6_fault 91 = .ok (.iload_n 1, 1) := by decide +kernel
theorem dX6_fault_92 : decode cX6_fault 92 = .ok (.iaload, 1) := by decide +kernel
theorem dX6_fault_93 : decode cX6_fault 93 = .ok (.iastore, 1) := by decide +kernel
theorem dX6_fault_94 : decode cX6_fault 94 = .ok (.iinc 1 1, 3) := by decide +kernel
theorem dX6_fault_97 : decode cX6_fault 97 = .ok (.goto (-20), 3) := by decide +kernel
theorem dX6_fault_100 : decode cX6_fault 100 = .ok (.aload_n 0, 1) := by decide +kernel
theorem dX6_fault_101 : decode cX6_fault 101 = .ok (.invokevirtual 105, 3) := by decide +kernel
theorem dX6_fault_104 : decode cX6_fault 104 = .ok (.aload_n 0, 1) := by decide +kernel
theorem dX6_fault_105 : decode cX6_fault 105 = .ok (.invokevirtual 156, 3) := by decide +kernel
theorem dX6_fault_108 : decode cX6_fault 108 = .ok (.ifCond .ne 8, 3) := by decide +kernel
theorem dX6_fault_111 : decode cX6_fault 111 = .ok (.aload_n 0, 1) := by decide +kernel
theorem dX6_fault_112 : decode cX6_fault 112 = .ok (.getfield 72, 3) := by decide +kernel
theorem dX6_fault_115 : decode cX6_fault 115 = .ok (.ireturn, 1) := by decide +kernel
theorem dX6_fault_116 : decode cX6_fault 116 = .ok (.aload_n 0, 1) := by decide +kernel
theorem dX6_fault_117 : decode cX6_fault 117 = .ok (.getfield 72, 3) := by decide +kernel
theorem dX6_fault_120 : decode cX6_fault 120 = .ok (.aload_n 0, 1) := by decide +kernel
theorem dX6_fault_121 : decode cX6_fault 121 = .ok (.getfield 64, 3) := by decide +kernel
theorem dX6_fault_124 : decode cX6_fault 124 = .ok (.if_icmp .ge 70, 3) := by decide +kernel
theorem dX6_fault_127 : decode cX6_fault 127 = .ok (.aload_n 0, 1) := by decide +kernel
theorem dX6_fault_128 : decode cX6_fault 128 = .ok (.getfield 79, 3) := by decide +kernel
theorem dX6_fault_131 : decode cX6_fault 131 = .ok (.aload_n 0, 1) := by decide +kernel
theorem dX6_fault_132 : decode cX6_fault 132 = .ok (.getfield 72, 3) := by decide +kernel
theorem dX6_fault_135 : decode cX6_fault 135 = .ok (.isub, 1) := by decide +kernel
theorem dX6_fault_136 : decode cX6_fault 136 = .ok (.iconst 1, 1) := by decide +kernel
theorem dX6_fault_137 : decode cX6_fault 137 = .ok (.if_icmp .ne 30, 3) := by decide +kernel
theorem dX6_fault_140 : decode cX6_fault 140 = .ok (.aload_n 0, 1) := by decide +kernel
theorem dX6_fault_141 : decode cX6_fault 141 = .ok (.getfield 17, 3) := by decide +kernel
theorem dX6_fault_144 : decode cX6_fault 144 = .ok (.aload_n 0, 1) := by decide +kernel
theorem dX6_fault_145 : decode cX6_fault 145 = .ok (.getfield 72, 3) := by decide +kernel
theorem dX6_fault_148 : decode cX6_fault 148 = .ok (.iaload, 1) := by decide +kernel
theorem dX6_fault_149 : decode cX6_fault 149 = .ok (.bipush 59, 2) := by decide +kernel
theorem dX6_fault_151 : decode cX6_fault 151 = .ok (.if_icmp .ne 16, 3) := by decide +kernel
theorem dX6_fault_154 : decode cX6_fault 154 = .ok (.aload_n 0, 1) := by decide +kernel
theorem dX6_fault_155 : decode cX6_fault 155 = .ok (.getfield 102, 3) := by decide +kernel
theorem dX6_fault_158 : decode cX6_fault 158 = .ok (.bipush 12, 2) := by decide +kernel
theorem dX6_fault_160 : decode cX6_fault 160 = .ok (.if_icmp .ge 7, 3) := by decide +kernel
theorem dX6_fault_163 : decode cX6_fault 163 = .ok (.iconst 1, 1) := by decide +kernel
theorem dX6_fault_164 : decode cX6_fault 164 = .ok (.goto 4, 3) := by decide +kernel
theorem dX6_fault_167 : decode cX6_fault 167 = .ok (.iconst 0, 1) := by decide +kernel
theorem dX6_fault_168 : decode cX6_fault 168 = .ok (.istore_n 1, 1) := by decide +kernel
theorem dX6_fault_169 : decode cX6_fault 169 = .ok (.iload_n 1, 1) := by decide +kernel
theorem dX6_fault_170 : decode cX6_fault 170 = .ok (.ifCond .eq 12, 3) := by decide +kernel
theorem dX6_fault_173 : decode cX6_fault 173 = .ok (.aload_n 0, 1) := by decide +kernel
theorem dX6_fault_174 : decode cX6_fault 174 = .ok (.invokevirtual 105, 3) := by decide +kernel
theorem dX6_fault_177 : decode cX6_fault 177 = .ok (.aload_n 0, 1) := by decide +kernel
theorem dX6_fault_178 : decode cX6_fault 178 = .ok (.invokevirtual 156, 3) := by decide +kernel
theorem dX6_fault_181 : decode cX6_fault 181 = .ok (.istore_n 1, 1) := by decide +kernel
theorem dX6_fault_182 : decode cX6_fault 182 = .ok (.iload_n 1, 1) := by decide +kernel
theorem dX6_fault_183 : decode cX6_fault 183 = .ok (.ifCond .ne 8, 3) := by decide +kernel
theorem dX6_fault_186 : decode cX6_fault 186 = .ok (.aload_n 0, 1) := by decide +kernel
theorem dX6_fault_187 : decode cX6_fault 187 = .ok (.getfield 72, 3) := by decide +kernel
theorem dX6_fault_190 : decode cX6_fault 190 = .ok (.ireturn, 1) := by decide +kernel
theorem dX6_fault_191 : decode cX6_fault 191 = .ok (.goto (-75), 3) := by decide +kernel
theorem dX6_fault_194 : decode cX6_fault 194 = .ok (.iconst (-1), 1) := by decide +kernel
theorem dX6_fault_195 : decode cX6_fault 195 = .ok (.ireturn, 1) := by decide +kernel
theorem dX6_tell_0 : decode cX6_tell 0 = .ok (.aload_n 0, 1) := by decide +kernel
theorem dX6_tell_1 : decode cX6_tell 1 = .ok (.getfield 20, 3) := by decide +kernel
theorem dX6_tell_4 : decode cX6_tell 4 = .ok (.iload_n 1, 1) := by decide +kernel
theorem dX6_tell_5 : decode cX6_tell 5 = .ok (.iconst 1, 1) := by decide +kernel
theorem dX6_tell_6 : decode cX6_tell 6 = .ok (.iadd, 1) := by decide +kernel
theorem dX6_tell_7 : decode cX6_tell 7 = .ok (.iaload, 1) := by decide +kernel
theorem dX6_tell_8 : decode cX6_tell 8 = .ok (.istore_n 2, 1) := by decide +kernel
theorem dX6_tell_9 : decode cX6_tell 9 = .ok (.aload_n 0, 1) := by decide +kernel
theorem dX6_tell_10 : decode cX6_tell 10 = .ok (.getfield 20, 3) := by decide +kernel
theorem dX6_tell_13 : decode cX6_tell 13 = .ok (.iload_n 1, 1) := by decide +kernel
theorem dX6_tell_14 : decode cX6_tell 14 = .ok (.iaload, 1) := by decide +kernel
theorem dX6_tell_15 : decode cX6_tell 15 = .ok (.istore_n 3, 1) := by decide +kernel
theorem dX6_tell_16 : decode cX6_tell 16 = .ok (.iload_n 3, 1) := by decide +kernel
theorem dX6_tell_17 : decode cX6_tell 17 = .ok (.ifCond .ne 32, 3) := by decide +kernel
theorem dX6_tell_20 : decode cX6_tell 20 = .ok (.aload_n 0, 1) := by decide +kernel
theorem dX6_tell_21 : decode cX6_tell 21 = .ok (.iconst 0, 1) := by decide +kernel
theorem dX6_tell_22 : decode cX6_tell 22 = .ok (.putfield 153, 3) := by decide +kernel
theorem dX6_tell_25 : decode cX6_tell 25 = .ok (.iconst 0, 1) := by decide +kernel
theorem dX6_tell_26 : decode cX6_tell 26 = .ok (.istore 4, 2) := by decide +kernel
theorem dX6_tell_28 : decode cX6_tell 28 = .ok (.iload 4, 2) := by decide +kernel
theorem dX6_tell_30 : decode cX6_tell 30 = .ok (.bipush 8, 2) := by decide +kernel
theorem dX6_tell_32 : decode cX6_tell 32 = .ok (.if_icmp .ge 17, 3) := by decide +kernel
theorem dX6_tell_35 : decode cX6_tell 35 = .ok (.aload_n 0, 1) := by decide +kernel
theorem dX6_tell_36 : decode cX6_tell 36 = .ok (.getfield 27, 3) := by decide +kernel
theorem dX6_tell_39 : decode cX6_tell 39 = .ok (.iload 4, 2) := by decide +kernel
theorem dX6_tell_41 : decode cX6_tell 41 = .ok (.iconst 0, 1) := by decide +kernel
theorem dX6_tell_42 : decode cX6_tell 42 = .ok (.iastore, 1) := by decide +kernel
theorem dX6_tell_43 : decode cX6_tell 43 = .ok (.iinc 4 1, 3) := by decide +kernel
theorem dX6_tell_46 : decode cX6_tell 46 = .ok (.goto (-18), 3) := by decide +kernel
theorem dX6_tell_49 : decode cX6_tell 49 = .ok (.iload_n 3, 1) := by decide +kernel
theorem dX6_tell_50 : decode cX6_tell 50 = .ok (.i2l, 1) := by decide +kernel
theorem dX6_tell_51 : decode cX6_tell 51 = .ok (.ldc2_w 159, 3) := by decide +kernel
theorem dX6_tell_54 : decode cX6_tell 54 = .ok (.ldc2_w 161, 3) := by decide +kernel
theorem dX6_tell_57 : decode cX6_tell 57 = .ok (.invokestatic 60, 3) := by decide +kernel
theorem dX6_tell_60 : decode cX6_tell 60 = .ok (.ifCond .eq 12, 3) := by decide +kernel
theorem dX6_tell_63 : decode cX6_tell 63 = .ok (.aload_n 0, 1) := by decide +kernel
theorem dX6_tell_64 : decode cX6_tell 64 = .ok (.getfield 27, 3) := by decide +kernel
theorem dX6_tell_67 : decode cX6_tell 67 = .ok (.iload_n 2, 1) := by decide +kernel
theorem dX6_tell_68 : decode cX6_tell 68 = .ok (.iload_n 3, 1) := by decide +kernel
theorem dX6_tell_69 : decode cX6_tell 69 = .ok (.iconst 2, 1) := by decide +kernel
theorem dX6_tell_70 : decode cX6_tell 70 = .ok (.isub, 1) := by decide +kernel
theorem dX6_tell_71 : decode cX6_tell 71 = .ok (.iastore, 1) := by decide +kernel
theorem dX6_tell_72 : decode cX6_tell 72 = .ok (.iload_n 3, 1) := by decide +kernel
theorem dX6_tell_73 : decode cX6_tell 73 = .ok (.bipush 8, 2) := by decide +kernel
theorem dX6_tell_75 : decode cX6_tell 75 = .ok (.if_icmp .ne 26, 3) := by decide +kernel
theorem dX6_tell_78 : decode cX6_tell 78 = .ok (.aload_n 0, 1) := by decide +kernel
theorem dX6_tell_79 : decode cX6_tell 79 = .ok (.getfield 7, 3) := by decide +kernel
theorem dX6_tell_82 : decode cX6_tell 82 = .ok (.bipush 64, 2) := by decide +kernel
theorem dX6_tell_84 : decode cX6_tell 84 = .ok (.aload_n 0, 1) := by decide +kernel
theorem dX6_tell_85 : decode cX6_tell 85 = .ok (.getfield 153, 3) := by decide +kernel
theorem dX6_tell_88 : decode cX6_tell 88 = .ok (.iadd, 1) := by decide +kernel
theorem dX6_tell_89 : decode cX6_tell 89 = .ok (.iload_n 2, 1) := by decide +kernel
theorem dX6_tell_90 : decode cX6_tell 90 = .ok (.iastore, 1) := by decide +kernel
theorem dX6_tell_91 : decode cX6_tell 91 = .ok (.aload_n 0, 1) := by decide +kernel
theorem dX6_tell_92 : decode cX6_tell 92 = .ok (.dup, 1) := by decide +kernel
theorem dX6_tell_93 : decode cX6_tell 93 = .ok (.getfield 153, 3) := by decide +kernel
theorem dX6_tell_96 : decode cX6_tell 96 = .ok (.iconst 1, 1) := by decide +kernel
theorem dX6_tell_97 : decode cX6_tell 97 = .ok (.iadd, 1) := by decide +kernel
theorem dX6_tell_98 : decode cX6_tell 98 = .ok (.putfield 153, 3) := by decide +kernel
theorem dX6_tell_101 : decode cX6_tell 101 = .ok (.aload_n 0, 1) := by decide +kernel
theorem dX6_tell_102 : decode cX6_tell 102 = .ok (.iload_n 3, 1) := by decide +kernel
theorem dX6_tell_103 : decode cX6_tell 103 = .ok (.bipush 9, 2) := by decide +kernel
theorem dX6_tell_105 : decode cX6_tell 105 = .ok (.if_icmp .ne 7, 3) := by decide +kernel
theorem dX6_tell_108 : decode cX6_tell 108 = .ok (.iconst 0, 1) := by decide +kernel
theorem dX6_tell_109 : decode cX6_tell 109 = .ok (.goto 7, 3) := by decide +kernel
theorem dX6_tell_112 : decode cX6_tell 112 = .ok (.aload_n 0, 1) := by decide +kernel
theorem dX6_tell_113 : decode cX6_tell 113 = .ok (.getfield 153, 3) := by decide +kernel
theorem dX6_tell_116 : decode cX6_tell 116 = .ok (.putfield 153, 3) := by decide +kernel
theorem dX6_tell_119 : decode cX6_tell 119 = .ok (.return_, 1) := by decide +kernel
theorem dX6_house_0 : decode cX6_house 0 = .ok (.aload_n 0, 1) := by decide +kernel
theorem dX6_house_1 : decode cX6_house 1 = .ok (.invokevirtual 163, 3) := by decide +kernel
theorem dX6_house_4 : decode cX6_house 4 = .ok (.iconst (-1), 1) := by decide +kernel
theorem dX6_house_5 : decode cX6_house 5 = .ok (.if_icmp .eq 6, 3) := by decide +kernel
theorem dX6_house_8 : decode cX6_house 8 = .ok (.bipush (-4), 2) := by decide +kernel
theorem dX6_house_10 : decode cX6_house 10 = .ok (.ireturn, 1) := by decide +kernel
theorem dX6_house_11 : decode cX6_house 11 = .ok (.iconst 0, 1) := by decide +kernel
theorem dX6_house_12 : decode cX6_house 12 = .ok (.istore_n 1, 1) := by decide +kernel
theorem dX6_house_13 : decode cX6_house 13 = .ok (.iload_n 1, 1) := by decide +kernel
theorem dX6_house_14 : decode cX6_house 14 = .ok (.aload_n 0, 1) := by decide +kernel
theorem dX6_house_15 : decode cX6_house 15 = .ok (.getfield 102, 3) := by decide +kernel
theorem dX6_house_18 : decode cX6_house 18 = .ok (.if_icmp .ge 16, 3) := by decide +kernel
theorem dX6_house_21 : decode cX6_house 21 = .ok (.aload_n 0, 1) := by decide +kernel
theorem dX6_house_22 : decode cX6_house 22 = .ok (.iconst 3, 1) := by decide +kernel
theorem dX6_house_23 : decode cX6_house 23 = .ok (.iload_n 1, 1) := by decide +kernel
theorem dX6_house_24 : decode cX6_house 24 = .ok (.imul, 1) := by decide +kernel
theorem dX6_house_25 : decode cX6_house 25 = .ok (.invokevirtual 166, 3) := by decide +kernel
theorem dX6_house_28 : decode cX6_house 28 = .ok (.iinc 1 1, 3) := by decide +kernel
theorem dX6_house_31 : decode cX6_house 31 = .ok (.goto (-18), 3) := by decide +kernel
theorem dX6_house_34 : decode cX6_house 34 = .ok (.aload_n 0, 1) := by decide +kernel
theorem dX6_house_35 : decode cX6_house 35 = .ok (.aload_n 0, 1) := by decide +kernel
theorem dX6_house_36 : decode cX6_house 36 = .ok (.getfield 108, 3) := by decide +kernel
theorem dX6_house_39 : decode cX6_house 39 = .ok (.putfield 23, 3) := by decide +kernel
theorem dX6_house_42 : decode cX6_house 42 = .ok (.aload_n 0, 1) := by decide +kernel
theorem dX6_house_43 : decode cX6_house 43 = .ok (.aload_n 0, 1) := by decide +kernel
theorem dX6_house_44 : decode cX6_house 44 = .ok (.getfield 116, 3) := by decide +kernel
theorem dX6_house_47 : decode cX6_house 47 = .ok (.putfield 150, 3) := by decide +kernel
theorem dX6_house_50 : decode cX6_house 50 = .ok (.iconst 0, 1) := by decide +kernel
theorem dX6_house_51 : decode cX6_house 51 = .ok (.istore_n 1, 1) := by decide +kernel
theorem dX6_house_52 : decode cX6_house 52 = .ok (.iload_n 1, 1) := by decide +kernel
theorem dX6_house_53 : decode cX6_house 53 = .ok (.bipush 8, 2) := by decide +kernel
theorem dX6_house_55 : decode cX6_house 55 = .ok (.if_icmp .ge 36, 3) := by decide +kernel
theorem dX6_house_58 : decode cX6_house 58 = .ok (.aload_n 0, 1) := by decide +kernel
theorem dX6_house_59 : decode cX6_house 59 = .ok (.getfield 7, 3) := by decide +kernel
theorem dX6_house_62 : decode cX6_house 62 = .ok (.bipush 56, 2) := by decide +kernel
theorem dX6_house_64 : decode cX6_house 64 = .ok (.iload_n 1, 1) := by decide +kernel
theorem dX6_house_65 : decode cX6_house 65 = .ok (.iadd, 1) := by decide +kernel
theorem dX6_house_66 : decode cX6_house 66 = .ok (.aload_n 0, 1) := by decide +kernel
theorem dX6_house_67 : decode cX6_house 67 = .ok (.getfield 36, 3) := by decide +kernel
theorem dX6_house_70 : decode cX6_house 70 = .ok (.iload_n 1, 1) := by decide +kernel
theorem dX6_house_71 : decode cX6_house 71 = .ok (.iaload, 1) := by decide +kernel
theorem dX6_house_72 : decode cX6_house 72 = .ok (.iastore, 1) := by decide +kernel
theorem dX6_house_73 : decode cX6_house 73 = .ok (.aload_n 0, 1) := by decide +kernel
theorem dX6_house_74 : decode cX6_house 74 = .ok (.getfield 30, 3) := by decide +kernel
theorem dX6_house_77 : decode cX6_house 77 = .ok (.iload_n 1, 1) := by decide +kernel
theorem dX6_house_78 : decode cX6_house 78 = .ok (.aload_n 0, 1) := by decide +kernel
theorem dX6_house_79 : decode cX6_house 79 = .ok (.getfield 39, 3) := by decide +kernel
theorem dX6_house_82 : decode cX6_house 82 = .ok (.iload_n 1, 1) := by decide +kernel
theorem dX6_house_83 : decode cX6_house 83 = .ok (.iaload, 1) := by decide +kernel
theorem dX6_house_84 : decode cX6_house 84 = .ok (.iastore, 1) := by decide +kernel
theorem dX6_house_85 : decode cX6_house 85 = .ok (.iinc 1 1, 3) := by decide +kernel
theorem dX6_house_88 : decode cX6_house 88 = .ok (.goto (-36), 3) := by decide +kernel
theorem dX6_house_91 : decode cX6_house 91 = .ok (.iconst 0, 1) := by decide +kernel
theorem dX6_house_92 : decode cX6_house 92 = .ok (.istore_n 1, 1) := by decide +kernel
theorem dX6_house_93 : decode cX6_house 93 = .ok (.iload_n 1, 1) := by decide +kernel
theorem dX6_house_94 : decode cX6_house 94 = .ok (.iconst 3, 1) := by decide +kernel
theorem dX6_house_95 : decode cX6_house 95 = .ok (.if_icmp .ge 21, 3) := by decide +kernel
theorem dX6_house_98 : decode cX6_house 98 = .ok (.aload_n 0, 1) := by decide +kernel
theorem dX6_house_99 : decode cX6_house 99 = .ok (.getfield 33, 3) := by decide +kernel
theorem dX6_house_102 : decode cX6_house 102 = .ok (.iload_n 1, 1) := by decide +kernel
theorem dX6_house_103 : decode cX6_house 103 = .ok (.aload_n 0, 1) := by decide +kernel
theorem dX6_house_104 : decode cX6_house 104 = .ok (.getfield 42, 3) := by decide +kernel
theorem dX6_house_107 : decode cX6_house 107 = .ok (.iload_n 1, 1) := by decide +kernel
theorem dX6_house_108 : decode cX6_house 108 = .ok (.iaload, 1) := by decide +kernel
theorem dX6_house_109 : decode cX6_house 109 = .ok (.iastore, 1) := by decide +kernel
theorem dX6_house_110 : decode cX6_house 110 = .ok (.iinc 1 1, 3) := by decide +kernel
theorem dX6_house_113 : decode cX6_house 113 = .ok (.goto (-20), 3) := by decide +kernel
theorem dX6_house_116 : decode cX6_house 116 = .ok (.aload_n 0, 1) := by decide +kernel
theorem dX6_house_117 : decode cX6_house 117 = .ok (.bipush 56, 2) := by decide +kernel
theorem dX6_house_119 : decode cX6_house 119 = .ok (.iconst 0, 1) := by decide +kernel
theorem dX6_house_120 : decode cX6_house 120 = .ok (.invokevirtual 170, 3) := by decide +kernel
theorem dX6_house_123 : decode cX6_house 123 = .ok (.aload_n 0, 1) := by decide +kernel
theorem dX6_house_124 : decode cX6_house 124 = .ok (.iconst 0, 1) := by decide +kernel
theorem dX6_house_125 : decode cX6_house 125 = .ok (.putfield 174, 3) := by decide +kernel
theorem dX6_house_128 : decode cX6_house 128 = .ok (.aload_n 0, 1) := by decide +kernel
theorem dX6_house_129 : decode cX6_house 129 = .ok (.getfield 13, 3) := by decide +kernel
theorem dX6_house_132 : decode cX6_house 132 = .ok (.iconst 0, 1) := by decide +kernel
theorem dX6_house_133 : decode cX6_house 133 = .ok (.iconst 0, 1) := by decide +kernel
theorem dX6_house_134 : decode cX6_house 134 = .ok (.bastore, 1) := by decide +kernel
theorem dX6_house_135 : decode cX6_house 135 = .ok (.aload_n 0, 1) := by decide +kernel
theorem dX6_house_136 : decode cX6_house 136 = .ok (.getfield 13, 3) := by decide +kernel
theorem dX6_house_139 : decode cX6_house 139 = .ok (.iconst 1, 1) := by decide +kernel
theorem dX6_house_140 : decode cX6_house 140 = .ok (.iconst 0, 1) := by decide +kernel
theorem dX6_house_141 : decode cX6_house 141 = .ok (.bastore, 1) := by decide +kernel
theorem dX6_house_142 : decode cX6_house 142 = .ok (.aload_n 0, 1) := by decide +kernel
theorem dX6_house_143 : decode cX6_house 143 = .ok (.iconst 0, 1) := by decide +kernel
theorem dX6_house_144 : decode cX6_house 144 = .ok (.putfield 64, 3) := by decide +kernel
theorem dX6_house_147 : decode cX6_house 147 = .ok (.aload_n 0, 1) := by decide +kernel
theorem dX6_house_148 : decode cX6_house 148 = .ok (.getfield 102, 3) := by decide +kernel
theorem dX6_house_151 : decode cX6_house 151 = .ok (.ireturn, 1) := by decide +kernel
theorem dX6_isLeaf_0 : decode cX6_isLeaf 0 = .ok (.iload_n 1, 1) := by decide +kernel
theorem dX6_isLeaf_1 : decode cX6_isLeaf 1 = .ok (.i2l, 1) := by decide +kernel
theorem dX6_isLeaf_2 : decode cX6_isLeaf 2 = .ok (.lconst 0, 1) := by decide +kernel
theorem dX6_isLeaf_3 : decode cX6_isLeaf 3 = .ok (.aload_n 0, 1) := by decide +kernel
theorem dX6_isLeaf_4 : decode cX6_isLeaf 4 = .ok (.getfield 23, 3) := by decide +kernel
theorem dX6_isLeaf_7 : decode cX6_isLeaf 7 = .ok (.iconst 1, 1) := by decide +kernel
theorem dX6_isLeaf_8 : decode cX6_isLeaf 8 = .ok (.isub, 1) := by decide +kernel
theorem dX6_isLeaf_9 : decode cX6_isLeaf 9 = .ok (.i2l, 1) := by decide +kernel
theorem dX6_isLeaf_10 : decode cX6_isLeaf 10 = .ok (.invokestatic 60, 3) := by decide +kernel
theorem dX6_isLeaf_13 : decode cX6_isLeaf 13 = .ok (.ireturn, 1) := by decide +kernel
theorem dX6_isPerson_0 : decode cX6_isPerson 0 = .ok (.iload_n 1, 1) := by decide +kernel
theorem dX6_isPerson_1 : decode cX6_isPerson 1 = .ok (.i2l, 1) := by decide +kernel
theorem dX6_isPerson_2 : decode cX6_isPerson 2 = .ok (.lconst 0, 1) := by decide +kernel
theorem dX6_isPerson_3 : decode cX6_isPerson 3 = .ok (.aload_n 0, 1) := by decide +kernel
theorem dX6_isPerson_4 : decode cX6_isPerson 4 = .ok (.getfield 153, 3) := by decide +kernel
theorem dX6_isPerson_7 : decode cX6_isPerson 7 = .ok (.iconst 1, 1) := by decide +kernel
theorem dX6_isPerson_8 : decode cX6_isPerson 8 = .ok (.isub, 1) := by decide +kernel
theorem dX6_isPerson_9 : decode cX6_isPerson 9 = .ok (.i2l, 1) := by decide +kernel
theorem dX6_isPerson_10 : decode cX6_isPerson 10 = .ok (.invokestatic 60, 3) := by decide +kernel
theorem dX6_isPerson_13 : decode cX6_isPerson 13 = .ok (.ireturn, 1) := by decide +kernel
theorem dX6_isSide_0 : decode cX6_isSide 0 = .ok (.iload_n 0, 1) := by decide +kernel
theorem dX6_isSide_1 : decode cX6_isSide 1 = .ok (.i2l, 1) := by decide +kernel
theorem dX6_isSide_2 : decode cX6_isSide 2 = .ok (.lconst 0, 1) := by decide +kernel
theorem dX6_isSide_3 : decode cX6_isSide 3 = .ok (.lconst 1, 1) := by decide +kernel
theorem dX6_isSide_4 : decode cX6_isSide 4 = .ok (.invokestatic 60, 3) := by decide +kernel
theorem dX6_isSide_7 : decode cX6_isSide 7 = .ok (.ireturn, 1) := by decide +kernel
theorem dX6_next_0 : decode cX6_next 0 = .ok (.iload_n 1, 1) := by decide +kernel
theorem dX6_next_1 : decode cX6_next 1 = .ok (.iconst 1, 1) := by decide +kernel
theorem dX6_next_2 : decode cX6_next 2 = .ok (.iadd, 1) := by decide +kernel
theorem dX6_next_3 : decode cX6_next 3 = .ok (.aload_n 0, 1) := by decide +kernel
theorem dX6_next_4 : decode cX6_next 4 = .ok (.getfield 23, 3) := by decide +kernel
theorem dX6_next_7 : decode cX6_next 7 = .ok (.irem, 1) := by decide +kernel
theorem dX6_next_8 : decode cX6_next 8 = .ok (.ireturn, 1) := by decide +kernel
theorem dX6_ahead_0 : decode cX6_ahead 0 = .ok (.iload_n 1, 1) := by decide +kernel
theorem dX6_ahead_1 : decode cX6_ahead 1 = .ok (.aload_n 0, 1) := by decide +kernel
theorem dX6_ahead_2 : decode cX6_ahead 2 = .ok (.getfield 23, 3) := by decide +kernel
theorem dX6_ahead_5 : decode cX6_ahead 5 = .ok (.iadd, 1) := by decide +kernel
theorem dX6_ahead_6 : decode cX6_ahead 6 = .ok (.iconst 1, 1) := by decide +kernel
theorem dX6_ahead_7 : decode cX6_ahead 7 = .ok (.isub, 1) := by decide +kernel
theorem dX6_ahead_8 : decode cX6_ahead 8 = .ok (.aload_n 0, 1) := by decide +kernel
theorem dX6_ahead_9 : decode cX6_ahead 9 = .ok (.getfield 23, 3) := by decide +kernel
theorem dX6_ahead_12 : decode cX6_ahead 12 = .ok (.irem, 1) := by decide +kernel
theorem dX6_ahead_13 : decode cX6_ahead 13 = .ok (.ireturn, 1) := by decide +kernel
theorem dX6_width_0 : decode cX6_width 0 = .ok (.aload_n 0, 1) := by decide +kernel
theorem dX6_width_1 : decode cX6_width 1 = .ok (.getfield 7, 3) := by decide +kernel
theorem dX6_width_4 : decode cX6_width 4 = .ok (.iload_n 1, 1) := by decide +kernel
theorem dX6_width_5 : decode cX6_width 5 = .ok (.iload_n 2, 1) := by decide +kernel
theorem dX6_width_6 : decode cX6_width 6 = .ok (.iadd, 1) := by decide +kernel
theorem dX6_width_7 : decode cX6_width 7 = .ok (.iaload, 1) := by decide +kernel
theorem dX6_width_8 : decode cX6_width 8 = .ok (.aload_n 0, 1) := by decide +kernel
theorem dX6_width_9 : decode cX6_width 9 = .ok (.getfield 7, 3) := by decide +kernel
theorem dX6_width_12 : decode cX6_width 12 = .ok (.iload_n 1, 1) := by decide +kernel
theorem dX6_width_13 : decode cX6_width 13 = .ok (.aload_n 0, 1) := by decide +kernel
theorem dX6_width_14 : decode cX6_width 14 = .ok (.iload_n 2, 1) := by decide +kernel
theorem dX6_width_15 : decode cX6_width 15 = .ok (.invokevirtual 177, 3) := by decide +kernel
theorem dX6_width_18 : decode cX6_width 18 = .ok (.iadd, 1) := by decide +kernel
theorem dX6_width_19 : decode cX6_width 19 = .ok (.iaload, 1) := by decide +kernel
theorem dX6_width_20 : decode cX6_width 20 = .ok (.invokestatic 54, 3) := by decide +kernel
theorem dX6_width_23 : decode cX6_width 23 = .ok (.ireturn, 1) := by decide +kernel
theorem dX6_isOpen_0 : decode cX6_isOpen 0 = .ok (.iconst 0, 1) := by decide +kernel
theorem dX6_isOpen_1 : decode cX6_isOpen 1 = .ok (.istore_n 3, 1) := by decide +kernel
theorem dX6_isOpen_2 : decode cX6_isOpen 2 = .ok (.iconst 0, 1) := by decide +kernel
theorem dX6_isOpen_3 : decode cX6_isOpen 3 = .ok (.istore 4, 2) := by decide +kernel
theorem dX6_isOpen_5 : decode cX6_isOpen 5 = .ok (.iload 4, 2) := by decide +kernel
theorem dX6_isOpen_7 : decode cX6_isOpen 7 = .ok (.aload_n 0, 1) := by decide +kernel
theorem dX6_isOpen_8 : decode cX6_isOpen 8 = .ok (.getfield 150, 3) := by decide +kernel
theorem dX6_isOpen_11 : decode cX6_isOpen 11 = .ok (.if_icmp .ge 55, 3) := by decide +kernel
theorem dX6_isOpen_14 : decode cX6_isOpen 14 = .ok (.aload_n 0, 1) := by decide +kernel
theorem dX6_isOpen_15 : decode cX6_isOpen 15 = .ok (.getfield 7, 3) := by decide +kernel
theorem dX6_isOpen_18 : decode cX6_isOpen 18 = .ok (.iload_n 1, 1) := by decide +kernel
theorem dX6_isOpen_19 : decode cX6_isOpen 19 = .ok (.iload_n 2, 1) := by decide +kernel
theorem dX6_isOpen_20 : decode cX6_isOpen 20 = .ok (.iadd, 1) := by decide +kernel
theorem dX6_isOpen_21 : decode cX6_isOpen 21 = .ok (.iaload, 1) := by decide +kernel
theorem dX6_isOpen_22 : decode cX6_isOpen 22 = .ok (.aload_n 0, 1) := by decide +kernel
theorem dX6_isOpen_23 : decode cX6_isOpen 23 = .ok (.getfield 33, 3) := by decide +kernel
theorem dX6_isOpen_26 : decode cX6_isOpen 26 = .ok (.iload 4, 2) := by decide +kernel
theorem dX6_isOpen_28 : decode cX6_isOpen 28 = .ok (.iaload, 1) := by decide +kernel
theorem dX6_isOpen_29 : decode cX6_isOpen 29 = .ok (.invokestatic 54, 3) := by decide +kernel
theorem dX6_isOpen_32 : decode cX6_isOpen 32 = .ok (.istore 5, 2) := by decide +kernel
theorem dX6_isOpen_34 : decode cX6_isOpen 34 = .ok (.iload_n 3, 1) := by decide +kernel
theorem dX6_isOpen_35 : decode cX6_isOpen 35 = .ok (.ifCond .ne 19, 3) := by decide +kernel
theorem dX6_isOpen_38 : decode cX6_isOpen 38 = .ok (.iload 5, 2) := by decide +kernel
theorem dX6_isOpen_40 : decode cX6_isOpen 40 = .ok (.ifCond .le 18, 3) := by decide +kernel
theorem dX6_isOpen_43 : decode cX6_isOpen 43 = .ok (.iload 5, 2) := by decide +kernel
theorem dX6_isOpen_45 : decode cX6_isOpen 45 = .ok (.aload_n 0, 1) := by decide +kernel
theorem dX6_isOpen_46 : decode cX6_isOpen 46 = .ok (.iload_n 1, 1) := by decide +kernel
theorem dX6_isOpen_47 : decode cX6_isOpen 47 = .ok (.iload_n 2, 1) := by decide +kernel
theorem dX6_isOpen_48 : decode cX6_isOpen 48 = .ok (.invokevirtual 180, 3) := by decide +kernel
theorem dX6_isOpen_51 : decode cX6_isOpen 51 = .ok (.if_icmp .ge 7, 3) := by decide +kernel
theorem dX6_isOpen_54 : decode cX6_isOpen 54 = .ok (.iconst 1, 1) := by decide +kernel
theorem dX6_isOpen_55 : decode cX6_isOpen 55 = .ok (.goto 4, 3) := by decide +kernel
theorem dX6_isOpen_58 : decode cX6_isOpen 58 = .ok (.iconst 0, 1) := by decide +kernel
theorem dX6_isOpen_59 : decode cX6_isOpen 59 = .ok (.istore_n 3, 1) := by decide +kernel
theorem dX6_isOpen_60 : decode cX6_isOpen 60 = .ok (.iinc 4 1, 3) := by decide +kernel
theorem dX6_isOpen_63 : decode cX6_isOpen 63 = .ok (.goto (-58), 3) := by decide +kernel
theorem dX6_isOpen_66 : decode cX6_isOpen 66 = .ok (.iload_n 3, 1) := by decide +kernel
theorem dX6_isOpen_67 : decode cX6_isOpen 67 = .ok (.ireturn, 1) := by decide +kernel
theorem dX6_leaf_0 : decode cX6_leaf 0 = .ok (.aload_n 0, 1) := by decide +kernel
theorem dX6_leaf_1 : decode cX6_leaf 1 = .ok (.iload_n 1, 1) := by decide +kernel
theorem dX6_leaf_2 : decode cX6_leaf 2 = .ok (.invokevirtual 183, 3) := by decide +kernel
theorem dX6_leaf_5 : decode cX6_leaf 5 = .ok (.ifCond .ne 6, 3) := by decide +kernel
theorem dX6_leaf_8 : decode cX6_leaf 8 = .ok (.bipush (-2), 2) := by decide +kernel
theorem dX6_leaf_10 : decode cX6_leaf 10 = .ok (.ireturn, 1) := by decide +kernel
theorem dX6_leaf_11 : decode cX6_leaf 11 = .ok (.iload_n 2, 1) := by decide +kernel
theorem dX6_leaf_12 : decode cX6_leaf 12 = .ok (.ifCond .ne 12, 3) := by decide +kernel
theorem dX6_leaf_15 : decode cX6_leaf 15 = .ok (.aload_n 0, 1) := by decide +kernel
theorem dX6_leaf_16 : decode cX6_leaf 16 = .ok (.getfield 27, 3) := by decide +kernel
theorem dX6_leaf_19 : decode cX6_leaf 19 = .ok (.iload_n 1, 1) := by decide +kernel
theorem dX6_leaf_20 : decode cX6_leaf 20 = .ok (.iaload, 1) := by decide +kernel
theorem dX6_leaf_21 : decode cX6_leaf 21 = .ok (.goto 36, 3) := by decide +kernel
theorem dX6_leaf_24 : decode cX6_leaf 24 = .ok (.iload_n 2, 1) := by decide +kernel
theorem dX6_leaf_25 : decode cX6_leaf 25 = .ok (.iconst 1, 1) := by decide +kernel
theorem dX6_leaf_26 : decode cX6_leaf 26 = .ok (.if_icmp .ne 12, 3) := by decide +kernel
theorem dX6_leaf_29 : decode cX6_leaf 29 = .ok (.aload_n 0, 1) := by decide +kernel
theorem dX6_leaf_30 : decode cX6_leaf 30 = .ok (.getfield 7, 3) := by decide +kernel
theorem dX6_leaf_33 : decode cX6_leaf 33 = .ok (.iload_n 1, 1) := by decide +kernel
theorem dX6_leaf_34 : decode cX6_leaf 34 = .ok (.iaload, 1) := by decide +kernel
theorem dX6_leaf_35 : decode cX6_leaf 35 = .ok (.goto 22, 3) := by decide +kernel
theorem dX6_leaf_38 : decode cX6_leaf 38 = .ok (.iload_n 2, 1) := by decide +kernel
theorem dX6_leaf_39 : decode cX6_leaf 39 = .ok (.iconst 2, 1) := by decide +kernel
theorem dX6_leaf_40 : decode cX6_leaf 40 = .ok (.if_icmp .ne 15, 3) := by decide +kernel
theorem dX6_leaf_43 : decode cX6_leaf 43 = .ok (.aload_n 0, 1) := by decide +kernel
theorem dX6_leaf_44 : decode cX6_leaf 44 = .ok (.getfield 7, 3) := by decide +kernel
theorem dX6_leaf_47 : decode cX6_leaf 47 = .ok (.bipush 56, 2) := by decide +kernel
theorem dX6_leaf_49 : decode cX6_leaf 49 = .ok (.iload_n 1, 1) := by decide +kernel
theorem dX6_leaf_50 : decode cX6_leaf 50 = .ok (.iadd, 1) := by decide +kernel
theorem dX6_leaf_51 : decode cX6_leaf 51 = .ok (.iaload, 1) := by decide +kernel
theorem dX6_leaf_52 : decode cX6_leaf 52 = .ok (.goto 5, 3) := by decide +kernel
theorem dX6_leaf_55 : decode cX6_leaf 55 = .ok (.bipush (-3), 2) := by decide +kernel
theorem dX6_leaf_57 : decode cX6_leaf 57 = .ok (.ireturn, 1) := by decide +kernel
theorem dX6_inRoom_0 : decode cX6_inRoom 0 = .ok (.iconst 0, 1) := by decide +kernel
theorem dX6_inRoom_1 : decode cX6_inRoom 1 = .ok (.istore_n 3, 1) := by decide +kernel
theorem dX6_inRoom_2 : decode cX6_inRoom 2 = .ok (.iconst 0, 1) := by decide +kernel
theorem dX6_inRoom_3 : decode cX6_inRoom 3 = .ok (.istore 4, 2) := by decide +kernel
theorem dX6_inRoom_5 : decode cX6_inRoom 5 = .ok (.iload 4, 2) := by decide +kernel
theorem dX6_inRoom_7 : decode cX6_inRoom 7 = .ok (.aload_n 0, 1) := by decide +kernel
theorem dX6_inRoom_8 : decode cX6_inRoom 8 = .ok (.getfield 153, 3) := by decide +kernel
theorem dX6_inRoom_11 : decode cX6_inRoom 11 = .ok (.if_icmp .ge 36, 3) := by decide +kernel
theorem dX6_inRoom_14 : decode cX6_inRoom 14 = .ok (.iload_n 3, 1) := by decide +kernel
theorem dX6_inRoom_15 : decode cX6_inRoom 15 = .ok (.aload_n 0, 1) := by decide +kernel
theorem dX6_inRoom_16 : decode cX6_inRoom 16 = .ok (.getfield 7, 3) := by decide +kernel
theorem dX6_inRoom_19 : decode cX6_inRoom 19 = .ok (.iload_n 1, 1) := by decide +kernel
theorem dX6_inRoom_20 : decode cX6_inRoom 20 = .ok (.bipush 8, 2) := by decide +kernel
theorem dX6_inRoom_22 : decode cX6_inRoom 22 = .ok (.iadd, 1) := by decide +kernel
theorem dX6_inRoom_23 : decode cX6_inRoom 23 = .ok (.iload 4, 2) := by decide +kernel
theorem dX6_inRoom_25 : decode cX6_inRoom 25 = .ok (.iadd, 1) := by decide +kernel
theorem dX6_inRoom_26 : decode cX6_inRoom 26 = .ok (.iaload, 1) := by decide +kernel
theorem dX6_inRoom_27 : decode cX6_inRoom 27 = .ok (.iload_n 2, 1) := by decide +kernel
theorem dX6_inRoom_28 : decode cX6_inRoom 28 = .ok (.if_icmp .ne 10, 3) := by decide +kernel
theorem dX6_inRoom_31 : decode cX6_inRoom 31 = .ok (.iconst 1, 1) := by decide +kernel
theorem dX6_inRoom_32 : decode cX6_inRoom 32 = .ok (.iload 4, 2) := by decide +kernel
theorem dX6_inRoom_34 : decode cX6_inRoom 34 = .ok (.ishl, 1) := by decide +kernel
theorem dX6_inRoom_35 : decode cX6_inRoom 35 = .ok (.goto 4, 3) := by decide +kernel
theorem dX6_inRoom_38 : decode cX6_inRoom 38 = .ok (.iconst 0, 1) := by decide +kernel
theorem dX6_inRoom_39 : decode cX6_inRoom 39 = .ok (.ior, 1) := by decide +kernel
theorem dX6_inRoom_40 : decode cX6_inRoom 40 = .ok (.istore_n 3, 1) := by decide +kernel
theorem dX6_inRoom_41 : decode cX6_inRoom 41 = .ok (.iinc 4 1, 3) := by decide +kernel
theorem dX6_inRoom_44 : decode cX6_inRoom 44 = .ok (.goto (-39), 3) := by decide +kernel
theorem dX6_inRoom_47 : decode cX6_inRoom 47 = .ok (.iload_n 3, 1) := by decide +kernel
theorem dX6_inRoom_48 : decode cX6_inRoom 48 = .ok (.ireturn, 1) := by decide +kernel
theorem dX6_room_0 : decode cX6_room 0 = .ok (.aload_n 0, 1) := by decide +kernel
theorem dX6_room_1 : decode cX6_room 1 = .ok (.iload_n 1, 1) := by decide +kernel
theorem dX6_room_2 : decode cX6_room 2 = .ok (.invokevirtual 183, 3) := by decide +kernel
theorem dX6_room_5 : decode cX6_room 5 = .ok (.ifCond .ne 6, 3) := by decide +kernel
theorem dX6_room_8 : decode cX6_room 8 = .ok (.bipush (-2), 2) := by decide +kernel
theorem dX6_room_10 : decode cX6_room 10 = .ok (.ireturn, 1) := by decide +kernel
theorem dX6_room_11 : decode cX6_room 11 = .ok (.iload_n 2, 1) := by decide +kernel
theorem dX6_room_12 : decode cX6_room 12 = .ok (.ifCond .ne 12, 3) := by decide +kernel
theorem dX6_room_15 : decode cX6_room 15 = .ok (.aload_n 0, 1) := by decide +kernel
theorem dX6_room_16 : decode cX6_room 16 = .ok (.iconst 0, 1) := by decide +kernel
theorem dX6_room_17 : decode cX6_room 17 = .ok (.iload_n 1, 1) := by decide +kernel
theorem dX6_room_18 : decode cX6_room 18 = .ok (.invokevirtual 180, 3) := by decide +kernel
theorem dX6_room_21 : decode cX6_room 21 = .ok (.goto 55, 3) := by decide +kernel
theorem dX6_room_24 : decode cX6_room 24 = .ok (.iload_n 2, 1) := by decide +kernel
theorem dX6_room_25 : decode cX6_room 25 = .ok (.iconst 1, 1) := by decide +kernel
theorem dX6_room_26 : decode cX6_room 26 = .ok (.if_icmp .ne 12, 3) := by decide +kernel
theorem dX6_room_29 : decode cX6_room 29 = .ok (.aload_n 0, 1) := by decide +kernel
theorem dX6_room_30 : decode cX6_room 30 = .ok (.getfield 30, 3) := by decide +kernel
theorem dX6_room_33 : decode cX6_room 33 = .ok (.iload_n 1, 1) := by decide +kernel
theorem dX6_room_34 : decode cX6_room 34 = .ok (.iaload, 1) := by decide +kernel
theorem dX6_room_35 : decode cX6_room 35 = .ok (.goto 41, 3) := by decide +kernel
theorem dX6_room_38 : decode cX6_room 38 = .ok (.iload_n 2, 1) := by decide +kernel
theorem dX6_room_39 : decode cX6_room 39 = .ok (.iconst 2, 1) := by decide +kernel
theorem dX6_room_40 : decode cX6_room 40 = .ok (.if_icmp .ne 20, 3) := by decide +kernel
theorem dX6_room_43 : decode cX6_room 43 = .ok (.aload_n 0, 1) := by decide +kernel
theorem dX6_room_44 : decode cX6_room 44 = .ok (.iconst 0, 1) := by decide +kernel
theorem dX6_room_45 : decode cX6_room 45 = .ok (.iload_n 1, 1) := by decide +kernel
theorem dX6_room_46 : decode cX6_room 46 = .ok (.invokevirtual 186, 3) := by decide +kernel
theorem dX6_room_49 : decode cX6_room 49 = .ok (.ifCond .eq 7, 3) := by decide +kernel
theorem dX6_room_52 : decode cX6_room 52 = .ok (.iconst 1, 1) := by decide +kernel
theorem dX6_room_53 : decode cX6_room 53 = .ok (.goto 23, 3) := by decide +kernel
theorem dX6_room_56 : decode cX6_room 56 = .ok (.iconst 0, 1) := by decide +kernel
theorem dX6_room_57 : decode cX6_room 57 = .ok (.goto 19, 3) := by decide +kernel
theorem dX6_room_60 : decode cX6_room 60 = .ok (.iload_n 2, 1) := by decide +kernel
theorem dX6_room_61 : decode cX6_room 61 = .ok (.iconst 3, 1) := by decide +kernel
theorem dX6_room_62 : decode cX6_room 62 = .ok (.if_icmp .ne 12, 3) := by decide +kernel
theorem dX6_room_65 : decode cX6_room 65 = .ok (.aload_n 0, 1) := by decide +kernel
theorem dX6_room_66 : decode cX6_room 66 = .ok (.iconst 0, 1) := by decide +kernel
theorem dX6_room_67 : decode cX6_room 67 = .ok (.iload_n 1, 1) := by decide +kernel
theorem dX6_room_68 : decode cX6_room 68 = .ok (.invokevirtual 189, 3) := by decide +kernel
theorem dX6_room_71 : decode cX6_room 71 = .ok (.goto 5, 3) := by decide +kernel
theorem dX6_room_74 : decode cX6_room 74 = .ok (.bipush (-3), 2) := by decide +kernel
theorem dX6_room_76 : decode cX6_room 76 = .ok (.ireturn, 1) := by decide +kernel
theorem dX6_chain_0 : decode cX6_chain 0 = .ok (.aload_n 0, 1) := by decide +kernel
theorem dX6_chain_1 : decode cX6_chain 1 = .ok (.getfield 27, 3) := by decide +kernel
theorem dX6_chain_4 : decode cX6_chain 4 = .ok (.iload_n 2, 1) := by decide +kernel
theorem dX6_chain_5 : decode cX6_chain 5 = .ok (.iaload, 1) := by decide +kernel
theorem dX6_chain_6 : decode cX6_chain 6 = .ok (.iconst 3, 1) := by decide +kernel
theorem dX6_chain_7 : decode cX6_chain 7 = .ok (.if_icmp .ne 5, 3) := by decide +kernel
theorem dX6_chain_10 : decode cX6_chain 10 = .ok (.iconst 0, 1) := by decide +kernel
theorem dX6_chain_11 : decode cX6_chain 11 = .ok (.ireturn, 1) := by decide +kernel
theorem dX6_chain_12 : decode cX6_chain 12 = .ok (.iconst 1, 1) := by decide +kernel
theorem dX6_chain_13 : decode cX6_chain 13 = .ok (.iload_n 2, 1) := by decide +kernel
theorem dX6_chain_14 : decode cX6_chain 14 = .ok (.ishl, 1) := by decide +kernel
theorem dX6_chain_15 : decode cX6_chain 15 = .ok (.istore 4, 2) := by decide +kernel
theorem dX6_chain_17 : decode cX6_chain 17 = .ok (.iload_n 2, 1) := by decide +kernel
theorem dX6_chain_18 : decode cX6_chain 18 = .ok (.istore 5, 2) := by decide +kernel
theorem dX6_chain_20 : decode cX6_chain 20 = .ok (.iconst 0, 1) := by decide +kernel
theorem dX6_chain_21 : decode cX6_chain 21 = .ok (.istore 6, 2) := by decide +kernel
theorem dX6_chain_23 : decode cX6_chain 23 = .ok (.iload 6, 2) := by decide +kernel
theorem dX6_chain_25 : decode cX6_chain 25 = .ok (.aload_n 0, 1) := by decide +kernel
theorem dX6_chain_26 : decode cX6_chain 26 = .ok (.getfield 23, 3) := by decide +kernel
theorem dX6_chain_29 : decode cX6_chain 29 = .ok (.if_icmp .ge 100, 3) := by decide +kernel
theorem dX6_chain_32 : decode cX6_chain 32 = .ok (.iload_n 3, 1) := by decide +kernel
theorem dX6_chain_33 : decode cX6_chain 33 = .ok (.ifCond .ne 8, 3) := by decide +kernel
theorem dX6_chain_36 : decode cX6_chain 36 = .ok (.iload 5, 2) := by decide +kernel
theorem dX6_chain_38 : decode cX6_chain 38 = .ok (.goto 9, 3) := by decide +kernel
theorem dX6_chain_41 : decode cX6_chain 41 = .ok (.aload_n 0, 1) := by decide +kernel
theorem dX6_chain_42 : decode cX6_chain 42 = .ok (.iload 5, 2) := by decide +kernel
theorem dX6_chain_44 : decode cX6_chain 44 = .ok (.invokevirtual 192, 3) := by decide +kernel
theorem dX6_chain_47 : decode cX6_chain 47 = .ok (.istore 7, 2) := by decide +kernel
theorem dX6_chain_49 : decode cX6_chain 49 = .ok (.aload_n 0, 1) := by decide +kernel
theorem dX6_chain_50 : decode cX6_chain 50 = .ok (.iload_n 1, 1) := by decide +kernel
theorem dX6_chain_51 : decode cX6_chain 51 = .ok (.iload 7, 2) := by decide +kernel
theorem dX6_chain_53 : decode cX6_chain 53 = .ok (.invokevirtual 180, 3) := by decide +kernel
theorem dX6_chain_56 : decode cX6_chain 56 = .ok (.aload_n 0, 1) := by decide +kernel
theorem dX6_chain_57 : decode cX6_chain 57 = .ok (.getfield 30, 3) := by decide +kernel
theorem dX6_chain_60 : decode cX6_chain 60 = .ok (.iload 7, 2) := by decide +kernel
theorem dX6_chain_62 : decode cX6_chain 62 = .ok (.iaload, 1) := by decide +kernel
theorem dX6_chain_63 : decode cX6_chain 63 = .ok (.iconst 1, 1) := by decide +kernel
theorem dX6_chain_64 : decode cX6_chain 64 = .ok (.iadd, 1) := by decide +kernel
theorem dX6_chain_65 : decode cX6_chain 65 = .ok (.if_icmp .le 6, 3) := by decide +kernel
theorem dX6_chain_68 : decode cX6_chain 68 = .ok (.iload 4, 2) := by decide +kernel
theorem dX6_chain_70 : decode cX6_chain 70 = .ok (.ireturn, 1) := by decide +kernel
theorem dX6_chain_71 : decode cX6_chain 71 = .ok (.iload_n 3, 1) := by decide +kernel
theorem dX6_chain_72 : decode cX6_chain 72 = .ok (.ifCond .ne 12, 3) := by decide +kernel
theorem dX6_chain_75 : decode cX6_chain 75 = .ok (.aload_n 0, 1) := by decide +kernel
theorem dX6_chain_76 : decode cX6_chain 76 = .ok (.iload 5, 2) := by decide +kernel
theorem dX6_chain_78 : decode cX6_chain 78 = .ok (.invokevirtual 177, 3) := by decide +kernel
theorem dX6_chain_81 : decode cX6_chain 81 = .ok (.goto 9, 3) := by decide +kernel
theorem dX6_chain_84 : decode cX6_chain 84 = .ok (.aload_n 0, 1) := by decide +kernel
theorem dX6_chain_85 : decode cX6_chain 85 = .ok (.iload 5, 2) := by decide +kernel
theorem dX6_chain_87 : decode cX6_chain 87 = .ok (.invokevirtual 192, 3) := by decide +kernel
theorem dX6_chain_90 : decode cX6_chain 90 = .ok (.istore 5, 2) := by decide +kernel
theorem dX6_chain_92 : decode cX6_chain 92 = .ok (.iload 5, 2) := by decide +kernel
theorem dX6_chain_94 : decode cX6_chain 94 = .ok (.iload_n 2, 1) := by decide +kernel
theorem dX6_chain_95 : decode cX6_chain 95 = .ok (.if_icmp .ne 6, 3) := by decide +kernel
theorem dX6_chain_98 : decode cX6_chain 98 = .ok (.iload 4, 2) := by decide +kernel
theorem dX6_chain_100 : decode cX6_chain 100 = .ok (.ireturn, 1) := by decide +kernel
theorem dX6_chain_101 : decode cX6_chain 101 = .ok (.aload_n 0, 1) := by decide +kernel
theorem dX6_chain_102 : decode cX6_chain 102 = .ok (.getfield 27, 3) := by decide +kernel
theorem dX6_chain_105 : decode cX6_chain 105 = .ok (.iload 5, 2) := by decide +kernel
theorem dX6_chain_107 : decode cX6_chain 107 = .ok (.iaload, 1) := by decide +kernel
theorem dX6_chain_108 : decode cX6_chain 108 = .ok (.iconst 1, 1) := by decide +kernel
theorem dX6_chain_109 : decode cX6_chain 109 = .ok (.if_icmp .le 5, 3) := by decide +kernel
theorem dX6_chain_112 : decode cX6_chain 112 = .ok (.iconst 0, 1) := by decide +kernel
theorem dX6_chain_113 : decode cX6_chain 113 = .ok (.ireturn, 1) := by decide +kernel
theorem dX6_chain_114 : decode cX6_chain 114 = .ok (.iload 4, 2) := by decide +kernel
theorem dX6_chain_116 : decode cX6_chain 116 = .ok (.iconst 1, 1) := by decide +kernel
theorem dX6_chain_117 : decode cX6_chain 117 = .ok (.iload 5, 2) := by decide +kernel
theorem dX6_chain_119 : decode cX6_chain 119 = .ok (.ishl, 1) := by decide +kernel
theorem dX6_chain_120 : decode cX6_chain 120 = .ok (.ior, 1) := by decide +kernel
theorem dX6_chain_121 : decode cX6_chain 121 = .ok (.istore 4, 2) := by decide +kernel
theorem dX6_chain_123 : decode cX6_chain 123 = .ok (.iinc 6 1, 3) := by decide +kernel
theorem dX6_chain_126 : decode cX6_chain 126 = .ok (.goto (-103), 3) := by decide +kernel
theorem dX6_chain_129 : decode cX6_chain 129 = .ok (.iconst 0, 1) := by decide +kernel
theorem dX6_chain_130 : decode cX6_chain 130 = .ok (.ireturn, 1) := by decide +kernel
theorem dX6_step_0 : decode cX6_step 0 = .ok (.aload_n 0, 1) := by decide +kernel
theorem dX6_step_1 : decode cX6_step 1 = .ok (.iload_n 1, 1) := by decide +kernel
theorem dX6_step_2 : decode cX6_step 2 = .ok (.iload_n 2, 1) := by decide +kernel
theorem dX6_step_3 : decode cX6_step 3 = .ok (.iload_n 3, 1) := by decide +kernel
theorem dX6_step_4 : decode cX6_step 4 = .ok (.invokevirtual 195, 3) := by decide +kernel
theorem dX6_step_7 : decode cX6_step 7 = .ok (.istore 4, 2) := by decide +kernel
theorem dX6_step_9 : decode cX6_step 9 = .ok (.iconst 0, 1) := by decide +kernel
theorem dX6_step_10 : decode cX6_step 10 = .ok (.istore 5, 2) := by decide +kernel
theorem dX6_step_12 : decode cX6_step 12 = .ok (.iload 5, 2) := by decide +kernel
theorem dX6_step_14 : decode cX6_step 14 = .ok (.aload_n 0, 1) := by decide +kernel
theorem dX6_step_15 : decode cX6_step 15 = .ok (.getfield 23, 3) := by decide +kernel
theorem dX6_step_18 : decode cX6_step 18 = .ok (.if_icmp .ge 63, 3) := by decide +kernel
theorem dX6_step_21 : decode cX6_step 21 = .ok (.aload_n 0, 1) := by decide +kernel
theorem dX6_step_22 : decode cX6_step 22 = .ok (.getfield 7, 3) := by decide +kernel
theorem dX6_step_25 : decode cX6_step 25 = .ok (.iload_n 1, 1) := by decide +kernel
theorem dX6_step_26 : decode cX6_step 26 = .ok (.iload 5, 2) := by decide +kernel
theorem dX6_step_28 : decode cX6_step 28 = .ok (.iadd, 1) := by decide +kernel
theorem dX6_step_29 : decode cX6_step 29 = .ok (.iload 4, 2) := by decide +kernel
theorem dX6_step_31 : decode cX6_step 31 = .ok (.iload 5, 2) := by decide +kernel
theorem dX6_step_33 : decode cX6_step 33 = .ok (.invokestatic 199, 3) := by decide +kernel
theorem dX6_step_36 : decode cX6_step 36 = .ok (.ifCond .eq 29, 3) := by decide +kernel
theorem dX6_step_39 : decode cX6_step 39 = .ok (.aload_n 0, 1) := by decide +kernel
theorem dX6_step_40 : decode cX6_step 40 = .ok (.getfield 7, 3) := by decide +kernel
theorem dX6_step_43 : decode cX6_step 43 = .ok (.iload_n 1, 1) := by decide +kernel
theorem dX6_step_44 : decode cX6_step 44 = .ok (.iload 5, 2) := by decide +kernel
theorem dX6_step_46 : decode cX6_step 46 = .ok (.iadd, 1) := by decide +kernel
theorem dX6_step_47 : decode cX6_step 47 = .ok (.iaload, 1) := by decide +kernel
theorem dX6_step_48 : decode cX6_step 48 = .ok (.iload_n 3, 1) := by decide +kernel
theorem dX6_step_49 : decode cX6_step 49 = .ok (.ifCond .ne 7, 3) := by decide +kernel
theorem dX6_step_52 : decode cX6_step 52 = .ok (.iconst 1, 1) := by decide +kernel
theorem dX6_step_53 : decode cX6_step 53 = .ok (.goto 5, 3) := by decide +kernel
theorem dX6_step_56 : decode cX6_step 56 = .ok (.bipush 71, 2) := by decide +kernel
theorem dX6_step_58 : decode cX6_step 58 = .ok (.iadd, 1) := by decide +kernel
theorem dX6_step_59 : decode cX6_step 59 = .ok (.bipush 72, 2) := by decide +kernel
theorem dX6_step_61 : decode cX6_step 61 = .ok (.irem, 1) := by decide +kernel
theorem dX6_step_62 : decode cX6_step 62 = .ok (.goto 12, 3) := by decide +kernel
theorem dX6_step_65 : decode cX6_step 65 = .ok (.aload_n 0, 1) := by decide +kernel
theorem dX6_step_66 : decode cX6_step 66 = .ok (.getfield 7, 3) := by decide +kernel
theorem dX6_step_69 : decode cX6_step 69 = .ok (.iload_n 1, 1) := by decide +kernel
theorem dX6_step_70 : decode cX6_step 70 = .ok (.iload 5, 2) := by decide +kernel
theorem dX6_step_72 : decode cX6_step 72 = .ok (.iadd, 1) := by decide +kernel
theorem dX6_step_73 : decode cX6_step 73 = .ok (.iaload, 1) := by decide +kernel
theorem dX6_step_74 : decode cX6_step 74 = .ok (.iastore, 1) := by decide +kernel
theorem dX6_step_75 : decode cX6_step 75 = .ok (.iinc 5 1, 3) := by decide +kernel
theorem dX6_step_78 : decode cX6_step 78 = .ok (.goto (-66), 3) := by decide +kernel
theorem dX6_step_81 : decode cX6_step 81 = .ok (.iload 4, 2) := by decide +kernel
theorem dX6_step_83 : decode cX6_step 83 = .ok (.ifCond .eq 7, 3) := by decide +kernel
theorem dX6_step_86 : decode cX6_step 86 = .ok (.iconst 1, 1) := by decide +kernel
theorem dX6_step_87 : decode cX6_step 87 = .ok (.goto 4, 3) := by decide +kernel
theorem dX6_step_90 : decode cX6_step 90 = .ok (.iconst 0, 1) := by decide +kernel
theorem dX6_step_91 : decode cX6_step 91 = .ok (.ireturn, 1) := by decide +kernel
theorem dX6_as_0 : decode cX6_as 0 = .ok (.aload_n 0, 1) := by decide +kernel
theorem dX6_as_1 : decode cX6_as 1 = .ok (.iload_n 1, 1) := by decide +kernel
theorem dX6_as_2 : decode cX6_as 2 = .ok (.invokevirtual 183, 3) := by decide +kernel
theorem dX6_as_5 : decode cX6_as 5 = .ok (.ifCond .ne 6, 3) := by decide +kernel
theorem dX6_as_8 : decode cX6_as 8 = .ok (.bipush (-2), 2) := by decide +kernel
theorem dX6_as_10 : decode cX6_as 10 = .ok (.ireturn, 1) := by decide +kernel
theorem dX6_as_11 : decode cX6_as 11 = .ok (.iload_n 2, 1) := by decide +kernel
theorem dX6_as_12 : decode cX6_as 12 = .ok (.i2l, 1) := by decide +kernel
theorem dX6_as_13 : decode cX6_as 13 = .ok (.lconst 0, 1) := by decide +kernel
theorem dX6_as_14 : decode cX6_as 14 = .ok (.ldc2_w 202, 3) := by decide +kernel
theorem dX6_as_17 : decode cX6_as 17 = .ok (.invokestatic 60, 3) := by decide +kernel
theorem dX6_as_20 : decode cX6_as 20 = .ok (.ifCond .ne 6, 3) := by decide +kernel
theorem dX6_as_23 : decode cX6_as 23 = .ok (.bipush (-3), 2) := by decide +kernel
theorem dX6_as_25 : decode cX6_as 25 = .ok (.ireturn, 1) := by decide +kernel
theorem dX6_as_26 : decode cX6_as 26 = .ok (.aload_n 0, 1) := by decide +kernel
theorem dX6_as_27 : decode cX6_as 27 = .ok (.getfield 27, 3) := by decide +kernel
theorem dX6_as_30 : decode cX6_as 30 = .ok (.iload_n 1, 1) := by decide +kernel
theorem dX6_as_31 : decode cX6_as 31 = .ok (.iaload, 1) := by decide +kernel
theorem dX6_as_32 : decode cX6_as 32 = .ok (.istore_n 3, 1) := by decide +kernel
theorem dX6_as_33 : decode cX6_as 33 = .ok (.iload_n 2, 1) := by decide +kernel
theorem dX6_as_34 : decode cX6_as 34 = .ok (.ifCond .eq 43, 3) := by decide +kernel
theorem dX6_as_37 : decode cX6_as 37 = .ok (.iload_n 2, 1) := by decide +kernel
theorem dX6_as_38 : decode cX6_as 38 = .ok (.iconst 1, 1) := by decide +kernel
theorem dX6_as_39 : decode cX6_as 39 = .ok (.if_icmp .ne 8, 3) := by decide +kernel
theorem dX6_as_42 : decode cX6_as 42 = .ok (.iload_n 3, 1) := by decide +kernel
theorem dX6_as_43 : decode cX6_as 43 = .ok (.iconst 2, 1) := by decide +kernel
theorem dX6_as_44 : decode cX6_as 44 = .ok (.if_icmp .lt 33, 3) := by decide +kernel
theorem dX6_as_47 : decode cX6_as 47 = .ok (.iload_n 2, 1) := by decide +kernel
theorem dX6_as_48 : decode cX6_as 48 = .ok (.iconst 2, 1) := by decide +kernel
theorem dX6_as_49 : decode cX6_as 49 = .ok (.if_icmp .ne 8, 3) := by decide +kernel
theorem dX6_as_52 : decode cX6_as 52 = .ok (.iload_n 3, 1) := by decide +kernel
theorem dX6_as_53 : decode cX6_as 53 = .ok (.iconst 1, 1) := by decide +kernel
theorem dX6_as_54 : decode cX6_as 54 = .ok (.if_icmp .eq 23, 3) := by decide +kernel
theorem dX6_as_57 : decode cX6_as 57 = .ok (.iload_n 2, 1) := by decide +kernel
theorem dX6_as_58 : decode cX6_as 58 = .ok (.iconst 3, 1) := by decide +kernel
theorem dX6_as_59 : decode cX6_as 59 = .ok (.if_icmp .ne 8, 3) := by decide +kernel
theorem dX6_as_62 : decode cX6_as 62 = .ok (.iload_n 3, 1) := by decide +kernel
theorem dX6_as_63 : decode cX6_as 63 = .ok (.iconst 2, 1) := by decide +kernel
theorem dX6_as_64 : decode cX6_as 64 = .ok (.if_icmp .ge 13, 3) := by decide +kernel
theorem dX6_as_67 : decode cX6_as 67 = .ok (.iload_n 2, 1) := by decide +kernel
theorem dX6_as_68 : decode cX6_as 68 = .ok (.iconst 4, 1) := by decide +kernel
theorem dX6_as_69 : decode cX6_as 69 = .ok (.if_icmp .ne 12, 3) := by decide +kernel
theorem dX6_as_72 : decode cX6_as 72 = .ok (.iload_n 3, 1) := by decide +kernel
theorem dX6_as_73 : decode cX6_as 73 = .ok (.iconst 3, 1) := by decide +kernel
theorem dX6_as_74 : decode cX6_as 74 = .ok (.if_icmp .ne 7, 3) := by decide +kernel
theorem dX6_as_77 : decode cX6_as 77 = .ok (.iconst 1, 1) := by decide +kernel
theorem dX6_as_78 : decode cX6_as 78 = .ok (.goto 4, 3) := by decide +kernel
theorem dX6_as_81 : decode cX6_as 81 = .ok (.iconst 0, 1) := by decide +kernel
theorem dX6_as_82 : decode cX6_as 82 = .ok (.istore 4, 2) := by decide +kernel
theorem dX6_as_84 : decode cX6_as 84 = .ok (.iload 4, 2) := by decide +kernel
theorem dX6_as_86 : decode cX6_as 86 = .ok (.ifCond .eq 37, 3) := by decide +kernel
theorem dX6_as_89 : decode cX6_as 89 = .ok (.aload_n 0, 1) := by decide +kernel
theorem dX6_as_90 : decode cX6_as 90 = .ok (.iconst 0, 1) := by decide +kernel
theorem dX6_as_91 : decode cX6_as 91 = .ok (.iload_n 1, 1) := by decide +kernel
theorem dX6_as_92 : decode cX6_as 92 = .ok (.iconst 0, 1) := by decide +kernel
theorem dX6_as_93 : decode cX6_as 93 = .ok (.invokevirtual 195, 3) := by decide +kernel
theorem dX6_as_96 : decode cX6_as 96 = .ok (.ifCond .eq 7, 3) := by decide +kernel
theorem dX6_as_99 : decode cX6_as 99 = .ok (.iconst 1, 1) := by decide +kernel
theorem dX6_as_100 : decode cX6_as 100 = .ok (.goto 4, 3) := by decide +kernel
theorem dX6_as_103 : decode cX6_as 103 = .ok (.iconst 0, 1) := by decide +kernel
theorem dX6_as_104 : decode cX6_as 104 = .ok (.aload_n 0, 1) := by decide +kernel
theorem dX6_as_105 : decode cX6_as 105 = .ok (.iconst 0, 1) := by decide +kernel
theorem dX6_as_106 : decode cX6_as 106 = .ok (.iload_n 1, 1) := by decide +kernel
theorem dX6_as_107 : decode cX6_as 107 = .ok (.iconst 1, 1) := by decide +kernel
theorem dX6_as_108 : decode cX6_as 108 = .ok (.invokevirtual 195, 3) := by decide +kernel
theorem dX6_as_111 : decode cX6_as 111 = .ok (.ifCond .eq 7, 3) := by decide +kernel
theorem dX6_as_114 : decode cX6_as 114 = .ok (.iconst 2, 1) := by decide +kernel
theorem dX6_as_115 : decode cX6_as 115 = .ok (.goto 4, 3) := by decide +kernel
theorem dX6_as_118 : decode cX6_as 118 = .ok (.iconst 0, 1) := by decide +kernel
theorem dX6_as_119 : decode cX6_as 119 = .ok (.iadd, 1) := by decide +kernel
theorem dX6_as_120 : decode cX6_as 120 = .ok (.goto 5, 3) := by decide +kernel
theorem dX6_as_123 : decode cX6_as 123 = .ok (.bipush (-4), 2) := by decide +kernel
theorem dX6_as_125 : decode cX6_as 125 = .ok (.ireturn, 1) := by decide +kernel
theorem dX6_person_0 : decode cX6_person 0 = .ok (.aload_n 0, 1) := by decide +kernel
theorem dX6_person_1 : decode cX6_person 1 = .ok (.iload_n 1, 1) := by decide +kernel
theorem dX6_person_2 : decode cX6_person 2 = .ok (.invokevirtual 204, 3) := by decide +kernel
theorem dX6_person_5 : decode cX6_person 5 = .ok (.ifCond .eq 15, 3) := by decide +kernel
theorem dX6_person_8 : decode cX6_person 8 = .ok (.aload_n 0, 1) := by decide +kernel
theorem dX6_person_9 : decode cX6_person 9 = .ok (.getfield 7, 3) := by decide +kernel
theorem dX6_person_12 : decode cX6_person 12 = .ok (.bipush 8, 2) := by decide +kernel
theorem dX6_person_14 : decode cX6_person 14 = .ok (.iload_n 1, 1) := by decide +kernel
theorem dX6_person_15 : decode cX6_person 15 = .ok (.iadd, 1) := by decide +kernel
theorem dX6_person_16 : decode cX6_person 16 = .ok (.iaload, 1) := by decide +kernel
theorem dX6_person_17 : decode cX6_person 17 = .ok (.goto 5, 3) := by decide +kernel
theorem dX6_person_20 : decode cX6_person 20 = .ok (.bipush (-2), 2) := by decide +kernel
theorem dX6_person_22 : decode cX6_person 22 = .ok (.ireturn, 1) := by decide +kernel
theorem dX6_pushBy_0 : decode cX6_pushBy 0 = .ok (.iconst 0, 1) := by decide +kernel
theorem dX6_pushBy_1 : decode cX6_pushBy 1 = .ok (.istore 5, 2) := by decide +kernel
theorem dX6_pushBy_3 : decode cX6_pushBy 3 = .ok (.iload 5, 2) := by decide +kernel
theorem dX6_pushBy_5 : decode cX6_pushBy 5 = .ok (.iload 4, 2) := by decide +kernel
theorem dX6_pushBy_7 : decode cX6_pushBy 7 = .ok (.if_icmp .ge 19, 3) := by decide +kernel
theorem dX6_pushBy_10 : decode cX6_pushBy 10 = .ok (.aload_n 0, 1) := by decide +kernel
theorem dX6_pushBy_11 : decode cX6_pushBy 11 = .ok (.iload_n 1, 1) := by decide +kernel
theorem dX6_pushBy_12 : decode cX6_pushBy 12 = .ok (.iload_n 2, 1) := by decide +kernel
theorem dX6_pushBy_13 : decode cX6_pushBy 13 = .ok (.iload_n 3, 1) := by decide +kernel
theorem dX6_pushBy_14 : decode cX6_pushBy 14 = .ok (.invokevirtual 207, 3) := by decide +kernel
theorem dX6_pushBy_17 : decode cX6_pushBy 17 = .ok (.ifCond .eq 9, 3) := by decide +kernel
theorem dX6_pushBy_20 : decode cX6_pushBy 20 = .ok (.iinc 5 1, 3) := by decide +kernel
theorem dX6_pushBy_23 : decode cX6_pushBy 23 = .ok (.goto (-20), 3) := by decide +kernel
theorem dX6_pushBy_26 : decode cX6_pushBy 26 = .ok (.iload 5, 2) := by decide +kernel
theorem dX6_pushBy_28 : decode cX6_pushBy 28 = .ok (.ireturn, 1) := by decide +kernel
theorem dX6_push_0 : decode cX6_push 0 = .ok (.aload_n 0, 1) := by decide +kernel
theorem dX6_push_1 : decode cX6_push 1 = .ok (.iload_n 1, 1) := by decide +kernel
theorem dX6_push_2 : decode cX6_push 2 = .ok (.invokevirtual 183, 3) := by decide +kernel
theorem dX6_push_5 : decode cX6_push 5 = .ok (.ifCond .ne 6, 3) := by decide +kernel
theorem dX6_push_8 : decode cX6_push 8 = .ok (.bipush (-2), 2) := by decide +kernel
theorem dX6_push_10 : decode cX6_push 10 = .ok (.ireturn, 1) := by decide +kernel
theorem dX6_push_11 : decode cX6_push 11 = .ok (.iload_n 2, 1) := by decide +kernel
theorem dX6_push_12 : decode cX6_push 12 = .ok (.invokestatic 210, 3) := by decide +kernel
theorem dX6_push_15 : decode cX6_push 15 = .ok (.ifCond .eq 26, 3) := by decide +kernel
theorem dX6_push_18 : decode cX6_push 18 = .ok (.iload_n 3, 1) := by decide +kernel
theorem dX6_push_19 : decode cX6_push 19 = .ok (.i2l, 1) := by decide +kernel
theorem dX6_push_20 : decode cX6_push 20 = .ok (.lconst 1, 1) := by decide +kernel
theorem dX6_push_21 : decode cX6_push 21 = .ok (.ldc2_w 213, 3) := by decide +kernel
theorem dX6_push_24 : decode cX6_push 24 = .ok (.invokestatic 60, 3) := by decide +kernel
theorem dX6_push_27 : decode cX6_push 27 = .ok (.ifCond .eq 14, 3) := by decide +kernel
theorem dX6_push_30 : decode cX6_push 30 = .ok (.aload_n 0, 1) := by decide +kernel
theorem dX6_push_31 : decode cX6_push 31 = .ok (.iconst 0, 1) := by decide +kernel
theorem dX6_push_32 : decode cX6_push 32 = .ok (.iload_n 1, 1) := by decide +kernel
theorem dX6_push_33 : decode cX6_push 33 = .ok (.iload_n 2, 1) := by decide +kernel
theorem dX6_push_34 : decode cX6_push 34 = .ok (.iload_n 3, 1) := by decide +kernel
theorem dX6_push_35 : decode cX6_push 35 = .ok (.invokevirtual 215, 3) := by decide +kernel
theorem dX6_push_38 : decode cX6_push 38 = .ok (.goto 5, 3) := by decide +kernel
theorem dX6_push_41 : decode cX6_push 41 = .ok (.bipush (-3), 2) := by decide +kernel
theorem dX6_push_43 : decode cX6_push 43 = .ok (.ireturn, 1) := by decide +kernel
theorem dX6_hour_0 : decode cX6_hour 0 = .ok (.iconst 0, 1) := by decide +kernel
theorem dX6_hour_1 : decode cX6_hour 1 = .ok (.istore_n 1, 1) := by decide +kernel
theorem dX6_hour_2 : decode cX6_hour 2 = .ok (.iload_n 1, 1) := by decide +kernel
theorem dX6_hour_3 : decode cX6_hour 3 = .ok (.aload_n 0, 1) := by decide +kernel
theorem dX6_hour_4 : decode cX6_hour 4 = .ok (.getfield 23, 3) := by decide +kernel
theorem dX6_hour_7 : decode cX6_hour 7 = .ok (.if_icmp .ge 62, 3) := by decide +kernel
theorem dX6_hour_10 : decode cX6_hour 10 = .ok (.aload_n 0, 1) := by decide +kernel
theorem dX6_hour_11 : decode cX6_hour 11 = .ok (.getfield 7, 3) := by decide +kernel
theorem dX6_hour_14 : decode cX6_hour 14 = .ok (.iload_n 1, 1) := by decide +kernel
theorem dX6_hour_15 : decode cX6_hour 15 = .ok (.iaload, 1) := by decide +kernel
theorem dX6_hour_16 : decode cX6_hour 16 = .ok (.aload_n 0, 1) := by decide +kernel
theorem dX6_hour_17 : decode cX6_hour 17 = .ok (.getfield 7, 3) := by decide +kernel
theorem dX6_hour_20 : decode cX6_hour 20 = .ok (.bipush 56, 2) := by decide +kernel
theorem dX6_hour_22 : decode cX6_hour 22 = .ok (.iload_n 1, 1) := by decide +kernel
theorem dX6_hour_23 : decode cX6_hour 23 = .ok (.iadd, 1) := by decide +kernel
theorem dX6_hour_24 : decode cX6_hour 24 = .ok (.iaload, 1) := by decide +kernel
theorem dX6_hour_25 : decode cX6_hour 25 = .ok (.invokestatic 54, 3) := by decide +kernel
theorem dX6_hour_28 : decode cX6_hour 28 = .ok (.istore_n 2, 1) := by decide +kernel
theorem dX6_hour_29 : decode cX6_hour 29 = .ok (.aload_n 0, 1) := by decide +kernel
theorem dX6_hour_30 : decode cX6_hour 30 = .ok (.getfield 27, 3) := by decide +kernel
theorem dX6_hour_33 : decode cX6_hour 33 = .ok (.iload_n 1, 1) := by decide +kernel
theorem dX6_hour_34 : decode cX6_hour 34 = .ok (.iaload, 1) := by decide +kernel
theorem dX6_hour_35 : decode cX6_hour 35 = .ok (.iconst 1, 1) := by decide +kernel
theorem dX6_hour_36 : decode cX6_hour 36 = .ok (.if_icmp .ne 27, 3) := by decide +kernel
theorem dX6_hour_39 : decode cX6_hour 39 = .ok (.iload_n 2, 1) := by decide +kernel
theorem dX6_hour_40 : decode cX6_hour 40 = .ok (.ifCond .eq 23, 3) := by decide +kernel
theorem dX6_hour_43 : decode cX6_hour 43 = .ok (.aload_n 0, 1) := by decide +kernel
theorem dX6_hour_44 : decode cX6_hour 44 = .ok (.iconst 0, 1) := by decide +kernel
theorem dX6_hour_45 : decode cX6_hour 45 = .ok (.iload_n 1, 1) := by decide +kernel
theorem dX6_hour_46 : decode cX6_hour 46 = .ok (.iload_n 2, 1) := by decide +kernel
theorem dX6_hour_47 : decode cX6_hour 47 = .ok (.bipush 72, 2) := by decide +kernel
theorem dX6_hour_49 : decode cX6_hour 49 = .ok (.iload_n 2, 1) := by decide +kernel
theorem dX6_hour_50 : decode cX6_hour 50 = .ok (.isub, 1) := by decide +kernel
theorem dX6_hour_51 : decode cX6_hour 51 = .ok (.if_icmp .gt 7, 3) := by decide +kernel
theorem dX6_hour_54 : decode cX6_hour 54 = .ok (.iconst 0, 1) := by decide +kernel
theorem dX6_hour_55 : decode cX6_hour 55 = .ok (.goto 4, 3) := by decide +kernel
theorem dX6_hour_58 : decode cX6_hour 58 = .ok (.iconst 1, 1) := by decide +kernel
theorem dX6_hour_59 : decode cX6_hour 59 = .ok (.invokevirtual 207, 3) := by decide +kernel
theorem dX6_hour_62 : decode cX6_hour 62 = .ok (.pop, 1) := by decide +kernel
theorem dX6_hour_63 : decode cX6_hour 63 = .ok (.iinc 1 1, 3) := by decide +kernel
theorem dX6_hour_66 : decode cX6_hour 66 = .ok (.goto (-64), 3) := by decide +kernel
theorem dX6_hour_69 : decode cX6_hour 69 = .ok (.aload_n 0, 1) := by decide +kernel
theorem dX6_hour_70 : decode cX6_hour 70 = .ok (.getfield 7, 3) := by decide +kernel
theorem dX6_hour_73 : decode cX6_hour 73 = .ok (.bipush 13, 2) := by decide +kernel
theorem dX6_hour_75 : decode cX6_hour 75 = .ok (.dup2, 1) := by decide +kernel
theorem dX6_hour_76 : decode cX6_hour 76 = .ok (.iaload, 1) := by decide +kernel
theorem dX6_hour_77 : decode cX6_hour 77 = .ok (.iconst 1, 1) := by decide +kernel
theorem dX6_hour_78 : decode cX6_hour 78 = .ok (.iadd, 1) := by decide +kernel
theorem dX6_hour_79 : decode cX6_hour 79 = .ok (.iastore, 1) := by decide +kernel
theorem dX6_hour_80 : decode cX6_hour 80 = .ok (.return_, 1) := by decide +kernel
theorem dX6_hours_0 : decode cX6_hours 0 = .ok (.iload_n 1, 1) := by decide +kernel
theorem dX6_hours_1 : decode cX6_hours 1 = .ok (.i2l, 1) := by decide +kernel
theorem dX6_hours_2 : decode cX6_hours 2 = .ok (.lconst 1, 1) := by decide +kernel
theorem dX6_hours_3 : decode cX6_hours 3 = .ok (.ldc2_w 219, 3) := by decide +kernel
theorem dX6_hours_6 : decode cX6_hours 6 = .ok (.invokestatic 60, 3) := by decide +kernel
theorem dX6_hours_9 : decode cX6_hours 9 = .ok (.ifCond .ne 6, 3) := by decide +kernel
theorem dX6_hours_12 : decode cX6_hours 12 = .ok (.bipush (-3), 2) := by decide +kernel
theorem dX6_hours_14 : decode cX6_hours 14 = .ok (.ireturn, 1) := by decide +kernel
theorem dX6_hours_15 : decode cX6_hours 15 = .ok (.aload_n 0, 1) := by decide +kernel
theorem dX6_hours_16 : decode cX6_hours 16 = .ok (.getfield 7, 3) := by decide +kernel
theorem dX6_hours_19 : decode cX6_hours 19 = .ok (.bipush 13, 2) := by decide +kernel
theorem dX6_hours_21 : decode cX6_hours 21 = .ok (.iaload, 1) := by decide +kernel
theorem dX6_hours_22 : decode cX6_hours 22 = .ok (.iload_n 1, 1) := by decide +kernel
theorem dX6_hours_23 : decode cX6_hours 23 = .ok (.iadd, 1) := by decide +kernel
theorem dX6_hours_24 : decode cX6_hours 24 = .ok (.sipush 9999, 3) := by decide +kernel
theorem dX6_hours_27 : decode cX6_hours 27 = .ok (.if_icmp .le 6, 3) := by decide +kernel
theorem dX6_hours_30 : decode cX6_hours 30 = .ok (.bipush (-5), 2) := by decide +kernel
theorem dX6_hours_32 : decode cX6_hours 32 = .ok (.ireturn, 1) := by decide +kernel
theorem dX6_hours_33 : decode cX6_hours 33 = .ok (.iconst 0, 1) := by decide +kernel
theorem dX6_hours_34 : decode cX6_hours 34 = .ok (.istore_n 2, 1) := by decide +kernel
theorem dX6_hours_35 : decode cX6_hours 35 = .ok (.iload_n 2, 1) := by decide +kernel
theorem dX6_hours_36 : decode cX6_hours 36 = .ok (.iload_n 1, 1) := by decide +kernel
theorem dX6_hours_37 : decode cX6_hours 37 = .ok (.if_icmp .ge 13, 3) := by decide +kernel
theorem dX6_hours_40 : decode cX6_hours 40 = .ok (.aload_n 0, 1) := by decide +kernel
theorem dX6_hours_41 : decode cX6_hours 41 = .ok (.invokevirtual 221, 3) := by decide +kernel
theorem dX6_hours_44 : decode cX6_hours 44 = .ok (.iinc 2 1, 3) := by decide +kernel
theorem dX6_hours_47 : decode cX6_hours 47 = .ok (.goto (-12), 3) := by decide +kernel
theorem dX6_hours_50 : decode cX6_hours 50 = .ok (.aload_n 0, 1) := by decide +kernel
theorem dX6_hours_51 : decode cX6_hours 51 = .ok (.getfield 7, 3) := by decide +kernel
theorem dX6_hours_54 : decode cX6_hours 54 = .ok (.bipush 13, 2) := by decide +kernel
theorem dX6_hours_56 : decode cX6_hours 56 = .ok (.iaload, 1) := by decide +kernel
theorem dX6_hours_57 : decode cX6_hours 57 = .ok (.ireturn, 1) := by decide +kernel
theorem dX6_leave_0 : decode cX6_leave 0 = .ok (.aload_n 0, 1) := by decide +kernel
theorem dX6_leave_1 : decode cX6_leave 1 = .ok (.iload_n 1, 1) := by decide +kernel
theorem dX6_leave_2 : decode cX6_leave 2 = .ok (.invokevirtual 204, 3) := by decide +kernel
theorem dX6_leave_5 : decode cX6_leave 5 = .ok (.ifCond .ne 6, 3) := by decide +kernel
theorem dX6_leave_8 : decode cX6_leave 8 = .ok (.bipush (-2), 2) := by decide +kernel
theorem dX6_leave_10 : decode cX6_leave 10 = .ok (.ireturn, 1) := by decide +kernel
theorem dX6_leave_11 : decode cX6_leave 11 = .ok (.aload_n 0, 1) := by decide +kernel
theorem dX6_leave_12 : decode cX6_leave 12 = .ok (.getfield 7, 3) := by decide +kernel
theorem dX6_leave_15 : decode cX6_leave 15 = .ok (.bipush 8, 2) := by decide +kernel
theorem dX6_leave_17 : decode cX6_leave 17 = .ok (.iload_n 1, 1) := by decide +kernel
theorem dX6_leave_18 : decode cX6_leave 18 = .ok (.iadd, 1) := by decide +kernel
theorem dX6_leave_19 : decode cX6_leave 19 = .ok (.iaload, 1) := by decide +kernel
theorem dX6_leave_20 : decode cX6_leave 20 = .ok (.istore_n 2, 1) := by decide +kernel
theorem dX6_leave_21 : decode cX6_leave 21 = .ok (.iload_n 2, 1) := by decide +kernel
theorem dX6_leave_22 : decode cX6_leave 22 = .ok (.iconst (-1), 1) := by decide +kernel
theorem dX6_leave_23 : decode cX6_leave 23 = .ok (.if_icmp .eq 12, 3) := by decide +kernel
theorem dX6_leave_26 : decode cX6_leave 26 = .ok (.aload_n 0, 1) := by decide +kernel
theorem dX6_leave_27 : decode cX6_leave 27 = .ok (.iconst 0, 1) := by decide +kernel
theorem dX6_leave_28 : decode cX6_leave 28 = .ok (.iload_n 2, 1) := by decide +kernel
theorem dX6_leave_29 : decode cX6_leave 29 = .ok (.invokevirtual 186, 3) := by decide +kernel
theorem dX6_leave_32 : decode cX6_leave 32 = .ok (.ifCond .ne 6, 3) := by decide +kernel
theorem dX6_leave_35 : decode cX6_leave 35 = .ok (.bipush (-4), 2) := by decide +kernel
theorem dX6_leave_37 : decode cX6_leave 37 = .ok (.ireturn, 1) := by decide +kernel
theorem dX6_leave_38 : decode cX6_leave 38 = .ok (.aload_n 0, 1) := by decide +kernel
theorem dX6_leave_39 : decode cX6_leave 39 = .ok (.getfield 7, 3) := by decide +kernel
theorem dX6_leave_42 : decode cX6_leave 42 = .ok (.bipush 8, 2) := by decide +kernel
theorem dX6_leave_44 : decode cX6_leave 44 = .ok (.iload_n 1, 1) := by decide +kernel
theorem dX6_leave_45 : decode cX6_leave 45 = .ok (.iadd, 1) := by decide +kernel
theorem dX6_leave_46 : decode cX6_leave 46 = .ok (.iconst (-1), 1) := by decide +kernel
theorem dX6_leave_47 : decode cX6_leave 47 = .ok (.iastore, 1) := by decide +kernel
theorem dX6_leave_48 : decode cX6_leave 48 = .ok (.iload_n 2, 1) := by decide +kernel
theorem dX6_leave_49 : decode cX6_leave 49 = .ok (.ireturn, 1) := by decide +kernel
theorem dX6_bits_0 : decode cX6_bits 0 = .ok (.iconst 0, 1) := by decide +kernel
theorem dX6_bits_1 : decode cX6_bits 1 = .ok (.istore_n 1, 1) := by decide +kernel
theorem dX6_bits_2 : decode cX6_bits 2 = .ok (.iconst 0, 1) := by decide +kernel
theorem dX6_bits_3 : decode cX6_bits 3 = .ok (.istore_n 2, 1) := by decide +kernel
theorem dX6_bits_4 : decode cX6_bits 4 = .ok (.iload_n 2, 1) := by decide +kernel
theorem dX6_bits_5 : decode cX6_bits 5 = .ok (.bipush 8, 2) := by decide +kernel
theorem dX6_bits_7 : decode cX6_bits 7 = .ok (.if_icmp .ge 17, 3) := by decide +kernel
theorem dX6_bits_10 : decode cX6_bits 10 = .ok (.iload_n 1, 1) := by decide +kernel
theorem dX6_bits_11 : decode cX6_bits 11 = .ok (.iload_n 0, 1) := by decide +kernel
theorem dX6_bits_12 : decode cX6_bits 12 = .ok (.iload_n 2, 1) := by decide +kernel
theorem dX6_bits_13 : decode cX6_bits 13 = .ok (.ishr, 1) := by decide +kernel
theorem dX6_bits_14 : decode cX6_bits 14 = .ok (.iconst 1, 1) := by decide +kernel
theorem dX6_bits_15 : decode cX6_bits 15 = .ok (.iand, 1) := by decide +kernel
theorem dX6_bits_16 : decode cX6_bits 16 = .ok (.iadd, 1) := by decide +kernel
theorem dX6_bits_17 : decode cX6_bits 17 = .ok (.istore_n 1, 1) := by decide +kernel
theorem dX6_bits_18 : decode cX6_bits 18 = .ok (.iinc 2 1, 3) := by decide +kernel
theorem dX6_bits_21 : decode cX6_bits 21 = .ok (.goto (-17), 3) := by decide +kernel
theorem dX6_bits_24 : decode cX6_bits 24 = .ok (.iload_n 1, 1) := by decide +kernel
theorem dX6_bits_25 : decode cX6_bits 25 = .ok (.ireturn, 1) := by decide +kernel
theorem dX6_enter_0 : decode cX6_enter 0 = .ok (.aload_n 0, 1) := by decide +kernel
theorem dX6_enter_1 : decode cX6_enter 1 = .ok (.iload_n 1, 1) := by decide +kernel
theorem dX6_enter_2 : decode cX6_enter 2 = .ok (.invokevirtual 204, 3) := by decide +kernel
theorem dX6_enter_5 : decode cX6_enter 5 = .ok (.ifCond .eq 11, 3) := by decide +kernel
theorem dX6_enter_8 : decode cX6_enter 8 = .ok (.aload_n 0, 1) := by decide +kernel
theorem dX6_enter_9 : decode cX6_enter 9 = .ok (.iload_n 2, 1) := by decide +kernel
theorem dX6_enter_10 : decode cX6_enter 10 = .ok (.invokevirtual 183, 3) := by decide +kernel
theorem dX6_enter_13 : decode cX6_enter 13 = .ok (.ifCond .ne 6, 3) := by decide +kernel
theorem dX6_enter_16 : decode cX6_enter 16 = .ok (.bipush (-2), 2) := by decide +kernel
theorem dX6_enter_18 : decode cX6_enter 18 = .ok (.ireturn, 1) := by decide +kernel
theorem dX6_enter_19 : decode cX6_enter 19 = .ok (.aload_n 0, 1) := by decide +kernel
theorem dX6_enter_20 : decode cX6_enter 20 = .ok (.getfield 7, 3) := by decide +kernel
theorem dX6_enter_23 : decode cX6_enter 23 = .ok (.bipush 8, 2) := by decide +kernel
theorem dX6_enter_25 : decode cX6_enter 25 = .ok (.iload_n 1, 1) := by decide +kernel
theorem dX6_enter_26 : decode cX6_enter 26 = .ok (.iadd, 1) := by decide +kernel
theorem dX6_enter_27 : decode cX6_enter 27 = .ok (.iaload, 1) := by decide +kernel
theorem dX6_enter_28 : decode cX6_enter 28 = .ok (.iconst (-1), 1) := by decide +kernel
theorem dX6_enter_29 : decode cX6_enter 29 = .ok (.if_icmp .ne 12, 3) := by decide +kernel
theorem dX6_enter_32 : decode cX6_enter 32 = .ok (.aload_n 0, 1) := by decide +kernel
theorem dX6_enter_33 : decode cX6_enter 33 = .ok (.iconst 0, 1) := by decide +kernel
theorem dX6_enter_34 : decode cX6_enter 34 = .ok (.iload_n 2, 1) := by decide +kernel
theorem dX6_enter_35 : decode cX6_enter 35 = .ok (.invokevirtual 186, 3) := by decide +kernel
theorem dX6_enter_38 : decode cX6_enter 38 = .ok (.ifCond .ne 6, 3) := by decide +kernel
theorem dX6_enter_41 : decode cX6_enter 41 = .ok (.bipush (-4), 2) := by decide +kernel
theorem dX6_enter_43 : decode cX6_enter 43 = .ok (.ireturn, 1) := by decide +kernel
theorem dX6_enter_44 : decode cX6_enter 44 = .ok (.aload_n 0, 1) := by decide +kernel
theorem dX6_enter_45 : decode cX6_enter 45 = .ok (.getfield 7, 3) := by decide +kernel
theorem dX6_enter_48 : decode cX6_enter 48 = .ok (.bipush 8, 2) := by decide +kernel
theorem dX6_enter_50 : decode cX6_enter 50 = .ok (.iload_n 1, 1) := by decide +kernel
theorem dX6_enter_51 : decode cX6_enter 51 = .ok (.iadd, 1) := by decide +kernel
theorem dX6_enter_52 : decode cX6_enter 52 = .ok (.iload_n 2, 1) := by decide +kernel
theorem dX6_enter_53 : decode cX6_enter 53 = .ok (.iastore, 1) := by decide +kernel
theorem dX6_enter_54 : decode cX6_enter 54 = .ok (.aload_n 0, 1) := by decide +kernel
theorem dX6_enter_55 : decode cX6_enter 55 = .ok (.iconst 0, 1) := by decide +kernel
theorem dX6_enter_56 : decode cX6_enter 56 = .ok (.iload_n 2, 1) := by decide +kernel
theorem dX6_enter_57 : decode cX6_enter 57 = .ok (.invokevirtual 189, 3) := by decide +kernel
theorem dX6_enter_60 : decode cX6_enter 60 = .ok (.invokestatic 224, 3) := by decide +kernel
theorem dX6_enter_63 : decode cX6_enter 63 = .ok (.ireturn, 1) := by decide +kernel
theorem dX6_keep_0 : decode cX6_keep 0 = .ok (.iload_n 1, 1) := by decide +kernel
theorem dX6_keep_1 : decode cX6_keep 1 = .ok (.i2l, 1) := by decide +kernel
theorem dX6_keep_2 : decode cX6_keep 2 = .ok (.lconst 0, 1) := by decide +kernel
theorem dX6_keep_3 : decode cX6_keep 3 = .ok (.lconst 1, 1) := by decide +kernel
theorem dX6_keep_4 : decode cX6_keep 4 = .ok (.invokestatic 60, 3) := by decide +kernel
theorem dX6_keep_7 : decode cX6_keep 7 = .ok (.ifCond .ne 6, 3) := by decide +kernel
theorem dX6_keep_10 : decode cX6_keep 10 = .ok (.bipush (-2), 2) := by decide +kernel
theorem dX6_keep_12 : decode cX6_keep 12 = .ok (.ireturn, 1) := by decide +kernel
theorem dX6_keep_13 : decode cX6_keep 13 = .ok (.aload_n 0, 1) := by decide +kernel
theorem dX6_keep_14 : decode cX6_keep 14 = .ok (.iconst 0, 1) := by decide +kernel
theorem dX6_keep_15 : decode cX6_keep 15 = .ok (.bipush 14, 2) := by decide +kernel
theorem dX6_keep_17 : decode cX6_keep 17 = .ok (.iconst 1, 1) := by decide +kernel
theorem dX6_keep_18 : decode cX6_keep 18 = .ok (.iload_n 1, 1) := by decide +kernel
theorem dX6_keep_19 : decode cX6_keep 19 = .ok (.iadd, 1) := by decide +kernel
theorem dX6_keep_20 : decode cX6_keep 20 = .ok (.imul, 1) := by decide +kernel
theorem dX6_keep_21 : decode cX6_keep 21 = .ok (.invokevirtual 170, 3) := by decide +kernel
theorem dX6_keep_24 : decode cX6_keep 24 = .ok (.aload_n 0, 1) := by decide +kernel
theorem dX6_keep_25 : decode cX6_keep 25 = .ok (.getfield 13, 3) := by decide +kernel
theorem dX6_keep_28 : decode cX6_keep 28 = .ok (.iload_n 1, 1) := by decide +kernel
theorem dX6_keep_29 : decode cX6_keep 29 = .ok (.iconst 1, 1) := by decide +kernel
theorem dX6_keep_30 : decode cX6_keep 30 = .ok (.bastore, 1) := by decide +kernel
theorem dX6_keep_31 : decode cX6_keep 31 = .ok (.aload_n 0, 1) := by decide +kernel
theorem dX6_keep_32 : decode cX6_keep 32 = .ok (.getfield 7, 3) := by decide +kernel
theorem dX6_keep_35 : decode cX6_keep 35 = .ok (.bipush 13, 2) := by decide +kernel
theorem dX6_keep_37 : decode cX6_keep 37 = .ok (.iaload, 1) := by decide +kernel
theorem dX6_keep_38 : decode cX6_keep 38 = .ok (.ireturn, 1) := by decide +kernel
theorem dX6_back_0 : decode cX6_back 0 = .ok (.iload_n 1, 1) := by decide +kernel
theorem dX6_back_1 : decode cX6_back 1 = .ok (.i2l, 1) := by decide +kernel
theorem dX6_back_2 : decode cX6_back 2 = .ok (.lconst 0, 1) := by decide +kernel
theorem dX6_back_3 : decode cX6_back 3 = .ok (.lconst 1, 1) := by decide +kernel
theorem dX6_back_4 : decode cX6_back 4 = .ok (.invokestatic 60, 3) := by decide +kernel
theorem dX6_back_7 : decode cX6_back 7 = .ok (.ifCond .ne 6, 3) := by decide +kernel
theorem dX6_back_10 : decode cX6_back 10 = .ok (.bipush (-2), 2) := by decide +kernel
theorem dX6_back_12 : decode cX6_back 12 = .ok (.ireturn, 1) := by decide +kernel
theorem dX6_back_13 : decode cX6_back 13 = .ok (.aload_n 0, 1) := by decide +kernel
theorem dX6_back_14 : decode cX6_back 14 = .ok (.getfield 13, 3) := by decide +kernel
theorem dX6_back_17 : decode cX6_back 17 = .ok (.iload_n 1, 1) := by decide +kernel
theorem dX6_back_18 : decode cX6_back 18 = .ok (.baload, 1) := by decide +kernel
theorem dX6_back_19 : decode cX6_back 19 = .ok (.ifCond .ne 6, 3) := by decide +kernel
theorem dX6_back_22 : decode cX6_back 22 = .ok (.bipush (-4), 2) := by decide +kernel
theorem dX6_back_24 : decode cX6_back 24 = .ok (.ireturn, 1) := by decide +kernel
theorem dX6_back_25 : decode cX6_back 25 = .ok (.aload_n 0, 1) := by decide +kernel
theorem dX6_back_26 : decode cX6_back 26 = .ok (.bipush 14, 2) := by decide +kernel
theorem dX6_back_28 : decode cX6_back 28 = .ok (.iconst 1, 1) := by decide +kernel
theorem dX6_back_29 : decode cX6_back 29 = .ok (.iload_n 1, 1) := by decide +kernel
theorem dX6_back_30 : decode cX6_back 30 = .ok (.iadd, 1) := by decide +kernel
theorem dX6_back_31 : decode cX6_back 31 = .ok (.imul, 1) := by decide +kernel
theorem dX6_back_32 : decode cX6_back 32 = .ok (.iconst 0, 1) := by decide +kernel
theorem dX6_back_33 : decode cX6_back 33 = .ok (.invokevirtual 170, 3) := by decide +kernel
theorem dX6_back_36 : decode cX6_back 36 = .ok (.aload_n 0, 1) := by decide +kernel
theorem dX6_back_37 : decode cX6_back 37 = .ok (.getfield 7, 3) := by decide +kernel
theorem dX6_back_40 : decode cX6_back 40 = .ok (.bipush 13, 2) := by decide +kernel
theorem dX6_back_42 : decode cX6_back 42 = .ok (.iaload, 1) := by decide +kernel
theorem dX6_back_43 : decode cX6_back 43 = .ok (.ireturn, 1) := by decide +kernel
theorem dX6_turnOn_0 : decode cX6_turnOn 0 = .ok (.iconst 0, 1) := by decide +kernel
theorem dX6_turnOn_1 : decode cX6_turnOn 1 = .ok (.istore 4, 2) := by decide +kernel
theorem dX6_turnOn_3 : decode cX6_turnOn 3 = .ok (.iload 4, 2) := by decide +kernel
theorem dX6_turnOn_5 : decode cX6_turnOn 5 = .ok (.bipush 72, 2) := by decide +kernel
theorem dX6_turnOn_7 : decode cX6_turnOn 7 = .ok (.if_icmp .ge 30, 3) := by decide +kernel
theorem dX6_turnOn_10 : decode cX6_turnOn 10 = .ok (.aload_n 0, 1) := by decide +kernel
theorem dX6_turnOn_11 : decode cX6_turnOn 11 = .ok (.bipush 42, 2) := by decide +kernel
theorem dX6_turnOn_13 : decode cX6_turnOn 13 = .ok (.iload_n 3, 1) := by decide +kernel
theorem dX6_turnOn_14 : decode cX6_turnOn 14 = .ok (.invokevirtual 186, 3) := by decide +kernel
theorem dX6_turnOn_17 : decode cX6_turnOn 17 = .ok (.ifCond .ne 20, 3) := by decide +kernel
theorem dX6_turnOn_20 : decode cX6_turnOn 20 = .ok (.aload_n 0, 1) := by decide +kernel
theorem dX6_turnOn_21 : decode cX6_turnOn 21 = .ok (.bipush 42, 2) := by decide +kernel
theorem dX6_turnOn_23 : decode cX6_turnOn 23 = .ok (.iload_n 1, 1) := by decide +kernel
theorem dX6_turnOn_24 : decode cX6_turnOn 24 = .ok (.iload_n 2, 1) := by decide +kernel
theorem dX6_turnOn_25 : decode cX6_turnOn 25 = .ok (.invokevirtual 207, 3) := by decide +kernel
theorem dX6_turnOn_28 : decode cX6_turnOn 28 = .ok (.ifCond .eq 9, 3) := by decide +kernel
theorem dX6_turnOn_31 : decode cX6_turnOn 31 = .ok (.iinc 4 1, 3) := by decide +kernel
theorem dX6_turnOn_34 : decode cX6_turnOn 34 = .ok (.goto (-31), 3) := by decide +kernel
theorem dX6_turnOn_37 : decode cX6_turnOn 37 = .ok (.aload_n 0, 1) := by decide +kernel
theorem dX6_turnOn_38 : decode cX6_turnOn 38 = .ok (.bipush 42, 2) := by decide +kernel
theorem dX6_turnOn_40 : decode cX6_turnOn 40 = .ok (.iload_n 3, 1) := by decide +kernel
theorem dX6_turnOn_41 : decode cX6_turnOn 41 = .ok (.invokevirtual 186, 3) := by decide +kernel
theorem dX6_turnOn_44 : decode cX6_turnOn 44 = .ok (.ifCond .eq 8, 3) := by decide +kernel
theorem dX6_turnOn_47 : decode cX6_turnOn 47 = .ok (.iload 4, 2) := by decide +kernel
theorem dX6_turnOn_49 : decode cX6_turnOn 49 = .ok (.goto 4, 3) := by decide +kernel
theorem dX6_turnOn_52 : decode cX6_turnOn 52 = .ok (.iconst (-1), 1) := by decide +kernel
theorem dX6_turnOn_53 : decode cX6_turnOn 53 = .ok (.ireturn, 1) := by decide +kernel
theorem dX6_turnOf_0 : decode cX6_turnOf 0 = .ok (.aload_n 0, 1) := by decide +kernel
theorem dX6_turnOf_1 : decode cX6_turnOf 1 = .ok (.iconst 0, 1) := by decide +kernel
theorem dX6_turnOf_2 : decode cX6_turnOf 2 = .ok (.bipush 42, 2) := by decide +kernel
theorem dX6_turnOf_4 : decode cX6_turnOf 4 = .ok (.invokevirtual 170, 3) := by decide +kernel
theorem dX6_turnOf_7 : decode cX6_turnOf 7 = .ok (.aload_n 0, 1) := by decide +kernel
theorem dX6_turnOf_8 : decode cX6_turnOf 8 = .ok (.iload_n 1, 1) := by decide +kernel
theorem dX6_turnOf_9 : decode cX6_turnOf 9 = .ok (.iload_n 2, 1) := by decide +kernel
theorem dX6_turnOf_10 : decode cX6_turnOf 10 = .ok (.iload_n 3, 1) := by decide +kernel
theorem dX6_turnOf_11 : decode cX6_turnOf 11 = .ok (.invokevirtual 227, 3) := by decide +kernel
theorem dX6_turnOf_14 : decode cX6_turnOf 14 = .ok (.ireturn, 1) := by decide +kernel
theorem dX6_turn_0 : decode cX6_turn 0 = .ok (.aload_n 0, 1) := by decide +kernel
theorem dX6_turn_1 : decode cX6_turn 1 = .ok (.iload_n 1, 1) := by decide +kernel
theorem dX6_turn_2 : decode cX6_turn 2 = .ok (.invokevirtual 183, 3) := by decide +kernel
theorem dX6_turn_5 : decode cX6_turn 5 = .ok (.ifCond .eq 11, 3) := by decide +kernel
theorem dX6_turn_8 : decode cX6_turn 8 = .ok (.aload_n 0, 1) := by decide +kernel
theorem dX6_turn_9 : decode cX6_turn 9 = .ok (.iload_n 3, 1) := by decide +kernel
theorem dX6_turn_10 : decode cX6_turn 10 = .ok (.invokevirtual 183, 3) := by decide +kernel
theorem dX6_turn_13 : decode cX6_turn 13 = .ok (.ifCond .ne 6, 3) := by decide +kernel
theorem dX6_turn_16 : decode cX6_turn 16 = .ok (.bipush (-2), 2) := by decide +kernel
theorem dX6_turn_18 : decode cX6_turn 18 = .ok (.ireturn, 1) := by decide +kernel
theorem dX6_turn_19 : decode cX6_turn 19 = .ok (.iload_n 2, 1) := by decide +kernel
theorem dX6_turn_20 : decode cX6_turn 20 = .ok (.invokestatic 210, 3) := by decide +kernel
theorem dX6_turn_23 : decode cX6_turn 23 = .ok (.ifCond .eq 13, 3) := by decide +kernel
theorem dX6_turn_26 : decode cX6_turn 26 = .ok (.aload_n 0, 1) := by decide +kernel
theorem dX6_turn_27 : decode cX6_turn 27 = .ok (.iload_n 1, 1) := by decide +kernel
theorem dX6_turn_28 : decode cX6_turn 28 = .ok (.iload_n 2, 1) := by decide +kernel
theorem dX6_turn_29 : decode cX6_turn 29 = .ok (.iload_n 3, 1) := by decide +kernel
theorem dX6_turn_30 : decode cX6_turn 30 = .ok (.invokevirtual 230, 3) := by decide +kernel
theorem dX6_turn_33 : decode cX6_turn 33 = .ok (.goto 5, 3) := by decide +kernel
theorem dX6_turn_36 : decode cX6_turn 36 = .ok (.bipush (-3), 2) := by decide +kernel
theorem dX6_turn_38 : decode cX6_turn 38 = .ok (.ireturn, 1) := by decide +kernel
theorem dX6_best_0 : decode cX6_best 0 = .ok (.aload_n 0, 1) := by decide +kernel
theorem dX6_best_1 : decode cX6_best 1 = .ok (.iload_n 1, 1) := by decide +kernel
theorem dX6_best_2 : decode cX6_best 2 = .ok (.invokevirtual 183, 3) := by decide +kernel
theorem dX6_best_5 : decode cX6_best 5 = .ok (.ifCond .ne 6, 3) := by decide +kernel
theorem dX6_best_8 : decode cX6_best 8 = .ok (.bipush (-2), 2) := by decide +kernel
theorem dX6_best_10 : decode cX6_best 10 = .ok (.ireturn, 1) := by decide +kernel
theorem dX6_best_11 : decode cX6_best 11 = .ok (.iload_n 2, 1) := by decide +kernel
theorem dX6_best_12 : decode cX6_best 12 = .ok (.i2l, 1) := by decide +kernel
theorem dX6_best_13 : decode cX6_best 13 = .ok (.lconst 0, 1) := by decide +kernel
theorem dX6_best_14 : decode cX6_best 14 = .ok (.ldc2_w 159, 3) := by decide +kernel
theorem dX6_best_17 : decode cX6_best 17 = .ok (.invokestatic 60, 3) := by decide +kernel
theorem dX6_best_20 : decode cX6_best 20 = .ok (.ifCond .ne 6, 3) := by decide +kernel
theorem dX6_best_23 : decode cX6_best 23 = .ok (.bipush (-3), 2) := by decide +kernel
theorem dX6_best_25 : decode cX6_best 25 = .ok (.ireturn, 1) := by decide +kernel
theorem dX6_best_26 : decode cX6_best 26 = .ok (.iconst (-1), 1) := by decide +kernel
theorem dX6_best_27 : decode cX6_best 27 = .ok (.istore_n 3, 1) := by decide +kernel
theorem dX6_best_28 : decode cX6_best 28 = .ok (.bipush 99, 2) := by decide +kernel
theorem dX6_best_30 : decode cX6_best 30 = .ok (.istore 4, 2) := by decide +kernel
theorem dX6_best_32 : decode cX6_best 32 = .ok (.iconst 0, 1) := by decide +kernel
theorem dX6_best_33 : decode cX6_best 33 = .ok (.istore 5, 2) := by decide +kernel
theorem dX6_best_35 : decode cX6_best 35 = .ok (.iload 5, 2) := by decide +kernel
theorem dX6_best_37 : decode cX6_best 37 = .ok (.iconst 2, 1) := by decide +kernel
theorem dX6_best_38 : decode cX6_best 38 = .ok (.aload_n 0, 1) := by decide +kernel
theorem dX6_best_39 : decode cX6_best 39 = .ok (.getfield 23, 3) := by decide +kernel
theorem dX6_best_42 : decode cX6_best 42 = .ok (.imul, 1) := by decide +kernel
theorem dX6_best_43 : decode cX6_best 43 = .ok (.if_icmp .ge 44, 3) := by decide +kernel
theorem dX6_best_46 : decode cX6_best 46 = .ok (.aload_n 0, 1) := by decide +kernel
theorem dX6_best_47 : decode cX6_best 47 = .ok (.iload 5, 2) := by decide +kernel
theorem dX6_best_49 : decode cX6_best 49 = .ok (.iconst 2, 1) := by decide +kernel
theorem dX6_best_50 : decode cX6_best 50 = .ok (.idiv, 1) := by decide +kernel
theorem dX6_best_51 : decode cX6_best 51 = .ok (.iload 5, 2) := by decide +kernel
theorem dX6_best_53 : decode cX6_best 53 = .ok (.iconst 2, 1) := by decide +kernel
theorem dX6_best_54 : decode cX6_best 54 = .ok (.irem, 1) := by decide +kernel
theorem dX6_best_55 : decode cX6_best 55 = .ok (.iload_n 1, 1) := by decide +kernel
theorem dX6_best_56 : decode cX6_best 56 = .ok (.invokevirtual 230, 3) := by decide +kernel
theorem dX6_best_59 : decode cX6_best 59 = .ok (.istore 6, 2) := by decide +kernel
theorem dX6_best_61 : decode cX6_best 61 = .ok (.iload 6, 2) := by decide +kernel
theorem dX6_best_63 : decode cX6_best 63 = .ok (.iconst (-1), 1) := by decide +kernel
theorem dX6_best_64 : decode cX6_best 64 = .ok (.if_icmp .eq 17, 3) := by decide +kernel
theorem dX6_best_67 : decode cX6_best 67 = .ok (.iload 6, 2) := by decide +kernel
theorem dX6_best_69 : decode cX6_best 69 = .ok (.iload 4, 2) := by decide +kernel
theorem dX6_best_71 : decode cX6_best 71 = .ok (.if_icmp .ge 10, 3) := by decide +kernel
theorem dX6_best_74 : decode cX6_best 74 = .ok (.iload 6, 2) := by decide +kernel
theorem dX6_best_76 : decode cX6_best 76 = .ok (.istore 4, 2) := by decide +kernel
theorem dX6_best_78 : decode cX6_best 78 = .ok (.iload 5, 2) := by decide +kernel
theorem dX6_best_80 : decode cX6_best 80 = .ok (.istore_n 3, 1) := by decide +kernel
theorem dX6_best_81 : decode cX6_best 81 = .ok (.iinc 5 1, 3) := by decide +kernel
theorem dX6_best_84 : decode cX6_best 84 = .ok (.goto (-49), 3) := by decide +kernel
theorem dX6_best_87 : decode cX6_best 87 = .ok (.iload_n 3, 1) := by decide +kernel
theorem dX6_best_88 : decode cX6_best 88 = .ok (.iconst (-1), 1) := by decide +kernel
theorem dX6_best_89 : decode cX6_best 89 = .ok (.if_icmp .ne 7, 3) := by decide +kernel
theorem dX6_best_92 : decode cX6_best 92 = .ok (.iconst (-1), 1) := by decide +kernel
theorem dX6_best_93 : decode cX6_best 93 = .ok (.goto 26, 3) := by decide +kernel
theorem dX6_best_96 : decode cX6_best 96 = .ok (.iload_n 2, 1) := by decide +kernel
theorem dX6_best_97 : decode cX6_best 97 = .ok (.ifCond .ne 8, 3) := by decide +kernel
theorem dX6_best_100 : decode cX6_best 100 = .ok (.iload 4, 2) := by decide +kernel
theorem dX6_best_102 : decode cX6_best 102 = .ok (.goto 17, 3) := by decide +kernel
theorem dX6_best_105 : decode cX6_best 105 = .ok (.iload_n 2, 1) := by decide +kernel
theorem dX6_best_106 : decode cX6_best 106 = .ok (.iconst 1, 1) := by decide +kernel
theorem dX6_best_107 : decode cX6_best 107 = .ok (.if_icmp .ne 9, 3) := by decide +kernel
theorem dX6_best_110 : decode cX6_best 110 = .ok (.iload_n 3, 1) := by decide +kernel
theorem dX6_best_111 : decode cX6_best 111 = .ok (.iconst 2, 1) := by decide +kernel
theorem dX6_best_112 : decode cX6_best 112 = .ok (.idiv, 1) := by decide +kernel
theorem dX6_best_113 : decode cX6_best 113 = .ok (.goto 6, 3) := by decide +kernel
theorem dX6_best_116 : decode cX6_best 116 = .ok (.iload_n 3, 1) := by decide +kernel
theorem dX6_best_117 : decode cX6_best 117 = .ok (.iconst 2, 1) := by decide +kernel
theorem dX6_best_118 : decode cX6_best 118 = .ok (.irem, 1) := by decide +kernel
theorem dX6_best_119 : decode cX6_best 119 = .ok (.ireturn, 1) := by decide +kernel
theorem dX6_widest_0 : decode cX6_widest 0 = .ok (.aload_n 0, 1) := by decide +kernel
theorem dX6_widest_1 : decode cX6_widest 1 = .ok (.iload_n 1, 1) := by decide +kernel
theorem dX6_widest_2 : decode cX6_widest 2 = .ok (.invokevirtual 183, 3) := by decide +kernel
theorem dX6_widest_5 : decode cX6_widest 5 = .ok (.ifCond .ne 6, 3) := by decide +kernel
theorem dX6_widest_8 : decode cX6_widest 8 = .ok (.bipush (-2), 2) := by decide +kernel
theorem dX6_widest_10 : decode cX6_widest 10 = .ok (.ireturn, 1) := by decide +kernel
theorem dX6_widest_11 : decode cX6_widest 11 = .ok (.iload_n 1, 1) := by decide +kernel
theorem dX6_widest_12 : decode cX6_widest 12 = .ok (.istore_n 2, 1) := by decide +kernel
theorem dX6_widest_13 : decode cX6_widest 13 = .ok (.iconst 1, 1) := by decide +kernel
theorem dX6_widest_14 : decode cX6_widest 14 = .ok (.istore_n 3, 1) := by decide +kernel
theorem dX6_widest_15 : decode cX6_widest 15 = .ok (.aload_n 0, 1) := by decide +kernel
theorem dX6_widest_16 : decode cX6_widest 16 = .ok (.getfield 27, 3) := by decide +kernel
theorem dX6_widest_19 : decode cX6_widest 19 = .ok (.iload_n 2, 1) := by decide +kernel
theorem dX6_widest_20 : decode cX6_widest 20 = .ok (.iaload, 1) := by decide +kernel
theorem dX6_widest_21 : decode cX6_widest 21 = .ok (.iconst 3, 1) := by decide +kernel
theorem dX6_widest_22 : decode cX6_widest 22 = .ok (.if_icmp .eq 23, 3) := by decide +kernel
theorem dX6_widest_25 : decode cX6_widest 25 = .ok (.iload_n 3, 1) := by decide +kernel
theorem dX6_widest_26 : decode cX6_widest 26 = .ok (.aload_n 0, 1) := by decide +kernel
theorem dX6_widest_27 : decode cX6_widest 27 = .ok (.getfield 23, 3) := by decide +kernel
theorem dX6_widest_30 : decode cX6_widest 30 = .ok (.if_icmp .ge 15, 3) := by decide +kernel
theorem dX6_widest_33 : decode cX6_widest 33 = .ok (.aload_n 0, 1) := by decide +kernel
theorem dX6_widest_34 : decode cX6_widest 34 = .ok (.iload_n 2, 1) := by decide +kernel
theorem dX6_widest_35 : decode cX6_widest 35 = .ok (.invokevirtual 192, 3) := by decide +kernel
theorem dX6_widest_38 : decode cX6_widest 38 = .ok (.istore_n 2, 1) := by decide +kernel
theorem dX6_widest_39 : decode cX6_widest 39 = .ok (.iinc 3 1, 3) := by decide +kernel
theorem dX6_widest_42 : decode cX6_widest 42 = .ok (.goto (-27), 3) := by decide +kernel
theorem dX6_widest_45 : decode cX6_widest 45 = .ok (.aload_n 0, 1) := by decide +kernel
theorem dX6_widest_46 : decode cX6_widest 46 = .ok (.iload_n 1, 1) := by decide +kernel
theorem dX6_widest_47 : decode cX6_widest 47 = .ok (.invokevirtual 177, 3) := by decide +kernel
theorem dX6_widest_50 : decode cX6_widest 50 = .ok (.istore 4, 2) := by decide +kernel
theorem dX6_widest_52 : decode cX6_widest 52 = .ok (.aload_n 0, 1) := by decide +kernel
theorem dX6_widest_53 : decode cX6_widest 53 = .ok (.getfield 27, 3) := by decide +kernel
theorem dX6_widest_56 : decode cX6_widest 56 = .ok (.iload 4, 2) := by decide +kernel
theorem dX6_widest_58 : decode cX6_widest 58 = .ok (.iaload, 1) := by decide +kernel
theorem dX6_widest_59 : decode cX6_widest 59 = .ok (.iconst 3, 1) := by decide +kernel
theorem dX6_widest_60 : decode cX6_widest 60 = .ok (.if_icmp .eq 25, 3) := by decide +kernel
theorem dX6_widest_63 : decode cX6_widest 63 = .ok (.iload_n 3, 1) := by decide +kernel
theorem dX6_widest_64 : decode cX6_widest 64 = .ok (.aload_n 0, 1) := by decide +kernel
theorem dX6_widest_65 : decode cX6_widest 65 = .ok (.getfield 23, 3) := by decide +kernel
theorem dX6_widest_68 : decode cX6_widest 68 = .ok (.if_icmp .ge 17, 3) := by decide +kernel
theorem dX6_widest_71 : decode cX6_widest 71 = .ok (.aload_n 0, 1) := by decide +kernel
theorem dX6_widest_72 : decode cX6_widest 72 = .ok (.iload 4, 2) := by decide +kernel
theorem dX6_widest_74 : decode cX6_widest 74 = .ok (.invokevirtual 177, 3) := by decide +kernel
theorem dX6_widest_77 : decode cX6_widest 77 = .ok (.istore 4, 2) := by decide +kernel
theorem dX6_widest_79 : decode cX6_widest 79 = .ok (.iinc 3 1, 3) := by decide +kernel
theorem dX6_widest_82 : decode cX6_widest 82 = .ok (.goto (-30), 3) := by decide +kernel
theorem dX6_widest_85 : decode cX6_widest 85 = .ok (.iload_n 2, 1) := by decide +kernel
theorem dX6_widest_86 : decode cX6_widest 86 = .ok (.iload 4, 2) := by decide +kernel
theorem dX6_widest_88 : decode cX6_widest 88 = .ok (.if_icmp .eq 11, 3) := by decide +kernel
theorem dX6_widest_91 : decode cX6_widest 91 = .ok (.iload_n 3, 1) := by decide +kernel
theorem dX6_widest_92 : decode cX6_widest 92 = .ok (.aload_n 0, 1) := by decide +kernel
theorem dX6_widest_93 : decode cX6_widest 93 = .ok (.getfield 23, 3) := by decide +kernel
theorem dX6_widest_96 : decode cX6_widest 96 = .ok (.if_icmp .ne 8, 3) := by decide +kernel
theorem dX6_widest_99 : decode cX6_widest 99 = .ok (.bipush 72, 2) := by decide +kernel
theorem dX6_widest_101 : decode cX6_widest 101 = .ok (.goto 19, 3) := by decide +kernel
theorem dX6_widest_104 : decode cX6_widest 104 = .ok (.aload_n 0, 1) := by decide +kernel
theorem dX6_widest_105 : decode cX6_widest 105 = .ok (.getfield 7, 3) := by decide +kernel
theorem dX6_widest_108 : decode cX6_widest 108 = .ok (.iload_n 2, 1) := by decide +kernel
theorem dX6_widest_109 : decode cX6_widest 109 = .ok (.iaload, 1) := by decide +kernel
theorem dX6_widest_110 : decode cX6_widest 110 = .ok (.aload_n 0, 1) := by decide +kernel
theorem dX6_widest_111 : decode cX6_widest 111 = .ok (.getfield 7, 3) := by decide +kernel
theorem dX6_widest_114 : decode cX6_widest 114 = .ok (.iload 4, 2) := by decide +kernel
theorem dX6_widest_116 : decode cX6_widest 116 = .ok (.iaload, 1) := by decide +kernel
theorem dX6_widest_117 : decode cX6_widest 117 = .ok (.invokestatic 54, 3) := by decide +kernel
theorem dX6_widest_120 : decode cX6_widest 120 = .ok (.istore 5, 2) := by decide +kernel
theorem dX6_widest_122 : decode cX6_widest 122 = .ok (.iload_n 2, 1) := by decide +kernel
theorem dX6_widest_123 : decode cX6_widest 123 = .ok (.istore 6, 2) := by decide +kernel
theorem dX6_widest_125 : decode cX6_widest 125 = .ok (.iconst 0, 1) := by decide +kernel
theorem dX6_widest_126 : decode cX6_widest 126 = .ok (.istore 7, 2) := by decide +kernel
theorem dX6_widest_128 : decode cX6_widest 128 = .ok (.iload 7, 2) := by decide +kernel
theorem dX6_widest_130 : decode cX6_widest 130 = .ok (.iload_n 3, 1) := by decide +kernel
theorem dX6_widest_131 : decode cX6_widest 131 = .ok (.if_icmp .ge 41, 3) := by decide +kernel
theorem dX6_widest_134 : decode cX6_widest 134 = .ok (.iload 5, 2) := by decide +kernel
theorem dX6_widest_136 : decode cX6_widest 136 = .ok (.iload 6, 2) := by decide +kernel
theorem dX6_widest_138 : decode cX6_widest 138 = .ok (.iload_n 1, 1) := by decide +kernel
theorem dX6_widest_139 : decode cX6_widest 139 = .ok (.if_icmp .ne 7, 3) := by decide +kernel
theorem dX6_widest_142 : decode cX6_widest 142 = .ok (.iconst 0, 1) := by decide +kernel
theorem dX6_widest_143 : decode cX6_widest 143 = .ok (.goto 12, 3) := by decide +kernel
theorem dX6_widest_146 : decode cX6_widest 146 = .ok (.aload_n 0, 1) := by decide +kernel
theorem dX6_widest_147 : decode cX6_widest 147 = .ok (.getfield 30, 3) := by decide +kernel
theorem dX6_widest_150 : decode cX6_widest 150 = .ok (.iload 6, 2) := by decide +kernel
theorem dX6_widest_152 : decode cX6_widest 152 = .ok (.iaload, 1) := by decide +kernel
theorem dX6_widest_153 : decode cX6_widest 153 = .ok (.iconst 1, 1) := by decide +kernel
theorem dX6_widest_154 : decode cX6_widest 154 = .ok (.iadd, 1) := by decide +kernel
theorem dX6_widest_155 : decode cX6_widest 155 = .ok (.isub, 1) := by decide +kernel
theorem dX6_widest_156 : decode cX6_widest 156 = .ok (.istore 5, 2) := by decide +kernel
theorem dX6_widest_158 : decode cX6_widest 158 = .ok (.aload_n 0, 1) := by decide +kernel
theorem dX6_widest_159 : decode cX6_widest 159 = .ok (.iload 6, 2) := by decide +kernel
theorem dX6_widest_161 : decode cX6_widest 161 = .ok (.invokevirtual 177, 3) := by decide +kernel
theorem dX6_widest_164 : decode cX6_widest 164 = .ok (.istore 6, 2) := by decide +kernel
theorem dX6_widest_166 : decode cX6_widest 166 = .ok (.iinc 7 1, 3) := by decide +kernel
theorem dX6_widest_169 : decode cX6_widest 169 = .ok (.goto (-41), 3) := by decide +kernel
theorem dX6_widest_172 : decode cX6_widest 172 = .ok (.iload 5, 2) := by decide +kernel
theorem dX6_widest_174 : decode cX6_widest 174 = .ok (.ireturn, 1) := by decide +kernel
theorem dX6_further_0 : decode cX6_further 0 = .ok (.iload_n 1, 1) := by decide +kernel
theorem dX6_further_1 : decode cX6_further 1 = .ok (.i2l, 1) := by decide +kernel
theorem dX6_further_2 : decode cX6_further 2 = .ok (.lconst 0, 1) := by decide +kernel
theorem dX6_further_3 : decode cX6_further 3 = .ok (.lconst 1, 1) := by decide +kernel
theorem dX6_further_4 : decode cX6_further 4 = .ok (.invokestatic 60, 3) := by decide +kernel
theorem dX6_further_7 : decode cX6_further 7 = .ok (.ifCond .ne 6, 3) := by decide +kernel
theorem dX6_further_10 : decode cX6_further 10 = .ok (.bipush (-3), 2) := by decide +kernel
theorem dX6_further_12 : decode cX6_further 12 = .ok (.ireturn, 1) := by decide +kernel
theorem dX6_further_13 : decode cX6_further 13 = .ok (.iconst 0, 1) := by decide +kernel
theorem dX6_further_14 : decode cX6_further 14 = .ok (.istore_n 2, 1) := by decide +kernel
theorem dX6_further_15 : decode cX6_further 15 = .ok (.iconst 1, 1) := by decide +kernel
theorem dX6_further_16 : decode cX6_further 16 = .ok (.istore_n 3, 1) := by decide +kernel
theorem dX6_further_17 : decode cX6_further 17 = .ok (.iload_n 3, 1) := by decide +kernel
theorem dX6_further_18 : decode cX6_further 18 = .ok (.aload_n 0, 1) := by decide +kernel
theorem dX6_further_19 : decode cX6_further 19 = .ok (.getfield 23, 3) := by decide +kernel
theorem dX6_further_22 : decode cX6_further 22 = .ok (.if_icmp .ge 34, 3) := by decide +kernel
theorem dX6_further_25 : decode cX6_further 25 = .ok (.aload_n 0, 1) := by decide +kernel
theorem dX6_further_26 : decode cX6_further 26 = .ok (.iconst 0, 1) := by decide +kernel
theorem dX6_further_27 : decode cX6_further 27 = .ok (.iload_n 3, 1) := by decide +kernel
theorem dX6_further_28 : decode cX6_further 28 = .ok (.invokevirtual 180, 3) := by decide +kernel
theorem dX6_further_31 : decode cX6_further 31 = .ok (.iconst 2, 1) := by decide +kernel
theorem dX6_further_32 : decode cX6_further 32 = .ok (.idiv, 1) := by decide +kernel
theorem dX6_further_33 : decode cX6_further 33 = .ok (.aload_n 0, 1) := by decide +kernel
theorem dX6_further_34 : decode cX6_further 34 = .ok (.iconst 0, 1) := by decide +kernel
theorem dX6_further_35 : decode cX6_further 35 = .ok (.iload_n 2, 1) := by decide +kernel
theorem dX6_further_36 : decode cX6_further 36 = .ok (.invokevirtual 180, 3) := by decide +kernel
theorem dX6_further_39 : decode cX6_further 39 = .ok (.iconst 2, 1) := by decide +kernel
theorem dX6_further_40 : decode cX6_further 40 = .ok (.idiv, 1) := by decide +kernel
theorem dX6_further_41 : decode cX6_further 41 = .ok (.if_icmp .le 7, 3) := by decide +kernel
theorem dX6_further_44 : decode cX6_further 44 = .ok (.iload_n 3, 1) := by decide +kernel
theorem dX6_further_45 : decode cX6_further 45 = .ok (.goto 4, 3) := by decide +kernel
theorem dX6_further_48 : decode cX6_further 48 = .ok (.iload_n 2, 1) := by decide +kernel
theorem dX6_further_49 : decode cX6_further 49 = .ok (.istore_n 2, 1) := by decide +kernel
theorem dX6_further_50 : decode cX6_further 50 = .ok (.iinc 3 1, 3) := by decide +kernel
theorem dX6_further_53 : decode cX6_further 53 = .ok (.goto (-36), 3) := by decide +kernel
theorem dX6_further_56 : decode cX6_further 56 = .ok (.iload_n 1, 1) := by decide +kernel
theorem dX6_further_57 : decode cX6_further 57 = .ok (.ifCond .ne 7, 3) := by decide +kernel
theorem dX6_further_60 : decode cX6_further 60 = .ok (.iload_n 2, 1) := by decide +kernel
theorem dX6_further_61 : decode cX6_further 61 = .ok (.goto 11, 3) := by decide +kernel
theorem dX6_further_64 : decode cX6_further 64 = .ok (.aload_n 0, 1) := by decide +kernel
theorem dX6_further_65 : decode cX6_further 65 = .ok (.iconst 0, 1) := by decide +kernel
theorem dX6_further_66 : decode cX6_further 66 = .ok (.iload_n 2, 1) := by decide +kernel
theorem dX6_further_67 : decode cX6_further 67 = .ok (.invokevirtual 180, 3) := by decide +kernel
theorem dX6_further_70 : decode cX6_further 70 = .ok (.iconst 2, 1) := by decide +kernel
theorem dX6_further_71 : decode cX6_further 71 = .ok (.idiv, 1) := by decide +kernel
theorem dX6_further_72 : decode cX6_further 72 = .ok (.ireturn, 1) := by decide +kernel
theorem dX6_share_0 : decode cX6_share 0 = .ok (.aload_n 0, 1) := by decide +kernel
theorem dX6_share_1 : decode cX6_share 1 = .ok (.iload_n 1, 1) := by decide +kernel
theorem dX6_share_2 : decode cX6_share 2 = .ok (.invokevirtual 183, 3) := by decide +kernel
theorem dX6_share_5 : decode cX6_share 5 = .ok (.ifCond .ne 6, 3) := by decide +kernel
theorem dX6_share_8 : decode cX6_share 8 = .ok (.bipush (-2), 2) := by decide +kernel
theorem dX6_share_10 : decode cX6_share 10 = .ok (.ireturn, 1) := by decide +kernel
theorem dX6_share_11 : decode cX6_share 11 = .ok (.iload_n 2, 1) := by decide +kernel
theorem dX6_share_12 : decode cX6_share 12 = .ok (.i2l, 1) := by decide +kernel
theorem dX6_share_13 : decode cX6_share 13 = .ok (.lconst 0, 1) := by decide +kernel
theorem dX6_share_14 : decode cX6_share 14 = .ok (.lconst 1, 1) := by decide +kernel
theorem dX6_share_15 : decode cX6_share 15 = .ok (.invokestatic 60, 3) := by decide +kernel
theorem dX6_share_18 : decode cX6_share 18 = .ok (.ifCond .ne 6, 3) := by decide +kernel
theorem dX6_share_21 : decode cX6_share 21 = .ok (.bipush (-3), 2) := by decide +kernel
theorem dX6_share_23 : decode cX6_share 23 = .ok (.ireturn, 1) := by decide +kernel
theorem dX6_share_24 : decode cX6_share 24 = .ok (.aload_n 0, 1) := by decide +kernel
theorem dX6_share_25 : decode cX6_share 25 = .ok (.iconst 0, 1) := by decide +kernel
theorem dX6_share_26 : decode cX6_share 26 = .ok (.iload_n 1, 1) := by decide +kernel
theorem dX6_share_27 : decode cX6_share 27 = .ok (.invokevirtual 180, 3) := by decide +kernel
theorem dX6_share_30 : decode cX6_share 30 = .ok (.istore_n 3, 1) := by decide +kernel
theorem dX6_share_31 : decode cX6_share 31 = .ok (.bipush 72, 2) := by decide +kernel
theorem dX6_share_33 : decode cX6_share 33 = .ok (.istore 4, 2) := by decide +kernel
theorem dX6_share_35 : decode cX6_share 35 = .ok (.iload 4, 2) := by decide +kernel
theorem dX6_share_37 : decode cX6_share 37 = .ok (.ifCond .eq 19, 3) := by decide +kernel
theorem dX6_share_40 : decode cX6_share 40 = .ok (.iload_n 3, 1) := by decide +kernel
theorem dX6_share_41 : decode cX6_share 41 = .ok (.iload 4, 2) := by decide +kernel
theorem dX6_share_43 : decode cX6_share 43 = .ok (.irem, 1) := by decide +kernel
theorem dX6_share_44 : decode cX6_share 44 = .ok (.istore 5, 2) := by decide +kernel
theorem dX6_share_46 : decode cX6_share 46 = .ok (.iload 4, 2) := by decide +kernel
theorem dX6_share_48 : decode cX6_share 48 = .ok (.istore_n 3, 1) := by decide +kernel
theorem dX6_share_49 : decode cX6_share 49 = .ok (.iload 5, 2) := by decide +kernel
theorem dX6_share_51 : decode cX6_share 51 = .ok (.istore 4, 2) := by decide +kernel
theorem dX6_share_53 : decode cX6_share 53 = .ok (.goto (-18), 3) := by decide +kernel
theorem dX6_share_56 : decode cX6_share 56 = .ok (.iload_n 2, 1) := by decide +kernel
theorem dX6_share_57 : decode cX6_share 57 = .ok (.ifCond .ne 14, 3) := by decide +kernel
theorem dX6_share_60 : decode cX6_share 60 = .ok (.aload_n 0, 1) := by decide +kernel
theorem dX6_share_61 : decode cX6_share 61 = .ok (.iconst 0, 1) := by decide +kernel
theorem dX6_share_62 : decode cX6_share 62 = .ok (.iload_n 1, 1) := by decide +kernel
theorem dX6_share_63 : decode cX6_share 63 = .ok (.invokevirtual 180, 3) := by decide +kernel
theorem dX6_share_66 : decode cX6_share 66 = .ok (.iload_n 3, 1) := by decide +kernel
theorem dX6_share_67 : decode cX6_share 67 = .ok (.idiv, 1) := by decide +kernel
theorem dX6_share_68 : decode cX6_share 68 = .ok (.goto 7, 3) := by decide +kernel
theorem dX6_share_71 : decode cX6_share 71 = .ok (.bipush 72, 2) := by decide +kernel
theorem dX6_share_73 : decode cX6_share 73 = .ok (.iload_n 3, 1) := by decide +kernel
theorem dX6_share_74 : decode cX6_share 74 = .ok (.idiv, 1) := by decide +kernel
theorem dX6_share_75 : decode cX6_share 75 = .ok (.ireturn, 1) := by decide +kernel
theorem dX6_rowOf_0 : decode cX6_rowOf 0 = .ok (.iconst 1, 1) := by decide +kernel
theorem dX6_rowOf_1 : decode cX6_rowOf 1 = .ok (.aload_n 0, 1) := by decide +kernel
theorem dX6_rowOf_2 : decode cX6_rowOf 2 = .ok (.getfield 233, 3) := by decide +kernel
theorem dX6_rowOf_5 : decode cX6_rowOf 5 = .ok (.ishl, 1) := by decide +kernel
theorem dX6_rowOf_6 : decode cX6_rowOf 6 = .ok (.iconst 1, 1) := by decide +kernel
theorem dX6_rowOf_7 : decode cX6_rowOf 7 = .ok (.isub, 1) := by decide +kernel
theorem dX6_rowOf_8 : decode cX6_rowOf 8 = .ok (.istore_n 3, 1) := by decide +kernel
theorem dX6_rowOf_9 : decode cX6_rowOf 9 = .ok (.iconst (-1), 1) := by decide +kernel
theorem dX6_rowOf_10 : decode cX6_rowOf 10 = .ok (.istore 4, 2) := by decide +kernel
theorem dX6_rowOf_12 : decode cX6_rowOf 12 = .ok (.iload_n 1, 1) := by decide +kernel
theorem dX6_rowOf_13 : decode cX6_rowOf 13 = .ok (.istore 5, 2) := by decide +kernel
theorem dX6_rowOf_15 : decode cX6_rowOf 15 = .ok (.iconst 1, 1) := by decide +kernel
theorem dX6_rowOf_16 : decode cX6_rowOf 16 = .ok (.istore 6, 2) := by decide +kernel
theorem dX6_rowOf_18 : decode cX6_rowOf 18 = .ok (.iconst 2, 1) := by decide +kernel
theorem dX6_rowOf_19 : decode cX6_rowOf 19 = .ok (.istore 7, 2) := by decide +kernel
theorem dX6_rowOf_21 : decode cX6_rowOf 21 = .ok (.iload 7, 2) := by decide +kernel
theorem dX6_rowOf_23 : decode cX6_rowOf 23 = .ok (.aload_n 0, 1) := by decide +kernel
theorem dX6_rowOf_24 : decode cX6_rowOf 24 = .ok (.getfield 233, 3) := by decide +kernel
theorem dX6_rowOf_27 : decode cX6_rowOf 27 = .ok (.if_icmp .ge 16, 3) := by decide +kernel
theorem dX6_rowOf_30 : decode cX6_rowOf 30 = .ok (.iload 6, 2) := by decide +kernel
theorem dX6_rowOf_32 : decode cX6_rowOf 32 = .ok (.iload 7, 2) := by decide +kernel
theorem dX6_rowOf_34 : decode cX6_rowOf 34 = .ok (.imul, 1) := by decide +kernel
theorem dX6_rowOf_35 : decode cX6_rowOf 35 = .ok (.istore 6, 2) := by decide +kernel
theorem dX6_rowOf_37 : decode cX6_rowOf 37 = .ok (.iinc 7 1, 3) := by decide +kernel
theorem dX6_rowOf_40 : decode cX6_rowOf 40 = .ok (.goto (-19), 3) := by decide +kernel
theorem dX6_rowOf_43 : decode cX6_rowOf 43 = .ok (.iconst 0, 1) := by decide +kernel
theorem dX6_rowOf_44 : decode cX6_rowOf 44 = .ok (.istore 7, 2) := by decide +kernel
theorem dX6_rowOf_46 : decode cX6_rowOf 46 = .ok (.iload 7, 2) := by decide +kernel
theorem dX6_rowOf_48 : decode cX6_rowOf 48 = .ok (.iload_n 2, 1) := by decide +kernel
theorem dX6_rowOf_49 : decode cX6_rowOf 49 = .ok (.if_icmp .gt 104, 3) := by decide +kernel
theorem dX6_rowOf_52 : decode cX6_rowOf 52 = .ok (.iload 5, 2) := by decide +kernel
theorem dX6_rowOf_54 : decode cX6_rowOf 54 = .ok (.iload 6, 2) := by decide +kernel
theorem dX6_rowOf_56 : decode cX6_rowOf 56 = .ok (.idiv, 1) := by decide +kernel
theorem dX6_rowOf_57 : decode cX6_rowOf 57 = .ok (.istore 8, 2) := by decide +kernel
theorem dX6_rowOf_59 : decode cX6_rowOf 59 = .ok (.iconst 0, 1) := by decide +kernel
theorem dX6_rowOf_60 : decode cX6_rowOf 60 = .ok (.istore 4, 2) := by decide +kernel
theorem dX6_rowOf_62 : decode cX6_rowOf 62 = .ok (.iload_n 3, 1) := by decide +kernel
theorem dX6_rowOf_63 : decode cX6_rowOf 63 = .ok (.iload 4, 2) := by decide +kernel
theorem dX6_rowOf_65 : decode cX6_rowOf 65 = .ok (.invokestatic 199, 3) := by decide +kernel
theorem dX6_rowOf_68 : decode cX6_rowOf 68 = .ok (.ifCond .eq 8, 3) := by decide +kernel
theorem dX6_rowOf_71 : decode cX6_rowOf 71 = .ok (.iload 8, 2) := by decide +kernel
theorem dX6_rowOf_73 : decode cX6_rowOf 73 = .ok (.ifCond .le 28, 3) := by decide +kernel
theorem dX6_rowOf_76 : decode cX6_rowOf 76 = .ok (.iload 8, 2) := by decide +kernel
theorem dX6_rowOf_78 : decode cX6_rowOf 78 = .ok (.iload_n 3, 1) := by decide +kernel
theorem dX6_rowOf_79 : decode cX6_rowOf 79 = .ok (.iload 4, 2) := by decide +kernel
theorem dX6_rowOf_81 : decode cX6_rowOf 81 = .ok (.invokestatic 199, 3) := by decide +kernel
theorem dX6_rowOf_84 : decode cX6_rowOf 84 = .ok (.ifCond .eq 7, 3) := by decide +kernel
theorem dX6_rowOf_87 : decode cX6_rowOf 87 = .ok (.iconst 1, 1) := by decide +kernel
theorem dX6_rowOf_88 : decode cX6_rowOf 88 = .ok (.goto 4, 3) := by decide +kernel
theorem dX6_rowOf_91 : decode cX6_rowOf 91 = .ok (.iconst 0, 1) := by decide +kernel
theorem dX6_rowOf_92 : decode cX6_rowOf 92 = .ok (.isub, 1) := by decide +kernel
theorem dX6_rowOf_93 : decode cX6_rowOf 93 = .ok (.istore 8, 2) := by decide +kernel
theorem dX6_rowOf_95 : decode cX6_rowOf 95 = .ok (.iinc 4 1, 3) := by decide +kernel
theorem dX6_rowOf_98 : decode cX6_rowOf 98 = .ok (.goto (-36), 3) := by decide +kernel
theorem dX6_rowOf_101 : decode cX6_rowOf 101 = .ok (.iload 5, 2) := by decide +kernel
theorem dX6_rowOf_103 : decode cX6_rowOf 103 = .ok (.iload 6, 2) := by decide +kernel
theorem dX6_rowOf_105 : decode cX6_rowOf 105 = .ok (.irem, 1) := by decide +kernel
theorem dX6_rowOf_106 : decode cX6_rowOf 106 = .ok (.istore 5, 2) := by decide +kernel
theorem dX6_rowOf_108 : decode cX6_rowOf 108 = .ok (.iload_n 3, 1) := by decide +kernel
theorem dX6_rowOf_109 : decode cX6_rowOf 109 = .ok (.iconst 1, 1) := by decide +kernel
theorem dX6_rowOf_110 : decode cX6_rowOf 110 = .ok (.iload 4, 2) := by decide +kernel
theorem dX6_rowOf_112 : decode cX6_rowOf 112 = .ok (.ishl, 1) := by decide +kernel
theorem dX6_rowOf_113 : decode cX6_rowOf 113 = .ok (.iconst (-1), 1) := by decide +kernel
theorem dX6_rowOf_114 : decode cX6_rowOf 114 = .ok (.ixor, 1) := by decide +kernel
theorem dX6_rowOf_115 : decode cX6_rowOf 115 = .ok (.iand, 1) := by decide +kernel
theorem dX6_rowOf_116 : decode cX6_rowOf 116 = .ok (.istore_n 3, 1) := by decide +kernel
theorem dX6_rowOf_117 : decode cX6_rowOf 117 = .ok (.aload_n 0, 1) := by decide +kernel
theorem dX6_rowOf_118 : decode cX6_rowOf 118 = .ok (.getfield 233, 3) := by decide +kernel
theorem dX6_rowOf_121 : decode cX6_rowOf 121 = .ok (.iconst 1, 1) := by decide +kernel
theorem dX6_rowOf_122 : decode cX6_rowOf 122 = .ok (.isub, 1) := by decide +kernel
theorem dX6_rowOf_123 : decode cX6_rowOf 123 = .ok (.iload 7, 2) := by decide +kernel
theorem dX6_rowOf_125 : decode cX6_rowOf 125 = .ok (.isub, 1) := by decide +kernel
theorem dX6_rowOf_126 : decode cX6_rowOf 126 = .ok (.ifCond .le 18, 3) := by decide +kernel
theorem dX6_rowOf_129 : decode cX6_rowOf 129 = .ok (.iload 6, 2) := by decide +kernel
theorem dX6_rowOf_131 : decode cX6_rowOf 131 = .ok (.aload_n 0, 1) := by decide +kernel
theorem dX6_rowOf_132 : decode cX6_rowOf 132 = .ok (.getfield 233, 3) := by decide +kernel
theorem dX6_rowOf_135 : decode cX6_rowOf 135 = .ok (.iconst 1, 1) := by decide +kernel
theorem dX6_rowOf_136 : decode cX6_rowOf 136 = .ok (.isub, 1) := by decide +kernel
theorem dX6_rowOf_137 : decode cX6_rowOf 137 = .ok (.iload 7, 2) := by decide +kernel
theorem dX6_rowOf_139 : decode cX6_rowOf 139 = .ok (.isub, 1) := by decide +kernel
theorem dX6_rowOf_140 : decode cX6_rowOf 140 = .ok (.idiv, 1) := by decide +kernel
theorem dX6_rowOf_141 : decode cX6_rowOf 141 = .ok (.goto 4, 3) := by decide +kernel
theorem dX6_rowOf_144 : decode cX6_rowOf 144 = .ok (.iconst 1, 1) := by decide +kernel
theorem dX6_rowOf_145 : decode cX6_rowOf 145 = .ok (.istore 6, 2) := by decide +kernel
theorem dX6_rowOf_147 : decode cX6_rowOf 147 = .ok (.iinc 7 1, 3) := by decide +kernel
theorem dX6_rowOf_150 : decode cX6_rowOf 150 = .ok (.goto (-104), 3) := by decide +kernel
theorem dX6_rowOf_153 : decode cX6_rowOf 153 = .ok (.aload_n 0, 1) := by decide +kernel
theorem dX6_rowOf_154 : decode cX6_rowOf 154 = .ok (.getfield 45, 3) := by decide +kernel
theorem dX6_rowOf_157 : decode cX6_rowOf 157 = .ok (.iload 4, 2) := by decide +kernel
theorem dX6_rowOf_159 : decode cX6_rowOf 159 = .ok (.iaload, 1) := by decide +kernel
theorem dX6_rowOf_160 : decode cX6_rowOf 160 = .ok (.ireturn, 1) := by decide +kernel
theorem dX6_setAside_0 : decode cX6_setAside 0 = .ok (.iconst 0, 1) := by decide +kernel
theorem dX6_setAside_1 : decode cX6_setAside 1 = .ok (.istore_n 1, 1) := by decide +kernel
theorem dX6_setAside_2 : decode cX6_setAside 2 = .ok (.iload_n 1, 1) := by decide +kernel
theorem dX6_setAside_3 : decode cX6_setAside 3 = .ok (.bipush 8, 2) := by decide +kernel
theorem dX6_setAside_5 : decode cX6_setAside 5 = .ok (.if_icmp .ge 24, 3) := by decide +kernel
theorem dX6_setAside_8 : decode cX6_setAside 8 = .ok (.aload_n 0, 1) := by decide +kernel
theorem dX6_setAside_9 : decode cX6_setAside 9 = .ok (.getfield 48, 3) := by decide +kernel
theorem dX6_setAside_12 : decode cX6_setAside 12 = .ok (.iload_n 1, 1) := by decide +kernel
theorem dX6_setAside_13 : decode cX6_setAside 13 = .ok (.aload_n 0, 1) := by decide +kernel
theorem dX6_setAside_14 : decode cX6_setAside 14 = .ok (.getfield 7, 3) := by decide +kernel
theorem dX6_setAside_17 : decode cX6_setAside 17 = .ok (.bipush 42, 2) := by decide +kernel
theorem dX6_setAside_19 : decode cX6_setAside 19 = .ok (.iload_n 1, 1) := by decide +kernel
theorem dX6_setAside_20 : decode cX6_setAside 20 = .ok (.iadd, 1) := by decide +kernel
theorem dX6_setAside_21 : decode cX6_setAside 21 = .ok (.iaload, 1) := by decide +kernel
theorem dX6_setAside_22 : decode cX6_setAside 22 = .ok (.iastore, 1) := by decide +kernel
theorem dX6_setAside_23 : decode cX6_setAside 23 = .ok (.iinc 1 1, 3) := by decide +kernel
theorem dX6_setAside_26 : decode cX6_setAside 26 = .ok (.goto (-24), 3) := by decide +kernel
theorem dX6_setAside_29 : decode cX6_setAside 29 = .ok (.return_, 1) := by decide +kernel
theorem dX6_putBack_0 : decode cX6_putBack 0 = .ok (.iconst 0, 1) := by decide +kernel
theorem dX6_putBack_1 : decode cX6_putBack 1 = .ok (.istore_n 1, 1) := by decide +kernel
theorem dX6_putBack_2 : decode cX6_putBack 2 = .ok (.iload_n 1, 1) := by decide +kernel
theorem dX6_putBack_3 : decode cX6_putBack 3 = .ok (.bipush 8, 2) := by decide +kernel
theorem dX6_putBack_5 : decode cX6_putBack 5 = .ok (.if_icmp .ge 24, 3) := by decide +kernel
theorem dX6_putBack_8 : decode cX6_putBack 8 = .ok (.aload_n 0, 1) := by decide +kernel
theorem dX6_putBack_9 : decode cX6_putBack 9 = .ok (.getfield 7, 3) := by decide +kernel
theorem dX6_putBack_12 : decode cX6_putBack 12 = .ok (.bipush 42, 2) := by decide +kernel
theorem dX6_putBack_14 : decode cX6_putBack 14 = .ok (.iload_n 1, 1) := by decide +kernel
theorem dX6_putBack_15 : decode cX6_putBack 15 = .ok (.iadd, 1) := by decide +kernel
theorem dX6_putBack_16 : decode cX6_putBack 16 = .ok (.aload_n 0, 1) := by decide +kernel
theorem dX6_putBack_17 : decode cX6_putBack 17 = .ok (.getfield 48, 3) := by decide +kernel
theorem dX6_putBack_20 : decode cX6_putBack 20 = .ok (.iload_n 1, 1) := by decide +kernel
theorem dX6_putBack_21 : decode cX6_putBack 21 = .ok (.iaload, 1) := by decide +kernel
theorem dX6_putBack_22 : decode cX6_putBack 22 = .ok (.iastore, 1) := by decide +kernel
theorem dX6_putBack_23 : decode cX6_putBack 23 = .ok (.iinc 1 1, 3) := by decide +kernel
theorem dX6_putBack_26 : decode cX6_putBack 26 = .ok (.goto (-24), 3) := by decide +kernel
theorem dX6_putBack_29 : decode cX6_putBack 29 = .ok (.return_, 1) := by decide +kernel
theorem dX6_errandTo_0 : decode cX6_errandTo 0 = .ok (.aload_n 0, 1) := by decide +kernel
theorem dX6_errandTo_1 : decode cX6_errandTo 1 = .ok (.invokevirtual 236, 3) := by decide +kernel
theorem dX6_errandTo_4 : decode cX6_errandTo 4 = .ok (.aload_n 0, 1) := by decide +kernel
theorem dX6_errandTo_5 : decode cX6_errandTo 5 = .ok (.iload_n 1, 1) := by decide +kernel
theorem dX6_errandTo_6 : decode cX6_errandTo 6 = .ok (.iconst 0, 1) := by decide +kernel
theorem dX6_errandTo_7 : decode cX6_errandTo 7 = .ok (.iload_n 2, 1) := by decide +kernel
theorem dX6_errandTo_8 : decode cX6_errandTo 8 = .ok (.invokevirtual 227, 3) := by decide +kernel
theorem dX6_errandTo_11 : decode cX6_errandTo 11 = .ok (.istore_n 3, 1) := by decide +kernel
theorem dX6_errandTo_12 : decode cX6_errandTo 12 = .ok (.aload_n 0, 1) := by decide +kernel
theorem dX6_errandTo_13 : decode cX6_errandTo 13 = .ok (.invokevirtual 239, 3) := by decide +kernel
theorem dX6_errandTo_16 : decode cX6_errandTo 16 = .ok (.aload_n 0, 1) := by decide +kernel
theorem dX6_errandTo_17 : decode cX6_errandTo 17 = .ok (.iload_n 1, 1) := by decide +kernel
theorem dX6_errandTo_18 : decode cX6_errandTo 18 = .ok (.iconst 1, 1) := by decide +kernel
theorem dX6_errandTo_19 : decode cX6_errandTo 19 = .ok (.iload_n 2, 1) := by decide +kernel
theorem dX6_errandTo_20 : decode cX6_errandTo 20 = .ok (.invokevirtual 227, 3) := by decide +kernel
theorem dX6_errandTo_23 : decode cX6_errandTo 23 = .ok (.istore 4, 2) := by decide +kernel
theorem dX6_errandTo_25 : decode cX6_errandTo 25 = .ok (.aload_n 0, 1) := by decide +kernel
theorem dX6_errandTo_26 : decode cX6_errandTo 26 = .ok (.invokevirtual 239, 3) := by decide +kernel
theorem dX6_errandTo_29 : decode cX6_errandTo 29 = .ok (.iload_n 3, 1) := by decide +kernel
theorem dX6_errandTo_30 : decode cX6_errandTo 30 = .ok (.iconst (-1), 1) := by decide +kernel
theorem dX6_errandTo_31 : decode cX6_errandTo 31 = .ok (.if_icmp .eq 19, 3) := by decide +kernel
theorem dX6_errandTo_34 : decode cX6_errandTo 34 = .ok (.iload 4, 2) := by decide +kernel
theorem dX6_errandTo_36 : decode cX6_errandTo 36 = .ok (.iconst (-1), 1) := by decide +kernel
theorem dX6_errandTo_37 : decode cX6_errandTo 37 = .ok (.if_icmp .eq 9, 3) := by decide +kernel
theorem dX6_errandTo_40 : decode cX6_errandTo 40 = .ok (.iload_n 3, 1) := by decide +kernel
theorem dX6_errandTo_41 : decode cX6_errandTo 41 = .ok (.iload 4, 2) := by decide +kernel
theorem dX6_errandTo_43 : decode cX6_errandTo 43 = .ok (.if_icmp .gt 7, 3) := by decide +kernel
theorem dX6_errandTo_46 : decode cX6_errandTo 46 = .ok (.iconst 1, 1) := by decide +kernel
theorem dX6_errandTo_47 : decode cX6_errandTo 47 = .ok (.goto 4, 3) := by decide +kernel
theorem dX6_errandTo_50 : decode cX6_errandTo 50 = .ok (.iconst 0, 1) := by decide +kernel
theorem dX6_errandTo_51 : decode cX6_errandTo 51 = .ok (.istore 5, 2) := by decide +kernel
theorem dX6_errandTo_53 : decode cX6_errandTo 53 = .ok (.iload 5, 2) := by decide +kernel
theorem dX6_errandTo_55 : decode cX6_errandTo 55 = .ok (.ifCond .eq 13, 3) := by decide +kernel
theorem dX6_errandTo_58 : decode cX6_errandTo 58 = .ok (.aload_n 0, 1) := by decide +kernel
theorem dX6_errandTo_59 : decode cX6_errandTo 59 = .ok (.iload_n 1, 1) := by decide +kernel
theorem dX6_errandTo_60 : decode cX6_errandTo 60 = .ok (.iconst 0, 1) := by decide +kernel
theorem dX6_errandTo_61 : decode cX6_errandTo 61 = .ok (.iload_n 2, 1) := by decide +kernel
theorem dX6_errandTo_62 : decode cX6_errandTo 62 = .ok (.invokevirtual 227, 3) := by decide +kernel
theorem dX6_errandTo_65 : decode cX6_errandTo 65 = .ok (.goto 20, 3) := by decide +kernel
theorem dX6_errandTo_68 : decode cX6_errandTo 68 = .ok (.iload 4, 2) := by decide +kernel
theorem dX6_errandTo_70 : decode cX6_errandTo 70 = .ok (.iconst (-1), 1) := by decide +kernel
theorem dX6_errandTo_71 : decode cX6_errandTo 71 = .ok (.if_icmp .ne 7, 3) := by decide +kernel
theorem dX6_errandTo_74 : decode cX6_errandTo 74 = .ok (.iconst (-1), 1) := by decide +kernel
theorem dX6_errandTo_75 : decode cX6_errandTo 75 = .ok (.goto 10, 3) := by decide +kernel
theorem dX6_errandTo_78 : decode cX6_errandTo 78 = .ok (.aload_n 0, 1) := by decide +kernel
theorem dX6_errandTo_79 : decode cX6_errandTo 79 = .ok (.iload_n 1, 1) := by decide +kernel
theorem dX6_errandTo_80 : decode cX6_errandTo 80 = .ok (.iconst 1, 1) := by decide +kernel
theorem dX6_errandTo_81 : decode cX6_errandTo 81 = .ok (.iload_n 2, 1) := by decide +kernel
theorem dX6_errandTo_82 : decode cX6_errandTo 82 = .ok (.invokevirtual 227, 3) := by decide +kernel
theorem dX6_errandTo_85 : decode cX6_errandTo 85 = .ok (.ireturn, 1) := by decide +kernel
theorem dX6_stepsBy_0 : decode cX6_stepsBy 0 = .ok (.aload_n 0, 1) := by decide +kernel
theorem dX6_stepsBy_1 : decode cX6_stepsBy 1 = .ok (.iconst 0, 1) := by decide +kernel
theorem dX6_stepsBy_2 : decode cX6_stepsBy 2 = .ok (.bipush 42, 2) := by decide +kernel
theorem dX6_stepsBy_4 : decode cX6_stepsBy 4 = .ok (.invokevirtual 170, 3) := by decide +kernel
theorem dX6_stepsBy_7 : decode cX6_stepsBy 7 = .ok (.iconst 0, 1) := by decide +kernel
theorem dX6_stepsBy_8 : decode cX6_stepsBy 8 = .ok (.istore_n 3, 1) := by decide +kernel
theorem dX6_stepsBy_9 : decode cX6_stepsBy 9 = .ok (.iconst 0, 1) := by decide +kernel
theorem dX6_stepsBy_10 : decode cX6_stepsBy 10 = .ok (.istore 4, 2) := by decide +kernel
theorem dX6_stepsBy_12 : decode cX6_stepsBy 12 = .ok (.iload 4, 2) := by decide +kernel
theorem dX6_stepsBy_14 : decode cX6_stepsBy 14 = .ok (.aload_n 0, 1) := by decide +kernel
theorem dX6_stepsBy_15 : decode cX6_stepsBy 15 = .ok (.getfield 233, 3) := by decide +kernel
theorem dX6_stepsBy_18 : decode cX6_stepsBy 18 = .ok (.if_icmp .ge 36, 3) := by decide +kernel
theorem dX6_stepsBy_21 : decode cX6_stepsBy 21 = .ok (.aload_n 0, 1) := by decide +kernel
theorem dX6_stepsBy_22 : decode cX6_stepsBy 22 = .ok (.iload_n 2, 1) := by decide +kernel
theorem dX6_stepsBy_23 : decode cX6_stepsBy 23 = .ok (.aload_n 0, 1) := by decide +kernel
theorem dX6_stepsBy_24 : decode cX6_stepsBy 24 = .ok (.iload_n 1, 1) := by decide +kernel
theorem dX6_stepsBy_25 : decode cX6_stepsBy 25 = .ok (.iload 4, 2) := by decide +kernel
theorem dX6_stepsBy_27 : decode cX6_stepsBy 27 = .ok (.invokevirtual 242, 3) := by decide +kernel
theorem dX6_stepsBy_30 : decode cX6_stepsBy 30 = .ok (.invokevirtual 245, 3) := by decide +kernel
theorem dX6_stepsBy_33 : decode cX6_stepsBy 33 = .ok (.istore 5, 2) := by decide +kernel
theorem dX6_stepsBy_35 : decode cX6_stepsBy 35 = .ok (.iload 5, 2) := by decide +kernel
theorem dX6_stepsBy_37 : decode cX6_stepsBy 37 = .ok (.iconst (-1), 1) := by decide +kernel
theorem dX6_stepsBy_38 : decode cX6_stepsBy 38 = .ok (.if_icmp .ne 5, 3) := by decide +kernel
theorem dX6_stepsBy_41 : decode cX6_stepsBy 41 = .ok (.iconst (-1), 1) := by decide +kernel
theorem dX6_stepsBy_42 : decode cX6_stepsBy 42 = .ok (.ireturn, 1) := by decide +kernel
theorem dX6_stepsBy_43 : decode cX6_stepsBy 43 = .ok (.iload_n 3, 1) := by decide +kernel
theorem dX6_stepsBy_44 : decode cX6_stepsBy 44 = .ok (.iload 5, 2) := by decide +kernel
theorem dX6_stepsBy_46 : decode cX6_stepsBy 46 = .ok (.iadd, 1) := by decide +kernel
theorem dX6_stepsBy_47 : decode cX6_stepsBy 47 = .ok (.istore_n 3, 1) := by decide +kernel
theorem dX6_stepsBy_48 : decode cX6_stepsBy 48 = .ok (.iinc 4 1, 3) := by decide +kernel
theorem dX6_stepsBy_51 : decode cX6_stepsBy 51 = .ok (.goto (-39), 3) := by decide +kernel
theorem dX6_stepsBy_54 : decode cX6_stepsBy 54 = .ok (.iload_n 3, 1) := by decide +kernel
theorem dX6_stepsBy_55 : decode cX6_stepsBy 55 = .ok (.ireturn, 1) := by decide +kernel
theorem dX6_errands_0 : decode cX6_errands 0 = .ok (.iload_n 1, 1) := by decide +kernel
theorem dX6_errands_1 : decode cX6_errands 1 = .ok (.i2l, 1) := by decide +kernel
theorem dX6_errands_2 : decode cX6_errands 2 = .ok (.lconst 0, 1) := by decide +kernel
theorem dX6_errands_3 : decode cX6_errands 3 = .ok (.iconst 1, 1) := by decide +kernel
theorem dX6_errands_4 : decode cX6_errands 4 = .ok (.aload_n 0, 1) := by decide +kernel
theorem dX6_errands_5 : decode cX6_errands 5 = .ok (.getfield 23, 3) := by decide +kernel
theorem dX6_errands_8 : decode cX6_errands 8 = .ok (.ishl, 1) := by decide +kernel
theorem dX6_errands_9 : decode cX6_errands 9 = .ok (.iconst 1, 1) := by decide +kernel
theorem dX6_errands_10 : decode cX6_errands 10 = .ok (.isub, 1) := by decide +kernel
theorem dX6_errands_11 : decode cX6_errands 11 = .ok (.i2l, 1) := by decide +kernel
theorem dX6_errands_12 : decode cX6_errands 12 = .ok (.invokestatic 60, 3) := by decide +kernel
theorem dX6_errands_15 : decode cX6_errands 15 = .ok (.ifCond .eq 11, 3) := by decide +kernel
theorem dX6_errands_18 : decode cX6_errands 18 = .ok (.aload_n 0, 1) := by decide +kernel
theorem dX6_errands_19 : decode cX6_errands 19 = .ok (.iload_n 2, 1) := by decide +kernel
theorem dX6_errands_20 : decode cX6_errands 20 = .ok (.invokevirtual 183, 3) := by decide +kernel
theorem dX6_errands_23 : decode cX6_errands 23 = .ok (.ifCond .ne 6, 3) := by decide +kernel
theorem dX6_errands_26 : decode cX6_errands 26 = .ok (.bipush (-2), 2) := by decide +kernel
theorem dX6_errands_28 : decode cX6_errands 28 = .ok (.ireturn, 1) := by decide +kernel
theorem dX6_errands_29 : decode cX6_errands 29 = .ok (.iload_n 3, 1) := by decide +kernel
theorem dX6_errands_30 : decode cX6_errands 30 = .ok (.iconst (-1), 1) := by decide +kernel
theorem dX6_errands_31 : decode cX6_errands 31 = .ok (.if_icmp .ge 6, 3) := by decide +kernel
theorem dX6_errands_34 : decode cX6_errands 34 = .ok (.bipush (-3), 2) := by decide +kernel
theorem dX6_errands_36 : decode cX6_errands 36 = .ok (.ireturn, 1) := by decide +kernel
theorem dX6_errands_37 : decode cX6_errands 37 = .ok (.iload_n 1, 1) := by decide +kernel
theorem dX6_errands_38 : decode cX6_errands 38 = .ok (.invokestatic 224, 3) := by decide +kernel
theorem dX6_errands_41 : decode cX6_errands 41 = .ok (.iconst 5, 1) := by decide +kernel
theorem dX6_errands_42 : decode cX6_errands 42 = .ok (.if_icmp .le 6, 3) := by decide +kernel
theorem dX6_errands_45 : decode cX6_errands 45 = .ok (.bipush (-4), 2) := by decide +kernel
theorem dX6_errands_47 : decode cX6_errands 47 = .ok (.ireturn, 1) := by decide +kernel
theorem dX6_errands_48 : decode cX6_errands 48 = .ok (.aload_n 0, 1) := by decide +kernel
theorem dX6_errands_49 : decode cX6_errands 49 = .ok (.iconst 0, 1) := by decide +kernel
theorem dX6_errands_50 : decode cX6_errands 50 = .ok (.putfield 233, 3) := by decide +kernel
theorem dX6_errands_53 : decode cX6_errands 53 = .ok (.iconst 1, 1) := by decide +kernel
theorem dX6_errands_54 : decode cX6_errands 54 = .ok (.istore 4, 2) := by decide +kernel
theorem dX6_errands_56 : decode cX6_errands 56 = .ok (.iconst 0, 1) := by decide +kernel
theorem dX6_errands_57 : decode cX6_errands 57 = .ok (.istore 5, 2) := by decide +kernel
theorem dX6_errands_59 : decode cX6_errands 59 = .ok (.iload 5, 2) := by decide +kernel
theorem dX6_errands_61 : decode cX6_errands 61 = .ok (.aload_n 0, 1) := by decide +kernel
theorem dX6_errands_62 : decode cX6_errands 62 = .ok (.getfield 23, 3) := by decide +kernel
theorem dX6_errands_65 : decode cX6_errands 65 = .ok (.if_icmp .ge 48, 3) := by decide +kernel
theorem dX6_errands_68 : decode cX6_errands 68 = .ok (.iload_n 1, 1) := by decide +kernel
theorem dX6_errands_69 : decode cX6_errands 69 = .ok (.iload 5, 2) := by decide +kernel
theorem dX6_errands_71 : decode cX6_errands 71 = .ok (.invokestatic 199, 3) := by decide +kernel
theorem dX6_errands_74 : decode cX6_errands 74 = .ok (.ifCond .eq 33, 3) := by decide +kernel
theorem dX6_errands_77 : decode cX6_errands 77 = .ok (.aload_n 0, 1) := by decide +kernel
theorem dX6_errands_78 : decode cX6_errands 78 = .ok (.getfield 45, 3) := by decide +kernel
theorem dX6_errands_81 : decode cX6_errands 81 = .ok (.aload_n 0, 1) := by decide +kernel
theorem dX6_errands_82 : decode cX6_errands 82 = .ok (.getfield 233, 3) := by decide +kernel
theorem dX6_errands_85 : decode cX6_errands 85 = .ok (.iload 5, 2) := by decide +kernel
theorem dX6_errands_87 : decode cX6_errands 87 = .ok (.iastore, 1) := by decide +kernel
theorem dX6_errands_88 : decode cX6_errands 88 = .ok (.aload_n 0, 1) := by decide +kernel
theorem dX6_errands_89 : decode cX6_errands 89 = .ok (.dup, 1) := by decide +kernel
theorem dX6_errands_90 : decode cX6_errands 90 = .ok (.getfield 233, 3) := by decide +kernel
theorem dX6_errands_93 : decode cX6_errands 93 = .ok (.iconst 1, 1) := by decide +kernel
theorem dX6_errands_94 : decode cX6_errands 94 = .ok (.iadd, 1) := by decide +kernel
theorem dX6_errands_95 : decode cX6_errands 95 = .ok (.putfield 233, 3) := by decide +kernel
theorem dX6_errands_98 : decode cX6_errands 98 = .ok (.iload 4, 2) := by decide +kernel
theorem dX6_errands_100 : decode cX6_errands 100 = .ok (.aload_n 0, 1) := by decide +kernel
theorem dX6_errands_101 : decode cX6_errands 101 = .ok (.getfield 233, 3) := by decide +kernel
theorem dX6_errands_104 : decode cX6_errands 104 = .ok (.imul, 1) := by decide +kernel
theorem dX6_errands_105 : decode cX6_errands 105 = .ok (.istore 4, 2) := by decide +kernel
theorem dX6_errands_107 : decode cX6_errands 107 = .ok (.iinc 5 1, 3) := by decide +kernel
theorem dX6_errands_110 : decode cX6_errands 110 = .ok (.goto (-51), 3) := by decide +kernel
theorem dX6_errands_113 : decode cX6_errands 113 = .ok (.iconst (-1), 1) := by decide +kernel
theorem dX6_errands_114 : decode cX6_errands 114 = .ok (.istore 5, 2) := by decide +kernel
theorem dX6_errands_116 : decode cX6_errands 116 = .ok (.ldc 248, 2) := by decide +kernel
theorem dX6_errands_118 : decode cX6_errands 118 = .ok (.istore 6, 2) := by decide +kernel
theorem dX6_errands_120 : decode cX6_errands 120 = .ok (.iconst 0, 1) := by decide +kernel
theorem dX6_errands_121 : decode cX6_errands 121 = .ok (.istore 7, 2) := by decide +kernel
theorem dX6_errands_123 : decode cX6_errands 123 = .ok (.iload 7, 2) := by decide +kernel
theorem dX6_errands_125 : decode cX6_errands 125 = .ok (.iload 4, 2) := by decide +kernel
theorem dX6_errands_127 : decode cX6_errands 127 = .ok (.if_icmp .ge 39, 3) := by decide +kernel
theorem dX6_errands_130 : decode cX6_errands 130 = .ok (.aload_n 0, 1) := by decide +kernel
theorem dX6_errands_131 : decode cX6_errands 131 = .ok (.iload 7, 2) := by decide +kernel
theorem dX6_errands_133 : decode cX6_errands 133 = .ok (.iload_n 2, 1) := by decide +kernel
theorem dX6_errands_134 : decode cX6_errands 134 = .ok (.invokevirtual 249, 3) := by decide +kernel
theorem dX6_errands_137 : decode cX6_errands 137 = .ok (.istore 8, 2) := by decide +kernel
theorem dX6_errands_139 : decode cX6_errands 139 = .ok (.iload 8, 2) := by decide +kernel
theorem dX6_errands_141 : decode cX6_errands 141 = .ok (.iconst (-1), 1) := by decide +kernel
theorem dX6_errands_142 : decode cX6_errands 142 = .ok (.if_icmp .eq 18, 3) := by decide +kernel
theorem dX6_errands_145 : decode cX6_errands 145 = .ok (.iload 8, 2) := by decide +kernel
theorem dX6_errands_147 : decode cX6_errands 147 = .ok (.iload 6, 2) := by decide +kernel
theorem dX6_errands_149 : decode cX6_errands 149 = .ok (.if_icmp .ge 11, 3) := by decide +kernel
theorem dX6_errands_152 : decode cX6_errands 152 = .ok (.iload 8, 2) := by decide +kernel
theorem dX6_errands_154 : decode cX6_errands 154 = .ok (.istore 6, 2) := by decide +kernel
theorem dX6_errands_156 : decode cX6_errands 156 = .ok (.iload 7, 2) := by decide +kernel
theorem dX6_errands_158 : decode cX6_errands 158 = .ok (.istore 5, 2) := by decide +kernel
theorem dX6_errands_160 : decode cX6_errands 160 = .ok (.iinc 7 1, 3) := by decide +kernel
theorem dX6_errands_163 : decode cX6_errands 163 = .ok (.goto (-40), 3) := by decide +kernel
theorem dX6_errands_166 : decode cX6_errands 166 = .ok (.iload 5, 2) := by decide +kernel
theorem dX6_errands_168 : decode cX6_errands 168 = .ok (.iconst (-1), 1) := by decide +kernel
theorem dX6_errands_169 : decode cX6_errands 169 = .ok (.if_icmp .ne 7, 3) := by decide +kernel
theorem dX6_errands_172 : decode cX6_errands 172 = .ok (.iconst (-1), 1) := by decide +kernel
theorem dX6_errands_173 : decode cX6_errands 173 = .ok (.goto 32, 3) := by decide +kernel
theorem dX6_errands_176 : decode cX6_errands 176 = .ok (.iload_n 3, 1) := by decide +kernel
theorem dX6_errands_177 : decode cX6_errands 177 = .ok (.iconst (-1), 1) := by decide +kernel
theorem dX6_errands_178 : decode cX6_errands 178 = .ok (.if_icmp .ne 8, 3) := by decide +kernel
theorem dX6_errands_181 : decode cX6_errands 181 = .ok (.iload 6, 2) := by decide +kernel
theorem dX6_errands_183 : decode cX6_errands 183 = .ok (.goto 22, 3) := by decide +kernel
theorem dX6_errands_186 : decode cX6_errands 186 = .ok (.iload_n 3, 1) := by decide +kernel
theorem dX6_errands_187 : decode cX6_errands 187 = .ok (.aload_n 0, 1) := by decide +kernel
theorem dX6_errands_188 : decode cX6_errands 188 = .ok (.getfield 233, 3) := by decide +kernel
theorem dX6_errands_191 : decode cX6_errands 191 = .ok (.if_icmp .ge 13, 3) := by decide +kernel
theorem dX6_errands_194 : decode cX6_errands 194 = .ok (.aload_n 0, 1) := by decide +kernel
theorem dX6_errands_195 : decode cX6_errands 195 = .ok (.iload 5, 2) := by decide +kernel
theorem dX6_errands_197 : decode cX6_errands 197 = .ok (.iload_n 3, 1) := by decide +kernel
theorem dX6_errands_198 : decode cX6_errands 198 = .ok (.invokevirtual 242, 3) := by decide +kernel
theorem dX6_errands_201 : decode cX6_errands 201 = .ok (.goto 4, 3) := by decide +kernel
theorem dX6_errands_204 : decode cX6_errands 204 = .ok (.iconst (-1), 1) := by decide +kernel
theorem dX6_errands_205 : decode cX6_errands 205 = .ok (.ireturn, 1) := by decide +kernel
theorem dX6_slam_0 : decode cX6_slam 0 = .ok (.aload_n 0, 1) := by decide +kernel
theorem dX6_slam_1 : decode cX6_slam 1 = .ok (.iload_n 1, 1) := by decide +kernel
theorem dX6_slam_2 : decode cX6_slam 2 = .ok (.invokevirtual 183, 3) := by decide +kernel
theorem dX6_slam_5 : decode cX6_slam 5 = .ok (.ifCond .ne 6, 3) := by decide +kernel
theorem dX6_slam_8 : decode cX6_slam 8 = .ok (.bipush (-2), 2) := by decide +kernel
theorem dX6_slam_10 : decode cX6_slam 10 = .ok (.ireturn, 1) := by decide +kernel
theorem dX6_slam_11 : decode cX6_slam 11 = .ok (.iload_n 2, 1) := by decide +kernel
theorem dX6_slam_12 : decode cX6_slam 12 = .ok (.invokestatic 210, 3) := by decide +kernel
theorem dX6_slam_15 : decode cX6_slam 15 = .ok (.ifCond .eq 13, 3) := by decide +kernel
theorem dX6_slam_18 : decode cX6_slam 18 = .ok (.iload_n 3, 1) := by decide +kernel
theorem dX6_slam_19 : decode cX6_slam 19 = .ok (.i2l, 1) := by decide +kernel
theorem dX6_slam_20 : decode cX6_slam 20 = .ok (.lconst 0, 1) := by decide +kernel
theorem dX6_slam_21 : decode cX6_slam 21 = .ok (.lconst 1, 1) := by decide +kernel
theorem dX6_slam_22 : decode cX6_slam 22 = .ok (.invokestatic 60, 3) := by decide +kernel
theorem dX6_slam_25 : decode cX6_slam 25 = .ok (.ifCond .ne 6, 3) := by decide +kernel
theorem dX6_slam_28 : decode cX6_slam 28 = .ok (.bipush (-3), 2) := by decide +kernel
theorem dX6_slam_30 : decode cX6_slam 30 = .ok (.ireturn, 1) := by decide +kernel
theorem dX6_slam_31 : decode cX6_slam 31 = .ok (.aload_n 0, 1) := by decide +kernel
theorem dX6_slam_32 : decode cX6_slam 32 = .ok (.getfield 27, 3) := by decide +kernel
theorem dX6_slam_35 : decode cX6_slam 35 = .ok (.iload_n 1, 1) := by decide +kernel
theorem dX6_slam_36 : decode cX6_slam 36 = .ok (.iaload, 1) := by decide +kernel
theorem dX6_slam_37 : decode cX6_slam 37 = .ok (.iconst 3, 1) := by decide +kernel
theorem dX6_slam_38 : decode cX6_slam 38 = .ok (.if_icmp .ne 6, 3) := by decide +kernel
theorem dX6_slam_41 : decode cX6_slam 41 = .ok (.bipush (-4), 2) := by decide +kernel
theorem dX6_slam_43 : decode cX6_slam 43 = .ok (.ireturn, 1) := by decide +kernel
theorem dX6_slam_44 : decode cX6_slam 44 = .ok (.iload_n 2, 1) := by decide +kernel
theorem dX6_slam_45 : decode cX6_slam 45 = .ok (.ifCond .ne 7, 3) := by decide +kernel
theorem dX6_slam_48 : decode cX6_slam 48 = .ok (.iload_n 1, 1) := by decide +kernel
theorem dX6_slam_49 : decode cX6_slam 49 = .ok (.goto 8, 3) := by decide +kernel
theorem dX6_slam_52 : decode cX6_slam 52 = .ok (.aload_n 0, 1) := by decide +kernel
theorem dX6_slam_53 : decode cX6_slam 53 = .ok (.iload_n 1, 1) := by decide +kernel
theorem dX6_slam_54 : decode cX6_slam 54 = .ok (.invokevirtual 192, 3) := by decide +kernel
theorem dX6_slam_57 : decode cX6_slam 57 = .ok (.istore 4, 2) := by decide +kernel
theorem dX6_slam_59 : decode cX6_slam 59 = .ok (.iload_n 3, 1) := by decide +kernel
theorem dX6_slam_60 : decode cX6_slam 60 = .ok (.ifCond .ne 23, 3) := by decide +kernel
theorem dX6_slam_63 : decode cX6_slam 63 = .ok (.aload_n 0, 1) := by decide +kernel
theorem dX6_slam_64 : decode cX6_slam 64 = .ok (.iconst 0, 1) := by decide +kernel
theorem dX6_slam_65 : decode cX6_slam 65 = .ok (.iload 4, 2) := by decide +kernel
theorem dX6_slam_67 : decode cX6_slam 67 = .ok (.invokevirtual 180, 3) := by decide +kernel
theorem dX6_slam_70 : decode cX6_slam 70 = .ok (.aload_n 0, 1) := by decide +kernel
theorem dX6_slam_71 : decode cX6_slam 71 = .ok (.getfield 30, 3) := by decide +kernel
theorem dX6_slam_74 : decode cX6_slam 74 = .ok (.iload 4, 2) := by decide +kernel
theorem dX6_slam_76 : decode cX6_slam 76 = .ok (.iaload, 1) := by decide +kernel
theorem dX6_slam_77 : decode cX6_slam 77 = .ok (.isub, 1) := by decide +kernel
theorem dX6_slam_78 : decode cX6_slam 78 = .ok (.iconst 1, 1) := by decide +kernel
theorem dX6_slam_79 : decode cX6_slam 79 = .ok (.isub, 1) := by decide +kernel
theorem dX6_slam_80 : decode cX6_slam 80 = .ok (.goto 20, 3) := by decide +kernel
theorem dX6_slam_83 : decode cX6_slam 83 = .ok (.iload_n 2, 1) := by decide +kernel
theorem dX6_slam_84 : decode cX6_slam 84 = .ok (.ifCond .ne 11, 3) := by decide +kernel
theorem dX6_slam_87 : decode cX6_slam 87 = .ok (.aload_n 0, 1) := by decide +kernel
theorem dX6_slam_88 : decode cX6_slam 88 = .ok (.iload_n 1, 1) := by decide +kernel
theorem dX6_slam_89 : decode cX6_slam 89 = .ok (.invokevirtual 177, 3) := by decide +kernel
theorem dX6_slam_92 : decode cX6_slam 92 = .ok (.goto 8, 3) := by decide +kernel
theorem dX6_slam_95 : decode cX6_slam 95 = .ok (.aload_n 0, 1) := by decide +kernel
theorem dX6_slam_96 : decode cX6_slam 96 = .ok (.iload_n 1, 1) := by decide +kernel
theorem dX6_slam_97 : decode cX6_slam 97 = .ok (.invokevirtual 192, 3) := by decide +kernel
theorem dX6_slam_100 : decode cX6_slam 100 = .ok (.ireturn, 1) := by decide +kernel
theorem dX6_saveFirst_0 : decode cX6_saveFirst 0 = .ok (.iconst 0, 1) := by decide +kernel
theorem dX6_saveFirst_1 : decode cX6_saveFirst 1 = .ok (.istore_n 1, 1) := by decide +kernel
theorem dX6_saveFirst_2 : decode cX6_saveFirst 2 = .ok (.iload_n 1, 1) := by decide +kernel
theorem dX6_saveFirst_3 : decode cX6_saveFirst 3 = .ok (.aload_n 0, 1) := by decide +kernel
theorem dX6_saveFirst_4 : decode cX6_saveFirst 4 = .ok (.getfield 23, 3) := by decide +kernel
theorem dX6_saveFirst_7 : decode cX6_saveFirst 7 = .ok (.if_icmp .ge 66, 3) := by decide +kernel
theorem dX6_saveFirst_10 : decode cX6_saveFirst 10 = .ok (.iconst 0, 1) := by decide +kernel
theorem dX6_saveFirst_11 : decode cX6_saveFirst 11 = .ok (.istore_n 2, 1) := by decide +kernel
theorem dX6_saveFirst_12 : decode cX6_saveFirst 12 = .ok (.iload_n 2, 1) := by decide +kernel
theorem dX6_saveFirst_13 : decode cX6_saveFirst 13 = .ok (.aload_n 0, 1) := by decide +kernel
theorem dX6_saveFirst_14 : decode cX6_saveFirst 14 = .ok (.getfield 153, 3) := by decide +kernel
theorem dX6_saveFirst_17 : decode cX6_saveFirst 17 = .ok (.if_icmp .ge 22, 3) := by decide +kernel
theorem dX6_saveFirst_20 : decode cX6_saveFirst 20 = .ok (.aload_n 0, 1) := by decide +kernel
theorem dX6_saveFirst_21 : decode cX6_saveFirst 21 = .ok (.getfield 7, 3) := by decide +kernel
theorem dX6_saveFirst_24 : decode cX6_saveFirst 24 = .ok (.bipush 50, 2) := by decide +kernel
theorem dX6_saveFirst_26 : decode cX6_saveFirst 26 = .ok (.iload_n 2, 1) := by decide +kernel
theorem dX6_saveFirst_27 : decode cX6_saveFirst 27 = .ok (.iadd, 1) := by decide +kernel
theorem dX6_saveFirst_28 : decode cX6_saveFirst 28 = .ok (.iaload, 1) := by decide +kernel
theorem dX6_saveFirst_29 : decode cX6_saveFirst 29 = .ok (.iload_n 1, 1) := by decide +kernel
theorem dX6_saveFirst_30 : decode cX6_saveFirst 30 = .ok (.if_icmp .eq 9, 3) := by decide +kernel
theorem dX6_saveFirst_33 : decode cX6_saveFirst 33 = .ok (.iinc 2 1, 3) := by decide +kernel
theorem dX6_saveFirst_36 : decode cX6_saveFirst 36 = .ok (.goto (-24), 3) := by decide +kernel
theorem dX6_saveFirst_39 : decode cX6_saveFirst 39 = .ok (.iload_n 2, 1) := by decide +kernel
theorem dX6_saveFirst_40 : decode cX6_saveFirst 40 = .ok (.aload_n 0, 1) := by decide +kernel
theorem dX6_saveFirst_41 : decode cX6_saveFirst 41 = .ok (.getfield 153, 3) := by decide +kernel
theorem dX6_saveFirst_44 : decode cX6_saveFirst 44 = .ok (.if_icmp .ge 23, 3) := by decide +kernel
theorem dX6_saveFirst_47 : decode cX6_saveFirst 47 = .ok (.aload_n 0, 1) := by decide +kernel
theorem dX6_saveFirst_48 : decode cX6_saveFirst 48 = .ok (.bipush 42, 2) := by decide +kernel
theorem dX6_saveFirst_50 : decode cX6_saveFirst 50 = .ok (.iload_n 1, 1) := by decide +kernel
theorem dX6_saveFirst_51 : decode cX6_saveFirst 51 = .ok (.invokevirtual 186, 3) := by decide +kernel
theorem dX6_saveFirst_54 : decode cX6_saveFirst 54 = .ok (.ifCond .eq 13, 3) := by decide +kernel
theorem dX6_saveFirst_57 : decode cX6_saveFirst 57 = .ok (.aload_n 0, 1) := by decide +kernel
theorem dX6_saveFirst_58 : decode cX6_saveFirst 58 = .ok (.getfield 7, 3) := by decide +kernel
theorem dX6_saveFirst_61 : decode cX6_saveFirst 61 = .ok (.bipush 50, 2) := by decide +kernel
theorem dX6_saveFirst_63 : decode cX6_saveFirst 63 = .ok (.iload_n 2, 1) := by decide +kernel
theorem dX6_saveFirst_64 : decode cX6_saveFirst 64 = .ok (.iadd, 1) := by decide +kernel
theorem dX6_saveFirst_65 : decode cX6_saveFirst 65 = .ok (.iconst (-1), 1) := by decide +kernel
theorem dX6_saveFirst_66 : decode cX6_saveFirst 66 = .ok (.iastore, 1) := by decide +kernel
theorem dX6_saveFirst_67 : decode cX6_saveFirst 67 = .ok (.iinc 1 1, 3) := by decide +kernel
theorem dX6_saveFirst_70 : decode cX6_saveFirst 70 = .ok (.goto (-68), 3) := by decide +kernel
theorem dX6_saveFirst_73 : decode cX6_saveFirst 73 = .ok (.return_, 1) := by decide +kernel
theorem dX6_areOut_0 : decode cX6_areOut 0 = .ok (.iconst 1, 1) := by decide +kernel
theorem dX6_areOut_1 : decode cX6_areOut 1 = .ok (.istore_n 1, 1) := by decide +kernel
theorem dX6_areOut_2 : decode cX6_areOut 2 = .ok (.iconst 0, 1) := by decide +kernel
theorem dX6_areOut_3 : decode cX6_areOut 3 = .ok (.istore_n 2, 1) := by decide +kernel
theorem dX6_areOut_4 : decode cX6_areOut 4 = .ok (.iload_n 2, 1) := by decide +kernel
theorem dX6_areOut_5 : decode cX6_areOut 5 = .ok (.aload_n 0, 1) := by decide +kernel
theorem dX6_areOut_6 : decode cX6_areOut 6 = .ok (.getfield 153, 3) := by decide +kernel
theorem dX6_areOut_9 : decode cX6_areOut 9 = .ok (.if_icmp .ge 32, 3) := by decide +kernel
theorem dX6_areOut_12 : decode cX6_areOut 12 = .ok (.iload_n 1, 1) := by decide +kernel
theorem dX6_areOut_13 : decode cX6_areOut 13 = .ok (.ifCond .eq 20, 3) := by decide +kernel
theorem dX6_areOut_16 : decode cX6_areOut 16 = .ok (.aload_n 0, 1) := by decide +kernel
theorem dX6_areOut_17 : decode cX6_areOut 17 = .ok (.getfield 7, 3) := by decide +kernel
theorem dX6_areOut_20 : decode cX6_areOut 20 = .ok (.bipush 50, 2) := by decide +kernel
theorem dX6_areOut_22 : decode cX6_areOut 22 = .ok (.iload_n 2, 1) := by decide +kernel
theorem dX6_areOut_23 : decode cX6_areOut 23 = .ok (.iadd, 1) := by decide +kernel
theorem dX6_areOut_24 : decode cX6_areOut 24 = .ok (.iaload, 1) := by decide +kernel
theorem dX6_areOut_25 : decode cX6_areOut 25 = .ok (.iconst (-1), 1) := by decide +kernel
theorem dX6_areOut_26 : decode cX6_areOut 26 = .ok (.if_icmp .ne 7, 3) := by decide +kernel
theorem dX6_areOut_29 : decode cX6_areOut 29 = .ok (.iconst 1, 1) := by decide +kernel
theorem dX6_areOut_30 : decode cX6_areOut 30 = .ok (.goto 4, 3) := by decide +kernel
theorem dX6_areOut_33 : decode cX6_areOut 33 = .ok (.iconst 0, 1) := by decide +kernel
theorem dX6_areOut_34 : decode cX6_areOut 34 = .ok (.istore_n 1, 1) := by decide +kernel
theorem dX6_areOut_35 : decode cX6_areOut 35 = .ok (.iinc 2 1, 3) := by decide +kernel
theorem dX6_areOut_38 : decode cX6_areOut 38 = .ok (.goto (-34), 3) := by decide +kernel
theorem dX6_areOut_41 : decode cX6_areOut 41 = .ok (.iload_n 1, 1) := by decide +kernel
theorem dX6_areOut_42 : decode cX6_areOut 42 = .ok (.ireturn, 1) := by decide +kernel
theorem dX6_fire_0 : decode cX6_fire 0 = .ok (.aload_n 0, 1) := by decide +kernel
theorem dX6_fire_1 : decode cX6_fire 1 = .ok (.iload_n 1, 1) := by decide +kernel
theorem dX6_fire_2 : decode cX6_fire 2 = .ok (.invokevirtual 183, 3) := by decide +kernel
theorem dX6_fire_5 : decode cX6_fire 5 = .ok (.ifCond .ne 6, 3) := by decide +kernel
theorem dX6_fire_8 : decode cX6_fire 8 = .ok (.bipush (-2), 2) := by decide +kernel
theorem dX6_fire_10 : decode cX6_fire 10 = .ok (.ireturn, 1) := by decide +kernel
theorem dX6_fire_11 : decode cX6_fire 11 = .ok (.iload_n 2, 1) := by decide +kernel
theorem dX6_fire_12 : decode cX6_fire 12 = .ok (.invokestatic 210, 3) := by decide +kernel
theorem dX6_fire_15 : decode cX6_fire 15 = .ok (.ifCond .ne 6, 3) := by decide +kernel
theorem dX6_fire_18 : decode cX6_fire 18 = .ok (.bipush (-3), 2) := by decide +kernel
theorem dX6_fire_20 : decode cX6_fire 20 = .ok (.ireturn, 1) := by decide +kernel
theorem dX6_fire_21 : decode cX6_fire 21 = .ok (.aload_n 0, 1) := by decide +kernel
theorem dX6_fire_22 : decode cX6_fire 22 = .ok (.iconst 0, 1) := by decide +kernel
theorem dX6_fire_23 : decode cX6_fire 23 = .ok (.bipush 42, 2) := by decide +kernel
theorem dX6_fire_25 : decode cX6_fire 25 = .ok (.invokevirtual 170, 3) := by decide +kernel
theorem dX6_fire_28 : decode cX6_fire 28 = .ok (.iconst 0, 1) := by decide +kernel
theorem dX6_fire_29 : decode cX6_fire 29 = .ok (.istore_n 3, 1) := by decide +kernel
theorem dX6_fire_30 : decode cX6_fire 30 = .ok (.iload_n 3, 1) := by decide +kernel
theorem dX6_fire_31 : decode cX6_fire 31 = .ok (.sipush 200, 3) := by decide +kernel
theorem dX6_fire_34 : decode cX6_fire 34 = .ok (.if_icmp .ge 29, 3) := by decide +kernel
theorem dX6_fire_37 : decode cX6_fire 37 = .ok (.aload_n 0, 1) := by decide +kernel
theorem dX6_fire_38 : decode cX6_fire 38 = .ok (.invokevirtual 252, 3) := by decide +kernel
theorem dX6_fire_41 : decode cX6_fire 41 = .ok (.ifCond .ne 22, 3) := by decide +kernel
theorem dX6_fire_44 : decode cX6_fire 44 = .ok (.aload_n 0, 1) := by decide +kernel
theorem dX6_fire_45 : decode cX6_fire 45 = .ok (.invokevirtual 255, 3) := by decide +kernel
theorem dX6_fire_48 : decode cX6_fire 48 = .ok (.aload_n 0, 1) := by decide +kernel
theorem dX6_fire_49 : decode cX6_fire 49 = .ok (.bipush 42, 2) := by decide +kernel
theorem dX6_fire_51 : decode cX6_fire 51 = .ok (.iload_n 1, 1) := by decide +kernel
theorem dX6_fire_52 : decode cX6_fire 52 = .ok (.iload_n 2, 1) := by decide +kernel
theorem dX6_fire_53 : decode cX6_fire 53 = .ok (.invokevirtual 207, 3) := by decide +kernel
theorem dX6_fire_56 : decode cX6_fire 56 = .ok (.pop, 1) := by decide +kernel
theorem dX6_fire_57 : decode cX6_fire 57 = .ok (.iinc 3 1, 3) := by decide +kernel
theorem dX6_fire_60 : decode cX6_fire 60 = .ok (.goto (-30), 3) := by decide +kernel
theorem dX6_fire_63 : decode cX6_fire 63 = .ok (.aload_n 0, 1) := by decide +kernel
theorem dX6_fire_64 : decode cX6_fire 64 = .ok (.invokevirtual 252, 3) := by decide +kernel
theorem dX6_fire_67 : decode cX6_fire 67 = .ok (.ifCond .eq 7, 3) := by decide +kernel
theorem dX6_fire_70 : decode cX6_fire 70 = .ok (.iload_n 3, 1) := by decide +kernel
theorem dX6_fire_71 : decode cX6_fire 71 = .ok (.goto 4, 3) := by decide +kernel
theorem dX6_fire_74 : decode cX6_fire 74 = .ok (.iconst (-1), 1) := by decide +kernel
theorem dX6_fire_75 : decode cX6_fire 75 = .ok (.ireturn, 1) := by decide +kernel
theorem dX6_seen_0 : decode cX6_seen 0 = .ok (.aload_n 0, 1) := by decide +kernel
theorem dX6_seen_1 : decode cX6_seen 1 = .ok (.iload_n 1, 1) := by decide +kernel
theorem dX6_seen_2 : decode cX6_seen 2 = .ok (.invokevirtual 183, 3) := by decide +kernel
theorem dX6_seen_5 : decode cX6_seen 5 = .ok (.ifCond .ne 6, 3) := by decide +kernel
theorem dX6_seen_8 : decode cX6_seen 8 = .ok (.bipush (-2), 2) := by decide +kernel
theorem dX6_seen_10 : decode cX6_seen 10 = .ok (.ireturn, 1) := by decide +kernel
theorem dX6_seen_11 : decode cX6_seen 11 = .ok (.iload_n 2, 1) := by decide +kernel
theorem dX6_seen_12 : decode cX6_seen 12 = .ok (.i2l, 1) := by decide +kernel
theorem dX6_seen_13 : decode cX6_seen 13 = .ok (.lconst 0, 1) := by decide +kernel
theorem dX6_seen_14 : decode cX6_seen 14 = .ok (.ldc2_w 114, 3) := by decide +kernel
theorem dX6_seen_17 : decode cX6_seen 17 = .ok (.invokestatic 60, 3) := by decide +kernel
theorem dX6_seen_20 : decode cX6_seen 20 = .ok (.ifCond .ne 6, 3) := by decide +kernel
theorem dX6_seen_23 : decode cX6_seen 23 = .ok (.bipush (-3), 2) := by decide +kernel
theorem dX6_seen_25 : decode cX6_seen 25 = .ok (.ireturn, 1) := by decide +kernel
theorem dX6_seen_26 : decode cX6_seen 26 = .ok (.aload_n 0, 1) := by decide +kernel
theorem dX6_seen_27 : decode cX6_seen 27 = .ok (.getfield 174, 3) := by decide +kernel
theorem dX6_seen_30 : decode cX6_seen 30 = .ok (.bipush 8, 2) := by decide +kernel
theorem dX6_seen_32 : decode cX6_seen 32 = .ok (.if_icmp .ne 6, 3) := by decide +kernel
theorem dX6_seen_35 : decode cX6_seen 35 = .ok (.bipush (-5), 2) := by decide +kernel
theorem dX6_seen_37 : decode cX6_seen 37 = .ok (.ireturn, 1) := by decide +kernel
theorem dX6_seen_38 : decode cX6_seen 38 = .ok (.aload_n 0, 1) := by decide +kernel
theorem dX6_seen_39 : decode cX6_seen 39 = .ok (.getfield 51, 3) := by decide +kernel
theorem dX6_seen_42 : decode cX6_seen 42 = .ok (.iconst 2, 1) := by decide +kernel
theorem dX6_seen_43 : decode cX6_seen 43 = .ok (.aload_n 0, 1) := by decide +kernel
theorem dX6_seen_44 : decode cX6_seen 44 = .ok (.getfield 174, 3) := by decide +kernel
theorem dX6_seen_47 : decode cX6_seen 47 = .ok (.imul, 1) := by decide +kernel
theorem dX6_seen_48 : decode cX6_seen 48 = .ok (.iload_n 1, 1) := by decide +kernel
theorem dX6_seen_49 : decode cX6_seen 49 = .ok (.iastore, 1) := by decide +kernel
theorem dX6_seen_50 : decode cX6_seen 50 = .ok (.aload_n 0, 1) := by decide +kernel
theorem dX6_seen_51 : decode cX6_seen 51 = .ok (.getfield 51, 3) := by decide +kernel
theorem dX6_seen_54 : decode cX6_seen 54 = .ok (.iconst 2, 1) := by decide +kernel
theorem dX6_seen_55 : decode cX6_seen 55 = .ok (.aload_n 0, 1) := by decide +kernel
theorem dX6_seen_56 : decode cX6_seen 56 = .ok (.getfield 174, 3) := by decide +kernel
theorem dX6_seen_59 : decode cX6_seen 59 = .ok (.imul, 1) := by decide +kernel
theorem dX6_seen_60 : decode cX6_seen 60 = .ok (.iconst 1, 1) := by decide +kernel
theorem dX6_seen_61 : decode cX6_seen 61 = .ok (.iadd, 1) := by decide +kernel
theorem dX6_seen_62 : decode cX6_seen 62 = .ok (.iload_n 2, 1) := by decide +kernel
theorem dX6_seen_63 : decode cX6_seen 63 = .ok (.iastore, 1) := by decide +kernel
theorem dX6_seen_64 : decode cX6_seen 64 = .ok (.aload_n 0, 1) := by decide +kernel
theorem dX6_seen_65 : decode cX6_seen 65 = .ok (.dup, 1) := by decide +kernel
theorem dX6_seen_66 : decode cX6_seen 66 = .ok (.getfield 174, 3) := by decide +kernel
theorem dX6_seen_69 : decode cX6_seen 69 = .ok (.iconst 1, 1) := by decide +kernel
theorem dX6_seen_70 : decode cX6_seen 70 = .ok (.iadd, 1) := by decide +kernel
theorem dX6_seen_71 : decode cX6_seen 71 = .ok (.putfield 174, 3) := by decide +kernel
theorem dX6_seen_74 : decode cX6_seen 74 = .ok (.aload_n 0, 1) := by decide +kernel
theorem dX6_seen_75 : decode cX6_seen 75 = .ok (.getfield 174, 3) := by decide +kernel
theorem dX6_seen_78 : decode cX6_seen 78 = .ok (.ireturn, 1) := by decide +kernel
theorem dX6_forget_0 : decode cX6_forget 0 = .ok (.aload_n 0, 1) := by decide +kernel
theorem dX6_forget_1 : decode cX6_forget 1 = .ok (.getfield 174, 3) := by decide +kernel
theorem dX6_forget_4 : decode cX6_forget 4 = .ok (.istore_n 1, 1) := by decide +kernel
theorem dX6_forget_5 : decode cX6_forget 5 = .ok (.aload_n 0, 1) := by decide +kernel
theorem dX6_forget_6 : decode cX6_forget 6 = .ok (.iconst 0, 1) := by decide +kernel
theorem dX6_forget_7 : decode cX6_forget 7 = .ok (.putfield 174, 3) := by decide +kernel
theorem dX6_forget_10 : decode cX6_forget 10 = .ok (.iload_n 1, 1) := by decide +kernel
theorem dX6_forget_11 : decode cX6_forget 11 = .ok (.ireturn, 1) := by decide +kernel
theorem dX6_least_0 : decode cX6_least 0 = .ok (.aload_n 0, 1) := by decide +kernel
theorem dX6_least_1 : decode cX6_least 1 = .ok (.iload_n 1, 1) := by decide +kernel
theorem dX6_least_2 : decode cX6_least 2 = .ok (.invokevirtual 183, 3) := by decide +kernel
theorem dX6_least_5 : decode cX6_least 5 = .ok (.ifCond .ne 6, 3) := by decide +kernel
theorem dX6_least_8 : decode cX6_least 8 = .ok (.bipush (-2), 2) := by decide +kernel
theorem dX6_least_10 : decode cX6_least 10 = .ok (.ireturn, 1) := by decide +kernel
theorem dX6_least_11 : decode cX6_least 11 = .ok (.aload_n 0, 1) := by decide +kernel
theorem dX6_least_12 : decode cX6_least 12 = .ok (.getfield 7, 3) := by decide +kernel
theorem dX6_least_15 : decode cX6_least 15 = .ok (.bipush 56, 2) := by decide +kernel
theorem dX6_least_17 : decode cX6_least 17 = .ok (.iload_n 1, 1) := by decide +kernel
theorem dX6_least_18 : decode cX6_least 18 = .ok (.iadd, 1) := by decide +kernel
theorem dX6_least_19 : decode cX6_least 19 = .ok (.iaload, 1) := by decide +kernel
theorem dX6_least_20 : decode cX6_least 20 = .ok (.istore_n 2, 1) := by decide +kernel
theorem dX6_least_21 : decode cX6_least 21 = .ok (.iconst 0, 1) := by decide +kernel
theorem dX6_least_22 : decode cX6_least 22 = .ok (.istore_n 3, 1) := by decide +kernel
theorem dX6_least_23 : decode cX6_least 23 = .ok (.iconst 0, 1) := by decide +kernel
theorem dX6_least_24 : decode cX6_least 24 = .ok (.istore 4, 2) := by decide +kernel
theorem dX6_least_26 : decode cX6_least 26 = .ok (.iload 4, 2) := by decide +kernel
theorem dX6_least_28 : decode cX6_least 28 = .ok (.aload_n 0, 1) := by decide +kernel
theorem dX6_least_29 : decode cX6_least 29 = .ok (.getfield 174, 3) := by decide +kernel
theorem dX6_least_32 : decode cX6_least 32 = .ok (.if_icmp .ge 52, 3) := by decide +kernel
theorem dX6_least_35 : decode cX6_least 35 = .ok (.aload_n 0, 1) := by decide +kernel
theorem dX6_least_36 : decode cX6_least 36 = .ok (.getfield 51, 3) := by decide +kernel
theorem dX6_least_39 : decode cX6_least 39 = .ok (.iconst 2, 1) := by decide +kernel
theorem dX6_least_40 : decode cX6_least 40 = .ok (.iload 4, 2) := by decide +kernel
theorem dX6_least_42 : decode cX6_least 42 = .ok (.imul, 1) := by decide +kernel
theorem dX6_least_43 : decode cX6_least 43 = .ok (.iaload, 1) := by decide +kernel
theorem dX6_least_44 : decode cX6_least 44 = .ok (.iload_n 1, 1) := by decide +kernel
theorem dX6_least_45 : decode cX6_least 45 = .ok (.if_icmp .ne 33, 3) := by decide +kernel
theorem dX6_least_48 : decode cX6_least 48 = .ok (.iload_n 3, 1) := by decide +kernel
theorem dX6_least_49 : decode cX6_least 49 = .ok (.iload_n 2, 1) := by decide +kernel
theorem dX6_least_50 : decode cX6_least 50 = .ok (.aload_n 0, 1) := by decide +kernel
theorem dX6_least_51 : decode cX6_least 51 = .ok (.getfield 51, 3) := by decide +kernel
theorem dX6_least_54 : decode cX6_least 54 = .ok (.iconst 2, 1) := by decide +kernel
theorem dX6_least_55 : decode cX6_least 55 = .ok (.iload 4, 2) := by decide +kernel
theorem dX6_least_57 : decode cX6_least 57 = .ok (.imul, 1) := by decide +kernel
theorem dX6_least_58 : decode cX6_least 58 = .ok (.iconst 1, 1) := by decide +kernel
theorem dX6_least_59 : decode cX6_least 59 = .ok (.iadd, 1) := by decide +kernel
theorem dX6_least_60 : decode cX6_least 60 = .ok (.iaload, 1) := by decide +kernel
theorem dX6_least_61 : decode cX6_least 61 = .ok (.invokestatic 258, 3) := by decide +kernel
theorem dX6_least_64 : decode cX6_least 64 = .ok (.iadd, 1) := by decide +kernel
theorem dX6_least_65 : decode cX6_least 65 = .ok (.istore_n 3, 1) := by decide +kernel
theorem dX6_least_66 : decode cX6_least 66 = .ok (.aload_n 0, 1) := by decide +kernel
theorem dX6_least_67 : decode cX6_least 67 = .ok (.getfield 51, 3) := by decide +kernel
theorem dX6_least_70 : decode cX6_least 70 = .ok (.iconst 2, 1) := by decide +kernel
theorem dX6_least_71 : decode cX6_least 71 = .ok (.iload 4, 2) := by decide +kernel
theorem dX6_least_73 : decode cX6_least 73 = .ok (.imul, 1) := by decide +kernel
theorem dX6_least_74 : decode cX6_least 74 = .ok (.iconst 1, 1) := by decide +kernel
theorem dX6_least_75 : decode cX6_least 75 = .ok (.iadd, 1) := by decide +kernel
theorem dX6_least_76 : decode cX6_least 76 = .ok (.iaload, 1) := by decide +kernel
theorem dX6_least_77 : decode cX6_least 77 = .ok (.istore_n 2, 1) := by decide +kernel
theorem dX6_least_78 : decode cX6_least 78 = .ok (.iinc 4 1, 3) := by decide +kernel
theorem dX6_least_81 : decode cX6_least 81 = .ok (.goto (-55), 3) := by decide +kernel
theorem dX6_least_84 : decode cX6_least 84 = .ok (.iload_n 3, 1) := by decide +kernel
theorem dX6_least_85 : decode cX6_least 85 = .ok (.iload_n 2, 1) := by decide +kernel
theorem dX6_least_86 : decode cX6_least 86 = .ok (.aload_n 0, 1) := by decide +kernel
theorem dX6_least_87 : decode cX6_least 87 = .ok (.getfield 7, 3) := by decide +kernel
theorem dX6_least_90 : decode cX6_least 90 = .ok (.iload_n 1, 1) := by decide +kernel
theorem dX6_least_91 : decode cX6_least 91 = .ok (.iaload, 1) := by decide +kernel
theorem dX6_least_92 : decode cX6_least 92 = .ok (.invokestatic 258, 3) := by decide +kernel
theorem dX6_least_95 : decode cX6_least 95 = .ok (.iadd, 1) := by decide +kernel
theorem dX6_least_96 : decode cX6_least 96 = .ok (.ireturn, 1) := by decide +kernel
theorem dX6_count_0 : decode cX6_count 0 = .ok (.iconst 0, 1) := by decide +kernel
theorem dX6_count_1 : decode cX6_count 1 = .ok (.istore_n 2, 1) := by decide +kernel
theorem dX6_count_2 : decode cX6_count 2 = .ok (.iconst 0, 1) := by decide +kernel
theorem dX6_count_3 : decode cX6_count 3 = .ok (.istore_n 3, 1) := by decide +kernel
theorem dX6_count_4 : decode cX6_count 4 = .ok (.iconst 0, 1) := by decide +kernel
theorem dX6_count_5 : decode cX6_count 5 = .ok (.istore 4, 2) := by decide +kernel
theorem dX6_count_7 : decode cX6_count 7 = .ok (.iload 4, 2) := by decide +kernel
theorem dX6_count_9 : decode cX6_count 9 = .ok (.aload_n 0, 1) := by decide +kernel
theorem dX6_count_10 : decode cX6_count 10 = .ok (.getfield 23, 3) := by decide +kernel
theorem dX6_count_13 : decode cX6_count 13 = .ok (.if_icmp .ge 30, 3) := by decide +kernel
theorem dX6_count_16 : decode cX6_count 16 = .ok (.iload_n 2, 1) := by decide +kernel
theorem dX6_count_17 : decode cX6_count 17 = .ok (.aload_n 0, 1) := by decide +kernel
theorem dX6_count_18 : decode cX6_count 18 = .ok (.iconst 0, 1) := by decide +kernel
theorem dX6_count_19 : decode cX6_count 19 = .ok (.iload 4, 2) := by decide +kernel
theorem dX6_count_21 : decode cX6_count 21 = .ok (.invokevirtual 186, 3) := by decide +kernel
theorem dX6_count_24 : decode cX6_count 24 = .ok (.ifCond .eq 10, 3) := by decide +kernel
theorem dX6_count_27 : decode cX6_count 27 = .ok (.iconst 1, 1) := by decide +kernel
theorem dX6_count_28 : decode cX6_count 28 = .ok (.iload 4, 2) := by decide +kernel
theorem dX6_count_30 : decode cX6_count 30 = .ok (.ishl, 1) := by decide +kernel
theorem dX6_count_31 : decode cX6_count 31 = .ok (.goto 4, 3) := by decide +kernel
theorem dX6_count_34 : decode cX6_count 34 = .ok (.iconst 0, 1) := by decide +kernel
theorem dX6_count_35 : decode cX6_count 35 = .ok (.ior, 1) := by decide +kernel
theorem dX6_count_36 : decode cX6_count 36 = .ok (.istore_n 2, 1) := by decide +kernel
theorem dX6_count_37 : decode cX6_count 37 = .ok (.iinc 4 1, 3) := by decide +kernel
theorem dX6_count_40 : decode cX6_count 40 = .ok (.goto (-33), 3) := by decide +kernel
theorem dX6_count_43 : decode cX6_count 43 = .ok (.iconst 0, 1) := by decide +kernel
theorem dX6_count_44 : decode cX6_count 44 = .ok (.istore 4, 2) := by decide +kernel
theorem dX6_count_46 : decode cX6_count 46 = .ok (.iload 4, 2) := by decide +kernel
theorem dX6_count_48 : decode cX6_count 48 = .ok (.aload_n 0, 1) := by decide +kernel
theorem dX6_count_49 : decode cX6_count 49 = .ok (.getfield 153, 3) := by decide +kernel
theorem dX6_count_52 : decode cX6_count 52 = .ok (.if_icmp .ge 34, 3) := by decide +kernel
theorem dX6_count_55 : decode cX6_count 55 = .ok (.iload_n 3, 1) := by decide +kernel
theorem dX6_count_56 : decode cX6_count 56 = .ok (.aload_n 0, 1) := by decide +kernel
theorem dX6_count_57 : decode cX6_count 57 = .ok (.getfield 7, 3) := by decide +kernel
theorem dX6_count_60 : decode cX6_count 60 = .ok (.bipush 8, 2) := by decide +kernel
theorem dX6_count_62 : decode cX6_count 62 = .ok (.iload 4, 2) := by decide +kernel
theorem dX6_count_64 : decode cX6_count 64 = .ok (.iadd, 1) := by decide +kernel
theorem dX6_count_65 : decode cX6_count 65 = .ok (.iaload, 1) := by decide +kernel
theorem dX6_count_66 : decode cX6_count 66 = .ok (.iconst (-1), 1) := by decide +kernel
theorem dX6_count_67 : decode cX6_count 67 = .ok (.if_icmp .ne 10, 3) := by decide +kernel
theorem dX6_count_70 : decode cX6_count 70 = .ok (.iconst 1, 1) := by decide +kernel
theorem dX6_count_71 : decode cX6_count 71 = .ok (.iload 4, 2) := by decide +kernel
theorem dX6_count_73 : decode cX6_count 73 = .ok (.ishl, 1) := by decide +kernel
theorem dX6_count_74 : decode cX6_count 74 = .ok (.goto 4, 3) := by decide +kernel
theorem dX6_count_77 : decode cX6_count 77 = .ok (.iconst 0, 1) := by decide +kernel
theorem dX6_count_78 : decode cX6_count 78 = .ok (.ior, 1) := by decide +kernel
theorem dX6_count_79 : decode cX6_count 79 = .ok (.istore_n 3, 1) := by decide +kernel
theorem dX6_count_80 : decode cX6_count 80 = .ok (.iinc 4 1, 3) := by decide +kernel
theorem dX6_count_83 : decode cX6_count 83 = .ok (.goto (-37), 3) := by decide +kernel
theorem dX6_count_86 : decode cX6_count 86 = .ok (.iload_n 1, 1) := by decide +kernel
theorem dX6_count_87 : decode cX6_count 87 = .ok (.tableswitch 82 0 7 #[45, 50, 55, 60, 68, 70, 72, 77], 45) := by decide +kernel
theorem dX6_count_132 : decode cX6_count 132 = .ok (.aload_n 0, 1) := by decide +kernel
theorem dX6_count_133 : decode cX6_count 133 = .ok (.getfield 23, 3) := by decide +kernel
theorem dX6_count_136 : decode cX6_count 136 = .ok (.ireturn, 1) := by decide +kernel
theorem dX6_count_137 : decode cX6_count 137 = .ok (.aload_n 0, 1) := by decide +kernel
theorem dX6_count_138 : decode cX6_count 138 = .ok (.getfield 150, 3) := by decide +kernel
theorem dX6_count_141 : decode cX6_count 141 = .ok (.ireturn, 1) := by decide +kernel
theorem dX6_count_142 : decode cX6_count 142 = .ok (.aload_n 0, 1) := by decide +kernel
theorem dX6_count_143 : decode cX6_count 143 = .ok (.getfield 153, 3) := by decide +kernel
theorem dX6_count_146 : decode cX6_count 146 = .ok (.ireturn, 1) := by decide +kernel
theorem dX6_count_147 : decode cX6_count 147 = .ok (.aload_n 0, 1) := by decide +kernel
theorem dX6_count_148 : decode cX6_count 148 = .ok (.getfield 7, 3) := by decide +kernel
theorem dX6_count_151 : decode cX6_count 151 = .ok (.bipush 13, 2) := by decide +kernel
theorem dX6_count_153 : decode cX6_count 153 = .ok (.iaload, 1) := by decide +kernel
theorem dX6_count_154 : decode cX6_count 154 = .ok (.ireturn, 1) := by decide +kernel
theorem dX6_count_155 : decode cX6_count 155 = .ok (.iload_n 2, 1) := by decide +kernel
theorem dX6_count_156 : decode cX6_count 156 = .ok (.ireturn, 1) := by decide +kernel
theorem dX6_count_157 : decode cX6_count 157 = .ok (.iload_n 3, 1) := by decide +kernel
theorem dX6_count_158 : decode cX6_count 158 = .ok (.ireturn, 1) := by decide +kernel
theorem dX6_count_159 : decode cX6_count 159 = .ok (.aload_n 0, 1) := by decide +kernel
theorem dX6_count_160 : decode cX6_count 160 = .ok (.getfield 174, 3) := by decide +kernel
theorem dX6_count_163 : decode cX6_count 163 = .ok (.ireturn, 1) := by decide +kernel
theorem dX6_count_164 : decode cX6_count 164 = .ok (.aload_n 0, 1) := by decide +kernel
theorem dX6_count_165 : decode cX6_count 165 = .ok (.getfield 64, 3) := by decide +kernel
theorem dX6_count_168 : decode cX6_count 168 = .ok (.ireturn, 1) := by decide +kernel
theorem dX6_count_169 : decode cX6_count 169 = .ok (.bipush (-3), 2) := by decide +kernel
theorem dX6_count_171 : decode cX6_count 171 = .ok (.ireturn, 1) := by decide +kernel
end
section
theorem dX0_init_0 : decode cX0_init 0 = .ok (.aload_n 0, 1) := by decide +kernel
theorem dX0_init_1 : decode cX0_init 1 = .ok (.invokespecial 3, 3) := by decide +kernel
theorem dX0_init_4 : decode cX0_init 4 = .ok (.aload_n 0, 1) := by decide +kernel
theorem dX0_init_5 : decode cX0_init 5 = .ok (.bipush 8, 2) := by decide +kernel
theorem dX0_init_7 : decode cX0_init 7 = .ok (.newarray .int, 2) := by decide +kernel
theorem dX0_init_9 : decode cX0_init 9 = .ok (.putfield 9, 3) := by decide +kernel
theorem dX0_init_12 : decode cX0_init 12 = .ok (.aload_n 0, 1) := by decide +kernel
theorem dX0_init_13 : decode cX0_init 13 = .ok (.iconst 5, 1) := by decide +kernel
theorem dX0_init_14 : decode cX0_init 14 = .ok (.newarray .int, 2) := by decide +kernel
theorem dX0_init_16 : decode cX0_init 16 = .ok (.putfield 15, 3) := by decide +kernel
theorem dX0_init_19 : decode cX0_init 19 = .ok (.aload_n 0, 1) := by decide +kernel
theorem dX0_init_20 : decode cX0_init 20 = .ok (.aload_n 1, 1) := by decide +kernel
theorem dX0_init_21 : decode cX0_init 21 = .ok (.putfield 18, 3) := by decide +kernel
theorem dX0_init_24 : decode cX0_init 24 = .ok (.return_, 1) := by decide +kernel
theorem dX0_begin_0 : decode cX0_begin 0 = .ok (.aload_n 0, 1) := by decide +kernel
theorem dX0_begin_1 : decode cX0_begin 1 = .ok (.getfield 18, 3) := by decide +kernel
theorem dX0_begin_4 : decode cX0_begin 4 = .ok (.getfield 22, 3) := by decide +kernel
theorem dX0_begin_7 : decode cX0_begin 7 = .ok (.iconst 0, 1) := by decide +kernel
theorem dX0_begin_8 : decode cX0_begin 8 = .ok (.aload_n 0, 1) := by decide +kernel
theorem dX0_begin_9 : decode cX0_begin 9 = .ok (.getfield 9, 3) := by decide +kernel
theorem dX0_begin_12 : decode cX0_begin 12 = .ok (.iconst 0, 1) := by decide +kernel
theorem dX0_begin_13 : decode cX0_begin 13 = .ok (.bipush 8, 2) := by decide +kernel
theorem dX0_begin_15 : decode cX0_begin 15 = .ok (.invokestatic 27, 3) := by decide +kernel
theorem dX0_begin_18 : decode cX0_begin 18 = .ok (.aload_n 0, 1) := by decide +kernel
theorem dX0_begin_19 : decode cX0_begin 19 = .ok (.getfield 18, 3) := by decide +kernel
theorem dX0_begin_22 : decode cX0_begin 22 = .ok (.getfield 33, 3) := by decide +kernel
theorem dX0_begin_25 : decode cX0_begin 25 = .ok (.iconst 0, 1) := by decide +kernel
theorem dX0_begin_26 : decode cX0_begin 26 = .ok (.aload_n 0, 1) := by decide +kernel
theorem dX0_begin_27 : decode cX0_begin 27 = .ok (.getfield 15, 3) := by decide +kernel
theorem dX0_begin_30 : decode cX0_begin 30 = .ok (.iconst 0, 1) := by decide +kernel
theorem dX0_begin_31 : decode cX0_begin 31 = .ok (.iconst 5, 1) := by decide +kernel
theorem dX0_begin_32 : decode cX0_begin 32 = .ok (.invokestatic 27, 3) := by decide +kernel
theorem dX0_begin_35 : decode cX0_begin 35 = .ok (.aload_n 0, 1) := by decide +kernel
theorem dX0_begin_36 : decode cX0_begin 36 = .ok (.iconst 0, 1) := by decide +kernel
theorem dX0_begin_37 : decode cX0_begin 37 = .ok (.putfield 34, 3) := by decide +kernel
theorem dX0_begin_40 : decode cX0_begin 40 = .ok (.return_, 1) := by decide +kernel
theorem dX0_copy_0 : decode cX0_copy 0 = .ok (.aload_n 1, 1) := by decide +kernel
theorem dX0_copy_1 : decode cX0_copy 1 = .ok (.getfield 9, 3) := by decide +kernel
theorem dX0_copy_4 : decode cX0_copy 4 = .ok (.iconst 0, 1) := by decide +kernel
theorem dX0_copy_5 : decode cX0_copy 5 = .ok (.aload_n 0, 1) := by decide +kernel
theorem dX0_copy_6 : decode cX0_copy 6 = .ok (.getfield 9, 3) := by decide +kernel
theorem dX0_copy_9 : decode cX0_copy 9 = .ok (.iconst 0, 1) := by decide +kernel
theorem dX0_copy_10 : decode cX0_copy 10 = .ok (.bipush 8, 2) := by decide +kernel
theorem dX0_copy_12 : decode cX0_copy 12 = .ok (.invokestatic 27, 3) := by decide +kernel
theorem dX0_copy_15 : decode cX0_copy 15 = .ok (.aload_n 1, 1) := by decide +kernel
theorem dX0_copy_16 : decode cX0_copy 16 = .ok (.getfield 15, 3) := by decide +kernel
theorem dX0_copy_19 : decode cX0_copy 19 = .ok (.iconst 0, 1) := by decide +kernel
theorem dX0_copy_20 : decode cX0_copy 20 = .ok (.aload_n 0, 1) := by decide +kernel
theorem dX0_copy_21 : decode cX0_copy 21 = .ok (.getfield 15, 3) := by decide +kernel
theorem dX0_copy_24 : decode cX0_copy 24 = .ok (.iconst 0, 1) := by decide +kernel
theorem dX0_copy_25 : decode cX0_copy 25 = .ok (.iconst 5, 1) := by decide +kernel
theorem dX0_copy_26 : decode cX0_copy 26 = .ok (.invokestatic 27, 3) := by decide +kernel
theorem dX0_copy_29 : decode cX0_copy 29 = .ok (.aload_n 0, 1) := by decide +kernel
theorem dX0_copy_30 : decode cX0_copy 30 = .ok (.aload_n 1, 1) := by decide +kernel
theorem dX0_copy_31 : decode cX0_copy 31 = .ok (.getfield 34, 3) := by decide +kernel
theorem dX0_copy_34 : decode cX0_copy 34 = .ok (.putfield 34, 3) := by decide +kernel
theorem dX0_copy_37 : decode cX0_copy 37 = .ok (.return_, 1) := by decide +kernel
theorem dX0_width_0 : decode cX0_width 0 = .ok (.aload_n 0, 1) := by decide +kernel
theorem dX0_width_1 : decode cX0_width 1 = .ok (.getfield 9, 3) := by decide +kernel
theorem dX0_width_4 : decode cX0_width 4 = .ok (.iload_n 1, 1) := by decide +kernel
theorem dX0_width_5 : decode cX0_width 5 = .ok (.iaload, 1) := by decide +kernel
theorem dX0_width_6 : decode cX0_width 6 = .ok (.aload_n 0, 1) := by decide +kernel
theorem dX0_width_7 : decode cX0_width 7 = .ok (.getfield 9, 3) := by decide +kernel
theorem dX0_width_10 : decode cX0_width 10 = .ok (.aload_n 0, 1) := by decide +kernel
theorem dX0_width_11 : decode cX0_width 11 = .ok (.getfield 18, 3) := by decide +kernel
theorem dX0_width_14 : decode cX0_width 14 = .ok (.iload_n 1, 1) := by decide +kernel
theorem dX0_width_15 : decode cX0_width 15 = .ok (.invokevirtual 38, 3) := by decide +kernel
theorem dX0_width_18 : decode cX0_width 18 = .ok (.iaload, 1) := by decide +kernel
theorem dX0_width_19 : decode cX0_width 19 = .ok (.invokestatic 42, 3) := by decide +kernel
theorem dX0_width_22 : decode cX0_width 22 = .ok (.ireturn, 1) := by decide +kernel
theorem dX0_slack_0 : decode cX0_slack 0 = .ok (.aload_n 0, 1) := by decide +kernel
theorem dX0_slack_1 : decode cX0_slack 1 = .ok (.iload_n 1, 1) := by decide +kernel
theorem dX0_slack_2 : decode cX0_slack 2 = .ok (.invokevirtual 46, 3) := by decide +kernel
theorem dX0_slack_5 : decode cX0_slack 5 = .ok (.aload_n 0, 1) := by decide +kernel
theorem dX0_slack_6 : decode cX0_slack 6 = .ok (.getfield 18, 3) := by decide +kernel
theorem dX0_slack_9 : decode cX0_slack 9 = .ok (.iload_n 1, 1) := by decide +kernel
theorem dX0_slack_10 : decode cX0_slack 10 = .ok (.invokevirtual 49, 3) := by decide +kernel
theorem dX0_slack_13 : decode cX0_slack 13 = .ok (.isub, 1) := by decide +kernel
theorem dX0_slack_14 : decode cX0_slack 14 = .ok (.ireturn, 1) := by decide +kernel
theorem dX0_isOpen_0 : decode cX0_isOpen 0 = .ok (.aload_n 0, 1) := by decide +kernel
theorem dX0_isOpen_1 : decode cX0_isOpen 1 = .ok (.iload_n 1, 1) := by decide +kernel
theorem dX0_isOpen_2 : decode cX0_isOpen 2 = .ok (.invokevirtual 46, 3) := by decide +kernel
theorem dX0_isOpen_5 : decode cX0_isOpen 5 = .ok (.istore_n 2, 1) := by decide +kernel
theorem dX0_isOpen_6 : decode cX0_isOpen 6 = .ok (.iconst 0, 1) := by decide +kernel
theorem dX0_isOpen_7 : decode cX0_isOpen 7 = .ok (.istore_n 3, 1) := by decide +kernel
theorem dX0_isOpen_8 : decode cX0_isOpen 8 = .ok (.iload_n 3, 1) := by decide +kernel
theorem dX0_isOpen_9 : decode cX0_isOpen 9 = .ok (.aload_n 0, 1) := by decide +kernel
theorem dX0_isOpen_10 : decode cX0_isOpen 10 = .ok (.getfield 18, 3) := by decide +kernel
theorem dX0_isOpen_13 : decode cX0_isOpen 13 = .ok (.getfield 52, 3) := by decide +kernel
theorem dX0_isOpen_16 : decode cX0_isOpen 16 = .ok (.if_icmp .ge 42, 3) := by decide +kernel
theorem dX0_isOpen_19 : decode cX0_isOpen 19 = .ok (.aload_n 0, 1) := by decide +kernel
theorem dX0_isOpen_20 : decode cX0_isOpen 20 = .ok (.getfield 9, 3) := by decide +kernel
theorem dX0_isOpen_23 : decode cX0_isOpen 23 = .ok (.iload_n 1, 1) := by decide +kernel
theorem dX0_isOpen_24 : decode cX0_isOpen 24 = .ok (.iaload, 1) := by decide +kernel
theorem dX0_isOpen_25 : decode cX0_isOpen 25 = .ok (.aload_n 0, 1) := by decide +kernel
theorem dX0_isOpen_26 : decode cX0_isOpen 26 = .ok (.getfield 18, 3) := by decide +kernel
theorem dX0_isOpen_29 : decode cX0_isOpen 29 = .ok (.getfield 55, 3) := by decide +kernel
theorem dX0_isOpen_32 : decode cX0_isOpen 32 = .ok (.iload_n 3, 1) := by decide +kernel
theorem dX0_isOpen_33 : decode cX0_isOpen 33 = .ok (.iaload, 1) := by decide +kernel
theorem dX0_isOpen_34 : decode cX0_isOpen 34 = .ok (.invokestatic 42, 3) := by decide +kernel
theorem dX0_isOpen_37 : decode cX0_isOpen 37 = .ok (.istore 4, 2) := by decide +kernel
theorem dX0_isOpen_39 : decode cX0_isOpen 39 = .ok (.iload 4, 2) := by decide +kernel
theorem dX0_isOpen_41 : decode cX0_isOpen 41 = .ok (.ifCond .le 11, 3) := by decide +kernel
theorem dX0_isOpen_44 : decode cX0_isOpen 44 = .ok (.iload 4, 2) := by decide +kernel
theorem dX0_isOpen_46 : decode cX0_isOpen 46 = .ok (.iload_n 2, 1) := by decide +kernel
theorem dX0_isOpen_47 : decode cX0_isOpen 47 = .ok (.if_icmp .ge 5, 3) := by decide +kernel
theorem dX0_isOpen_50 : decode cX0_isOpen 50 = .ok (.iconst 1, 1) := by decide +kernel
theorem dX0_isOpen_51 : decode cX0_isOpen 51 = .ok (.ireturn, 1) := by decide +kernel
theorem dX0_isOpen_52 : decode cX0_isOpen 52 = .ok (.iinc 3 1, 3) := by decide +kernel
theorem dX0_isOpen_55 : decode cX0_isOpen 55 = .ok (.goto (-47), 3) := by decide +kernel
theorem dX0_isOpen_58 : decode cX0_isOpen 58 = .ok (.iconst 0, 1) := by decide +kernel
theorem dX0_isOpen_59 : decode cX0_isOpen 59 = .ok (.ireturn, 1) := by decide +kernel
theorem dX0_openRooms_0 : decode cX0_openRooms 0 = .ok (.iconst 0, 1) := by decide +kernel
theorem dX0_openRooms_1 : decode cX0_openRooms 1 = .ok (.istore_n 1, 1) := by decide +kernel
theorem dX0_openRooms_2 : decode cX0_openRooms 2 = .ok (.iconst 0, 1) := by decide +kernel
theorem dX0_openRooms_3 : decode cX0_openRooms 3 = .ok (.istore_n 2, 1) := by decide +kernel
theorem dX0_openRooms_4 : decode cX0_openRooms 4 = .ok (.iload_n 2, 1) := by decide +kernel
theorem dX0_openRooms_5 : decode cX0_openRooms 5 = .ok (.aload_n 0, 1) := by decide +kernel
theorem dX0_openRooms_6 : decode cX0_openRooms 6 = .ok (.getfield 18, 3) := by decide +kernel
theorem dX0_openRooms_9 : decode cX0_openRooms 9 = .ok (.getfield 58, 3) := by decide +kernel
theorem dX0_openRooms_12 : decode cX0_openRooms 12 = .ok (.if_icmp .ge 23, 3) := by decide +kernel
theorem dX0_openRooms_15 : decode cX0_openRooms 15 = .ok (.aload_n 0, 1) := by decide +kernel
theorem dX0_openRooms_16 : decode cX0_openRooms 16 = .ok (.iload_n 2, 1) := by decide +kernel
theorem dX0_openRooms_17 : decode cX0_openRooms 17 = .ok (.invokevirtual 61, 3) := by decide +kernel
theorem dX0_openRooms_20 : decode cX0_openRooms 20 = .ok (.ifCond .eq 9, 3) := by decide +kernel
theorem dX0_openRooms_23 : decode cX0_openRooms 23 = .ok (.iload_n 1, 1) := by decide +kernel
theorem dX0_openRooms_24 : decode cX0_openRooms 24 = .ok (.iconst 1, 1) := by decide +kernel
theorem dX0_openRooms_25 : decode cX0_openRooms 25 = .ok (.iload_n 2, 1) := by decide +kernel
theorem dX0_openRooms_26 : decode cX0_openRooms 26 = .ok (.ishl, 1) := by decide +kernel
theorem dX0_openRooms_27 : decode cX0_openRooms 27 = .ok (.ior, 1) := by decide +kernel
theorem dX0_openRooms_28 : decode cX0_openRooms 28 = .ok (.istore_n 1, 1) := by decide +kernel
theorem dX0_openRooms_29 : decode cX0_openRooms 29 = .ok (.iinc 2 1, 3) := by decide +kernel
theorem dX0_openRooms_32 : decode cX0_openRooms 32 = .ok (.goto (-28), 3) := by decide +kernel
theorem dX0_openRooms_35 : decode cX0_openRooms 35 = .ok (.iload_n 1, 1) := by decide +kernel
theorem dX0_openRooms_36 : decode cX0_openRooms 36 = .ok (.ireturn, 1) := by decide +kernel
theorem dX0_peopleAt_0 : decode cX0_peopleAt 0 = .ok (.iconst 0, 1) := by decide +kernel
theorem dX0_peopleAt_1 : decode cX0_peopleAt 1 = .ok (.istore_n 2, 1) := by decide +kernel
theorem dX0_peopleAt_2 : decode cX0_peopleAt 2 = .ok (.iconst 0, 1) := by decide +kernel
theorem dX0_peopleAt_3 : decode cX0_peopleAt 3 = .ok (.istore_n 3, 1) := by decide +kernel
theorem dX0_peopleAt_4 : decode cX0_peopleAt 4 = .ok (.iload_n 3, 1) := by decide +kernel
theorem dX0_peopleAt_5 : decode cX0_peopleAt 5 = .ok (.aload_n 0, 1) := by decide +kernel
theorem dX0_peopleAt_6 : decode cX0_peopleAt 6 = .ok (.getfield 18, 3) := by decide +kernel
theorem dX0_peopleAt_9 : decode cX0_peopleAt 9 = .ok (.getfield 65, 3) := by decide +kernel
theorem dX0_peopleAt_12 : decode cX0_peopleAt 12 = .ok (.if_icmp .ge 25, 3) := by decide +kernel
theorem dX0_peopleAt_15 : decode cX0_peopleAt 15 = .ok (.aload_n 0, 1) := by decide +kernel
theorem dX0_peopleAt_16 : decode cX0_peopleAt 16 = .ok (.getfield 15, 3) := by decide +kernel
theorem dX0_peopleAt_19 : decode cX0_peopleAt 19 = .ok (.iload_n 3, 1) := by decide +kernel
theorem dX0_peopleAt_20 : decode cX0_peopleAt 20 = .ok (.iaload, 1) := by decide +kernel
theorem dX0_peopleAt_21 : decode cX0_peopleAt 21 = .ok (.iload_n 1, 1) := by decide +kernel
theorem dX0_peopleAt_22 : decode cX0_peopleAt 22 = .ok (.if_icmp .ne 9, 3) := by decide +kernel
theorem dX0_peopleAt_25 : decode cX0_peopleAt 25 = .ok (.iload_n 2, 1) := by decide +kernel
theorem dX0_peopleAt_26 : decode cX0_peopleAt 26 = .ok (.iconst 1, 1) := by decide +kernel
theorem dX0_peopleAt_27 : decode cX0_peopleAt 27 = .ok (.iload_n 3, 1) := by decide +kernel
theorem dX0_peopleAt_28 : decode cX0_peopleAt 28 = .ok (.ishl, 1) := by decide +kernel
theorem dX0_peopleAt_29 : decode cX0_peopleAt 29 = .ok (.ior, 1) := by decide +kernel
theorem dX0_peopleAt_30 : decode cX0_peopleAt 30 = .ok (.istore_n 2, 1) := by decide +kernel
theorem dX0_peopleAt_31 : decode cX0_peopleAt 31 = .ok (.iinc 3 1, 3) := by decide +kernel
theorem dX0_peopleAt_34 : decode cX0_peopleAt 34 = .ok (.goto (-30), 3) := by decide +kernel
theorem dX0_peopleAt_37 : decode cX0_peopleAt 37 = .ok (.iload_n 2, 1) := by decide +kernel
theorem dX0_peopleAt_38 : decode cX0_peopleAt 38 = .ok (.ireturn, 1) := by decide +kernel
theorem dX0_areAllOut_0 : decode cX0_areAllOut 0 = .ok (.iconst 0, 1) := by decide +kernel
theorem dX0_areAllOut_1 : decode cX0_areAllOut 1 = .ok (.istore_n 1, 1) := by decide +kernel
theorem dX0_areAllOut_2 : decode cX0_areAllOut 2 = .ok (.iload_n 1, 1) := by decide +kernel
theorem dX0_areAllOut_3 : decode cX0_areAllOut 3 = .ok (.aload_n 0, 1) := by decide +kernel
theorem dX0_areAllOut_4 : decode cX0_areAllOut 4 = .ok (.getfield 18, 3) := by decide +kernel
theorem dX0_areAllOut_7 : decode cX0_areAllOut 7 = .ok (.getfield 65, 3) := by decide +kernel
theorem dX0_areAllOut_10 : decode cX0_areAllOut 10 = .ok (.if_icmp .ge 21, 3) := by decide +kernel
theorem dX0_areAllOut_13 : decode cX0_areAllOut 13 = .ok (.aload_n 0, 1) := by decide +kernel
theorem dX0_areAllOut_14 : decode cX0_areAllOut 14 = .ok (.getfield 15, 3) := by decide +kernel
theorem dX0_areAllOut_17 : decode cX0_areAllOut 17 = .ok (.iload_n 1, 1) := by decide +kernel
theorem dX0_areAllOut_18 : decode cX0_areAllOut 18 = .ok (.iaload, 1) := by decide +kernel
theorem dX0_areAllOut_19 : decode cX0_areAllOut 19 = .ok (.iconst (-1), 1) := by decide +kernel
theorem dX0_areAllOut_20 : decode cX0_areAllOut 20 = .ok (.if_icmp .eq 5, 3) := by decide +kernel
theorem dX0_areAllOut_23 : decode cX0_areAllOut 23 = .ok (.iconst 0, 1) := by decide +kernel
theorem dX0_areAllOut_24 : decode cX0_areAllOut 24 = .ok (.ireturn, 1) := by decide +kernel
theorem dX0_areAllOut_25 : decode cX0_areAllOut 25 = .ok (.iinc 1 1, 3) := by decide +kernel
theorem dX0_areAllOut_28 : decode cX0_areAllOut 28 = .ok (.goto (-26), 3) := by decide +kernel
theorem dX0_areAllOut_31 : decode cX0_areAllOut 31 = .ok (.iconst 1, 1) := by decide +kernel
theorem dX0_areAllOut_32 : decode cX0_areAllOut 32 = .ok (.ireturn, 1) := by decide +kernel
theorem dX0_letOut_0 : decode cX0_letOut 0 = .ok (.iconst 0, 1) := by decide +kernel
theorem dX0_letOut_1 : decode cX0_letOut 1 = .ok (.istore_n 1, 1) := by decide +kernel
theorem dX0_letOut_2 : decode cX0_letOut 2 = .ok (.iload_n 1, 1) := by decide +kernel
theorem dX0_letOut_3 : decode cX0_letOut 3 = .ok (.aload_n 0, 1) := by decide +kernel
theorem dX0_letOut_4 : decode cX0_letOut 4 = .ok (.getfield 18, 3) := by decide +kernel
theorem dX0_letOut_7 : decode cX0_letOut 7 = .ok (.getfield 58, 3) := by decide +kernel
theorem dX0_letOut_10 : decode cX0_letOut 10 = .ok (.if_icmp .ge 22, 3) := by decide +kernel
theorem dX0_letOut_13 : decode cX0_letOut 13 = .ok (.aload_n 0, 1) := by decide +kernel
theorem dX0_letOut_14 : decode cX0_letOut 14 = .ok (.iload_n 1, 1) := by decide +kernel
theorem dX0_letOut_15 : decode cX0_letOut 15 = .ok (.invokevirtual 61, 3) := by decide +kernel
theorem dX0_letOut_18 : decode cX0_letOut 18 = .ok (.ifCond .eq 8, 3) := by decide +kernel
theorem dX0_letOut_21 : decode cX0_letOut 21 = .ok (.aload_n 0, 1) := by decide +kernel
theorem dX0_letOut_22 : decode cX0_letOut 22 = .ok (.iload_n 1, 1) := by decide +kernel
theorem dX0_letOut_23 : decode cX0_letOut 23 = .ok (.invokevirtual 68, 3) := by decide +kernel
theorem dX0_letOut_26 : decode cX0_letOut 26 = .ok (.iinc 1 1, 3) := by decide +kernel
theorem dX0_letOut_29 : decode cX0_letOut 29 = .ok (.goto (-27), 3) := by decide +kernel
theorem dX0_letOut_32 : decode cX0_letOut 32 = .ok (.return_, 1) := by decide +kernel
theorem dX0_letFirstOut_0 : decode cX0_letFirstOut 0 = .ok (.iconst 0, 1) := by decide +kernel
theorem dX0_letFirstOut_1 : decode cX0_letFirstOut 1 = .ok (.istore_n 2, 1) := by decide +kernel
theorem dX0_letFirstOut_2 : decode cX0_letFirstOut 2 = .ok (.iload_n 2, 1) := by decide +kernel
theorem dX0_letFirstOut_3 : decode cX0_letFirstOut 3 = .ok (.aload_n 0, 1) := by decide +kernel
theorem dX0_letFirstOut_4 : decode cX0_letFirstOut 4 = .ok (.getfield 18, 3) := by decide +kernel
theorem dX0_letFirstOut_7 : decode cX0_letFirstOut 7 = .ok (.getfield 65, 3) := by decide +kernel
theorem dX0_letFirstOut_10 : decode cX0_letFirstOut 10 = .ok (.if_icmp .ge 27, 3) := by decide +kernel
theorem dX0_letFirstOut_13 : decode cX0_letFirstOut 13 = .ok (.aload_n 0, 1) := by decide +kernel
theorem dX0_letFirstOut_14 : decode cX0_letFirstOut 14 = .ok (.getfield 15, 3) := by decide +kernel
theorem dX0_letFirstOut_17 : decode cX0_letFirstOut 17 = .ok (.iload_n 2, 1) := by decide +kernel
theorem dX0_letFirstOut_18 : decode cX0_letFirstOut 18 = .ok (.iaload, 1) := by decide +kernel
theorem dX0_letFirstOut_19 : decode cX0_letFirstOut 19 = .ok (.iload_n 1, 1) := by decide +kernel
theorem dX0_letFirstOut_20 : decode cX0_letFirstOut 20 = .ok (.if_icmp .ne 11, 3) := by decide +kernel
theorem dX0_letFirstOut_23 : decode cX0_letFirstOut 23 = .ok (.aload_n 0, 1) := by decide +kernel
theorem dX0_letFirstOut_24 : decode cX0_letFirstOut 24 = .ok (.getfield 15, 3) := by decide +kernel
theorem dX0_letFirstOut_27 : decode cX0_letFirstOut 27 = .ok (.iload_n 2, 1) := by decide +kernel
theorem dX0_letFirstOut_28 : decode cX0_letFirstOut 28 = .ok (.iconst (-1), 1) := by decide +kernel
theorem dX0_letFirstOut_29 : decode cX0_letFirstOut 29 = .ok (.iastore, 1) := by decide +kernel
theorem dX0_letFirstOut_30 : decode cX0_letFirstOut 30 = .ok (.return_, 1) := by decide +kernel
theorem dX0_letFirstOut_31 : decode cX0_letFirstOut 31 = .ok (.iinc 2 1, 3) := by decide +kernel
theorem dX0_letFirstOut_34 : decode cX0_letFirstOut 34 = .ok (.goto (-32), 3) := by decide +kernel
theorem dX0_letFirstOut_37 : decode cX0_letFirstOut 37 = .ok (.return_, 1) := by decide +kernel
theorem dX0_movers_0 : decode cX0_movers 0 = .ok (.aload_n 0, 1) := by decide +kernel
theorem dX0_movers_1 : decode cX0_movers 1 = .ok (.getfield 18, 3) := by decide +kernel
theorem dX0_movers_4 : decode cX0_movers 4 = .ok (.getfield 72, 3) := by decide +kernel
theorem dX0_movers_7 : decode cX0_movers 7 = .ok (.iload_n 1, 1) := by decide +kernel
theorem dX0_movers_8 : decode cX0_movers 8 = .ok (.iaload, 1) := by decide +kernel
theorem dX0_movers_9 : decode cX0_movers 9 = .ok (.iconst 3, 1) := by decide +kernel
theorem dX0_movers_10 : decode cX0_movers 10 = .ok (.if_icmp .ne 5, 3) := by decide +kernel
theorem dX0_movers_13 : decode cX0_movers 13 = .ok (.iconst 0, 1) := by decide +kernel
theorem dX0_movers_14 : decode cX0_movers 14 = .ok (.ireturn, 1) := by decide +kernel
theorem dX0_movers_15 : decode cX0_movers 15 = .ok (.iload_n 1, 1) := by decide +kernel
theorem dX0_movers_16 : decode cX0_movers 16 = .ok (.istore_n 3, 1) := by decide +kernel
theorem dX0_movers_17 : decode cX0_movers 17 = .ok (.iconst 1, 1) := by decide +kernel
theorem dX0_movers_18 : decode cX0_movers 18 = .ok (.istore 4, 2) := by decide +kernel
theorem dX0_movers_20 : decode cX0_movers 20 = .ok (.iload 4, 2) := by decide +kernel
theorem dX0_movers_22 : decode cX0_movers 22 = .ok (.aload_n 0, 1) := by decide +kernel
theorem dX0_movers_23 : decode cX0_movers 23 = .ok (.getfield 18, 3) := by decide +kernel
theorem dX0_movers_26 : decode cX0_movers 26 = .ok (.getfield 58, 3) := by decide +kernel
theorem dX0_movers_29 : decode cX0_movers 29 = .ok (.if_icmp .ge 65, 3) := by decide +kernel
theorem dX0_movers_32 : decode cX0_movers 32 = .ok (.aload_n 0, 1) := by decide +kernel
theorem dX0_movers_33 : decode cX0_movers 33 = .ok (.getfield 18, 3) := by decide +kernel
theorem dX0_movers_36 : decode cX0_movers 36 = .ok (.iload_n 3, 1) := by decide +kernel
theorem dX0_movers_37 : decode cX0_movers 37 = .ok (.iload_n 2, 1) := by decide +kernel
theorem dX0_movers_38 : decode cX0_movers 38 = .ok (.invokevirtual 75, 3) := by decide +kernel
theorem dX0_movers_41 : decode cX0_movers 41 = .ok (.istore 5, 2) := by decide +kernel
theorem dX0_movers_43 : decode cX0_movers 43 = .ok (.aload_n 0, 1) := by decide +kernel
theorem dX0_movers_44 : decode cX0_movers 44 = .ok (.iload 5, 2) := by decide +kernel
theorem dX0_movers_46 : decode cX0_movers 46 = .ok (.invokevirtual 46, 3) := by decide +kernel
theorem dX0_movers_49 : decode cX0_movers 49 = .ok (.aload_n 0, 1) := by decide +kernel
theorem dX0_movers_50 : decode cX0_movers 50 = .ok (.getfield 18, 3) := by decide +kernel
theorem dX0_movers_53 : decode cX0_movers 53 = .ok (.iload 5, 2) := by decide +kernel
theorem dX0_movers_55 : decode cX0_movers 55 = .ok (.invokevirtual 49, 3) := by decide +kernel
theorem dX0_movers_58 : decode cX0_movers 58 = .ok (.if_icmp .le 6, 3) := by decide +kernel
theorem dX0_movers_61 : decode cX0_movers 61 = .ok (.iload 4, 2) := by decide +kernel
theorem dX0_movers_63 : decode cX0_movers 63 = .ok (.ireturn, 1) := by decide +kernel
theorem dX0_movers_64 : decode cX0_movers 64 = .ok (.aload_n 0, 1) := by decide +kernel
theorem dX0_movers_65 : decode cX0_movers 65 = .ok (.getfield 18, 3) := by decide +kernel
theorem dX0_movers_68 : decode cX0_movers 68 = .ok (.iload_n 3, 1) := by decide +kernel
theorem dX0_movers_69 : decode cX0_movers 69 = .ok (.iload_n 2, 1) := by decide +kernel
theorem dX0_movers_70 : decode cX0_movers 70 = .ok (.invokevirtual 78, 3) := by decide +kernel
theorem dX0_movers_73 : decode cX0_movers 73 = .ok (.istore_n 3, 1) := by decide +kernel
theorem dX0_movers_74 : decode cX0_movers 74 = .ok (.aload_n 0, 1) := by decide +kernel
theorem dX0_movers_75 : decode cX0_movers 75 = .ok (.getfield 18, 3) := by decide +kernel
theorem dX0_movers_78 : decode cX0_movers 78 = .ok (.iload_n 3, 1) := by decide +kernel
theorem dX0_movers_79 : decode cX0_movers 79 = .ok (.iconst 1, 1) := by decide +kernel
theorem dX0_movers_80 : decode cX0_movers 80 = .ok (.invokevirtual 81, 3) := by decide +kernel
theorem dX0_movers_83 : decode cX0_movers 83 = .ok (.ifCond .ne 5, 3) := by decide +kernel
theorem dX0_movers_86 : decode cX0_movers 86 = .ok (.iconst 0, 1) := by decide +kernel
theorem dX0_movers_87 : decode cX0_movers 87 = .ok (.ireturn, 1) := by decide +kernel
theorem dX0_movers_88 : decode cX0_movers 88 = .ok (.iinc 4 1, 3) := by decide +kernel
theorem dX0_movers_91 : decode cX0_movers 91 = .ok (.goto (-71), 3) := by decide +kernel
theorem dX0_movers_94 : decode cX0_movers 94 = .ok (.aload_n 0, 1) := by decide +kernel
theorem dX0_movers_95 : decode cX0_movers 95 = .ok (.getfield 18, 3) := by decide +kernel
theorem dX0_movers_98 : decode cX0_movers 98 = .ok (.getfield 58, 3) := by decide +kernel
theorem dX0_movers_101 : decode cX0_movers 101 = .ok (.ireturn, 1) := by decide +kernel
theorem dX0_step_0 : decode cX0_step 0 = .ok (.aload_n 0, 1) := by decide +kernel
theorem dX0_step_1 : decode cX0_step 1 = .ok (.iload_n 1, 1) := by decide +kernel
theorem dX0_step_2 : decode cX0_step 2 = .ok (.iload_n 2, 1) := by decide +kernel
theorem dX0_step_3 : decode cX0_step 3 = .ok (.invokevirtual 85, 3) := by decide +kernel
theorem dX0_step_6 : decode cX0_step 6 = .ok (.istore_n 3, 1) := by decide +kernel
theorem dX0_step_7 : decode cX0_step 7 = .ok (.iload_n 1, 1) := by decide +kernel
theorem dX0_step_8 : decode cX0_step 8 = .ok (.istore 4, 2) := by decide +kernel
theorem dX0_step_10 : decode cX0_step 10 = .ok (.iconst 0, 1) := by decide +kernel
theorem dX0_step_11 : decode cX0_step 11 = .ok (.istore 5, 2) := by decide +kernel
theorem dX0_step_13 : decode cX0_step 13 = .ok (.iload 5, 2) := by decide +kernel
theorem dX0_step_15 : decode cX0_step 15 = .ok (.iload_n 3, 1) := by decide +kernel
theorem dX0_step_16 : decode cX0_step 16 = .ok (.if_icmp .ge 39, 3) := by decide +kernel
theorem dX0_step_19 : decode cX0_step 19 = .ok (.aload_n 0, 1) := by decide +kernel
theorem dX0_step_20 : decode cX0_step 20 = .ok (.getfield 9, 3) := by decide +kernel
theorem dX0_step_23 : decode cX0_step 23 = .ok (.iload 4, 2) := by decide +kernel
theorem dX0_step_25 : decode cX0_step 25 = .ok (.aload_n 0, 1) := by decide +kernel
theorem dX0_step_26 : decode cX0_step 26 = .ok (.getfield 9, 3) := by decide +kernel
theorem dX0_step_29 : decode cX0_step 29 = .ok (.iload 4, 2) := by decide +kernel
theorem dX0_step_31 : decode cX0_step 31 = .ok (.iaload, 1) := by decide +kernel
theorem dX0_step_32 : decode cX0_step 32 = .ok (.iload_n 2, 1) := by decide +kernel
theorem dX0_step_33 : decode cX0_step 33 = .ok (.invokestatic 88, 3) := by decide +kernel
theorem dX0_step_36 : decode cX0_step 36 = .ok (.iastore, 1) := by decide +kernel
theorem dX0_step_37 : decode cX0_step 37 = .ok (.aload_n 0, 1) := by decide +kernel
theorem dX0_step_38 : decode cX0_step 38 = .ok (.getfield 18, 3) := by decide +kernel
theorem dX0_step_41 : decode cX0_step 41 = .ok (.iload 4, 2) := by decide +kernel
theorem dX0_step_43 : decode cX0_step 43 = .ok (.iload_n 2, 1) := by decide +kernel
theorem dX0_step_44 : decode cX0_step 44 = .ok (.invokevirtual 78, 3) := by decide +kernel
theorem dX0_step_47 : decode cX0_step 47 = .ok (.istore 4, 2) := by decide +kernel
theorem dX0_step_49 : decode cX0_step 49 = .ok (.iinc 5 1, 3) := by decide +kernel
theorem dX0_step_52 : decode cX0_step 52 = .ok (.goto (-39), 3) := by decide +kernel
theorem dX0_step_55 : decode cX0_step 55 = .ok (.iload_n 3, 1) := by decide +kernel
theorem dX0_step_56 : decode cX0_step 56 = .ok (.ifCond .le 7, 3) := by decide +kernel
theorem dX0_step_59 : decode cX0_step 59 = .ok (.iconst 1, 1) := by decide +kernel
theorem dX0_step_60 : decode cX0_step 60 = .ok (.goto 4, 3) := by decide +kernel
theorem dX0_step_63 : decode cX0_step 63 = .ok (.iconst 0, 1) := by decide +kernel
theorem dX0_step_64 : decode cX0_step 64 = .ok (.ireturn, 1) := by decide +kernel
theorem dX0_stepped_0 : decode cX0_stepped 0 = .ok (.iload_n 1, 1) := by decide +kernel
theorem dX0_stepped_1 : decode cX0_stepped 1 = .ok (.ifCond .ne 19, 3) := by decide +kernel
theorem dX0_stepped_4 : decode cX0_stepped 4 = .ok (.iload_n 0, 1) := by decide +kernel
theorem dX0_stepped_5 : decode cX0_stepped 5 = .ok (.iconst 1, 1) := by decide +kernel
theorem dX0_stepped_6 : decode cX0_stepped 6 = .ok (.iadd, 1) := by decide +kernel
theorem dX0_stepped_7 : decode cX0_stepped 7 = .ok (.bipush 72, 2) := by decide +kernel
theorem dX0_stepped_9 : decode cX0_stepped 9 = .ok (.if_icmp .ge 9, 3) := by decide +kernel
theorem dX0_stepped_12 : decode cX0_stepped 12 = .ok (.iload_n 0, 1) := by decide +kernel
theorem dX0_stepped_13 : decode cX0_stepped 13 = .ok (.iconst 1, 1) := by decide +kernel
theorem dX0_stepped_14 : decode cX0_stepped 14 = .ok (.iadd, 1) := by decide +kernel
theorem dX0_stepped_15 : decode cX0_stepped 15 = .ok (.goto 4, 3) := by decide +kernel
theorem dX0_stepped_18 : decode cX0_stepped 18 = .ok (.iconst 0, 1) := by decide +kernel
theorem dX0_stepped_19 : decode cX0_stepped 19 = .ok (.ireturn, 1) := by decide +kernel
theorem dX0_stepped_20 : decode cX0_stepped 20 = .ok (.iload_n 0, 1) := by decide +kernel
theorem dX0_stepped_21 : decode cX0_stepped 21 = .ok (.ifCond .le 9, 3) := by decide +kernel
theorem dX0_stepped_24 : decode cX0_stepped 24 = .ok (.iload_n 0, 1) := by decide +kernel
theorem dX0_stepped_25 : decode cX0_stepped 25 = .ok (.iconst 1, 1) := by decide +kernel
theorem dX0_stepped_26 : decode cX0_stepped 26 = .ok (.isub, 1) := by decide +kernel
theorem dX0_stepped_27 : decode cX0_stepped 27 = .ok (.goto 5, 3) := by decide +kernel
theorem dX0_stepped_30 : decode cX0_stepped 30 = .ok (.bipush 71, 2) := by decide +kernel
theorem dX0_stepped_32 : decode cX0_stepped 32 = .ok (.ireturn, 1) := by decide +kernel
theorem dX0_goTillOpen_0 : decode cX0_goTillOpen 0 = .ok (.iconst 0, 1) := by decide +kernel
theorem dX0_goTillOpen_1 : decode cX0_goTillOpen 1 = .ok (.istore 5, 2) := by decide +kernel
theorem dX0_goTillOpen_3 : decode cX0_goTillOpen 3 = .ok (.iload 5, 2) := by decide +kernel
theorem dX0_goTillOpen_5 : decode cX0_goTillOpen 5 = .ok (.iload 4, 2) := by decide +kernel
theorem dX0_goTillOpen_7 : decode cX0_goTillOpen 7 = .ok (.if_icmp .gt 31, 3) := by decide +kernel
theorem dX0_goTillOpen_10 : decode cX0_goTillOpen 10 = .ok (.aload_n 0, 1) := by decide +kernel
theorem dX0_goTillOpen_11 : decode cX0_goTillOpen 11 = .ok (.iload_n 3, 1) := by decide +kernel
theorem dX0_goTillOpen_12 : decode cX0_goTillOpen 12 = .ok (.invokevirtual 61, 3) := by decide +kernel
theorem dX0_goTillOpen_15 : decode cX0_goTillOpen 15 = .ok (.ifCond .eq 6, 3) := by decide +kernel
theorem dX0_goTillOpen_18 : decode cX0_goTillOpen 18 = .ok (.iload 5, 2) := by decide +kernel
theorem dX0_goTillOpen_20 : decode cX0_goTillOpen 20 = .ok (.ireturn, 1) := by decide +kernel
theorem dX0_goTillOpen_21 : decode cX0_goTillOpen 21 = .ok (.aload_n 0, 1) := by decide +kernel
theorem dX0_goTillOpen_22 : decode cX0_goTillOpen 22 = .ok (.iload_n 1, 1) := by decide +kernel
theorem dX0_goTillOpen_23 : decode cX0_goTillOpen 23 = .ok (.iload_n 2, 1) := by decide +kernel
theorem dX0_goTillOpen_24 : decode cX0_goTillOpen 24 = .ok (.invokevirtual 91, 3) := by decide +kernel
theorem dX0_goTillOpen_27 : decode cX0_goTillOpen 27 = .ok (.ifCond .ne 5, 3) := by decide +kernel
theorem dX0_goTillOpen_30 : decode cX0_goTillOpen 30 = .ok (.iconst (-1), 1) := by decide +kernel
theorem dX0_goTillOpen_31 : decode cX0_goTillOpen 31 = .ok (.ireturn, 1) := by decide +kernel
theorem dX0_goTillOpen_32 : decode cX0_goTillOpen 32 = .ok (.iinc 5 1, 3) := by decide +kernel
theorem dX0_goTillOpen_35 : decode cX0_goTillOpen 35 = .ok (.goto (-32), 3) := by decide +kernel
theorem dX0_goTillOpen_38 : decode cX0_goTillOpen 38 = .ok (.iconst (-1), 1) := by decide +kernel
theorem dX0_goTillOpen_39 : decode cX0_goTillOpen 39 = .ok (.ireturn, 1) := by decide +kernel
theorem dX0_passHour_0 : decode cX0_passHour 0 = .ok (.iconst 0, 1) := by decide +kernel
theorem dX0_passHour_1 : decode cX0_passHour 1 = .ok (.istore_n 1, 1) := by decide +kernel
theorem dX0_passHour_2 : decode cX0_passHour 2 = .ok (.iload_n 1, 1) := by decide +kernel
theorem dX0_passHour_3 : decode cX0_passHour 3 = .ok (.aload_n 0, 1) := by decide +kernel
theorem dX0_passHour_4 : decode cX0_passHour 4 = .ok (.getfield 18, 3) := by decide +kernel
theorem dX0_passHour_7 : decode cX0_passHour 7 = .ok (.getfield 58, 3) := by decide +kernel
theorem dX0_passHour_10 : decode cX0_passHour 10 = .ok (.if_icmp .ge 78, 3) := by decide +kernel
theorem dX0_passHour_13 : decode cX0_passHour 13 = .ok (.aload_n 0, 1) := by decide +kernel
theorem dX0_passHour_14 : decode cX0_passHour 14 = .ok (.getfield 18, 3) := by decide +kernel
theorem dX0_passHour_17 : decode cX0_passHour 17 = .ok (.getfield 72, 3) := by decide +kernel
theorem dX0_passHour_20 : decode cX0_passHour 20 = .ok (.iload_n 1, 1) := by decide +kernel
theorem dX0_passHour_21 : decode cX0_passHour 21 = .ok (.iaload, 1) := by decide +kernel
theorem dX0_passHour_22 : decode cX0_passHour 22 = .ok (.iconst 1, 1) := by decide +kernel
theorem dX0_passHour_23 : decode cX0_passHour 23 = .ok (.if_icmp .ne 59, 3) := by decide +kernel
theorem dX0_passHour_26 : decode cX0_passHour 26 = .ok (.aload_n 0, 1) := by decide +kernel
theorem dX0_passHour_27 : decode cX0_passHour 27 = .ok (.getfield 9, 3) := by decide +kernel
theorem dX0_passHour_30 : decode cX0_passHour 30 = .ok (.iload_n 1, 1) := by decide +kernel
theorem dX0_passHour_31 : decode cX0_passHour 31 = .ok (.iaload, 1) := by decide +kernel
theorem dX0_passHour_32 : decode cX0_passHour 32 = .ok (.aload_n 0, 1) := by decide +kernel
theorem dX0_passHour_33 : decode cX0_passHour 33 = .ok (.getfield 18, 3) := by decide +kernel
theorem dX0_passHour_36 : decode cX0_passHour 36 = .ok (.getfield 22, 3) := by decide +kernel
theorem dX0_passHour_39 : decode cX0_passHour 39 = .ok (.iload_n 1, 1) := by decide +kernel
theorem dX0_passHour_40 : decode cX0_passHour 40 = .ok (.iaload, 1) := by decide +kernel
theorem dX0_passHour_41 : decode cX0_passHour 41 = .ok (.if_icmp .eq 41, 3) := by decide +kernel
theorem dX0_passHour_44 : decode cX0_passHour 44 = .ok (.aload_n 0, 1) := by decide +kernel
theorem dX0_passHour_45 : decode cX0_passHour 45 = .ok (.getfield 9, 3) := by decide +kernel
theorem dX0_passHour_48 : decode cX0_passHour 48 = .ok (.iload_n 1, 1) := by decide +kernel
theorem dX0_passHour_49 : decode cX0_passHour 49 = .ok (.iaload, 1) := by decide +kernel
theorem dX0_passHour_50 : decode cX0_passHour 50 = .ok (.aload_n 0, 1) := by decide +kernel
theorem dX0_passHour_51 : decode cX0_passHour 51 = .ok (.getfield 18, 3) := by decide +kernel
theorem dX0_passHour_54 : decode cX0_passHour 54 = .ok (.getfield 22, 3) := by decide +kernel
theorem dX0_passHour_57 : decode cX0_passHour 57 = .ok (.iload_n 1, 1) := by decide +kernel
theorem dX0_passHour_58 : decode cX0_passHour 58 = .ok (.iaload, 1) := by decide +kernel
theorem dX0_passHour_59 : decode cX0_passHour 59 = .ok (.invokestatic 42, 3) := by decide +kernel
theorem dX0_passHour_62 : decode cX0_passHour 62 = .ok (.istore_n 2, 1) := by decide +kernel
theorem dX0_passHour_63 : decode cX0_passHour 63 = .ok (.aload_n 0, 1) := by decide +kernel
theorem dX0_passHour_64 : decode cX0_passHour 64 = .ok (.iload_n 1, 1) := by decide +kernel
theorem dX0_passHour_65 : decode cX0_passHour 65 = .ok (.iload_n 2, 1) := by decide +kernel
theorem dX0_passHour_66 : decode cX0_passHour 66 = .ok (.bipush 72, 2) := by decide +kernel
theorem dX0_passHour_68 : decode cX0_passHour 68 = .ok (.iload_n 2, 1) := by decide +kernel
theorem dX0_passHour_69 : decode cX0_passHour 69 = .ok (.isub, 1) := by decide +kernel
theorem dX0_passHour_70 : decode cX0_passHour 70 = .ok (.if_icmp .gt 7, 3) := by decide +kernel
theorem dX0_passHour_73 : decode cX0_passHour 73 = .ok (.iconst 0, 1) := by decide +kernel
theorem dX0_passHour_74 : decode cX0_passHour 74 = .ok (.goto 4, 3) := by decide +kernel
theorem dX0_passHour_77 : decode cX0_passHour 77 = .ok (.iconst 1, 1) := by decide +kernel
theorem dX0_passHour_78 : decode cX0_passHour 78 = .ok (.invokevirtual 91, 3) := by decide +kernel
theorem dX0_passHour_81 : decode cX0_passHour 81 = .ok (.pop, 1) := by decide +kernel
theorem dX0_passHour_82 : decode cX0_passHour 82 = .ok (.iinc 1 1, 3) := by decide +kernel
theorem dX0_passHour_85 : decode cX0_passHour 85 = .ok (.goto (-83), 3) := by decide +kernel
theorem dX0_passHour_88 : decode cX0_passHour 88 = .ok (.aload_n 0, 1) := by decide +kernel
theorem dX0_passHour_89 : decode cX0_passHour 89 = .ok (.dup, 1) := by decide +kernel
theorem dX0_passHour_90 : decode cX0_passHour 90 = .ok (.getfield 34, 3) := by decide +kernel
theorem dX0_passHour_93 : decode cX0_passHour 93 = .ok (.iconst 1, 1) := by decide +kernel
theorem dX0_passHour_94 : decode cX0_passHour 94 = .ok (.iadd, 1) := by decide +kernel
theorem dX0_passHour_95 : decode cX0_passHour 95 = .ok (.putfield 34, 3) := by decide +kernel
theorem dX0_passHour_98 : decode cX0_passHour 98 = .ok (.return_, 1) := by decide +kernel
theorem dX0_stretched_0 : decode cX0_stretched 0 = .ok (.aload_n 0, 1) := by decide +kernel
theorem dX0_stretched_1 : decode cX0_stretched 1 = .ok (.iload_n 1, 1) := by decide +kernel
theorem dX0_stretched_2 : decode cX0_stretched 2 = .ok (.invokevirtual 46, 3) := by decide +kernel
theorem dX0_stretched_5 : decode cX0_stretched 5 = .ok (.istore_n 2, 1) := by decide +kernel
theorem dX0_stretched_6 : decode cX0_stretched 6 = .ok (.iconst 0, 1) := by decide +kernel
theorem dX0_stretched_7 : decode cX0_stretched 7 = .ok (.istore_n 3, 1) := by decide +kernel
theorem dX0_stretched_8 : decode cX0_stretched 8 = .ok (.iconst 0, 1) := by decide +kernel
theorem dX0_stretched_9 : decode cX0_stretched 9 = .ok (.istore 4, 2) := by decide +kernel
theorem dX0_stretched_11 : decode cX0_stretched 11 = .ok (.iload 4, 2) := by decide +kernel
theorem dX0_stretched_13 : decode cX0_stretched 13 = .ok (.iconst 1, 1) := by decide +kernel
theorem dX0_stretched_14 : decode cX0_stretched 14 = .ok (.if_icmp .gt 92, 3) := by decide +kernel
theorem dX0_stretched_17 : decode cX0_stretched 17 = .ok (.iload 4, 2) := by decide +kernel
theorem dX0_stretched_19 : decode cX0_stretched 19 = .ok (.ifCond .ne 14, 3) := by decide +kernel
theorem dX0_stretched_22 : decode cX0_stretched 22 = .ok (.aload_n 0, 1) := by decide +kernel
theorem dX0_stretched_23 : decode cX0_stretched 23 = .ok (.getfield 18, 3) := by decide +kernel
theorem dX0_stretched_26 : decode cX0_stretched 26 = .ok (.iload_n 1, 1) := by decide +kernel
theorem dX0_stretched_27 : decode cX0_stretched 27 = .ok (.invokevirtual 38, 3) := by decide +kernel
theorem dX0_stretched_30 : decode cX0_stretched 30 = .ok (.goto 4, 3) := by decide +kernel
theorem dX0_stretched_33 : decode cX0_stretched 33 = .ok (.iload_n 1, 1) := by decide +kernel
theorem dX0_stretched_34 : decode cX0_stretched 34 = .ok (.istore 5, 2) := by decide +kernel
theorem dX0_stretched_36 : decode cX0_stretched 36 = .ok (.iload_n 3, 1) := by decide +kernel
theorem dX0_stretched_37 : decode cX0_stretched 37 = .ok (.aload_n 0, 1) := by decide +kernel
theorem dX0_stretched_38 : decode cX0_stretched 38 = .ok (.getfield 18, 3) := by decide +kernel
theorem dX0_stretched_41 : decode cX0_stretched 41 = .ok (.getfield 58, 3) := by decide +kernel
theorem dX0_stretched_44 : decode cX0_stretched 44 = .ok (.iconst 1, 1) := by decide +kernel
theorem dX0_stretched_45 : decode cX0_stretched 45 = .ok (.isub, 1) := by decide +kernel
theorem dX0_stretched_46 : decode cX0_stretched 46 = .ok (.if_icmp .ge 54, 3) := by decide +kernel
theorem dX0_stretched_49 : decode cX0_stretched 49 = .ok (.aload_n 0, 1) := by decide +kernel
theorem dX0_stretched_50 : decode cX0_stretched 50 = .ok (.getfield 18, 3) := by decide +kernel
theorem dX0_stretched_53 : decode cX0_stretched 53 = .ok (.getfield 72, 3) := by decide +kernel
theorem dX0_stretched_56 : decode cX0_stretched 56 = .ok (.iload 5, 2) := by decide +kernel
theorem dX0_stretched_58 : decode cX0_stretched 58 = .ok (.iaload, 1) := by decide +kernel
theorem dX0_stretched_59 : decode cX0_stretched 59 = .ok (.iconst 3, 1) := by decide +kernel
theorem dX0_stretched_60 : decode cX0_stretched 60 = .ok (.if_icmp .eq 40, 3) := by decide +kernel
theorem dX0_stretched_63 : decode cX0_stretched 63 = .ok (.iload_n 2, 1) := by decide +kernel
theorem dX0_stretched_64 : decode cX0_stretched 64 = .ok (.aload_n 0, 1) := by decide +kernel
theorem dX0_stretched_65 : decode cX0_stretched 65 = .ok (.aload_n 0, 1) := by decide +kernel
theorem dX0_stretched_66 : decode cX0_stretched 66 = .ok (.getfield 18, 3) := by decide +kernel
theorem dX0_stretched_69 : decode cX0_stretched 69 = .ok (.iload 5, 2) := by decide +kernel
theorem dX0_stretched_71 : decode cX0_stretched 71 = .ok (.iload 4, 2) := by decide +kernel
theorem dX0_stretched_73 : decode cX0_stretched 73 = .ok (.invokevirtual 75, 3) := by decide +kernel
theorem dX0_stretched_76 : decode cX0_stretched 76 = .ok (.invokevirtual 94, 3) := by decide +kernel
theorem dX0_stretched_79 : decode cX0_stretched 79 = .ok (.iadd, 1) := by decide +kernel
theorem dX0_stretched_80 : decode cX0_stretched 80 = .ok (.istore_n 2, 1) := by decide +kernel
theorem dX0_stretched_81 : decode cX0_stretched 81 = .ok (.aload_n 0, 1) := by decide +kernel
theorem dX0_stretched_82 : decode cX0_stretched 82 = .ok (.getfield 18, 3) := by decide +kernel
theorem dX0_stretched_85 : decode cX0_stretched 85 = .ok (.iload 5, 2) := by decide +kernel
theorem dX0_stretched_87 : decode cX0_stretched 87 = .ok (.iload 4, 2) := by decide +kernel
theorem dX0_stretched_89 : decode cX0_stretched 89 = .ok (.invokevirtual 78, 3) := by decide +kernel
theorem dX0_stretched_92 : decode cX0_stretched 92 = .ok (.istore 5, 2) := by decide +kernel
theorem dX0_stretched_94 : decode cX0_stretched 94 = .ok (.iinc 3 1, 3) := by decide +kernel
theorem dX0_stretched_97 : decode cX0_stretched 97 = .ok (.goto (-61), 3) := by decide +kernel
theorem dX0_stretched_100 : decode cX0_stretched 100 = .ok (.iinc 4 1, 3) := by decide +kernel
theorem dX0_stretched_103 : decode cX0_stretched 103 = .ok (.goto (-92), 3) := by decide +kernel
theorem dX0_stretched_106 : decode cX0_stretched 106 = .ok (.iload_n 2, 1) := by decide +kernel
theorem dX0_stretched_107 : decode cX0_stretched 107 = .ok (.ireturn, 1) := by decide +kernel
theorem dX1_init_0 : decode cX1_init 0 = .ok (.aload_n 0, 1) := by decide +kernel
theorem dX1_init_1 : decode cX1_init 1 = .ok (.invokespecial 3, 3) := by decide +kernel
theorem dX1_init_4 : decode cX1_init 4 = .ok (.aload_n 0, 1) := by decide +kernel
theorem dX1_init_5 : decode cX1_init 5 = .ok (.bipush 8, 2) := by decide +kernel
theorem dX1_init_7 : decode cX1_init 7 = .ok (.newarray .int, 2) := by decide +kernel
theorem dX1_init_9 : decode cX1_init 9 = .ok (.putfield 9, 3) := by decide +kernel
theorem dX1_init_12 : decode cX1_init 12 = .ok (.aload_n 0, 1) := by decide +kernel
theorem dX1_init_13 : decode cX1_init 13 = .ok (.bipush 8, 2) := by decide +kernel
theorem dX1_init_15 : decode cX1_init 15 = .ok (.newarray .int, 2) := by decide +kernel
theorem dX1_init_17 : decode cX1_init 17 = .ok (.putfield 15, 3) := by decide +kernel
theorem dX1_init_20 : decode cX1_init 20 = .ok (.aload_n 0, 1) := by decide +kernel
theorem dX1_init_21 : decode cX1_init 21 = .ok (.bipush 8, 2) := by decide +kernel
theorem dX1_init_23 : decode cX1_init 23 = .ok (.newarray .int, 2) := by decide +kernel
theorem dX1_init_25 : decode cX1_init 25 = .ok (.putfield 18, 3) := by decide +kernel
theorem dX1_init_28 : decode cX1_init 28 = .ok (.aload_n 0, 1) := by decide +kernel
theorem dX1_init_29 : decode cX1_init 29 = .ok (.iconst 3, 1) := by decide +kernel
theorem dX1_init_30 : decode cX1_init 30 = .ok (.newarray .int, 2) := by decide +kernel
theorem dX1_init_32 : decode cX1_init 32 = .ok (.putfield 21, 3) := by decide +kernel
theorem dX1_init_35 : decode cX1_init 35 = .ok (.aload_n 0, 1) := by decide +kernel
theorem dX1_init_36 : decode cX1_init 36 = .ok (.iconst 5, 1) := by decide +kernel
theorem dX1_init_37 : decode cX1_init 37 = .ok (.newarray .int, 2) := by decide +kernel
theorem dX1_init_39 : decode cX1_init 39 = .ok (.putfield 24, 3) := by decide +kernel
theorem dX1_init_42 : decode cX1_init 42 = .ok (.return_, 1) := by decide +kernel
theorem dX1_begin_0 : decode cX1_begin 0 = .ok (.aload_n 0, 1) := by decide +kernel
theorem dX1_begin_1 : decode cX1_begin 1 = .ok (.iload_n 1, 1) := by decide +kernel
theorem dX1_begin_2 : decode cX1_begin 2 = .ok (.putfield 27, 3) := by decide +kernel
theorem dX1_begin_5 : decode cX1_begin 5 = .ok (.iconst 0, 1) := by decide +kernel
theorem dX1_begin_6 : decode cX1_begin 6 = .ok (.istore_n 2, 1) := by decide +kernel
theorem dX1_begin_7 : decode cX1_begin 7 = .ok (.iload_n 2, 1) := by decide +kernel
theorem dX1_begin_8 : decode cX1_begin 8 = .ok (.aload_n 0, 1) := by decide +kernel
theorem dX1_begin_9 : decode cX1_begin 9 = .ok (.getfield 27, 3) := by decide +kernel
theorem dX1_begin_12 : decode cX1_begin 12 = .ok (.if_icmp .ge 38, 3) := by decide +kernel
theorem dX1_begin_15 : decode cX1_begin 15 = .ok (.aload_n 0, 1) := by decide +kernel
theorem dX1_begin_16 : decode cX1_begin 16 = .ok (.getfield 9, 3) := by decide +kernel
theorem dX1_begin_19 : decode cX1_begin 19 = .ok (.iload_n 2, 1) := by decide +kernel
theorem dX1_begin_20 : decode cX1_begin 20 = .ok (.bipush 72, 2) := by decide +kernel
theorem dX1_begin_22 : decode cX1_begin 22 = .ok (.iload_n 2, 1) := by decide +kernel
theorem dX1_begin_23 : decode cX1_begin 23 = .ok (.imul, 1) := by decide +kernel
theorem dX1_begin_24 : decode cX1_begin 24 = .ok (.aload_n 0, 1) := by decide +kernel
theorem dX1_begin_25 : decode cX1_begin 25 = .ok (.getfield 27, 3) := by decide +kernel
theorem dX1_begin_28 : decode cX1_begin 28 = .ok (.idiv, 1) := by decide +kernel
theorem dX1_begin_29 : decode cX1_begin 29 = .ok (.iastore, 1) := by decide +kernel
theorem dX1_begin_30 : decode cX1_begin 30 = .ok (.aload_n 0, 1) := by decide +kernel
theorem dX1_begin_31 : decode cX1_begin 31 = .ok (.getfield 15, 3) := by decide +kernel
theorem dX1_begin_34 : decode cX1_begin 34 = .ok (.iload_n 2, 1) := by decide +kernel
theorem dX1_begin_35 : decode cX1_begin 35 = .ok (.iconst 0, 1) := by decide +kernel
theorem dX1_begin_36 : decode cX1_begin 36 = .ok (.iastore, 1) := by decide +kernel
theorem dX1_begin_37 : decode cX1_begin 37 = .ok (.aload_n 0, 1) := by decide +kernel
theorem dX1_begin_38 : decode cX1_begin 38 = .ok (.getfield 18, 3) := by decide +kernel
theorem dX1_begin_41 : decode cX1_begin 41 = .ok (.iload_n 2, 1) := by decide +kernel
theorem dX1_begin_42 : decode cX1_begin 42 = .ok (.iconst 0, 1) := by decide +kernel
theorem dX1_begin_43 : decode cX1_begin 43 = .ok (.iastore, 1) := by decide +kernel
theorem dX1_begin_44 : decode cX1_begin 44 = .ok (.iinc 2 1, 3) := by decide +kernel
theorem dX1_begin_47 : decode cX1_begin 47 = .ok (.goto (-40), 3) := by decide +kernel
theorem dX1_begin_50 : decode cX1_begin 50 = .ok (.aload_n 0, 1) := by decide +kernel
theorem dX1_begin_51 : decode cX1_begin 51 = .ok (.iconst 0, 1) := by decide +kernel
theorem dX1_begin_52 : decode cX1_begin 52 = .ok (.putfield 31, 3) := by decide +kernel
theorem dX1_begin_55 : decode cX1_begin 55 = .ok (.aload_n 0, 1) := by decide +kernel
theorem dX1_begin_56 : decode cX1_begin 56 = .ok (.iconst 0, 1) := by decide +kernel
theorem dX1_begin_57 : decode cX1_begin 57 = .ok (.putfield 34, 3) := by decide +kernel
theorem dX1_begin_60 : decode cX1_begin 60 = .ok (.return_, 1) := by decide +kernel
theorem dX1_copy_0 : decode cX1_copy 0 = .ok (.aload_n 0, 1) := by decide +kernel
theorem dX1_copy_1 : decode cX1_copy 1 = .ok (.aload_n 1, 1) := by decide +kernel
theorem dX1_copy_2 : decode cX1_copy 2 = .ok (.getfield 27, 3) := by decide +kernel
theorem dX1_copy_5 : decode cX1_copy 5 = .ok (.putfield 27, 3) := by decide +kernel
theorem dX1_copy_8 : decode cX1_copy 8 = .ok (.aload_n 1, 1) := by decide +kernel
theorem dX1_copy_9 : decode cX1_copy 9 = .ok (.getfield 9, 3) := by decide +kernel
theorem dX1_copy_12 : decode cX1_copy 12 = .ok (.iconst 0, 1) := by decide +kernel
theorem dX1_copy_13 : decode cX1_copy 13 = .ok (.aload_n 0, 1) := by decide +kernel
theorem dX1_copy_14 : decode cX1_copy 14 = .ok (.getfield 9, 3) := by decide +kernel
theorem dX1_copy_17 : decode cX1_copy 17 = .ok (.iconst 0, 1) := by decide +kernel
theorem dX1_copy_18 : decode cX1_copy 18 = .ok (.bipush 8, 2) := by decide +kernel
theorem dX1_copy_20 : decode cX1_copy 20 = .ok (.invokestatic 37, 3) := by decide +kernel
theorem dX1_copy_23 : decode cX1_copy 23 = .ok (.aload_n 1, 1) := by decide +kernel
theorem dX1_copy_24 : decode cX1_copy 24 = .ok (.getfield 15, 3) := by decide +kernel
theorem dX1_copy_27 : decode cX1_copy 27 = .ok (.iconst 0, 1) := by decide +kernel
theorem dX1_copy_28 : decode cX1_copy 28 = .ok (.aload_n 0, 1) := by decide +kernel
theorem dX1_copy_29 : decode cX1_copy 29 = .ok (.getfield 15, 3) := by decide +kernel
theorem dX1_copy_32 : decode cX1_copy 32 = .ok (.iconst 0, 1) := by decide +kernel
theorem dX1_copy_33 : decode cX1_copy 33 = .ok (.bipush 8, 2) := by decide +kernel
theorem dX1_copy_35 : decode cX1_copy 35 = .ok (.invokestatic 37, 3) := by decide +kernel
theorem dX1_copy_38 : decode cX1_copy 38 = .ok (.aload_n 1, 1) := by decide +kernel
theorem dX1_copy_39 : decode cX1_copy 39 = .ok (.getfield 18, 3) := by decide +kernel
theorem dX1_copy_42 : decode cX1_copy 42 = .ok (.iconst 0, 1) := by decide +kernel
theorem dX1_copy_43 : decode cX1_copy 43 = .ok (.aload_n 0, 1) := by decide +kernel
theorem dX1_copy_44 : decode cX1_copy 44 = .ok (.getfield 18, 3) := by decide +kernel
theorem dX1_copy_47 : decode cX1_copy 47 = .ok (.iconst 0, 1) := by decide +kernel
theorem dX1_copy_48 : decode cX1_copy 48 = .ok (.bipush 8, 2) := by decide +kernel
theorem dX1_copy_50 : decode cX1_copy 50 = .ok (.invokestatic 37, 3) := by decide +kernel
theorem dX1_copy_53 : decode cX1_copy 53 = .ok (.aload_n 0, 1) := by decide +kernel
theorem dX1_copy_54 : decode cX1_copy 54 = .ok (.aload_n 1, 1) := by decide +kernel
theorem dX1_copy_55 : decode cX1_copy 55 = .ok (.getfield 31, 3) := by decide +kernel
theorem dX1_copy_58 : decode cX1_copy 58 = .ok (.putfield 31, 3) := by decide +kernel
theorem dX1_copy_61 : decode cX1_copy 61 = .ok (.aload_n 1, 1) := by decide +kernel
theorem dX1_copy_62 : decode cX1_copy 62 = .ok (.getfield 21, 3) := by decide +kernel
theorem dX1_copy_65 : decode cX1_copy 65 = .ok (.iconst 0, 1) := by decide +kernel
theorem dX1_copy_66 : decode cX1_copy 66 = .ok (.aload_n 0, 1) := by decide +kernel
theorem dX1_copy_67 : decode cX1_copy 67 = .ok (.getfield 21, 3) := by decide +kernel
theorem dX1_copy_70 : decode cX1_copy 70 = .ok (.iconst 0, 1) := by decide +kernel
theorem dX1_copy_71 : decode cX1_copy 71 = .ok (.iconst 3, 1) := by decide +kernel
theorem dX1_copy_72 : decode cX1_copy 72 = .ok (.invokestatic 37, 3) := by decide +kernel
theorem dX1_copy_75 : decode cX1_copy 75 = .ok (.aload_n 0, 1) := by decide +kernel
theorem dX1_copy_76 : decode cX1_copy 76 = .ok (.aload_n 1, 1) := by decide +kernel
theorem dX1_copy_77 : decode cX1_copy 77 = .ok (.getfield 34, 3) := by decide +kernel
theorem dX1_copy_80 : decode cX1_copy 80 = .ok (.putfield 34, 3) := by decide +kernel
theorem dX1_copy_83 : decode cX1_copy 83 = .ok (.aload_n 1, 1) := by decide +kernel
theorem dX1_copy_84 : decode cX1_copy 84 = .ok (.getfield 24, 3) := by decide +kernel
theorem dX1_copy_87 : decode cX1_copy 87 = .ok (.iconst 0, 1) := by decide +kernel
theorem dX1_copy_88 : decode cX1_copy 88 = .ok (.aload_n 0, 1) := by decide +kernel
theorem dX1_copy_89 : decode cX1_copy 89 = .ok (.getfield 24, 3) := by decide +kernel
theorem dX1_copy_92 : decode cX1_copy 92 = .ok (.iconst 0, 1) := by decide +kernel
theorem dX1_copy_93 : decode cX1_copy 93 = .ok (.iconst 5, 1) := by decide +kernel
theorem dX1_copy_94 : decode cX1_copy 94 = .ok (.invokestatic 37, 3) := by decide +kernel
theorem dX1_copy_97 : decode cX1_copy 97 = .ok (.return_, 1) := by decide +kernel
theorem dX1_has_0 : decode cX1_has 0 = .ok (.iload_n 1, 1) := by decide +kernel
theorem dX1_has_1 : decode cX1_has 1 = .ok (.ifCond .lt 15, 3) := by decide +kernel
theorem dX1_has_4 : decode cX1_has 4 = .ok (.iload_n 1, 1) := by decide +kernel
theorem dX1_has_5 : decode cX1_has 5 = .ok (.aload_n 0, 1) := by decide +kernel
theorem dX1_has_6 : decode cX1_has 6 = .ok (.getfield 27, 3) := by decide +kernel
theorem dX1_has_9 : decode cX1_has 9 = .ok (.if_icmp .ge 7, 3) := by decide +kernel
theorem dX1_has_12 : decode cX1_has 12 = .ok (.iconst 1, 1) := by decide +kernel
theorem dX1_has_13 : decode cX1_has 13 = .ok (.goto 4, 3) := by decide +kernel
theorem dX1_has_16 : decode cX1_has 16 = .ok (.iconst 0, 1) := by decide +kernel
theorem dX1_has_17 : decode cX1_has 17 = .ok (.ireturn, 1) := by decide +kernel
theorem dX1_next_0 : decode cX1_next 0 = .ok (.iload_n 1, 1) := by decide +kernel
theorem dX1_next_1 : decode cX1_next 1 = .ok (.iconst 1, 1) := by decide +kernel
theorem dX1_next_2 : decode cX1_next 2 = .ok (.iadd, 1) := by decide +kernel
theorem dX1_next_3 : decode cX1_next 3 = .ok (.aload_n 0, 1) := by decide +kernel
theorem dX1_next_4 : decode cX1_next 4 = .ok (.getfield 27, 3) := by decide +kernel
theorem dX1_next_7 : decode cX1_next 7 = .ok (.if_icmp .ge 9, 3) := by decide +kernel
theorem dX1_next_10 : decode cX1_next 10 = .ok (.iload_n 1, 1) := by decide +kernel
theorem dX1_next_11 : decode cX1_next 11 = .ok (.iconst 1, 1) := by decide +kernel
theorem dX1_next_12 : decode cX1_next 12 = .ok (.iadd, 1) := by decide +kernel
theorem dX1_next_13 : decode cX1_next 13 = .ok (.goto 4, 3) := by decide +kernel
theorem dX1_next_16 : decode cX1_next 16 = .ok (.iconst 0, 1) := by decide +kernel
theorem dX1_next_17 : decode cX1_next 17 = .ok (.ireturn, 1) := by decide +kernel
theorem dX1_before_0 : decode cX1_before 0 = .ok (.iload_n 1, 1) := by decide +kernel
theorem dX1_before_1 : decode cX1_before 1 = .ok (.ifCond .le 9, 3) := by decide +kernel
theorem dX1_before_4 : decode cX1_before 4 = .ok (.iload_n 1, 1) := by decide +kernel
theorem dX1_before_5 : decode cX1_before 5 = .ok (.iconst 1, 1) := by decide +kernel
theorem dX1_before_6 : decode cX1_before 6 = .ok (.isub, 1) := by decide +kernel
theorem dX1_before_7 : decode cX1_before 7 = .ok (.goto 9, 3) := by decide +kernel
theorem dX1_before_10 : decode cX1_before 10 = .ok (.aload_n 0, 1) := by decide +kernel
theorem dX1_before_11 : decode cX1_before 11 = .ok (.getfield 27, 3) := by decide +kernel
theorem dX1_before_14 : decode cX1_before 14 = .ok (.iconst 1, 1) := by decide +kernel
theorem dX1_before_15 : decode cX1_before 15 = .ok (.isub, 1) := by decide +kernel
theorem dX1_before_16 : decode cX1_before 16 = .ok (.ireturn, 1) := by decide +kernel
theorem dX1_leafBeside_0 : decode cX1_leafBeside 0 = .ok (.iload_n 2, 1) := by decide +kernel
theorem dX1_leafBeside_1 : decode cX1_leafBeside 1 = .ok (.ifCond .ne 11, 3) := by decide +kernel
theorem dX1_leafBeside_4 : decode cX1_leafBeside 4 = .ok (.aload_n 0, 1) := by decide +kernel
theorem dX1_leafBeside_5 : decode cX1_leafBeside 5 = .ok (.iload_n 1, 1) := by decide +kernel
theorem dX1_leafBeside_6 : decode cX1_leafBeside 6 = .ok (.invokevirtual 43, 3) := by decide +kernel
theorem dX1_leafBeside_9 : decode cX1_leafBeside 9 = .ok (.goto 8, 3) := by decide +kernel
theorem dX1_leafBeside_12 : decode cX1_leafBeside 12 = .ok (.aload_n 0, 1) := by decide +kernel
theorem dX1_leafBeside_13 : decode cX1_leafBeside 13 = .ok (.iload_n 1, 1) := by decide +kernel
theorem dX1_leafBeside_14 : decode cX1_leafBeside 14 = .ok (.invokevirtual 47, 3) := by decide +kernel
theorem dX1_leafBeside_17 : decode cX1_leafBeside 17 = .ok (.ireturn, 1) := by decide +kernel
theorem dX1_roomBeside_0 : decode cX1_roomBeside 0 = .ok (.iload_n 2, 1) := by decide +kernel
theorem dX1_roomBeside_1 : decode cX1_roomBeside 1 = .ok (.ifCond .ne 7, 3) := by decide +kernel
theorem dX1_roomBeside_4 : decode cX1_roomBeside 4 = .ok (.iload_n 1, 1) := by decide +kernel
theorem dX1_roomBeside_5 : decode cX1_roomBeside 5 = .ok (.goto 8, 3) := by decide +kernel
theorem dX1_roomBeside_8 : decode cX1_roomBeside 8 = .ok (.aload_n 0, 1) := by decide +kernel
theorem dX1_roomBeside_9 : decode cX1_roomBeside 9 = .ok (.iload_n 1, 1) := by decide +kernel
theorem dX1_roomBeside_10 : decode cX1_roomBeside 10 = .ok (.invokevirtual 47, 3) := by decide +kernel
theorem dX1_roomBeside_13 : decode cX1_roomBeside 13 = .ok (.ireturn, 1) := by decide +kernel
theorem dX1_need_0 : decode cX1_need 0 = .ok (.aload_n 0, 1) := by decide +kernel
theorem dX1_need_1 : decode cX1_need 1 = .ok (.getfield 18, 3) := by decide +kernel
theorem dX1_need_4 : decode cX1_need 4 = .ok (.iload_n 1, 1) := by decide +kernel
theorem dX1_need_5 : decode cX1_need 5 = .ok (.iaload, 1) := by decide +kernel
theorem dX1_need_6 : decode cX1_need 6 = .ok (.iconst 1, 1) := by decide +kernel
theorem dX1_need_7 : decode cX1_need 7 = .ok (.iadd, 1) := by decide +kernel
theorem dX1_need_8 : decode cX1_need 8 = .ok (.ireturn, 1) := by decide +kernel
theorem dX1_isTakenAs_0 : decode cX1_isTakenAs 0 = .ok (.getstatic 50, 3) := by decide +kernel
theorem dX1_isTakenAs_3 : decode cX1_isTakenAs 3 = .ok (.aload_n 0, 1) := by decide +kernel
theorem dX1_isTakenAs_4 : decode cX1_isTakenAs 4 = .ok (.getfield 15, 3) := by decide +kernel
theorem dX1_isTakenAs_7 : decode cX1_isTakenAs 7 = .ok (.iload_n 1, 1) := by decide +kernel
theorem dX1_isTakenAs_8 : decode cX1_isTakenAs 8 = .ok (.iaload, 1) := by decide +kernel
theorem dX1_isTakenAs_9 : decode cX1_isTakenAs 9 = .ok (.iaload, 1) := by decide +kernel
theorem dX1_isTakenAs_10 : decode cX1_isTakenAs 10 = .ok (.iload_n 2, 1) := by decide +kernel
theorem dX1_isTakenAs_11 : decode cX1_isTakenAs 11 = .ok (.ishr, 1) := by decide +kernel
theorem dX1_isTakenAs_12 : decode cX1_isTakenAs 12 = .ok (.iconst 1, 1) := by decide +kernel
theorem dX1_isTakenAs_13 : decode cX1_isTakenAs 13 = .ok (.iand, 1) := by decide +kernel
theorem dX1_isTakenAs_14 : decode cX1_isTakenAs 14 = .ok (.iconst 1, 1) := by decide +kernel
theorem dX1_isTakenAs_15 : decode cX1_isTakenAs 15 = .ok (.if_icmp .ne 7, 3) := by decide +kernel
theorem dX1_isTakenAs_18 : decode cX1_isTakenAs 18 = .ok (.iconst 1, 1) := by decide +kernel
theorem dX1_isTakenAs_19 : decode cX1_isTakenAs 19 = .ok (.goto 4, 3) := by decide +kernel
theorem dX1_isTakenAs_22 : decode cX1_isTakenAs 22 = .ok (.iconst 0, 1) := by decide +kernel
theorem dX1_isTakenAs_23 : decode cX1_isTakenAs 23 = .ok (.ireturn, 1) := by decide +kernel
theorem dX1_toldWidth_0 : decode cX1_toldWidth 0 = .ok (.aload_n 0, 1) := by decide +kernel
theorem dX1_toldWidth_1 : decode cX1_toldWidth 1 = .ok (.getfield 9, 3) := by decide +kernel
theorem dX1_toldWidth_4 : decode cX1_toldWidth 4 = .ok (.iload_n 1, 1) := by decide +kernel
theorem dX1_toldWidth_5 : decode cX1_toldWidth 5 = .ok (.iaload, 1) := by decide +kernel
theorem dX1_toldWidth_6 : decode cX1_toldWidth 6 = .ok (.aload_n 0, 1) := by decide +kernel
theorem dX1_toldWidth_7 : decode cX1_toldWidth 7 = .ok (.getfield 9, 3) := by decide +kernel
theorem dX1_toldWidth_10 : decode cX1_toldWidth 10 = .ok (.aload_n 0, 1) := by decide +kernel
theorem dX1_toldWidth_11 : decode cX1_toldWidth 11 = .ok (.iload_n 1, 1) := by decide +kernel
theorem dX1_toldWidth_12 : decode cX1_toldWidth 12 = .ok (.invokevirtual 43, 3) := by decide +kernel
theorem dX1_toldWidth_15 : decode cX1_toldWidth 15 = .ok (.iaload, 1) := by decide +kernel
theorem dX1_toldWidth_16 : decode cX1_toldWidth 16 = .ok (.invokestatic 53, 3) := by decide +kernel
theorem dX1_toldWidth_19 : decode cX1_toldWidth 19 = .ok (.ireturn, 1) := by decide +kernel
theorem dX1_canStandAt_0 : decode cX1_canStandAt 0 = .ok (.aload_n 0, 1) := by decide +kernel
theorem dX1_canStandAt_1 : decode cX1_canStandAt 1 = .ok (.iload_n 1, 1) := by decide +kernel
theorem dX1_canStandAt_2 : decode cX1_canStandAt 2 = .ok (.invokevirtual 47, 3) := by decide +kernel
theorem dX1_canStandAt_5 : decode cX1_canStandAt 5 = .ok (.istore_n 3, 1) := by decide +kernel
theorem dX1_canStandAt_6 : decode cX1_canStandAt 6 = .ok (.aload_n 0, 1) := by decide +kernel
theorem dX1_canStandAt_7 : decode cX1_canStandAt 7 = .ok (.iload_n 3, 1) := by decide +kernel
theorem dX1_canStandAt_8 : decode cX1_canStandAt 8 = .ok (.invokevirtual 57, 3) := by decide +kernel
theorem dX1_canStandAt_11 : decode cX1_canStandAt 11 = .ok (.aload_n 0, 1) := by decide +kernel
theorem dX1_canStandAt_12 : decode cX1_canStandAt 12 = .ok (.iload_n 1, 1) := by decide +kernel
theorem dX1_canStandAt_13 : decode cX1_canStandAt 13 = .ok (.invokevirtual 57, 3) := by decide +kernel
theorem dX1_canStandAt_16 : decode cX1_canStandAt 16 = .ok (.iadd, 1) := by decide +kernel
theorem dX1_canStandAt_17 : decode cX1_canStandAt 17 = .ok (.istore 4, 2) := by decide +kernel
theorem dX1_canStandAt_19 : decode cX1_canStandAt 19 = .ok (.aload_n 0, 1) := by decide +kernel
theorem dX1_canStandAt_20 : decode cX1_canStandAt 20 = .ok (.getfield 9, 3) := by decide +kernel
theorem dX1_canStandAt_23 : decode cX1_canStandAt 23 = .ok (.iload_n 3, 1) := by decide +kernel
theorem dX1_canStandAt_24 : decode cX1_canStandAt 24 = .ok (.iaload, 1) := by decide +kernel
theorem dX1_canStandAt_25 : decode cX1_canStandAt 25 = .ok (.iload_n 2, 1) := by decide +kernel
theorem dX1_canStandAt_26 : decode cX1_canStandAt 26 = .ok (.invokestatic 53, 3) := by decide +kernel
theorem dX1_canStandAt_29 : decode cX1_canStandAt 29 = .ok (.istore 5, 2) := by decide +kernel
theorem dX1_canStandAt_31 : decode cX1_canStandAt 31 = .ok (.iload 5, 2) := by decide +kernel
theorem dX1_canStandAt_33 : decode cX1_canStandAt 33 = .ok (.aload_n 0, 1) := by decide +kernel
theorem dX1_canStandAt_34 : decode cX1_canStandAt 34 = .ok (.iload_n 3, 1) := by decide +kernel
theorem dX1_canStandAt_35 : decode cX1_canStandAt 35 = .ok (.invokevirtual 60, 3) := by decide +kernel
theorem dX1_canStandAt_38 : decode cX1_canStandAt 38 = .ok (.if_icmp .lt 20, 3) := by decide +kernel
theorem dX1_canStandAt_41 : decode cX1_canStandAt 41 = .ok (.iload 4, 2) := by decide +kernel
theorem dX1_canStandAt_43 : decode cX1_canStandAt 43 = .ok (.iload 5, 2) := by decide +kernel
theorem dX1_canStandAt_45 : decode cX1_canStandAt 45 = .ok (.isub, 1) := by decide +kernel
theorem dX1_canStandAt_46 : decode cX1_canStandAt 46 = .ok (.aload_n 0, 1) := by decide +kernel
theorem dX1_canStandAt_47 : decode cX1_canStandAt 47 = .ok (.iload_n 1, 1) := by decide +kernel
theorem dX1_canStandAt_48 : decode cX1_canStandAt 48 = .ok (.invokevirtual 60, 3) := by decide +kernel
theorem dX1_canStandAt_51 : decode cX1_canStandAt 51 = .ok (.if_icmp .lt 7, 3) := by decide +kernel
theorem dX1_canStandAt_54 : decode cX1_canStandAt 54 = .ok (.iconst 1, 1) := by decide +kernel
theorem dX1_canStandAt_55 : decode cX1_canStandAt 55 = .ok (.goto 4, 3) := by decide +kernel
theorem dX1_canStandAt_58 : decode cX1_canStandAt 58 = .ok (.iconst 0, 1) := by decide +kernel
theorem dX1_canStandAt_59 : decode cX1_canStandAt 59 = .ok (.ireturn, 1) := by decide +kernel
theorem dX1_hasDoorAt_0 : decode cX1_hasDoorAt 0 = .ok (.iconst 0, 1) := by decide +kernel
theorem dX1_hasDoorAt_1 : decode cX1_hasDoorAt 1 = .ok (.istore_n 2, 1) := by decide +kernel
theorem dX1_hasDoorAt_2 : decode cX1_hasDoorAt 2 = .ok (.iload_n 2, 1) := by decide +kernel
theorem dX1_hasDoorAt_3 : decode cX1_hasDoorAt 3 = .ok (.aload_n 0, 1) := by decide +kernel
theorem dX1_hasDoorAt_4 : decode cX1_hasDoorAt 4 = .ok (.getfield 31, 3) := by decide +kernel
theorem dX1_hasDoorAt_7 : decode cX1_hasDoorAt 7 = .ok (.if_icmp .ge 21, 3) := by decide +kernel
theorem dX1_hasDoorAt_10 : decode cX1_hasDoorAt 10 = .ok (.aload_n 0, 1) := by decide +kernel
theorem dX1_hasDoorAt_11 : decode cX1_hasDoorAt 11 = .ok (.getfield 21, 3) := by decide +kernel
theorem dX1_hasDoorAt_14 : decode cX1_hasDoorAt 14 = .ok (.iload_n 2, 1) := by decide +kernel
theorem dX1_hasDoorAt_15 : decode cX1_hasDoorAt 15 = .ok (.iaload, 1) := by decide +kernel
theorem dX1_hasDoorAt_16 : decode cX1_hasDoorAt 16 = .ok (.iload_n 1, 1) := by decide +kernel
theorem dX1_hasDoorAt_17 : decode cX1_hasDoorAt 17 = .ok (.if_icmp .ne 5, 3) := by decide +kernel
theorem dX1_hasDoorAt_20 : decode cX1_hasDoorAt 20 = .ok (.iconst 1, 1) := by decide +kernel
theorem dX1_hasDoorAt_21 : decode cX1_hasDoorAt 21 = .ok (.ireturn, 1) := by decide +kernel
theorem dX1_hasDoorAt_22 : decode cX1_hasDoorAt 22 = .ok (.iinc 2 1, 3) := by decide +kernel
theorem dX1_hasDoorAt_25 : decode cX1_hasDoorAt 25 = .ok (.goto (-23), 3) := by decide +kernel
theorem dX1_hasDoorAt_28 : decode cX1_hasDoorAt 28 = .ok (.iconst 0, 1) := by decide +kernel
theorem dX1_hasDoorAt_29 : decode cX1_hasDoorAt 29 = .ok (.ireturn, 1) := by decide +kernel
theorem dX2_init_0 : decode cX2_init 0 = .ok (.aload_n 0, 1) := by decide +kernel
theorem dX2_init_1 : decode cX2_init 1 = .ok (.invokespecial 3, 3) := by decide +kernel
theorem dX2_init_4 : decode cX2_init 4 = .ok (.aload_n 0, 1) := by decide +kernel
theorem dX2_init_5 : decode cX2_init 5 = .ok (.bipush 6, 2) := by decide +kernel
theorem dX2_init_7 : decode cX2_init 7 = .ok (.anewarray 9, 3) := by decide +kernel
theorem dX2_init_10 : decode cX2_init 10 = .ok (.putfield 11, 3) := by decide +kernel
theorem dX2_init_13 : decode cX2_init 13 = .ok (.aload_n 0, 1) := by decide +kernel
theorem dX2_init_14 : decode cX2_init 14 = .ok (.iconst 5, 1) := by decide +kernel
theorem dX2_init_15 : decode cX2_init 15 = .ok (.newarray .int, 2) := by decide +kernel
theorem dX2_init_17 : decode cX2_init 17 = .ok (.putfield 17, 3) := by decide +kernel
theorem dX2_init_20 : decode cX2_init 20 = .ok (.aload_n 0, 1) := by decide +kernel
theorem dX2_init_21 : decode cX2_init 21 = .ok (.iconst 5, 1) := by decide +kernel
theorem dX2_init_22 : decode cX2_init 22 = .ok (.newarray .int, 2) := by decide +kernel
theorem dX2_init_24 : decode cX2_init 24 = .ok (.putfield 21, 3) := by decide +kernel
theorem dX2_init_27 : decode cX2_init 27 = .ok (.aload_n 0, 1) := by decide +kernel
theorem dX2_init_28 : decode cX2_init 28 = .ok (.aload_n 1, 1) := by decide +kernel
theorem dX2_init_29 : decode cX2_init 29 = .ok (.putfield 24, 3) := by decide +kernel
theorem dX2_init_32 : decode cX2_init 32 = .ok (.aload_n 0, 1) := by decide +kernel
theorem dX2_init_33 : decode cX2_init 33 = .ok (.new 9, 3) := by decide +kernel
theorem dX2_init_36 : decode cX2_init 36 = .ok (.dup, 1) := by decide +kernel
theorem dX2_init_37 : decode cX2_init 37 = .ok (.aload_n 1, 1) := by decide +kernel
theorem dX2_init_38 : decode cX2_init 38 = .ok (.invokespecial 28, 3) := by decide +kernel
theorem dX2_init_41 : decode cX2_init 41 = .ok (.putfield 31, 3) := by decide +kernel
theorem dX2_init_44 : decode cX2_init 44 = .ok (.iconst 0, 1) := by decide +kernel
theorem dX2_init_45 : decode cX2_init 45 = .ok (.istore_n 2, 1) := by decide +kernel
theorem dX2_init_46 : decode cX2_init 46 = .ok (.iload_n 2, 1) := by decide +kernel
theorem dX2_init_47 : decode cX2_init 47 = .ok (.iconst 5, 1) := by decide +kernel
theorem dX2_init_48 : decode cX2_init 48 = .ok (.if_icmp .gt 23, 3) := by decide +kernel
theorem dX2_init_51 : decode cX2_init 51 = .ok (.aload_n 0, 1) := by decide +kernel
theorem dX2_init_52 : decode cX2_init 52 = .ok (.getfield 11, 3) := by decide +kernel
theorem dX2_init_55 : decode cX2_init 55 = .ok (.iload_n 2, 1) := by decide +kernel
theorem dX2_init_56 : decode cX2_init 56 = .ok (.new 9, 3) := by decide +kernel
theorem dX2_init_59 : decode cX2_init 59 = .ok (.dup, 1) := by decide +kernel
theorem dX2_init_60 : decode cX2_init 60 = .ok (.aload_n 1, 1) := by decide +kernel
theorem dX2_init_61 : decode cX2_init 61 = .ok (.invokespecial 28, 3) := by decide +kernel
theorem dX2_init_64 : decode cX2_init 64 = .ok (.aastore, 1) := by decide +kernel
theorem dX2_init_65 : decode cX2_init 65 = .ok (.iinc 2 1, 3) := by decide +kernel
theorem dX2_init_68 : decode cX2_init 68 = .ok (.goto (-22), 3) := by decide +kernel
theorem dX2_init_71 : decode cX2_init 71 = .ok (.return_, 1) := by decide +kernel
theorem dX2_begin_0 : decode cX2_begin 0 = .ok (.aload_n 0, 1) := by decide +kernel
theorem dX2_begin_1 : decode cX2_begin 1 = .ok (.iload_n 2, 1) := by decide +kernel
theorem dX2_begin_2 : decode cX2_begin 2 = .ok (.putfield 35, 3) := by decide +kernel
theorem dX2_begin_5 : decode cX2_begin 5 = .ok (.aload_n 0, 1) := by decide +kernel
theorem dX2_begin_6 : decode cX2_begin 6 = .ok (.sipush 361, 3) := by decide +kernel
theorem dX2_begin_9 : decode cX2_begin 9 = .ok (.putfield 39, 3) := by decide +kernel
theorem dX2_begin_12 : decode cX2_begin 12 = .ok (.aload_n 0, 1) := by decide +kernel
theorem dX2_begin_13 : decode cX2_begin 13 = .ok (.getfield 11, 3) := by decide +kernel
theorem dX2_begin_16 : decode cX2_begin 16 = .ok (.iconst 0, 1) := by decide +kernel
theorem dX2_begin_17 : decode cX2_begin 17 = .ok (.aaload, 1) := by decide +kernel
theorem dX2_begin_18 : decode cX2_begin 18 = .ok (.aload_n 1, 1) := by decide +kernel
theorem dX2_begin_19 : decode cX2_begin 19 = .ok (.invokevirtual 42, 3) := by decide +kernel
theorem dX2_begin_22 : decode cX2_begin 22 = .ok (.return_, 1) := by decide +kernel
theorem dX2_visit_0 : decode cX2_visit 0 = .ok (.iload_n 2, 1) := by decide +kernel
theorem dX2_visit_1 : decode cX2_visit 1 = .ok (.ifCond .ne 23, 3) := by decide +kernel
theorem dX2_visit_4 : decode cX2_visit 4 = .ok (.aload_n 0, 1) := by decide +kernel
theorem dX2_visit_5 : decode cX2_visit 5 = .ok (.iload_n 3, 1) := by decide +kernel
theorem dX2_visit_6 : decode cX2_visit 6 = .ok (.putfield 39, 3) := by decide +kernel
theorem dX2_visit_9 : decode cX2_visit 9 = .ok (.aload_n 0, 1) := by decide +kernel
theorem dX2_visit_10 : decode cX2_visit 10 = .ok (.getfield 17, 3) := by decide +kernel
theorem dX2_visit_13 : decode cX2_visit 13 = .ok (.iconst 0, 1) := by decide +kernel
theorem dX2_visit_14 : decode cX2_visit 14 = .ok (.aload_n 0, 1) := by decide +kernel
theorem dX2_visit_15 : decode cX2_visit 15 = .ok (.getfield 21, 3) := by decide +kernel
theorem dX2_visit_18 : decode cX2_visit 18 = .ok (.iconst 0, 1) := by decide +kernel
theorem dX2_visit_19 : decode cX2_visit 19 = .ok (.iconst 5, 1) := by decide +kernel
theorem dX2_visit_20 : decode cX2_visit 20 = .ok (.invokestatic 46, 3) := by decide +kernel
theorem dX2_visit_23 : decode cX2_visit 23 = .ok (.return_, 1) := by decide +kernel
theorem dX2_visit_24 : decode cX2_visit 24 = .ok (.iload_n 1, 1) := by decide +kernel
theorem dX2_visit_25 : decode cX2_visit 25 = .ok (.iconst 5, 1) := by decide +kernel
theorem dX2_visit_26 : decode cX2_visit 26 = .ok (.if_icmp .lt 4, 3) := by decide +kernel
theorem dX2_visit_29 : decode cX2_visit 29 = .ok (.return_, 1) := by decide +kernel
theorem dX2_visit_30 : decode cX2_visit 30 = .ok (.iconst 0, 1) := by decide +kernel
theorem dX2_visit_31 : decode cX2_visit 31 = .ok (.istore 4, 2) := by decide +kernel
theorem dX2_visit_33 : decode cX2_visit 33 = .ok (.iload 4, 2) := by decide +kernel
theorem dX2_visit_35 : decode cX2_visit 35 = .ok (.aload_n 0, 1) := by decide +kernel
theorem dX2_visit_36 : decode cX2_visit 36 = .ok (.getfield 24, 3) := by decide +kernel
theorem dX2_visit_39 : decode cX2_visit 39 = .ok (.getfield 52, 3) := by decide +kernel
theorem dX2_visit_42 : decode cX2_visit 42 = .ok (.if_icmp .ge 69, 3) := by decide +kernel
theorem dX2_visit_45 : decode cX2_visit 45 = .ok (.iload_n 2, 1) := by decide +kernel
theorem dX2_visit_46 : decode cX2_visit 46 = .ok (.iload 4, 2) := by decide +kernel
theorem dX2_visit_48 : decode cX2_visit 48 = .ok (.ishr, 1) := by decide +kernel
theorem dX2_visit_49 : decode cX2_visit 49 = .ok (.iconst 1, 1) := by decide +kernel
theorem dX2_visit_50 : decode cX2_visit 50 = .ok (.iand, 1) := by decide +kernel
theorem dX2_visit_51 : decode cX2_visit 51 = .ok (.iconst 1, 1) := by decide +kernel
theorem dX2_visit_52 : decode cX2_visit 52 = .ok (.if_icmp .ne 53, 3) := by decide +kernel
theorem dX2_visit_55 : decode cX2_visit 55 = .ok (.aload_n 0, 1) := by decide +kernel
theorem dX2_visit_56 : decode cX2_visit 56 = .ok (.iload 4, 2) := by decide +kernel
theorem dX2_visit_58 : decode cX2_visit 58 = .ok (.iload_n 1, 1) := by decide +kernel
theorem dX2_visit_59 : decode cX2_visit 59 = .ok (.aload_n 0, 1) := by decide +kernel
theorem dX2_visit_60 : decode cX2_visit 60 = .ok (.getfield 39, 3) := by decide +kernel
theorem dX2_visit_63 : decode cX2_visit 63 = .ok (.iload_n 3, 1) := by decide +kernel
theorem dX2_visit_64 : decode cX2_visit 64 = .ok (.isub, 1) := by decide +kernel
theorem dX2_visit_65 : decode cX2_visit 65 = .ok (.iconst 1, 1) := by decide +kernel
theorem dX2_visit_66 : decode cX2_visit 66 = .ok (.isub, 1) := by decide +kernel
theorem dX2_visit_67 : decode cX2_visit 67 = .ok (.invokevirtual 57, 3) := by decide +kernel
theorem dX2_visit_70 : decode cX2_visit 70 = .ok (.istore 5, 2) := by decide +kernel
theorem dX2_visit_72 : decode cX2_visit 72 = .ok (.iload 5, 2) := by decide +kernel
theorem dX2_visit_74 : decode cX2_visit 74 = .ok (.iconst (-1), 1) := by decide +kernel
theorem dX2_visit_75 : decode cX2_visit 75 = .ok (.if_icmp .eq 30, 3) := by decide +kernel
theorem dX2_visit_78 : decode cX2_visit 78 = .ok (.aload_n 0, 1) := by decide +kernel
theorem dX2_visit_79 : decode cX2_visit 79 = .ok (.getfield 17, 3) := by decide +kernel
theorem dX2_visit_82 : decode cX2_visit 82 = .ok (.iload_n 1, 1) := by decide +kernel
theorem dX2_visit_83 : decode cX2_visit 83 = .ok (.iload 4, 2) := by decide +kernel
theorem dX2_visit_85 : decode cX2_visit 85 = .ok (.iastore, 1) := by decide +kernel
theorem dX2_visit_86 : decode cX2_visit 86 = .ok (.aload_n 0, 1) := by decide +kernel
theorem dX2_visit_87 : decode cX2_visit 87 = .ok (.iload_n 1, 1) := by decide +kernel
theorem dX2_visit_88 : decode cX2_visit 88 = .ok (.iconst 1, 1) := by decide +kernel
theorem dX2_visit_89 : decode cX2_visit 89 = .ok (.iadd, 1) := by decide +kernel
theorem dX2_visit_90 : decode cX2_visit 90 = .ok (.iload_n 2, 1) := by decide +kernel
theorem dX2_visit_91 : decode cX2_visit 91 = .ok (.iconst 1, 1) := by decide +kernel
theorem dX2_visit_92 : decode cX2_visit 92 = .ok (.iload 4, 2) := by decide +kernel
theorem dX2_visit_94 : decode cX2_visit 94 = .ok (.ishl, 1) := by decide +kernel
theorem dX2_visit_95 : decode cX2_visit 95 = .ok (.iconst (-1), 1) := by decide +kernel
theorem dX2_visit_96 : decode cX2_visit 96 = .ok (.ixor, 1) := by decide +kernel
theorem dX2_visit_97 : decode cX2_visit 97 = .ok (.iand, 1) := by decide +kernel
theorem dX2_visit_98 : decode cX2_visit 98 = .ok (.iload_n 3, 1) := by decide +kernel
theorem dX2_visit_99 : decode cX2_visit 99 = .ok (.iload 5, 2) := by decide +kernel
theorem dX2_visit_101 : decode cX2_visit 101 = .ok (.iadd, 1) := by decide +kernel
theorem dX2_visit_102 : decode cX2_visit 102 = .ok (.invokevirtual 61, 3) := by decide +kernel
theorem dX2_visit_105 : decode cX2_visit 105 = .ok (.iinc 4 1, 3) := by decide +kernel
theorem dX2_visit_108 : decode cX2_visit 108 = .ok (.goto (-75), 3) := by decide +kernel
theorem dX2_visit_111 : decode cX2_visit 111 = .ok (.return_, 1) := by decide +kernel
theorem dX2_goTo_0 : decode cX2_goTo 0 = .ok (.iload_n 3, 1) := by decide +kernel
theorem dX2_goTo_1 : decode cX2_goTo 1 = .ok (.bipush 72, 2) := by decide +kernel
theorem dX2_goTo_3 : decode cX2_goTo 3 = .ok (.invokestatic 65, 3) := by decide +kernel
theorem dX2_goTo_6 : decode cX2_goTo 6 = .ok (.istore 4, 2) := by decide +kernel
theorem dX2_goTo_8 : decode cX2_goTo 8 = .ok (.aload_n 0, 1) := by decide +kernel
theorem dX2_goTo_9 : decode cX2_goTo 9 = .ok (.getfield 11, 3) := by decide +kernel
theorem dX2_goTo_12 : decode cX2_goTo 12 = .ok (.iload_n 2, 1) := by decide +kernel
theorem dX2_goTo_13 : decode cX2_goTo 13 = .ok (.iconst 1, 1) := by decide +kernel
theorem dX2_goTo_14 : decode cX2_goTo 14 = .ok (.iadd, 1) := by decide +kernel
theorem dX2_goTo_15 : decode cX2_goTo 15 = .ok (.aaload, 1) := by decide +kernel
theorem dX2_goTo_16 : decode cX2_goTo 16 = .ok (.astore 5, 2) := by decide +kernel
theorem dX2_goTo_18 : decode cX2_goTo 18 = .ok (.aload 5, 2) := by decide +kernel
theorem dX2_goTo_20 : decode cX2_goTo 20 = .ok (.aload_n 0, 1) := by decide +kernel
theorem dX2_goTo_21 : decode cX2_goTo 21 = .ok (.getfield 11, 3) := by decide +kernel
theorem dX2_goTo_24 : decode cX2_goTo 24 = .ok (.iload_n 2, 1) := by decide +kernel
theorem dX2_goTo_25 : decode cX2_goTo 25 = .ok (.aaload, 1) := by decide +kernel
theorem dX2_goTo_26 : decode cX2_goTo 26 = .ok (.invokevirtual 42, 3) := by decide +kernel
theorem dX2_goTo_29 : decode cX2_goTo 29 = .ok (.aload 5, 2) := by decide +kernel
theorem dX2_goTo_31 : decode cX2_goTo 31 = .ok (.aload_n 0, 1) := by decide +kernel
theorem dX2_goTo_32 : decode cX2_goTo 32 = .ok (.getfield 35, 3) := by decide +kernel
theorem dX2_goTo_35 : decode cX2_goTo 35 = .ok (.iconst 0, 1) := by decide +kernel
theorem dX2_goTo_36 : decode cX2_goTo 36 = .ok (.iload_n 1, 1) := by decide +kernel
theorem dX2_goTo_37 : decode cX2_goTo 37 = .ok (.iload 4, 2) := by decide +kernel
theorem dX2_goTo_39 : decode cX2_goTo 39 = .ok (.invokevirtual 71, 3) := by decide +kernel
theorem dX2_goTo_42 : decode cX2_goTo 42 = .ok (.istore 6, 2) := by decide +kernel
theorem dX2_goTo_44 : decode cX2_goTo 44 = .ok (.aload_n 0, 1) := by decide +kernel
theorem dX2_goTo_45 : decode cX2_goTo 45 = .ok (.getfield 31, 3) := by decide +kernel
theorem dX2_goTo_48 : decode cX2_goTo 48 = .ok (.aload_n 0, 1) := by decide +kernel
theorem dX2_goTo_49 : decode cX2_goTo 49 = .ok (.getfield 11, 3) := by decide +kernel
theorem dX2_goTo_52 : decode cX2_goTo 52 = .ok (.iload_n 2, 1) := by decide +kernel
theorem dX2_goTo_53 : decode cX2_goTo 53 = .ok (.aaload, 1) := by decide +kernel
theorem dX2_goTo_54 : decode cX2_goTo 54 = .ok (.invokevirtual 42, 3) := by decide +kernel
theorem dX2_goTo_57 : decode cX2_goTo 57 = .ok (.aload_n 0, 1) := by decide +kernel
theorem dX2_goTo_58 : decode cX2_goTo 58 = .ok (.getfield 31, 3) := by decide +kernel
theorem dX2_goTo_61 : decode cX2_goTo 61 = .ok (.aload_n 0, 1) := by decide +kernel
theorem dX2_goTo_62 : decode cX2_goTo 62 = .ok (.getfield 35, 3) := by decide +kernel
theorem dX2_goTo_65 : decode cX2_goTo 65 = .ok (.iconst 1, 1) := by decide +kernel
theorem dX2_goTo_66 : decode cX2_goTo 66 = .ok (.iload_n 1, 1) := by decide +kernel
theorem dX2_goTo_67 : decode cX2_goTo 67 = .ok (.iload 6, 2) := by decide +kernel
theorem dX2_goTo_69 : decode cX2_goTo 69 = .ok (.iconst (-1), 1) := by decide +kernel
theorem dX2_goTo_70 : decode cX2_goTo 70 = .ok (.if_icmp .ne 8, 3) := by decide +kernel
theorem dX2_goTo_73 : decode cX2_goTo 73 = .ok (.iload 4, 2) := by decide +kernel
theorem dX2_goTo_75 : decode cX2_goTo 75 = .ok (.goto 7, 3) := by decide +kernel
theorem dX2_goTo_78 : decode cX2_goTo 78 = .ok (.iload 6, 2) := by decide +kernel
theorem dX2_goTo_80 : decode cX2_goTo 80 = .ok (.iconst 1, 1) := by decide +kernel
theorem dX2_goTo_81 : decode cX2_goTo 81 = .ok (.isub, 1) := by decide +kernel
theorem dX2_goTo_82 : decode cX2_goTo 82 = .ok (.invokevirtual 71, 3) := by decide +kernel
theorem dX2_goTo_85 : decode cX2_goTo 85 = .ok (.istore 7, 2) := by decide +kernel
theorem dX2_goTo_87 : decode cX2_goTo 87 = .ok (.iload 7, 2) := by decide +kernel
theorem dX2_goTo_89 : decode cX2_goTo 89 = .ok (.iconst (-1), 1) := by decide +kernel
theorem dX2_goTo_90 : decode cX2_goTo 90 = .ok (.if_icmp .ne 6, 3) := by decide +kernel
theorem dX2_goTo_93 : decode cX2_goTo 93 = .ok (.iload 6, 2) := by decide +kernel
theorem dX2_goTo_95 : decode cX2_goTo 95 = .ok (.ireturn, 1) := by decide +kernel
theorem dX2_goTo_96 : decode cX2_goTo 96 = .ok (.aload 5, 2) := by decide +kernel
theorem dX2_goTo_98 : decode cX2_goTo 98 = .ok (.aload_n 0, 1) := by decide +kernel
theorem dX2_goTo_99 : decode cX2_goTo 99 = .ok (.getfield 31, 3) := by decide +kernel
theorem dX2_goTo_102 : decode cX2_goTo 102 = .ok (.invokevirtual 42, 3) := by decide +kernel
theorem dX2_goTo_105 : decode cX2_goTo 105 = .ok (.iload 7, 2) := by decide +kernel
theorem dX2_goTo_107 : decode cX2_goTo 107 = .ok (.ireturn, 1) := by decide +kernel
theorem dX3_init_0 : decode cX3_init 0 = .ok (.aload_n 0, 1) := by decide +kernel
theorem dX3_init_1 : decode cX3_init 1 = .ok (.invokespecial 3, 3) := by decide +kernel
theorem dX3_init_4 : decode cX3_init 4 = .ok (.aload_n 0, 1) := by decide +kernel
theorem dX3_init_5 : decode cX3_init 5 = .ok (.bipush 8, 2) := by decide +kernel
theorem dX3_init_7 : decode cX3_init 7 = .ok (.newarray .int, 2) := by decide +kernel
theorem dX3_init_9 : decode cX3_init 9 = .ok (.putfield 9, 3) := by decide +kernel
theorem dX3_init_12 : decode cX3_init 12 = .ok (.aload_n 0, 1) := by decide +kernel
theorem dX3_init_13 : decode cX3_init 13 = .ok (.bipush 8, 2) := by decide +kernel
theorem dX3_init_15 : decode cX3_init 15 = .ok (.newarray .int, 2) := by decide +kernel
theorem dX3_init_17 : decode cX3_init 17 = .ok (.putfield 15, 3) := by decide +kernel
theorem dX3_init_20 : decode cX3_init 20 = .ok (.return_, 1) := by decide +kernel
theorem dX3_way_0 : decode cX3_way 0 = .ok (.iconst 0, 1) := by decide +kernel
theorem dX3_way_1 : decode cX3_way 1 = .ok (.istore 4, 2) := by decide +kernel
theorem dX3_way_3 : decode cX3_way 3 = .ok (.iload_n 2, 1) := by decide +kernel
theorem dX3_way_4 : decode cX3_way 4 = .ok (.istore 5, 2) := by decide +kernel
theorem dX3_way_6 : decode cX3_way 6 = .ok (.iconst 0, 1) := by decide +kernel
theorem dX3_way_7 : decode cX3_way 7 = .ok (.istore 6, 2) := by decide +kernel
theorem dX3_way_9 : decode cX3_way 9 = .ok (.iload 6, 2) := by decide +kernel
theorem dX3_way_11 : decode cX3_way 11 = .ok (.aload_n 0, 1) := by decide +kernel
theorem dX3_way_12 : decode cX3_way 12 = .ok (.getfield 18, 3) := by decide +kernel
theorem dX3_way_15 : decode cX3_way 15 = .ok (.if_icmp .ge 46, 3) := by decide +kernel
theorem dX3_way_18 : decode cX3_way 18 = .ok (.aload_n 0, 1) := by decide +kernel
theorem dX3_way_19 : decode cX3_way 19 = .ok (.getfield 9, 3) := by decide +kernel
theorem dX3_way_22 : decode cX3_way 22 = .ok (.iload 6, 2) := by decide +kernel
theorem dX3_way_24 : decode cX3_way 24 = .ok (.iaload, 1) := by decide +kernel
theorem dX3_way_25 : decode cX3_way 25 = .ok (.iload_n 1, 1) := by decide +kernel
theorem dX3_way_26 : decode cX3_way 26 = .ok (.if_icmp .ne 29, 3) := by decide +kernel
theorem dX3_way_29 : decode cX3_way 29 = .ok (.iload 4, 2) := by decide +kernel
theorem dX3_way_31 : decode cX3_way 31 = .ok (.iload 5, 2) := by decide +kernel
theorem dX3_way_33 : decode cX3_way 33 = .ok (.aload_n 0, 1) := by decide +kernel
theorem dX3_way_34 : decode cX3_way 34 = .ok (.getfield 15, 3) := by decide +kernel
theorem dX3_way_37 : decode cX3_way 37 = .ok (.iload 6, 2) := by decide +kernel
theorem dX3_way_39 : decode cX3_way 39 = .ok (.iaload, 1) := by decide +kernel
theorem dX3_way_40 : decode cX3_way 40 = .ok (.invokestatic 22, 3) := by decide +kernel
theorem dX3_way_43 : decode cX3_way 43 = .ok (.iadd, 1) := by decide +kernel
theorem dX3_way_44 : decode cX3_way 44 = .ok (.istore 4, 2) := by decide +kernel
theorem dX3_way_46 : decode cX3_way 46 = .ok (.aload_n 0, 1) := by decide +kernel
theorem dX3_way_47 : decode cX3_way 47 = .ok (.getfield 15, 3) := by decide +kernel
theorem dX3_way_50 : decode cX3_way 50 = .ok (.iload 6, 2) := by decide +kernel
theorem dX3_way_52 : decode cX3_way 52 = .ok (.iaload, 1) := by decide +kernel
theorem dX3_way_53 : decode cX3_way 53 = .ok (.istore 5, 2) := by decide +kernel
theorem dX3_way_55 : decode cX3_way 55 = .ok (.iinc 6 1, 3) := by decide +kernel
theorem dX3_way_58 : decode cX3_way 58 = .ok (.goto (-49), 3) := by decide +kernel
theorem dX3_way_61 : decode cX3_way 61 = .ok (.iload 4, 2) := by decide +kernel
theorem dX3_way_63 : decode cX3_way 63 = .ok (.iload 5, 2) := by decide +kernel
theorem dX3_way_65 : decode cX3_way 65 = .ok (.iload_n 3, 1) := by decide +kernel
theorem dX3_way_66 : decode cX3_way 66 = .ok (.invokestatic 22, 3) := by decide +kernel
theorem dX3_way_69 : decode cX3_way 69 = .ok (.iadd, 1) := by decide +kernel
theorem dX3_way_70 : decode cX3_way 70 = .ok (.ireturn, 1) := by decide +kernel
theorem dX3_shorter_0 : decode cX3_shorter 0 = .ok (.iload_n 0, 1) := by decide +kernel
theorem dX3_shorter_1 : decode cX3_shorter 1 = .ok (.iload_n 1, 1) := by decide +kernel
theorem dX3_shorter_2 : decode cX3_shorter 2 = .ok (.invokestatic 26, 3) := by decide +kernel
theorem dX3_shorter_5 : decode cX3_shorter 5 = .ok (.istore_n 2, 1) := by decide +kernel
theorem dX3_shorter_6 : decode cX3_shorter 6 = .ok (.iload_n 2, 1) := by decide +kernel
theorem dX3_shorter_7 : decode cX3_shorter 7 = .ok (.bipush 72, 2) := by decide +kernel
theorem dX3_shorter_9 : decode cX3_shorter 9 = .ok (.iload_n 2, 1) := by decide +kernel
theorem dX3_shorter_10 : decode cX3_shorter 10 = .ok (.isub, 1) := by decide +kernel
theorem dX3_shorter_11 : decode cX3_shorter 11 = .ok (.invokestatic 29, 3) := by decide +kernel
theorem dX3_shorter_14 : decode cX3_shorter 14 = .ok (.ireturn, 1) := by decide +kernel
theorem dX4_init_0 : decode cX4_init 0 = .ok (.aload_n 0, 1) := by decide +kernel
theorem dX4_init_1 : decode cX4_init 1 = .ok (.invokespecial 3, 3) := by decide +kernel
theorem dX4_init_4 : decode cX4_init 4 = .ok (.aload_n 0, 1) := by decide +kernel
theorem dX4_init_5 : decode cX4_init 5 = .ok (.sipush 200, 3) := by decide +kernel
theorem dX4_init_8 : decode cX4_init 8 = .ok (.newarray .byte, 2) := by decide +kernel
theorem dX4_init_10 : decode cX4_init 10 = .ok (.putfield 9, 3) := by decide +kernel
theorem dX4_init_13 : decode cX4_init 13 = .ok (.aload_n 0, 1) := by decide +kernel
theorem dX4_init_14 : decode cX4_init 14 = .ok (.new 15, 3) := by decide +kernel
theorem dX4_init_17 : decode cX4_init 17 = .ok (.dup, 1) := by decide +kernel
theorem dX4_init_18 : decode cX4_init 18 = .ok (.invokespecial 17, 3) := by decide +kernel
theorem dX4_init_21 : decode cX4_init 21 = .ok (.putfield 18, 3) := by decide +kernel
theorem dX4_init_24 : decode cX4_init 24 = .ok (.return_, 1) := by decide +kernel
theorem dX4_read_0 : decode cX4_read 0 = .ok (.aload_n 0, 1) := by decide +kernel
theorem dX4_read_1 : decode cX4_read 1 = .ok (.getfield 18, 3) := by decide +kernel
theorem dX4_read_4 : decode cX4_read 4 = .ok (.aload_n 1, 1) := by decide +kernel
theorem dX4_read_5 : decode cX4_read 5 = .ok (.invokevirtual 22, 3) := by decide +kernel
theorem dX4_read_8 : decode cX4_read 8 = .ok (.aload_n 0, 1) := by decide +kernel
theorem dX4_read_9 : decode cX4_read 9 = .ok (.iconst 0, 1) := by decide +kernel
theorem dX4_read_10 : decode cX4_read 10 = .ok (.putfield 26, 3) := by decide +kernel
theorem dX4_read_13 : decode cX4_read 13 = .ok (.aload_n 0, 1) := by decide +kernel
theorem dX4_read_14 : decode cX4_read 14 = .ok (.iconst 1, 1) := by decide +kernel
theorem dX4_read_15 : decode cX4_read 15 = .ok (.putfield 30, 3) := by decide +kernel
theorem dX4_read_18 : decode cX4_read 18 = .ok (.aload_n 0, 1) := by decide +kernel
theorem dX4_read_19 : decode cX4_read 19 = .ok (.getfield 30, 3) := by decide +kernel
theorem dX4_read_22 : decode cX4_read 22 = .ok (.bipush 12, 2) := by decide +kernel
theorem dX4_read_24 : decode cX4_read 24 = .ok (.if_icmp .gt 64, 3) := by decide +kernel
theorem dX4_read_27 : decode cX4_read 27 = .ok (.aload_n 0, 1) := by decide +kernel
theorem dX4_read_28 : decode cX4_read 28 = .ok (.invokevirtual 33, 3) := by decide +kernel
theorem dX4_read_31 : decode cX4_read 31 = .ok (.ifCond .ne 8, 3) := by decide +kernel
theorem dX4_read_34 : decode cX4_read 34 = .ok (.aload_n 0, 1) := by decide +kernel
theorem dX4_read_35 : decode cX4_read 35 = .ok (.getfield 37, 3) := by decide +kernel
theorem dX4_read_38 : decode cX4_read 38 = .ok (.ireturn, 1) := by decide +kernel
theorem dX4_read_39 : decode cX4_read 39 = .ok (.aload_n 0, 1) := by decide +kernel
theorem dX4_read_40 : decode cX4_read 40 = .ok (.invokevirtual 40, 3) := by decide +kernel
theorem dX4_read_43 : decode cX4_read 43 = .ok (.aload_n 0, 1) := by decide +kernel
theorem dX4_read_44 : decode cX4_read 44 = .ok (.getfield 37, 3) := by decide +kernel
theorem dX4_read_47 : decode cX4_read 47 = .ok (.aload_n 0, 1) := by decide +kernel
theorem dX4_read_48 : decode cX4_read 48 = .ok (.getfield 43, 3) := by decide +kernel
theorem dX4_read_51 : decode cX4_read 51 = .ok (.if_icmp .ne 5, 3) := by decide +kernel
theorem dX4_read_54 : decode cX4_read 54 = .ok (.iconst (-1), 1) := by decide +kernel
theorem dX4_read_55 : decode cX4_read 55 = .ok (.ireturn, 1) := by decide +kernel
theorem dX4_read_56 : decode cX4_read 56 = .ok (.aload_n 0, 1) := by decide +kernel
theorem dX4_read_57 : decode cX4_read 57 = .ok (.getfield 9, 3) := by decide +kernel
theorem dX4_read_60 : decode cX4_read 60 = .ok (.aload_n 0, 1) := by decide +kernel
theorem dX4_read_61 : decode cX4_read 61 = .ok (.getfield 37, 3) := by decide +kernel
theorem dX4_read_64 : decode cX4_read 64 = .ok (.baload, 1) := by decide +kernel
theorem dX4_read_65 : decode cX4_read 65 = .ok (.bipush 59, 2) := by decide +kernel
theorem dX4_read_67 : decode cX4_read 67 = .ok (.if_icmp .eq 8, 3) := by decide +kernel
theorem dX4_read_70 : decode cX4_read 70 = .ok (.aload_n 0, 1) := by decide +kernel
theorem dX4_read_71 : decode cX4_read 71 = .ok (.getfield 37, 3) := by decide +kernel
theorem dX4_read_74 : decode cX4_read 74 = .ok (.ireturn, 1) := by decide +kernel
theorem dX4_read_75 : decode cX4_read 75 = .ok (.aload_n 0, 1) := by decide +kernel
theorem dX4_read_76 : decode cX4_read 76 = .ok (.dup, 1) := by decide +kernel
theorem dX4_read_77 : decode cX4_read 77 = .ok (.getfield 30, 3) := by decide +kernel
theorem dX4_read_80 : decode cX4_read 80 = .ok (.iconst 1, 1) := by decide +kernel
theorem dX4_read_81 : decode cX4_read 81 = .ok (.iadd, 1) := by decide +kernel
theorem dX4_read_82 : decode cX4_read 82 = .ok (.putfield 30, 3) := by decide +kernel
theorem dX4_read_85 : decode cX4_read 85 = .ok (.goto (-67), 3) := by decide +kernel
theorem dX4_read_88 : decode cX4_read 88 = .ok (.aload_n 0, 1) := by decide +kernel
theorem dX4_read_89 : decode cX4_read 89 = .ok (.getfield 37, 3) := by decide +kernel
theorem dX4_read_92 : decode cX4_read 92 = .ok (.ireturn, 1) := by decide +kernel
theorem dX4_readLine_0 : decode cX4_readLine 0 = .ok (.aload_n 0, 1) := by decide +kernel
theorem dX4_readLine_1 : decode cX4_readLine 1 = .ok (.invokevirtual 40, 3) := by decide +kernel
theorem dX4_readLine_4 : decode cX4_readLine 4 = .ok (.aload_n 0, 1) := by decide +kernel
theorem dX4_readLine_5 : decode cX4_readLine 5 = .ok (.invokevirtual 46, 3) := by decide +kernel
theorem dX4_readLine_8 : decode cX4_readLine 8 = .ok (.istore_n 1, 1) := by decide +kernel
theorem dX4_readLine_9 : decode cX4_readLine 9 = .ok (.iload_n 1, 1) := by decide +kernel
theorem dX4_readLine_10 : decode cX4_readLine 10 = .ok (.tableswitch 95 (-1) 9 #[58, 60, 65, 95, 95, 95, 95, 70, 75, 80, 85], 58) := by decide +kernel
theorem dX4_readLine_68 : decode cX4_readLine 68 = .ok (.iconst 0, 1) := by decide +kernel
theorem dX4_readLine_69 : decode cX4_readLine 69 = .ok (.ireturn, 1) := by decide +kernel
theorem dX4_readLine_70 : decode cX4_readLine 70 = .ok (.aload_n 0, 1) := by decide +kernel
theorem dX4_readLine_71 : decode cX4_readLine 71 = .ok (.invokevirtual 50, 3) := by decide +kernel
theorem dX4_readLine_74 : decode cX4_readLine 74 = .ok (.ireturn, 1) := by decide +kernel
theorem dX4_readLine_75 : decode cX4_readLine 75 = .ok (.aload_n 0, 1) := by decide +kernel
theorem dX4_readLine_76 : decode cX4_readLine 76 = .ok (.invokevirtual 53, 3) := by decide +kernel
theorem dX4_readLine_79 : decode cX4_readLine 79 = .ok (.ireturn, 1) := by decide +kernel
theorem dX4_readLine_80 : decode cX4_readLine 80 = .ok (.aload_n 0, 1) := by decide +kernel
theorem dX4_readLine_81 : decode cX4_readLine 81 = .ok (.invokevirtual 56, 3) := by decide +kernel
theorem dX4_readLine_84 : decode cX4_readLine 84 = .ok (.ireturn, 1) := by decide +kernel
theorem dX4_readLine_85 : decode cX4_readLine 85 = .ok (.aload_n 0, 1) := by decide +kernel
theorem dX4_readLine_86 : decode cX4_readLine 86 = .ok (.invokevirtual 59, 3) := by decide +kernel
theorem dX4_readLine_89 : decode cX4_readLine 89 = .ok (.ireturn, 1) := by decide +kernel
theorem dX4_readLine_90 : decode cX4_readLine 90 = .ok (.aload_n 0, 1) := by decide +kernel
theorem dX4_readLine_91 : decode cX4_readLine 91 = .ok (.invokevirtual 62, 3) := by decide +kernel
theorem dX4_readLine_94 : decode cX4_readLine 94 = .ok (.ireturn, 1) := by decide +kernel
theorem dX4_readLine_95 : decode cX4_readLine 95 = .ok (.aload_n 0, 1) := by decide +kernel
theorem dX4_readLine_96 : decode cX4_readLine 96 = .ok (.getfield 18, 3) := by decide +kernel
theorem dX4_readLine_99 : decode cX4_readLine 99 = .ok (.iconst 0, 1) := by decide +kernel
theorem dX4_readLine_100 : decode cX4_readLine 100 = .ok (.putfield 65, 3) := by decide +kernel
theorem dX4_readLine_103 : decode cX4_readLine 103 = .ok (.iconst 1, 1) := by decide +kernel
theorem dX4_readLine_104 : decode cX4_readLine 104 = .ok (.ireturn, 1) := by decide +kernel
theorem dX4_readLine_105 : decode cX4_readLine 105 = .ok (.aload_n 0, 1) := by decide +kernel
theorem dX4_readLine_106 : decode cX4_readLine 106 = .ok (.iload_n 1, 1) := by decide +kernel
theorem dX4_readLine_107 : decode cX4_readLine 107 = .ok (.iconst 2, 1) := by decide +kernel
theorem dX4_readLine_108 : decode cX4_readLine 108 = .ok (.isub, 1) := by decide +kernel
theorem dX4_readLine_109 : decode cX4_readLine 109 = .ok (.invokevirtual 68, 3) := by decide +kernel
theorem dX4_readLine_112 : decode cX4_readLine 112 = .ok (.ireturn, 1) := by decide +kernel
theorem dX4_readHouse_0 : decode cX4_readHouse 0 = .ok (.aload_n 0, 1) := by decide +kernel
theorem dX4_readHouse_1 : decode cX4_readHouse 1 = .ok (.iconst 3, 1) := by decide +kernel
theorem dX4_readHouse_2 : decode cX4_readHouse 2 = .ok (.bipush 8, 2) := by decide +kernel
theorem dX4_readHouse_4 : decode cX4_readHouse 4 = .ok (.invokevirtual 72, 3) := by decide +kernel
theorem dX4_readHouse_7 : decode cX4_readHouse 7 = .ok (.ifCond .ne 5, 3) := by decide +kernel
theorem dX4_readHouse_10 : decode cX4_readHouse 10 = .ok (.iconst 0, 1) := by decide +kernel
theorem dX4_readHouse_11 : decode cX4_readHouse 11 = .ok (.ireturn, 1) := by decide +kernel
theorem dX4_readHouse_12 : decode cX4_readHouse 12 = .ok (.aload_n 0, 1) := by decide +kernel
theorem dX4_readHouse_13 : decode cX4_readHouse 13 = .ok (.getfield 18, 3) := by decide +kernel
theorem dX4_readHouse_16 : decode cX4_readHouse 16 = .ok (.aload_n 0, 1) := by decide +kernel
theorem dX4_readHouse_17 : decode cX4_readHouse 17 = .ok (.getfield 76, 3) := by decide +kernel
theorem dX4_readHouse_20 : decode cX4_readHouse 20 = .ok (.invokevirtual 79, 3) := by decide +kernel
theorem dX4_readHouse_23 : decode cX4_readHouse 23 = .ok (.iconst 1, 1) := by decide +kernel
theorem dX4_readHouse_24 : decode cX4_readHouse 24 = .ok (.ireturn, 1) := by decide +kernel
theorem dX4_readLeaf_0 : decode cX4_readLeaf 0 = .ok (.aload_n 0, 1) := by decide +kernel
theorem dX4_readLeaf_1 : decode cX4_readLeaf 1 = .ok (.iconst 0, 1) := by decide +kernel
theorem dX4_readLeaf_2 : decode cX4_readLeaf 2 = .ok (.aload_n 0, 1) := by decide +kernel
theorem dX4_readLeaf_3 : decode cX4_readLeaf 3 = .ok (.getfield 18, 3) := by decide +kernel
theorem dX4_readLeaf_6 : decode cX4_readLeaf 6 = .ok (.getfield 83, 3) := by decide +kernel
theorem dX4_readLeaf_9 : decode cX4_readLeaf 9 = .ok (.iconst 1, 1) := by decide +kernel
theorem dX4_readLeaf_10 : decode cX4_readLeaf 10 = .ok (.isub, 1) := by decide +kernel
theorem dX4_readLeaf_11 : decode cX4_readLeaf 11 = .ok (.invokevirtual 72, 3) := by decide +kernel
theorem dX4_readLeaf_14 : decode cX4_readLeaf 14 = .ok (.ifCond .ne 5, 3) := by decide +kernel
theorem dX4_readLeaf_17 : decode cX4_readLeaf 17 = .ok (.iconst 0, 1) := by decide +kernel
theorem dX4_readLeaf_18 : decode cX4_readLeaf 18 = .ok (.ireturn, 1) := by decide +kernel
theorem dX4_readLeaf_19 : decode cX4_readLeaf 19 = .ok (.aload_n 0, 1) := by decide +kernel
theorem dX4_readLeaf_20 : decode cX4_readLeaf 20 = .ok (.getfield 76, 3) := by decide +kernel
theorem dX4_readLeaf_23 : decode cX4_readLeaf 23 = .ok (.istore_n 1, 1) := by decide +kernel
theorem dX4_readLeaf_24 : decode cX4_readLeaf 24 = .ok (.aload_n 0, 1) := by decide +kernel
theorem dX4_readLeaf_25 : decode cX4_readLeaf 25 = .ok (.iconst 0, 1) := by decide +kernel
theorem dX4_readLeaf_26 : decode cX4_readLeaf 26 = .ok (.bipush 71, 2) := by decide +kernel
theorem dX4_readLeaf_28 : decode cX4_readLeaf 28 = .ok (.invokevirtual 72, 3) := by decide +kernel
theorem dX4_readLeaf_31 : decode cX4_readLeaf 31 = .ok (.ifCond .eq 18, 3) := by decide +kernel
theorem dX4_readLeaf_34 : decode cX4_readLeaf 34 = .ok (.aload_n 0, 1) := by decide +kernel
theorem dX4_readLeaf_35 : decode cX4_readLeaf 35 = .ok (.getfield 18, 3) := by decide +kernel
theorem dX4_readLeaf_38 : decode cX4_readLeaf 38 = .ok (.iload_n 1, 1) := by decide +kernel
theorem dX4_readLeaf_39 : decode cX4_readLeaf 39 = .ok (.aload_n 0, 1) := by decide +kernel
theorem dX4_readLeaf_40 : decode cX4_readLeaf 40 = .ok (.getfield 76, 3) := by decide +kernel
theorem dX4_readLeaf_43 : decode cX4_readLeaf 43 = .ok (.invokevirtual 86, 3) := by decide +kernel
theorem dX4_readLeaf_46 : decode cX4_readLeaf 46 = .ok (.ifCond .ne 5, 3) := by decide +kernel
theorem dX4_readLeaf_49 : decode cX4_readLeaf 49 = .ok (.iconst 0, 1) := by decide +kernel
theorem dX4_readLeaf_50 : decode cX4_readLeaf 50 = .ok (.ireturn, 1) := by decide +kernel
theorem dX4_readLeaf_51 : decode cX4_readLeaf 51 = .ok (.aload_n 0, 1) := by decide +kernel
theorem dX4_readLeaf_52 : decode cX4_readLeaf 52 = .ok (.getfield 18, 3) := by decide +kernel
theorem dX4_readLeaf_55 : decode cX4_readLeaf 55 = .ok (.getfield 89, 3) := by decide +kernel
theorem dX4_readLeaf_58 : decode cX4_readLeaf 58 = .ok (.iload_n 1, 1) := by decide +kernel
theorem dX4_readLeaf_59 : decode cX4_readLeaf 59 = .ok (.aload_n 0, 1) := by decide +kernel
theorem dX4_readLeaf_60 : decode cX4_readLeaf 60 = .ok (.getfield 76, 3) := by decide +kernel
theorem dX4_readLeaf_63 : decode cX4_readLeaf 63 = .ok (.iastore, 1) := by decide +kernel
theorem dX4_readLeaf_64 : decode cX4_readLeaf 64 = .ok (.iconst 1, 1) := by decide +kernel
theorem dX4_readLeaf_65 : decode cX4_readLeaf 65 = .ok (.ireturn, 1) := by decide +kernel
theorem dX4_readKind_0 : decode cX4_readKind 0 = .ok (.aload_n 0, 1) := by decide +kernel
theorem dX4_readKind_1 : decode cX4_readKind 1 = .ok (.iconst 0, 1) := by decide +kernel
theorem dX4_readKind_2 : decode cX4_readKind 2 = .ok (.aload_n 0, 1) := by decide +kernel
theorem dX4_readKind_3 : decode cX4_readKind 3 = .ok (.getfield 18, 3) := by decide +kernel
theorem dX4_readKind_6 : decode cX4_readKind 6 = .ok (.getfield 83, 3) := by decide +kernel
theorem dX4_readKind_9 : decode cX4_readKind 9 = .ok (.iconst 1, 1) := by decide +kernel
theorem dX4_readKind_10 : decode cX4_readKind 10 = .ok (.isub, 1) := by decide +kernel
theorem dX4_readKind_11 : decode cX4_readKind 11 = .ok (.invokevirtual 72, 3) := by decide +kernel
theorem dX4_readKind_14 : decode cX4_readKind 14 = .ok (.ifCond .ne 5, 3) := by decide +kernel
theorem dX4_readKind_17 : decode cX4_readKind 17 = .ok (.iconst 0, 1) := by decide +kernel
theorem dX4_readKind_18 : decode cX4_readKind 18 = .ok (.ireturn, 1) := by decide +kernel
theorem dX4_readKind_19 : decode cX4_readKind 19 = .ok (.aload_n 0, 1) := by decide +kernel
theorem dX4_readKind_20 : decode cX4_readKind 20 = .ok (.getfield 18, 3) := by decide +kernel
theorem dX4_readKind_23 : decode cX4_readKind 23 = .ok (.getfield 93, 3) := by decide +kernel
theorem dX4_readKind_26 : decode cX4_readKind 26 = .ok (.aload_n 0, 1) := by decide +kernel
theorem dX4_readKind_27 : decode cX4_readKind 27 = .ok (.getfield 76, 3) := by decide +kernel
theorem dX4_readKind_30 : decode cX4_readKind 30 = .ok (.iload_n 1, 1) := by decide +kernel
theorem dX4_readKind_31 : decode cX4_readKind 31 = .ok (.iastore, 1) := by decide +kernel
theorem dX4_readKind_32 : decode cX4_readKind 32 = .ok (.iconst 1, 1) := by decide +kernel
theorem dX4_readKind_33 : decode cX4_readKind 33 = .ok (.ireturn, 1) := by decide +kernel
theorem dX4_readPut_0 : decode cX4_readPut 0 = .ok (.aload_n 0, 1) := by decide +kernel
theorem dX4_readPut_1 : decode cX4_readPut 1 = .ok (.iconst 0, 1) := by decide +kernel
theorem dX4_readPut_2 : decode cX4_readPut 2 = .ok (.aload_n 0, 1) := by decide +kernel
theorem dX4_readPut_3 : decode cX4_readPut 3 = .ok (.getfield 18, 3) := by decide +kernel
theorem dX4_readPut_6 : decode cX4_readPut 6 = .ok (.getfield 83, 3) := by decide +kernel
theorem dX4_readPut_9 : decode cX4_readPut 9 = .ok (.iconst 1, 1) := by decide +kernel
theorem dX4_readPut_10 : decode cX4_readPut 10 = .ok (.isub, 1) := by decide +kernel
theorem dX4_readPut_11 : decode cX4_readPut 11 = .ok (.invokevirtual 72, 3) := by decide +kernel
theorem dX4_readPut_14 : decode cX4_readPut 14 = .ok (.ifCond .ne 5, 3) := by decide +kernel
theorem dX4_readPut_17 : decode cX4_readPut 17 = .ok (.iconst 0, 1) := by decide +kernel
theorem dX4_readPut_18 : decode cX4_readPut 18 = .ok (.ireturn, 1) := by decide +kernel
theorem dX4_readPut_19 : decode cX4_readPut 19 = .ok (.aload_n 0, 1) := by decide +kernel
theorem dX4_readPut_20 : decode cX4_readPut 20 = .ok (.getfield 76, 3) := by decide +kernel
theorem dX4_readPut_23 : decode cX4_readPut 23 = .ok (.istore_n 1, 1) := by decide +kernel
theorem dX4_readPut_24 : decode cX4_readPut 24 = .ok (.aload_n 0, 1) := by decide +kernel
theorem dX4_readPut_25 : decode cX4_readPut 25 = .ok (.iconst 0, 1) := by decide +kernel
theorem dX4_readPut_26 : decode cX4_readPut 26 = .ok (.bipush 20, 2) := by decide +kernel
theorem dX4_readPut_28 : decode cX4_readPut 28 = .ok (.invokevirtual 72, 3) := by decide +kernel
theorem dX4_readPut_31 : decode cX4_readPut 31 = .ok (.ifCond .eq 20, 3) := by decide +kernel
theorem dX4_readPut_34 : decode cX4_readPut 34 = .ok (.aload_n 0, 1) := by decide +kernel
theorem dX4_readPut_35 : decode cX4_readPut 35 = .ok (.getfield 76, 3) := by decide +kernel
theorem dX4_readPut_38 : decode cX4_readPut 38 = .ok (.iconst 1, 1) := by decide +kernel
theorem dX4_readPut_39 : decode cX4_readPut 39 = .ok (.iadd, 1) := by decide +kernel
theorem dX4_readPut_40 : decode cX4_readPut 40 = .ok (.aload_n 0, 1) := by decide +kernel
theorem dX4_readPut_41 : decode cX4_readPut 41 = .ok (.getfield 18, 3) := by decide +kernel
theorem dX4_readPut_44 : decode cX4_readPut 44 = .ok (.iload_n 1, 1) := by decide +kernel
theorem dX4_readPut_45 : decode cX4_readPut 45 = .ok (.invokevirtual 96, 3) := by decide +kernel
theorem dX4_readPut_48 : decode cX4_readPut 48 = .ok (.if_icmp .le 5, 3) := by decide +kernel
theorem dX4_readPut_51 : decode cX4_readPut 51 = .ok (.iconst 0, 1) := by decide +kernel
theorem dX4_readPut_52 : decode cX4_readPut 52 = .ok (.ireturn, 1) := by decide +kernel
theorem dX4_readPut_53 : decode cX4_readPut 53 = .ok (.aload_n 0, 1) := by decide +kernel
theorem dX4_readPut_54 : decode cX4_readPut 54 = .ok (.getfield 18, 3) := by decide +kernel
theorem dX4_readPut_57 : decode cX4_readPut 57 = .ok (.getfield 100, 3) := by decide +kernel
theorem dX4_readPut_60 : decode cX4_readPut 60 = .ok (.iload_n 1, 1) := by decide +kernel
theorem dX4_readPut_61 : decode cX4_readPut 61 = .ok (.aload_n 0, 1) := by decide +kernel
theorem dX4_readPut_62 : decode cX4_readPut 62 = .ok (.getfield 76, 3) := by decide +kernel
theorem dX4_readPut_65 : decode cX4_readPut 65 = .ok (.iastore, 1) := by decide +kernel
theorem dX4_readPut_66 : decode cX4_readPut 66 = .ok (.iconst 1, 1) := by decide +kernel
theorem dX4_readPut_67 : decode cX4_readPut 67 = .ok (.ireturn, 1) := by decide +kernel
theorem dX4_readDoor_0 : decode cX4_readDoor 0 = .ok (.aload_n 0, 1) := by decide +kernel
theorem dX4_readDoor_1 : decode cX4_readDoor 1 = .ok (.iconst 0, 1) := by decide +kernel
theorem dX4_readDoor_2 : decode cX4_readDoor 2 = .ok (.bipush 71, 2) := by decide +kernel
theorem dX4_readDoor_4 : decode cX4_readDoor 4 = .ok (.invokevirtual 72, 3) := by decide +kernel
theorem dX4_readDoor_7 : decode cX4_readDoor 7 = .ok (.ifCond .eq 28, 3) := by decide +kernel
theorem dX4_readDoor_10 : decode cX4_readDoor 10 = .ok (.aload_n 0, 1) := by decide +kernel
theorem dX4_readDoor_11 : decode cX4_readDoor 11 = .ok (.getfield 18, 3) := by decide +kernel
theorem dX4_readDoor_14 : decode cX4_readDoor 14 = .ok (.aload_n 0, 1) := by decide +kernel
theorem dX4_readDoor_15 : decode cX4_readDoor 15 = .ok (.getfield 76, 3) := by decide +kernel
theorem dX4_readDoor_18 : decode cX4_readDoor 18 = .ok (.invokevirtual 103, 3) := by decide +kernel
theorem dX4_readDoor_21 : decode cX4_readDoor 21 = .ok (.ifCond .ne 14, 3) := by decide +kernel
theorem dX4_readDoor_24 : decode cX4_readDoor 24 = .ok (.aload_n 0, 1) := by decide +kernel
theorem dX4_readDoor_25 : decode cX4_readDoor 25 = .ok (.getfield 18, 3) := by decide +kernel
theorem dX4_readDoor_28 : decode cX4_readDoor 28 = .ok (.getfield 106, 3) := by decide +kernel
theorem dX4_readDoor_31 : decode cX4_readDoor 31 = .ok (.iconst 3, 1) := by decide +kernel
theorem dX4_readDoor_32 : decode cX4_readDoor 32 = .ok (.if_icmp .lt 5, 3) := by decide +kernel
theorem dX4_readDoor_35 : decode cX4_readDoor 35 = .ok (.iconst 0, 1) := by decide +kernel
theorem dX4_readDoor_36 : decode cX4_readDoor 36 = .ok (.ireturn, 1) := by decide +kernel
theorem dX4_readDoor_37 : decode cX4_readDoor 37 = .ok (.aload_n 0, 1) := by decide +kernel
theorem dX4_readDoor_38 : decode cX4_readDoor 38 = .ok (.getfield 18, 3) := by decide +kernel
theorem dX4_readDoor_41 : decode cX4_readDoor 41 = .ok (.getfield 109, 3) := by decide +kernel
theorem dX4_readDoor_44 : decode cX4_readDoor 44 = .ok (.aload_n 0, 1) := by decide +kernel
theorem dX4_readDoor_45 : decode cX4_readDoor 45 = .ok (.getfield 18, 3) := by decide +kernel
theorem dX4_readDoor_48 : decode cX4_readDoor 48 = .ok (.getfield 106, 3) := by decide +kernel
theorem dX4_readDoor_51 : decode cX4_readDoor 51 = .ok (.aload_n 0, 1) := by decide +kernel
theorem dX4_readDoor_52 : decode cX4_readDoor 52 = .ok (.getfield 76, 3) := by decide +kernel
theorem dX4_readDoor_55 : decode cX4_readDoor 55 = .ok (.iastore, 1) := by decide +kernel
theorem dX4_readDoor_56 : decode cX4_readDoor 56 = .ok (.aload_n 0, 1) := by decide +kernel
theorem dX4_readDoor_57 : decode cX4_readDoor 57 = .ok (.getfield 18, 3) := by decide +kernel
theorem dX4_readDoor_60 : decode cX4_readDoor 60 = .ok (.dup, 1) := by decide +kernel
theorem dX4_readDoor_61 : decode cX4_readDoor 61 = .ok (.getfield 106, 3) := by decide +kernel
theorem dX4_readDoor_64 : decode cX4_readDoor 64 = .ok (.iconst 1, 1) := by decide +kernel
theorem dX4_readDoor_65 : decode cX4_readDoor 65 = .ok (.iadd, 1) := by decide +kernel
theorem dX4_readDoor_66 : decode cX4_readDoor 66 = .ok (.putfield 106, 3) := by decide +kernel
theorem dX4_readDoor_69 : decode cX4_readDoor 69 = .ok (.iconst 1, 1) := by decide +kernel
theorem dX4_readDoor_70 : decode cX4_readDoor 70 = .ok (.ireturn, 1) := by decide +kernel
theorem dX4_readPerson_0 : decode cX4_readPerson 0 = .ok (.aload_n 0, 1) := by decide +kernel
theorem dX4_readPerson_1 : decode cX4_readPerson 1 = .ok (.getfield 18, 3) := by decide +kernel
theorem dX4_readPerson_4 : decode cX4_readPerson 4 = .ok (.getfield 65, 3) := by decide +kernel
theorem dX4_readPerson_7 : decode cX4_readPerson 7 = .ok (.iconst 5, 1) := by decide +kernel
theorem dX4_readPerson_8 : decode cX4_readPerson 8 = .ok (.if_icmp .ge 20, 3) := by decide +kernel
theorem dX4_readPerson_11 : decode cX4_readPerson 11 = .ok (.aload_n 0, 1) := by decide +kernel
theorem dX4_readPerson_12 : decode cX4_readPerson 12 = .ok (.iconst 0, 1) := by decide +kernel
theorem dX4_readPerson_13 : decode cX4_readPerson 13 = .ok (.aload_n 0, 1) := by decide +kernel
theorem dX4_readPerson_14 : decode cX4_readPerson 14 = .ok (.getfield 18, 3) := by decide +kernel
theorem dX4_readPerson_17 : decode cX4_readPerson 17 = .ok (.getfield 83, 3) := by decide +kernel
theorem dX4_readPerson_20 : decode cX4_readPerson 20 = .ok (.iconst 1, 1) := by decide +kernel
theorem dX4_readPerson_21 : decode cX4_readPerson 21 = .ok (.isub, 1) := by decide +kernel
theorem dX4_readPerson_22 : decode cX4_readPerson 22 = .ok (.invokevirtual 72, 3) := by decide +kernel
theorem dX4_readPerson_25 : decode cX4_readPerson 25 = .ok (.ifCond .ne 5, 3) := by decide +kernel
theorem dX4_readPerson_28 : decode cX4_readPerson 28 = .ok (.iconst 0, 1) := by decide +kernel
theorem dX4_readPerson_29 : decode cX4_readPerson 29 = .ok (.ireturn, 1) := by decide +kernel
theorem dX4_readPerson_30 : decode cX4_readPerson 30 = .ok (.aload_n 0, 1) := by decide +kernel
theorem dX4_readPerson_31 : decode cX4_readPerson 31 = .ok (.getfield 18, 3) := by decide +kernel
theorem dX4_readPerson_34 : decode cX4_readPerson 34 = .ok (.getfield 112, 3) := by decide +kernel
theorem dX4_readPerson_37 : decode cX4_readPerson 37 = .ok (.aload_n 0, 1) := by decide +kernel
theorem dX4_readPerson_38 : decode cX4_readPerson 38 = .ok (.getfield 18, 3) := by decide +kernel
theorem dX4_readPerson_41 : decode cX4_readPerson 41 = .ok (.getfield 65, 3) := by decide +kernel
theorem dX4_readPerson_44 : decode cX4_readPerson 44 = .ok (.aload_n 0, 1) := by decide +kernel
theorem dX4_readPerson_45 : decode cX4_readPerson 45 = .ok (.getfield 76, 3) := by decide +kernel
theorem dX4_readPerson_48 : decode cX4_readPerson 48 = .ok (.iastore, 1) := by decide +kernel
theorem dX4_readPerson_49 : decode cX4_readPerson 49 = .ok (.aload_n 0, 1) := by decide +kernel
theorem dX4_readPerson_50 : decode cX4_readPerson 50 = .ok (.getfield 18, 3) := by decide +kernel
theorem dX4_readPerson_53 : decode cX4_readPerson 53 = .ok (.dup, 1) := by decide +kernel
theorem dX4_readPerson_54 : decode cX4_readPerson 54 = .ok (.getfield 65, 3) := by decide +kernel
theorem dX4_readPerson_57 : decode cX4_readPerson 57 = .ok (.iconst 1, 1) := by decide +kernel
theorem dX4_readPerson_58 : decode cX4_readPerson 58 = .ok (.iadd, 1) := by decide +kernel
theorem dX4_readPerson_59 : decode cX4_readPerson 59 = .ok (.putfield 65, 3) := by decide +kernel
theorem dX4_readPerson_62 : decode cX4_readPerson 62 = .ok (.iconst 1, 1) := by decide +kernel
theorem dX4_readPerson_63 : decode cX4_readPerson 63 = .ok (.ireturn, 1) := by decide +kernel
theorem dX4_readNumber_0 : decode cX4_readNumber 0 = .ok (.aload_n 0, 1) := by decide +kernel
theorem dX4_readNumber_1 : decode cX4_readNumber 1 = .ok (.invokevirtual 40, 3) := by decide +kernel
theorem dX4_readNumber_4 : decode cX4_readNumber 4 = .ok (.aload_n 0, 1) := by decide +kernel
theorem dX4_readNumber_5 : decode cX4_readNumber 5 = .ok (.aload_n 0, 1) := by decide +kernel
theorem dX4_readNumber_6 : decode cX4_readNumber 6 = .ok (.invokevirtual 115, 3) := by decide +kernel
theorem dX4_readNumber_9 : decode cX4_readNumber 9 = .ok (.putfield 76, 3) := by decide +kernel
theorem dX4_readNumber_12 : decode cX4_readNumber 12 = .ok (.aload_n 0, 1) := by decide +kernel
theorem dX4_readNumber_13 : decode cX4_readNumber 13 = .ok (.getfield 76, 3) := by decide +kernel
theorem dX4_readNumber_16 : decode cX4_readNumber 16 = .ok (.iload_n 1, 1) := by decide +kernel
theorem dX4_readNumber_17 : decode cX4_readNumber 17 = .ok (.if_icmp .lt 15, 3) := by decide +kernel
theorem dX4_readNumber_20 : decode cX4_readNumber 20 = .ok (.aload_n 0, 1) := by decide +kernel
theorem dX4_readNumber_21 : decode cX4_readNumber 21 = .ok (.getfield 76, 3) := by decide +kernel
theorem dX4_readNumber_24 : decode cX4_readNumber 24 = .ok (.iload_n 2, 1) := by decide +kernel
theorem dX4_readNumber_25 : decode cX4_readNumber 25 = .ok (.if_icmp .gt 7, 3) := by decide +kernel
theorem dX4_readNumber_28 : decode cX4_readNumber 28 = .ok (.iconst 1, 1) := by decide +kernel
theorem dX4_readNumber_29 : decode cX4_readNumber 29 = .ok (.goto 4, 3) := by decide +kernel
theorem dX4_readNumber_32 : decode cX4_readNumber 32 = .ok (.iconst 0, 1) := by decide +kernel
theorem dX4_readNumber_33 : decode cX4_readNumber 33 = .ok (.ireturn, 1) := by decide +kernel
theorem dX4_nextToken_0 : decode cX4_nextToken 0 = .ok (.aload_n 0, 1) := by decide +kernel
theorem dX4_nextToken_1 : decode cX4_nextToken 1 = .ok (.aload_n 0, 1) := by decide +kernel
theorem dX4_nextToken_2 : decode cX4_nextToken 2 = .ok (.getfield 26, 3) := by decide +kernel
theorem dX4_nextToken_5 : decode cX4_nextToken 5 = .ok (.putfield 37, 3) := by decide +kernel
theorem dX4_nextToken_8 : decode cX4_nextToken 8 = .ok (.aload_n 0, 1) := by decide +kernel
theorem dX4_nextToken_9 : decode cX4_nextToken 9 = .ok (.getfield 37, 3) := by decide +kernel
theorem dX4_nextToken_12 : decode cX4_nextToken 12 = .ok (.aload_n 0, 1) := by decide +kernel
theorem dX4_nextToken_13 : decode cX4_nextToken 13 = .ok (.getfield 43, 3) := by decide +kernel
theorem dX4_nextToken_16 : decode cX4_nextToken 16 = .ok (.if_icmp .ge 30, 3) := by decide +kernel
theorem dX4_nextToken_19 : decode cX4_nextToken 19 = .ok (.aload_n 0, 1) := by decide +kernel
theorem dX4_nextToken_20 : decode cX4_nextToken 20 = .ok (.getfield 9, 3) := by decide +kernel
theorem dX4_nextToken_23 : decode cX4_nextToken 23 = .ok (.aload_n 0, 1) := by decide +kernel
theorem dX4_nextToken_24 : decode cX4_nextToken 24 = .ok (.getfield 37, 3) := by decide +kernel
theorem dX4_nextToken_27 : decode cX4_nextToken 27 = .ok (.baload, 1) := by decide +kernel
theorem dX4_nextToken_28 : decode cX4_nextToken 28 = .ok (.bipush 32, 2) := by decide +kernel
theorem dX4_nextToken_30 : decode cX4_nextToken 30 = .ok (.if_icmp .ne 16, 3) := by decide +kernel
theorem dX4_nextToken_33 : decode cX4_nextToken 33 = .ok (.aload_n 0, 1) := by decide +kernel
theorem dX4_nextToken_34 : decode cX4_nextToken 34 = .ok (.dup, 1) := by decide +kernel
theorem dX4_nextToken_35 : decode cX4_nextToken 35 = .ok (.getfield 37, 3) := by decide +kernel
theorem dX4_nextToken_38 : decode cX4_nextToken 38 = .ok (.iconst 1, 1) := by decide +kernel
theorem dX4_nextToken_39 : decode cX4_nextToken 39 = .ok (.iadd, 1) := by decide +kernel
theorem dX4_nextToken_40 : decode cX4_nextToken 40 = .ok (.putfield 37, 3) := by decide +kernel
theorem dX4_nextToken_43 : decode cX4_nextToken 43 = .ok (.goto (-35), 3) := by decide +kernel
theorem dX4_nextToken_46 : decode cX4_nextToken 46 = .ok (.aload_n 0, 1) := by decide +kernel
theorem dX4_nextToken_47 : decode cX4_nextToken 47 = .ok (.aload_n 0, 1) := by decide +kernel
theorem dX4_nextToken_48 : decode cX4_nextToken 48 = .ok (.getfield 37, 3) := by decide +kernel
theorem dX4_nextToken_51 : decode cX4_nextToken 51 = .ok (.putfield 26, 3) := by decide +kernel
theorem dX4_nextToken_54 : decode cX4_nextToken 54 = .ok (.aload_n 0, 1) := by decide +kernel
theorem dX4_nextToken_55 : decode cX4_nextToken 55 = .ok (.getfield 26, 3) := by decide +kernel
theorem dX4_nextToken_58 : decode cX4_nextToken 58 = .ok (.aload_n 0, 1) := by decide +kernel
theorem dX4_nextToken_59 : decode cX4_nextToken 59 = .ok (.getfield 43, 3) := by decide +kernel
theorem dX4_nextToken_62 : decode cX4_nextToken 62 = .ok (.if_icmp .ge 27, 3) := by decide +kernel
theorem dX4_nextToken_65 : decode cX4_nextToken 65 = .ok (.aload_n 0, 1) := by decide +kernel
theorem dX4_nextToken_66 : decode cX4_nextToken 66 = .ok (.aload_n 0, 1) := by decide +kernel
theorem dX4_nextToken_67 : decode cX4_nextToken 67 = .ok (.getfield 26, 3) := by decide +kernel
theorem dX4_nextToken_70 : decode cX4_nextToken 70 = .ok (.invokevirtual 118, 3) := by decide +kernel
theorem dX4_nextToken_73 : decode cX4_nextToken 73 = .ok (.ifCond .eq 16, 3) := by decide +kernel
theorem dX4_nextToken_76 : decode cX4_nextToken 76 = .ok (.aload_n 0, 1) := by decide +kernel
theorem dX4_nextToken_77 : decode cX4_nextToken 77 = .ok (.dup, 1) := by decide +kernel
theorem dX4_nextToken_78 : decode cX4_nextToken 78 = .ok (.getfield 26, 3) := by decide +kernel
theorem dX4_nextToken_81 : decode cX4_nextToken 81 = .ok (.iconst 1, 1) := by decide +kernel
theorem dX4_nextToken_82 : decode cX4_nextToken 82 = .ok (.iadd, 1) := by decide +kernel
theorem dX4_nextToken_83 : decode cX4_nextToken 83 = .ok (.putfield 26, 3) := by decide +kernel
theorem dX4_nextToken_86 : decode cX4_nextToken 86 = .ok (.goto (-32), 3) := by decide +kernel
theorem dX4_nextToken_89 : decode cX4_nextToken 89 = .ok (.aload_n 0, 1) := by decide +kernel
theorem dX4_nextToken_90 : decode cX4_nextToken 90 = .ok (.getfield 26, 3) := by decide +kernel
theorem dX4_nextToken_93 : decode cX4_nextToken 93 = .ok (.aload_n 0, 1) := by decide +kernel
theorem dX4_nextToken_94 : decode cX4_nextToken 94 = .ok (.getfield 37, 3) := by decide +kernel
theorem dX4_nextToken_97 : decode cX4_nextToken 97 = .ok (.if_icmp .ne 38, 3) := by decide +kernel
theorem dX4_nextToken_100 : decode cX4_nextToken 100 = .ok (.aload_n 0, 1) := by decide +kernel
theorem dX4_nextToken_101 : decode cX4_nextToken 101 = .ok (.getfield 26, 3) := by decide +kernel
theorem dX4_nextToken_104 : decode cX4_nextToken 104 = .ok (.aload_n 0, 1) := by decide +kernel
theorem dX4_nextToken_105 : decode cX4_nextToken 105 = .ok (.getfield 43, 3) := by decide +kernel
theorem dX4_nextToken_108 : decode cX4_nextToken 108 = .ok (.if_icmp .ge 27, 3) := by decide +kernel
theorem dX4_nextToken_111 : decode cX4_nextToken 111 = .ok (.aload_n 0, 1) := by decide +kernel
theorem dX4_nextToken_112 : decode cX4_nextToken 112 = .ok (.aload_n 0, 1) := by decide +kernel
theorem dX4_nextToken_113 : decode cX4_nextToken 113 = .ok (.getfield 26, 3) := by decide +kernel
theorem dX4_nextToken_116 : decode cX4_nextToken 116 = .ok (.invokevirtual 121, 3) := by decide +kernel
theorem dX4_nextToken_119 : decode cX4_nextToken 119 = .ok (.ifCond .eq 16, 3) := by decide +kernel
theorem dX4_nextToken_122 : decode cX4_nextToken 122 = .ok (.aload_n 0, 1) := by decide +kernel
theorem dX4_nextToken_123 : decode cX4_nextToken 123 = .ok (.dup, 1) := by decide +kernel
theorem dX4_nextToken_124 : decode cX4_nextToken 124 = .ok (.getfield 26, 3) := by decide +kernel
theorem dX4_nextToken_127 : decode cX4_nextToken 127 = .ok (.iconst 1, 1) := by decide +kernel
theorem dX4_nextToken_128 : decode cX4_nextToken 128 = .ok (.iadd, 1) := by decide +kernel
theorem dX4_nextToken_129 : decode cX4_nextToken 129 = .ok (.putfield 26, 3) := by decide +kernel
theorem dX4_nextToken_132 : decode cX4_nextToken 132 = .ok (.goto (-32), 3) := by decide +kernel
theorem dX4_nextToken_135 : decode cX4_nextToken 135 = .ok (.aload_n 0, 1) := by decide +kernel
theorem dX4_nextToken_136 : decode cX4_nextToken 136 = .ok (.getfield 26, 3) := by decide +kernel
theorem dX4_nextToken_139 : decode cX4_nextToken 139 = .ok (.aload_n 0, 1) := by decide +kernel
theorem dX4_nextToken_140 : decode cX4_nextToken 140 = .ok (.getfield 37, 3) := by decide +kernel
theorem dX4_nextToken_143 : decode cX4_nextToken 143 = .ok (.if_icmp .ne 24, 3) := by decide +kernel
theorem dX4_nextToken_146 : decode cX4_nextToken 146 = .ok (.aload_n 0, 1) := by decide +kernel
theorem dX4_nextToken_147 : decode cX4_nextToken 147 = .ok (.getfield 26, 3) := by decide +kernel
theorem dX4_nextToken_150 : decode cX4_nextToken 150 = .ok (.aload_n 0, 1) := by decide +kernel
theorem dX4_nextToken_151 : decode cX4_nextToken 151 = .ok (.getfield 43, 3) := by decide +kernel
theorem dX4_nextToken_154 : decode cX4_nextToken 154 = .ok (.if_icmp .ge 13, 3) := by decide +kernel
theorem dX4_nextToken_157 : decode cX4_nextToken 157 = .ok (.aload_n 0, 1) := by decide +kernel
theorem dX4_nextToken_158 : decode cX4_nextToken 158 = .ok (.dup, 1) := by decide +kernel
theorem dX4_nextToken_159 : decode cX4_nextToken 159 = .ok (.getfield 26, 3) := by decide +kernel
theorem dX4_nextToken_162 : decode cX4_nextToken 162 = .ok (.iconst 1, 1) := by decide +kernel
theorem dX4_nextToken_163 : decode cX4_nextToken 163 = .ok (.iadd, 1) := by decide +kernel
theorem dX4_nextToken_164 : decode cX4_nextToken 164 = .ok (.putfield 26, 3) := by decide +kernel
theorem dX4_nextToken_167 : decode cX4_nextToken 167 = .ok (.return_, 1) := by decide +kernel
theorem dX4_isLetter_0 : decode cX4_isLetter 0 = .ok (.aload_n 0, 1) := by decide +kernel
theorem dX4_isLetter_1 : decode cX4_isLetter 1 = .ok (.getfield 9, 3) := by decide +kernel
theorem dX4_isLetter_4 : decode cX4_isLetter 4 = .ok (.iload_n 1, 1) := by decide +kernel
theorem dX4_isLetter_5 : decode cX4_isLetter 5 = .ok (.baload, 1) := by decide +kernel
theorem dX4_isLetter_6 : decode cX4_isLetter 6 = .ok (.bipush 97, 2) := by decide +kernel
theorem dX4_isLetter_8 : decode cX4_isLetter 8 = .ok (.if_icmp .lt 18, 3) := by decide +kernel
theorem dX4_isLetter_11 : decode cX4_isLetter 11 = .ok (.aload_n 0, 1) := by decide +kernel
theorem dX4_isLetter_12 : decode cX4_isLetter 12 = .ok (.getfield 9, 3) := by decide +kernel
theorem dX4_isLetter_15 : decode cX4_isLetter 15 = .ok (.iload_n 1, 1) := by decide +kernel
theorem dX4_isLetter_16 : decode cX4_isLetter 16 = .ok (.baload, 1) := by decide +kernel
theorem dX4_isLetter_17 : decode cX4_isLetter 17 = .ok (.bipush 122, 2) := by decide +kernel
theorem dX4_isLetter_19 : decode cX4_isLetter 19 = .ok (.if_icmp .gt 7, 3) := by decide +kernel
theorem dX4_isLetter_22 : decode cX4_isLetter 22 = .ok (.iconst 1, 1) := by decide +kernel
theorem dX4_isLetter_23 : decode cX4_isLetter 23 = .ok (.goto 4, 3) := by decide +kernel
theorem dX4_isLetter_26 : decode cX4_isLetter 26 = .ok (.iconst 0, 1) := by decide +kernel
theorem dX4_isLetter_27 : decode cX4_isLetter 27 = .ok (.ireturn, 1) := by decide +kernel
theorem dX4_isDigit_0 : decode cX4_isDigit 0 = .ok (.aload_n 0, 1) := by decide +kernel
theorem dX4_isDigit_1 : decode cX4_isDigit 1 = .ok (.getfield 9, 3) := by decide +kernel
theorem dX4_isDigit_4 : decode cX4_isDigit 4 = .ok (.iload_n 1, 1) := by decide +kernel
theorem dX4_isDigit_5 : decode cX4_isDigit 5 = .ok (.baload, 1) := by decide +kernel
theorem dX4_isDigit_6 : decode cX4_isDigit 6 = .ok (.bipush 48, 2) := by decide +kernel
theorem dX4_isDigit_8 : decode cX4_isDigit 8 = .ok (.if_icmp .lt 18, 3) := by decide +kernel
theorem dX4_isDigit_11 : decode cX4_isDigit 11 = .ok (.aload_n 0, 1) := by decide +kernel
theorem dX4_isDigit_12 : decode cX4_isDigit 12 = .ok (.getfield 9, 3) := by decide +kernel
theorem dX4_isDigit_15 : decode cX4_isDigit 15 = .ok (.iload_n 1, 1) := by decide +kernel
theorem dX4_isDigit_16 : decode cX4_isDigit 16 = .ok (.baload, 1) := by decide +kernel
theorem dX4_isDigit_17 : decode cX4_isDigit 17 = .ok (.bipush 57, 2) := by decide +kernel
theorem dX4_isDigit_19 : decode cX4_isDigit 19 = .ok (.if_icmp .gt 7, 3) := by decide +kernel
theorem dX4_isDigit_22 : decode cX4_isDigit 22 = .ok (.iconst 1, 1) := by decide +kernel
theorem dX4_isDigit_23 : decode cX4_isDigit 23 = .ok (.goto 4, 3) := by decide +kernel
theorem dX4_isDigit_26 : decode cX4_isDigit 26 = .ok (.iconst 0, 1) := by decide +kernel
theorem dX4_isDigit_27 : decode cX4_isDigit 27 = .ok (.ireturn, 1) := by decide +kernel
theorem dX4_numberHere_0 : decode cX4_numberHere 0 = .ok (.aload_n 0, 1) := by decide +kernel
theorem dX4_numberHere_1 : decode cX4_numberHere 1 = .ok (.getfield 26, 3) := by decide +kernel
theorem dX4_numberHere_4 : decode cX4_numberHere 4 = .ok (.aload_n 0, 1) := by decide +kernel
theorem dX4_numberHere_5 : decode cX4_numberHere 5 = .ok (.getfield 37, 3) := by decide +kernel
theorem dX4_numberHere_8 : decode cX4_numberHere 8 = .ok (.if_icmp .eq 27, 3) := by decide +kernel
theorem dX4_numberHere_11 : decode cX4_numberHere 11 = .ok (.aload_n 0, 1) := by decide +kernel
theorem dX4_numberHere_12 : decode cX4_numberHere 12 = .ok (.getfield 26, 3) := by decide +kernel
theorem dX4_numberHere_15 : decode cX4_numberHere 15 = .ok (.aload_n 0, 1) := by decide +kernel
theorem dX4_numberHere_16 : decode cX4_numberHere 16 = .ok (.getfield 37, 3) := by decide +kernel
theorem dX4_numberHere_19 : decode cX4_numberHere 19 = .ok (.iconst 2, 1) := by decide +kernel
theorem dX4_numberHere_20 : decode cX4_numberHere 20 = .ok (.iadd, 1) := by decide +kernel
theorem dX4_numberHere_21 : decode cX4_numberHere 21 = .ok (.if_icmp .gt 14, 3) := by decide +kernel
theorem dX4_numberHere_24 : decode cX4_numberHere 24 = .ok (.aload_n 0, 1) := by decide +kernel
theorem dX4_numberHere_25 : decode cX4_numberHere 25 = .ok (.aload_n 0, 1) := by decide +kernel
theorem dX4_numberHere_26 : decode cX4_numberHere 26 = .ok (.getfield 37, 3) := by decide +kernel
theorem dX4_numberHere_29 : decode cX4_numberHere 29 = .ok (.invokevirtual 121, 3) := by decide +kernel
theorem dX4_numberHere_32 : decode cX4_numberHere 32 = .ok (.ifCond .ne 5, 3) := by decide +kernel
theorem dX4_numberHere_35 : decode cX4_numberHere 35 = .ok (.iconst (-1), 1) := by decide +kernel
theorem dX4_numberHere_36 : decode cX4_numberHere 36 = .ok (.ireturn, 1) := by decide +kernel
theorem dX4_numberHere_37 : decode cX4_numberHere 37 = .ok (.iconst 0, 1) := by decide +kernel
theorem dX4_numberHere_38 : decode cX4_numberHere 38 = .ok (.istore_n 1, 1) := by decide +kernel
theorem dX4_numberHere_39 : decode cX4_numberHere 39 = .ok (.aload_n 0, 1) := by decide +kernel
theorem dX4_numberHere_40 : decode cX4_numberHere 40 = .ok (.getfield 37, 3) := by decide +kernel
theorem dX4_numberHere_43 : decode cX4_numberHere 43 = .ok (.istore_n 2, 1) := by decide +kernel
theorem dX4_numberHere_44 : decode cX4_numberHere 44 = .ok (.iload_n 2, 1) := by decide +kernel
theorem dX4_numberHere_45 : decode cX4_numberHere 45 = .ok (.aload_n 0, 1) := by decide +kernel
theorem dX4_numberHere_46 : decode cX4_numberHere 46 = .ok (.getfield 26, 3) := by decide +kernel
theorem dX4_numberHere_49 : decode cX4_numberHere 49 = .ok (.if_icmp .ge 24, 3) := by decide +kernel
theorem dX4_numberHere_52 : decode cX4_numberHere 52 = .ok (.iload_n 1, 1) := by decide +kernel
theorem dX4_numberHere_53 : decode cX4_numberHere 53 = .ok (.bipush 10, 2) := by decide +kernel
theorem dX4_numberHere_55 : decode cX4_numberHere 55 = .ok (.imul, 1) := by decide +kernel
theorem dX4_numberHere_56 : decode cX4_numberHere 56 = .ok (.aload_n 0, 1) := by decide +kernel
theorem dX4_numberHere_57 : decode cX4_numberHere 57 = .ok (.getfield 9, 3) := by decide +kernel
theorem dX4_numberHere_60 : decode cX4_numberHere 60 = .ok (.iload_n 2, 1) := by decide +kernel
theorem dX4_numberHere_61 : decode cX4_numberHere 61 = .ok (.baload, 1) := by decide +kernel
theorem dX4_numberHere_62 : decode cX4_numberHere 62 = .ok (.iadd, 1) := by decide +kernel
theorem dX4_numberHere_63 : decode cX4_numberHere 63 = .ok (.bipush 48, 2) := by decide +kernel
theorem dX4_numberHere_65 : decode cX4_numberHere 65 = .ok (.isub, 1) := by decide +kernel
theorem dX4_numberHere_66 : decode cX4_numberHere 66 = .ok (.istore_n 1, 1) := by decide +kernel
theorem dX4_numberHere_67 : decode cX4_numberHere 67 = .ok (.iinc 2 1, 3) := by decide +kernel
theorem dX4_numberHere_70 : decode cX4_numberHere 70 = .ok (.goto (-26), 3) := by decide +kernel
theorem dX4_numberHere_73 : decode cX4_numberHere 73 = .ok (.iload_n 1, 1) := by decide +kernel
theorem dX4_numberHere_74 : decode cX4_numberHere 74 = .ok (.ireturn, 1) := by decide +kernel
theorem dX4_wordHere_0 : decode cX4_wordHere 0 = .ok (.iconst 0, 1) := by decide +kernel
theorem dX4_wordHere_1 : decode cX4_wordHere 1 = .ok (.istore_n 1, 1) := by decide +kernel
theorem dX4_wordHere_2 : decode cX4_wordHere 2 = .ok (.iload_n 1, 1) := by decide +kernel
theorem dX4_wordHere_3 : decode cX4_wordHere 3 = .ok (.bipush 9, 2) := by decide +kernel
theorem dX4_wordHere_5 : decode cX4_wordHere 5 = .ok (.if_icmp .gt 22, 3) := by decide +kernel
theorem dX4_wordHere_8 : decode cX4_wordHere 8 = .ok (.aload_n 0, 1) := by decide +kernel
theorem dX4_wordHere_9 : decode cX4_wordHere 9 = .ok (.iload_n 1, 1) := by decide +kernel
theorem dX4_wordHere_10 : decode cX4_wordHere 10 = .ok (.invokestatic 124, 3) := by decide +kernel
theorem dX4_wordHere_13 : decode cX4_wordHere 13 = .ok (.invokevirtual 128, 3) := by decide +kernel
theorem dX4_wordHere_16 : decode cX4_wordHere 16 = .ok (.ifCond .eq 5, 3) := by decide +kernel
theorem dX4_wordHere_19 : decode cX4_wordHere 19 = .ok (.iload_n 1, 1) := by decide +kernel
theorem dX4_wordHere_20 : decode cX4_wordHere 20 = .ok (.ireturn, 1) := by decide +kernel
theorem dX4_wordHere_21 : decode cX4_wordHere 21 = .ok (.iinc 1 1, 3) := by decide +kernel
theorem dX4_wordHere_24 : decode cX4_wordHere 24 = .ok (.goto (-22), 3) := by decide +kernel
theorem dX4_wordHere_27 : decode cX4_wordHere 27 = .ok (.iconst (-1), 1) := by decide +kernel
theorem dX4_wordHere_28 : decode cX4_wordHere 28 = .ok (.ireturn, 1) := by decide +kernel
theorem dX4_isHere_0 : decode cX4_isHere 0 = .ok (.aload_n 0, 1) := by decide +kernel
theorem dX4_isHere_1 : decode cX4_isHere 1 = .ok (.getfield 26, 3) := by decide +kernel
theorem dX4_isHere_4 : decode cX4_isHere 4 = .ok (.aload_n 0, 1) := by decide +kernel
theorem dX4_isHere_5 : decode cX4_isHere 5 = .ok (.getfield 37, 3) := by decide +kernel
theorem dX4_isHere_8 : decode cX4_isHere 8 = .ok (.isub, 1) := by decide +kernel
theorem dX4_isHere_9 : decode cX4_isHere 9 = .ok (.aload_n 1, 1) := by decide +kernel
theorem dX4_isHere_10 : decode cX4_isHere 10 = .ok (.invokevirtual 132, 3) := by decide +kernel
theorem dX4_isHere_13 : decode cX4_isHere 13 = .ok (.if_icmp .eq 5, 3) := by decide +kernel
theorem dX4_isHere_16 : decode cX4_isHere 16 = .ok (.iconst 0, 1) := by decide +kernel
theorem dX4_isHere_17 : decode cX4_isHere 17 = .ok (.ireturn, 1) := by decide +kernel
theorem dX4_isHere_18 : decode cX4_isHere 18 = .ok (.iconst 0, 1) := by decide +kernel
theorem dX4_isHere_19 : decode cX4_isHere 19 = .ok (.istore_n 2, 1) := by decide +kernel
theorem dX4_isHere_20 : decode cX4_isHere 20 = .ok (.iload_n 2, 1) := by decide +kernel
theorem dX4_isHere_21 : decode cX4_isHere 21 = .ok (.aload_n 1, 1) := by decide +kernel
theorem dX4_isHere_22 : decode cX4_isHere 22 = .ok (.invokevirtual 132, 3) := by decide +kernel
theorem dX4_isHere_25 : decode cX4_isHere 25 = .ok (.if_icmp .ge 30, 3) := by decide +kernel
theorem dX4_isHere_28 : decode cX4_isHere 28 = .ok (.aload_n 0, 1) := by decide +kernel
theorem dX4_isHere_29 : decode cX4_isHere 29 = .ok (.getfield 9, 3) := by decide +kernel
theorem dX4_isHere_32 : decode cX4_isHere 32 = .ok (.aload_n 0, 1) := by decide +kernel
theorem dX4_isHere_33 : decode cX4_isHere 33 = .ok (.getfield 37, 3) := by decide +kernel
theorem dX4_isHere_36 : decode cX4_isHere 36 = .ok (.iload_n 2, 1) := by decide +kernel
theorem dX4_isHere_37 : decode cX4_isHere 37 = .ok (.iadd, 1) := by decide +kernel
theorem dX4_isHere_38 : decode cX4_isHere 38 = .ok (.baload, 1) := by decide +kernel
theorem dX4_isHere_39 : decode cX4_isHere 39 = .ok (.aload_n 1, 1) := by decide +kernel
theorem dX4_isHere_40 : decode cX4_isHere 40 = .ok (.iload_n 2, 1) := by decide +kernel
theorem dX4_isHere_41 : decode cX4_isHere 41 = .ok (.invokevirtual 136, 3) := by decide +kernel
theorem dX4_isHere_44 : decode cX4_isHere 44 = .ok (.if_icmp .eq 5, 3) := by decide +kernel
theorem dX4_isHere_47 : decode cX4_isHere 47 = .ok (.iconst 0, 1) := by decide +kernel
theorem dX4_isHere_48 : decode cX4_isHere 48 = .ok (.ireturn, 1) := by decide +kernel
theorem dX4_isHere_49 : decode cX4_isHere 49 = .ok (.iinc 2 1, 3) := by decide +kernel
theorem dX4_isHere_52 : decode cX4_isHere 52 = .ok (.goto (-32), 3) := by decide +kernel
theorem dX4_isHere_55 : decode cX4_isHere 55 = .ok (.iconst 1, 1) := by decide +kernel
theorem dX4_isHere_56 : decode cX4_isHere 56 = .ok (.ireturn, 1) := by decide +kernel
theorem dX4_spelling_0 : decode cX4_spelling 0 = .ok (.iload_n 0, 1) := by decide +kernel
theorem dX4_spelling_1 : decode cX4_spelling 1 = .ok (.tableswitch 78 0 8 #[51, 54, 57, 60, 63, 66, 69, 72, 75], 51) := by decide +kernel
theorem dX4_spelling_52 : decode cX4_spelling 52 = .ok (.ldc 140, 2) := by decide +kernel
theorem dX4_spelling_54 : decode cX4_spelling 54 = .ok (.areturn, 1) := by decide +kernel
theorem dX4_spelling_55 : decode cX4_spelling 55 = .ok (.ldc 142, 2) := by decide +kernel
theorem dX4_spelling_57 : decode cX4_spelling 57 = .ok (.areturn, 1) := by decide +kernel
theorem dX4_spelling_58 : decode cX4_spelling 58 = .ok (.ldc 144, 2) := by decide +kernel
theorem dX4_spelling_60 : decode cX4_spelling 60 = .ok (.areturn, 1) := by decide +kernel
theorem dX4_spelling_61 : decode cX4_spelling 61 = .ok (.ldc 146, 2) := by decide +kernel
theorem dX4_spelling_63 : decode cX4_spelling 63 = .ok (.areturn, 1) := by decide +kernel
theorem dX4_spelling_64 : decode cX4_spelling 64 = .ok (.ldc 148, 2) := by decide +kernel
theorem dX4_spelling_66 : decode cX4_spelling 66 = .ok (.areturn, 1) := by decide +kernel
theorem dX4_spelling_67 : decode cX4_spelling 67 = .ok (.ldc 150, 2) := by decide +kernel
theorem dX4_spelling_69 : decode cX4_spelling 69 = .ok (.areturn, 1) := by decide +kernel
theorem dX4_spelling_70 : decode cX4_spelling 70 = .ok (.ldc 152, 2) := by decide +kernel
theorem dX4_spelling_72 : decode cX4_spelling 72 = .ok (.areturn, 1) := by decide +kernel
theorem dX4_spelling_73 : decode cX4_spelling 73 = .ok (.ldc 154, 2) := by decide +kernel
theorem dX4_spelling_75 : decode cX4_spelling 75 = .ok (.areturn, 1) := by decide +kernel
theorem dX4_spelling_76 : decode cX4_spelling 76 = .ok (.ldc 155, 2) := by decide +kernel
theorem dX4_spelling_78 : decode cX4_spelling 78 = .ok (.areturn, 1) := by decide +kernel
theorem dX4_spelling_79 : decode cX4_spelling 79 = .ok (.ldc 157, 2) := by decide +kernel
theorem dX4_spelling_81 : decode cX4_spelling 81 = .ok (.areturn, 1) := by decide +kernel
theorem dX5_init_0 : decode cX5_init 0 = .ok (.aload_n 0, 1) := by decide +kernel
theorem dX5_init_1 : decode cX5_init 1 = .ok (.invokespecial 1, 3) := by decide +kernel
theorem dX5_init_4 : decode cX5_init 4 = .ok (.aload_n 0, 1) := by decide +kernel
theorem dX5_init_5 : decode cX5_init 5 = .ok (.new 7, 3) := by decide +kernel
theorem dX5_init_8 : decode cX5_init 8 = .ok (.dup, 1) := by decide +kernel
theorem dX5_init_9 : decode cX5_init 9 = .ok (.invokespecial 9, 3) := by decide +kernel
theorem dX5_init_12 : decode cX5_init 12 = .ok (.putfield 10, 3) := by decide +kernel
theorem dX5_init_15 : decode cX5_init 15 = .ok (.aload_n 0, 1) := by decide +kernel
theorem dX5_init_16 : decode cX5_init 16 = .ok (.new 16, 3) := by decide +kernel
theorem dX5_init_19 : decode cX5_init 19 = .ok (.dup, 1) := by decide +kernel
theorem dX5_init_20 : decode cX5_init 20 = .ok (.invokespecial 18, 3) := by decide +kernel
theorem dX5_init_23 : decode cX5_init 23 = .ok (.putfield 19, 3) := by decide +kernel
theorem dX5_init_26 : decode cX5_init 26 = .ok (.aload_n 0, 1) := by decide +kernel
theorem dX5_init_27 : decode cX5_init 27 = .ok (.new 23, 3) := by decide +kernel
theorem dX5_init_30 : decode cX5_init 30 = .ok (.dup, 1) := by decide +kernel
theorem dX5_init_31 : decode cX5_init 31 = .ok (.aload_n 0, 1) := by decide +kernel
theorem dX5_init_32 : decode cX5_init 32 = .ok (.getfield 10, 3) := by decide +kernel
theorem dX5_init_35 : decode cX5_init 35 = .ok (.invokespecial 25, 3) := by decide +kernel
theorem dX5_init_38 : decode cX5_init 38 = .ok (.putfield 28, 3) := by decide +kernel
theorem dX5_init_41 : decode cX5_init 41 = .ok (.aload_n 0, 1) := by decide +kernel
theorem dX5_init_42 : decode cX5_init 42 = .ok (.new 23, 3) := by decide +kernel
theorem dX5_init_45 : decode cX5_init 45 = .ok (.dup, 1) := by decide +kernel
theorem dX5_init_46 : decode cX5_init 46 = .ok (.aload_n 0, 1) := by decide +kernel
theorem dX5_init_47 : decode cX5_init 47 = .ok (.getfield 10, 3) := by decide +kernel
theorem dX5_init_50 : decode cX5_init 50 = .ok (.invokespecial 25, 3) := by decide +kernel
theorem dX5_init_53 : decode cX5_init 53 = .ok (.putfield 32, 3) := by decide +kernel
theorem dX5_init_56 : decode cX5_init 56 = .ok (.aload_n 0, 1) := by decide +kernel
theorem dX5_init_57 : decode cX5_init 57 = .ok (.iconst 2, 1) := by decide +kernel
theorem dX5_init_58 : decode cX5_init 58 = .ok (.anewarray 23, 3) := by decide +kernel
theorem dX5_init_61 : decode cX5_init 61 = .ok (.putfield 35, 3) := by decide +kernel
theorem dX5_init_64 : decode cX5_init 64 = .ok (.aload_n 0, 1) := by decide +kernel
theorem dX5_init_65 : decode cX5_init 65 = .ok (.iconst 2, 1) := by decide +kernel
theorem dX5_init_66 : decode cX5_init 66 = .ok (.newarray .boolean, 2) := by decide +kernel
theorem dX5_init_68 : decode cX5_init 68 = .ok (.putfield 39, 3) := by decide +kernel
theorem dX5_init_71 : decode cX5_init 71 = .ok (.aload_n 0, 1) := by decide +kernel
theorem dX5_init_72 : decode cX5_init 72 = .ok (.new 43, 3) := by decide +kernel
theorem dX5_init_75 : decode cX5_init 75 = .ok (.dup, 1) := by decide +kernel
theorem dX5_init_76 : decode cX5_init 76 = .ok (.aload_n 0, 1) := by decide +kernel
theorem dX5_init_77 : decode cX5_init 77 = .ok (.getfield 10, 3) := by decide +kernel
theorem dX5_init_80 : decode cX5_init 80 = .ok (.invokespecial 45, 3) := by decide +kernel
theorem dX5_init_83 : decode cX5_init 83 = .ok (.putfield 46, 3) := by decide +kernel
theorem dX5_init_86 : decode cX5_init 86 = .ok (.aload_n 0, 1) := by decide +kernel
theorem dX5_init_87 : decode cX5_init 87 = .ok (.new 50, 3) := by decide +kernel
theorem dX5_init_90 : decode cX5_init 90 = .ok (.dup, 1) := by decide +kernel
theorem dX5_init_91 : decode cX5_init 91 = .ok (.invokespecial 52, 3) := by decide +kernel
theorem dX5_init_94 : decode cX5_init 94 = .ok (.putfield 53, 3) := by decide +kernel
theorem dX5_init_97 : decode cX5_init 97 = .ok (.iconst 0, 1) := by decide +kernel
theorem dX5_init_98 : decode cX5_init 98 = .ok (.istore_n 1, 1) := by decide +kernel
theorem dX5_init_99 : decode cX5_init 99 = .ok (.iload_n 1, 1) := by decide +kernel
theorem dX5_init_100 : decode cX5_init 100 = .ok (.iconst 2, 1) := by decide +kernel
theorem dX5_init_101 : decode cX5_init 101 = .ok (.if_icmp .ge 26, 3) := by decide +kernel
theorem dX5_init_104 : decode cX5_init 104 = .ok (.aload_n 0, 1) := by decide +kernel
theorem dX5_init_105 : decode cX5_init 105 = .ok (.getfield 35, 3) := by decide +kernel
theorem dX5_init_108 : decode cX5_init 108 = .ok (.iload_n 1, 1) := by decide +kernel
theorem dX5_init_109 : decode cX5_init 109 = .ok (.new 23, 3) := by decide +kernel
theorem dX5_init_112 : decode cX5_init 112 = .ok (.dup, 1) := by decide +kernel
theorem dX5_init_113 : decode cX5_init 113 = .ok (.aload_n 0, 1) := by decide +kernel
theorem dX5_init_114 : decode cX5_init 114 = .ok (.getfield 10, 3) := by decide +kernel
theorem dX5_init_117 : decode cX5_init 117 = .ok (.invokespecial 25, 3) := by decide +kernel
theorem dX5_init_120 : decode cX5_init 120 = .ok (.aastore, 1) := by decide +kernel
theorem dX5_init_121 : decode cX5_init 121 = .ok (.iinc 1 1, 3) := by decide +kernel
theorem dX5_init_124 : decode cX5_init 124 = .ok (.goto (-25), 3) := by decide +kernel
theorem dX5_init_127 : decode cX5_init 127 = .ok (.aload_n 0, 1) := by decide +kernel
theorem dX5_init_128 : decode cX5_init 128 = .ok (.getfield 10, 3) := by decide +kernel
theorem dX5_init_131 : decode cX5_init 131 = .ok (.iconst 4, 1) := by decide +kernel
theorem dX5_init_132 : decode cX5_init 132 = .ok (.invokevirtual 57, 3) := by decide +kernel
theorem dX5_init_135 : decode cX5_init 135 = .ok (.aload_n 0, 1) := by decide +kernel
theorem dX5_init_136 : decode cX5_init 136 = .ok (.getfield 28, 3) := by decide +kernel
theorem dX5_init_139 : decode cX5_init 139 = .ok (.invokevirtual 61, 3) := by decide +kernel
theorem dX5_init_142 : decode cX5_init 142 = .ok (.return_, 1) := by decide +kernel
theorem dX5_write_0 : decode cX5_write 0 = .ok (.iload_n 3, 1) := by decide +kernel
theorem dX5_write_1 : decode cX5_write 1 = .ok (.iconst 1, 1) := by decide +kernel
theorem dX5_write_2 : decode cX5_write 2 = .ok (.if_icmp .lt 9, 3) := by decide +kernel
theorem dX5_write_5 : decode cX5_write 5 = .ok (.iload_n 3, 1) := by decide +kernel
theorem dX5_write_6 : decode cX5_write 6 = .ok (.bipush 8, 2) := by decide +kernel
theorem dX5_write_8 : decode cX5_write 8 = .ok (.if_icmp .le 6, 3) := by decide +kernel
theorem dX5_write_11 : decode cX5_write 11 = .ok (.bipush (-3), 2) := by decide +kernel
theorem dX5_write_13 : decode cX5_write 13 = .ok (.ireturn, 1) := by decide +kernel
theorem dX5_write_14 : decode cX5_write 14 = .ok (.aload_n 0, 1) := by decide +kernel
theorem dX5_write_15 : decode cX5_write 15 = .ok (.getfield 19, 3) := by decide +kernel
theorem dX5_write_18 : decode cX5_write 18 = .ok (.getfield 63, 3) := by decide +kernel
theorem dX5_write_21 : decode cX5_write 21 = .ok (.iload_n 3, 1) := by decide +kernel
theorem dX5_write_22 : decode cX5_write 22 = .ok (.iadd, 1) := by decide +kernel
theorem dX5_write_23 : decode cX5_write 23 = .ok (.sipush 200, 3) := by decide +kernel
theorem dX5_write_26 : decode cX5_write 26 = .ok (.if_icmp .le 6, 3) := by decide +kernel
theorem dX5_write_29 : decode cX5_write 29 = .ok (.bipush (-5), 2) := by decide +kernel
theorem dX5_write_31 : decode cX5_write 31 = .ok (.ireturn, 1) := by decide +kernel
theorem dX5_write_32 : decode cX5_write 32 = .ok (.iconst 0, 1) := by decide +kernel
theorem dX5_write_33 : decode cX5_write 33 = .ok (.istore 4, 2) := by decide +kernel
theorem dX5_write_35 : decode cX5_write 35 = .ok (.iload 4, 2) := by decide +kernel
theorem dX5_write_37 : decode cX5_write 37 = .ok (.iload_n 3, 1) := by decide +kernel
theorem dX5_write_38 : decode cX5_write 38 = .ok (.if_icmp .ge 46, 3) := by decide +kernel
theorem dX5_write_41 : decode cX5_write 41 = .ok (.aload_n 0, 1) := by decide +kernel
theorem dX5_write_42 : decode cX5_write 42 = .ok (.getfield 19, 3) := by decide +kernel
theorem dX5_write_45 : decode cX5_write 45 = .ok (.getfield 67, 3) := by decide +kernel
theorem dX5_write_48 : decode cX5_write 48 = .ok (.aload_n 0, 1) := by decide +kernel
theorem dX5_write_49 : decode cX5_write 49 = .ok (.getfield 19, 3) := by decide +kernel
theorem dX5_write_52 : decode cX5_write 52 = .ok (.getfield 63, 3) := by decide +kernel
theorem dX5_write_55 : decode cX5_write 55 = .ok (.lload_n 1, 1) := by decide +kernel
theorem dX5_write_56 : decode cX5_write 56 = .ok (.bipush 8, 2) := by decide +kernel
theorem dX5_write_58 : decode cX5_write 58 = .ok (.iload 4, 2) := by decide +kernel
theorem dX5_write_60 : decode cX5_write 60 = .ok (.imul, 1) := by decide +kernel
theorem dX5_write_61 : decode cX5_write 61 = .ok (.lshr, 1) := by decide +kernel
theorem dX5_write_62 : decode cX5_write 62 = .ok (.l2i, 1) := by decide +kernel
theorem dX5_write_63 : decode cX5_write 63 = .ok (.i2b, 1) := by decide +kernel
theorem dX5_write_64 : decode cX5_write 64 = .ok (.bastore, 1) := by decide +kernel
theorem dX5_write_65 : decode cX5_write 65 = .ok (.aload_n 0, 1) := by decide +kernel
theorem dX5_write_66 : decode cX5_write 66 = .ok (.getfield 19, 3) := by decide +kernel
theorem dX5_write_69 : decode cX5_write 69 = .ok (.dup, 1) := by decide +kernel
theorem dX5_write_70 : decode cX5_write 70 = .ok (.getfield 63, 3) := by decide +kernel
theorem dX5_write_73 : decode cX5_write 73 = .ok (.iconst 1, 1) := by decide +kernel
theorem dX5_write_74 : decode cX5_write 74 = .ok (.iadd, 1) := by decide +kernel
theorem dX5_write_75 : decode cX5_write 75 = .ok (.putfield 63, 3) := by decide +kernel
theorem dX5_write_78 : decode cX5_write 78 = .ok (.iinc 4 1, 3) := by decide +kernel
theorem dX5_write_81 : decode cX5_write 81 = .ok (.goto (-46), 3) := by decide +kernel
theorem dX5_write_84 : decode cX5_write 84 = .ok (.aload_n 0, 1) := by decide +kernel
theorem dX5_write_85 : decode cX5_write 85 = .ok (.getfield 19, 3) := by decide +kernel
theorem dX5_write_88 : decode cX5_write 88 = .ok (.getfield 63, 3) := by decide +kernel
theorem dX5_write_91 : decode cX5_write 91 = .ok (.ireturn, 1) := by decide +kernel
theorem dX5_erase_0 : decode cX5_erase 0 = .ok (.aload_n 0, 1) := by decide +kernel
theorem dX5_erase_1 : decode cX5_erase 1 = .ok (.getfield 19, 3) := by decide +kernel
theorem dX5_erase_4 : decode cX5_erase 4 = .ok (.getfield 63, 3) := by decide +kernel
theorem dX5_erase_7 : decode cX5_erase 7 = .ok (.istore_n 1, 1) := by decide +kernel
theorem dX5_erase_8 : decode cX5_erase 8 = .ok (.aload_n 0, 1) := by decide +kernel
theorem dX5_erase_9 : decode cX5_erase 9 = .ok (.getfield 19, 3) := by decide +kernel
theorem dX5_erase_12 : decode cX5_erase 12 = .ok (.iconst 0, 1) := by decide +kernel
theorem dX5_erase_13 : decode cX5_erase 13 = .ok (.putfield 63, 3) := by decide +kernel
theorem dX5_erase_16 : decode cX5_erase 16 = .ok (.iload_n 1, 1) := by decide +kernel
theorem dX5_erase_17 : decode cX5_erase 17 = .ok (.ireturn, 1) := by decide +kernel
theorem dX5_fault_0 : decode cX5_fault 0 = .ok (.aload_n 0, 1) := by decide +kernel
theorem dX5_fault_1 : decode cX5_fault 1 = .ok (.getfield 19, 3) := by decide +kernel
theorem dX5_fault_4 : decode cX5_fault 4 = .ok (.aload_n 0, 1) := by decide +kernel
theorem dX5_fault_5 : decode cX5_fault 5 = .ok (.getfield 10, 3) := by decide +kernel
theorem dX5_fault_8 : decode cX5_fault 8 = .ok (.invokevirtual 71, 3) := by decide +kernel
theorem dX5_fault_11 : decode cX5_fault 11 = .ok (.ireturn, 1) := by decide +kernel
theorem dX5_house_0 : decode cX5_house 0 = .ok (.aload_n 0, 1) := by decide +kernel
theorem dX5_house_1 : decode cX5_house 1 = .ok (.getfield 19, 3) := by decide +kernel
theorem dX5_house_4 : decode cX5_house 4 = .ok (.aload_n 0, 1) := by decide +kernel
theorem dX5_house_5 : decode cX5_house 5 = .ok (.getfield 10, 3) := by decide +kernel
theorem dX5_house_8 : decode cX5_house 8 = .ok (.invokevirtual 71, 3) := by decide +kernel
theorem dX5_house_11 : decode cX5_house 11 = .ok (.iconst (-1), 1) := by decide +kernel
theorem dX5_house_12 : decode cX5_house 12 = .ok (.if_icmp .eq 6, 3) := by decide +kernel
theorem dX5_house_15 : decode cX5_house 15 = .ok (.bipush (-4), 2) := by decide +kernel
theorem dX5_house_17 : decode cX5_house 17 = .ok (.ireturn, 1) := by decide +kernel
theorem dX5_house_18 : decode cX5_house 18 = .ok (.aload_n 0, 1) := by decide +kernel
theorem dX5_house_19 : decode cX5_house 19 = .ok (.getfield 10, 3) := by decide +kernel
theorem dX5_house_22 : decode cX5_house 22 = .ok (.aload_n 0, 1) := by decide +kernel
theorem dX5_house_23 : decode cX5_house 23 = .ok (.getfield 19, 3) := by decide +kernel
theorem dX5_house_26 : decode cX5_house 26 = .ok (.getfield 75, 3) := by decide +kernel
theorem dX5_house_29 : decode cX5_house 29 = .ok (.invokevirtual 78, 3) := by decide +kernel
theorem dX5_house_32 : decode cX5_house 32 = .ok (.aload_n 0, 1) := by decide +kernel
theorem dX5_house_33 : decode cX5_house 33 = .ok (.getfield 19, 3) := by decide +kernel
theorem dX5_house_36 : decode cX5_house 36 = .ok (.iconst 0, 1) := by decide +kernel
theorem dX5_house_37 : decode cX5_house 37 = .ok (.putfield 63, 3) := by decide +kernel
theorem dX5_house_40 : decode cX5_house 40 = .ok (.aload_n 0, 1) := by decide +kernel
theorem dX5_house_41 : decode cX5_house 41 = .ok (.getfield 28, 3) := by decide +kernel
theorem dX5_house_44 : decode cX5_house 44 = .ok (.invokevirtual 61, 3) := by decide +kernel
theorem dX5_house_47 : decode cX5_house 47 = .ok (.aload_n 0, 1) := by decide +kernel
theorem dX5_house_48 : decode cX5_house 48 = .ok (.getfield 53, 3) := by decide +kernel
theorem dX5_house_51 : decode cX5_house 51 = .ok (.iconst 0, 1) := by decide +kernel
theorem dX5_house_52 : decode cX5_house 52 = .ok (.putfield 81, 3) := by decide +kernel
theorem dX5_house_55 : decode cX5_house 55 = .ok (.iconst 0, 1) := by decide +kernel
theorem dX5_house_56 : decode cX5_house 56 = .ok (.istore_n 1, 1) := by decide +kernel
theorem dX5_house_57 : decode cX5_house 57 = .ok (.iload_n 1, 1) := by decide +kernel
theorem dX5_house_58 : decode cX5_house 58 = .ok (.iconst 2, 1) := by decide +kernel
theorem dX5_house_59 : decode cX5_house 59 = .ok (.if_icmp .ge 16, 3) := by decide +kernel
theorem dX5_house_62 : decode cX5_house 62 = .ok (.aload_n 0, 1) := by decide +kernel
theorem dX5_house_63 : decode cX5_house 63 = .ok (.getfield 39, 3) := by decide +kernel
theorem dX5_house_66 : decode cX5_house 66 = .ok (.iload_n 1, 1) := by decide +kernel
theorem dX5_house_67 : decode cX5_house 67 = .ok (.iconst 0, 1) := by decide +kernel
theorem dX5_house_68 : decode cX5_house 68 = .ok (.bastore, 1) := by decide +kernel
theorem dX5_house_69 : decode cX5_house 69 = .ok (.iinc 1 1, 3) := by decide +kernel
theorem dX5_house_72 : decode cX5_house 72 = .ok (.goto (-15), 3) := by decide +kernel
theorem dX5_house_75 : decode cX5_house 75 = .ok (.aload_n 0, 1) := by decide +kernel
theorem dX5_house_76 : decode cX5_house 76 = .ok (.getfield 19, 3) := by decide +kernel
theorem dX5_house_79 : decode cX5_house 79 = .ok (.getfield 84, 3) := by decide +kernel
theorem dX5_house_82 : decode cX5_house 82 = .ok (.ireturn, 1) := by decide +kernel
theorem dX5_leaf_0 : decode cX5_leaf 0 = .ok (.aload_n 0, 1) := by decide +kernel
theorem dX5_leaf_1 : decode cX5_leaf 1 = .ok (.getfield 10, 3) := by decide +kernel
theorem dX5_leaf_4 : decode cX5_leaf 4 = .ok (.iload_n 1, 1) := by decide +kernel
theorem dX5_leaf_5 : decode cX5_leaf 5 = .ok (.invokevirtual 87, 3) := by decide +kernel
theorem dX5_leaf_8 : decode cX5_leaf 8 = .ok (.ifCond .ne 6, 3) := by decide +kernel
theorem dX5_leaf_11 : decode cX5_leaf 11 = .ok (.bipush (-2), 2) := by decide +kernel
theorem dX5_leaf_13 : decode cX5_leaf 13 = .ok (.ireturn, 1) := by decide +kernel
theorem dX5_leaf_14 : decode cX5_leaf 14 = .ok (.iload_n 2, 1) := by decide +kernel
theorem dX5_leaf_15 : decode cX5_leaf 15 = .ok (.tableswitch 55 0 2 #[25, 35, 45], 25) := by decide +kernel
theorem dX5_leaf_40 : decode cX5_leaf 40 = .ok (.aload_n 0, 1) := by decide +kernel
theorem dX5_leaf_41 : decode cX5_leaf 41 = .ok (.getfield 10, 3) := by decide +kernel
theorem dX5_leaf_44 : decode cX5_leaf 44 = .ok (.getfield 91, 3) := by decide +kernel
theorem dX5_leaf_47 : decode cX5_leaf 47 = .ok (.iload_n 1, 1) := by decide +kernel
theorem dX5_leaf_48 : decode cX5_leaf 48 = .ok (.iaload, 1) := by decide +kernel
theorem dX5_leaf_49 : decode cX5_leaf 49 = .ok (.ireturn, 1) := by decide +kernel
theorem dX5_leaf_50 : decode cX5_leaf 50 = .ok (.aload_n 0, 1) := by decide +kernel
theorem dX5_leaf_51 : decode cX5_leaf 51 = .ok (.getfield 28, 3) := by decide +kernel
theorem dX5_leaf_54 : decode cX5_leaf 54 = .ok (.getfield 95, 3) := by decide +kernel
theorem dX5_leaf_57 : decode cX5_leaf 57 = .ok (.iload_n 1, 1) := by decide +kernel
theorem dX5_leaf_58 : decode cX5_leaf 58 = .ok (.iaload, 1) := by decide +kernel
theorem dX5_leaf_59 : decode cX5_leaf 59 = .ok (.ireturn, 1) := by decide +kernel
theorem dX5_leaf_60 : decode cX5_leaf 60 = .ok (.aload_n 0, 1) := by decide +kernel
theorem dX5_leaf_61 : decode cX5_leaf 61 = .ok (.getfield 10, 3) := by decide +kernel
theorem dX5_leaf_64 : decode cX5_leaf 64 = .ok (.getfield 98, 3) := by decide +kernel
theorem dX5_leaf_67 : decode cX5_leaf 67 = .ok (.iload_n 1, 1) := by decide +kernel
theorem dX5_leaf_68 : decode cX5_leaf 68 = .ok (.iaload, 1) := by decide +kernel
theorem dX5_leaf_69 : decode cX5_leaf 69 = .ok (.ireturn, 1) := by decide +kernel
theorem dX5_leaf_70 : decode cX5_leaf 70 = .ok (.bipush (-3), 2) := by decide +kernel
theorem dX5_leaf_72 : decode cX5_leaf 72 = .ok (.ireturn, 1) := by decide +kernel
theorem dX5_room_0 : decode cX5_room 0 = .ok (.aload_n 0, 1) := by decide +kernel
theorem dX5_room_1 : decode cX5_room 1 = .ok (.getfield 10, 3) := by decide +kernel
theorem dX5_room_4 : decode cX5_room 4 = .ok (.iload_n 1, 1) := by decide +kernel
theorem dX5_room_5 : decode cX5_room 5 = .ok (.invokevirtual 87, 3) := by decide +kernel
theorem dX5_room_8 : decode cX5_room 8 = .ok (.ifCond .ne 6, 3) := by decide +kernel
theorem dX5_room_11 : decode cX5_room 11 = .ok (.bipush (-2), 2) := by decide +kernel
theorem dX5_room_13 : decode cX5_room 13 = .ok (.ireturn, 1) := by decide +kernel
theorem dX5_room_14 : decode cX5_room 14 = .ok (.iload_n 2, 1) := by decide +kernel
theorem dX5_room_15 : decode cX5_room 15 = .ok (.tableswitch 74 0 3 #[29, 38, 48, 65], 29) := by decide +kernel
theorem dX5_room_44 : decode cX5_room 44 = .ok (.aload_n 0, 1) := by decide +kernel
theorem dX5_room_45 : decode cX5_room 45 = .ok (.getfield 28, 3) := by decide +kernel
theorem dX5_room_48 : decode cX5_room 48 = .ok (.iload_n 1, 1) := by decide +kernel
theorem dX5_room_49 : decode cX5_room 49 = .ok (.invokevirtual 101, 3) := by decide +kernel
theorem dX5_room_52 : decode cX5_room 52 = .ok (.ireturn, 1) := by decide +kernel
theorem dX5_room_53 : decode cX5_room 53 = .ok (.aload_n 0, 1) := by decide +kernel
theorem dX5_room_54 : decode cX5_room 54 = .ok (.getfield 10, 3) := by decide +kernel
theorem dX5_room_57 : decode cX5_room 57 = .ok (.getfield 105, 3) := by decide +kernel
theorem dX5_room_60 : decode cX5_room 60 = .ok (.iload_n 1, 1) := by decide +kernel
theorem dX5_room_61 : decode cX5_room 61 = .ok (.iaload, 1) := by decide +kernel
theorem dX5_room_62 : decode cX5_room 62 = .ok (.ireturn, 1) := by decide +kernel
theorem dX5_room_63 : decode cX5_room 63 = .ok (.aload_n 0, 1) := by decide +kernel
theorem dX5_room_64 : decode cX5_room 64 = .ok (.getfield 28, 3) := by decide +kernel
theorem dX5_room_67 : decode cX5_room 67 = .ok (.iload_n 1, 1) := by decide +kernel
theorem dX5_room_68 : decode cX5_room 68 = .ok (.invokevirtual 108, 3) := by decide +kernel
theorem dX5_room_71 : decode cX5_room 71 = .ok (.ifCond .eq 7, 3) := by decide +kernel
theorem dX5_room_74 : decode cX5_room 74 = .ok (.iconst 1, 1) := by decide +kernel
theorem dX5_room_75 : decode cX5_room 75 = .ok (.goto 4, 3) := by decide +kernel
theorem dX5_room_78 : decode cX5_room 78 = .ok (.iconst 0, 1) := by decide +kernel
theorem dX5_room_79 : decode cX5_room 79 = .ok (.ireturn, 1) := by decide +kernel
theorem dX5_room_80 : decode cX5_room 80 = .ok (.aload_n 0, 1) := by decide +kernel
theorem dX5_room_81 : decode cX5_room 81 = .ok (.getfield 28, 3) := by decide +kernel
theorem dX5_room_84 : decode cX5_room 84 = .ok (.iload_n 1, 1) := by decide +kernel
theorem dX5_room_85 : decode cX5_room 85 = .ok (.invokevirtual 111, 3) := by decide +kernel
theorem dX5_room_88 : decode cX5_room 88 = .ok (.ireturn, 1) := by decide +kernel
theorem dX5_room_89 : decode cX5_room 89 = .ok (.bipush (-3), 2) := by decide +kernel
theorem dX5_room_91 : decode cX5_room 91 = .ok (.ireturn, 1) := by decide +kernel
theorem dX5_as_0 : decode cX5_as 0 = .ok (.aload_n 0, 1) := by decide +kernel
theorem dX5_as_1 : decode cX5_as 1 = .ok (.getfield 10, 3) := by decide +kernel
theorem dX5_as_4 : decode cX5_as 4 = .ok (.iload_n 1, 1) := by decide +kernel
theorem dX5_as_5 : decode cX5_as 5 = .ok (.invokevirtual 87, 3) := by decide +kernel
theorem dX5_as_8 : decode cX5_as 8 = .ok (.ifCond .ne 6, 3) := by decide +kernel
theorem dX5_as_11 : decode cX5_as 11 = .ok (.bipush (-2), 2) := by decide +kernel
theorem dX5_as_13 : decode cX5_as 13 = .ok (.ireturn, 1) := by decide +kernel
theorem dX5_as_14 : decode cX5_as 14 = .ok (.iload_n 2, 1) := by decide +kernel
theorem dX5_as_15 : decode cX5_as 15 = .ok (.ifCond .lt 8, 3) := by decide +kernel
theorem dX5_as_18 : decode cX5_as 18 = .ok (.iload_n 2, 1) := by decide +kernel
theorem dX5_as_19 : decode cX5_as 19 = .ok (.iconst 4, 1) := by decide +kernel
theorem dX5_as_20 : decode cX5_as 20 = .ok (.if_icmp .le 6, 3) := by decide +kernel
theorem dX5_as_23 : decode cX5_as 23 = .ok (.bipush (-3), 2) := by decide +kernel
theorem dX5_as_25 : decode cX5_as 25 = .ok (.ireturn, 1) := by decide +kernel
theorem dX5_as_26 : decode cX5_as 26 = .ok (.aload_n 0, 1) := by decide +kernel
theorem dX5_as_27 : decode cX5_as 27 = .ok (.getfield 10, 3) := by decide +kernel
theorem dX5_as_30 : decode cX5_as 30 = .ok (.iload_n 1, 1) := by decide +kernel
theorem dX5_as_31 : decode cX5_as 31 = .ok (.iload_n 2, 1) := by decide +kernel
theorem dX5_as_32 : decode cX5_as 32 = .ok (.invokevirtual 114, 3) := by decide +kernel
theorem dX5_as_35 : decode cX5_as 35 = .ok (.ifCond .ne 6, 3) := by decide +kernel
theorem dX5_as_38 : decode cX5_as 38 = .ok (.bipush (-4), 2) := by decide +kernel
theorem dX5_as_40 : decode cX5_as 40 = .ok (.ireturn, 1) := by decide +kernel
theorem dX5_as_41 : decode cX5_as 41 = .ok (.aload_n 0, 1) := by decide +kernel
theorem dX5_as_42 : decode cX5_as 42 = .ok (.getfield 28, 3) := by decide +kernel
theorem dX5_as_45 : decode cX5_as 45 = .ok (.iload_n 1, 1) := by decide +kernel
theorem dX5_as_46 : decode cX5_as 46 = .ok (.iconst 0, 1) := by decide +kernel
theorem dX5_as_47 : decode cX5_as 47 = .ok (.invokevirtual 118, 3) := by decide +kernel
theorem dX5_as_50 : decode cX5_as 50 = .ok (.ifCond .le 7, 3) := by decide +kernel
theorem dX5_as_53 : decode cX5_as 53 = .ok (.iconst 1, 1) := by decide +kernel
theorem dX5_as_54 : decode cX5_as 54 = .ok (.goto 4, 3) := by decide +kernel
theorem dX5_as_57 : decode cX5_as 57 = .ok (.iconst 0, 1) := by decide +kernel
theorem dX5_as_58 : decode cX5_as 58 = .ok (.istore_n 3, 1) := by decide +kernel
theorem dX5_as_59 : decode cX5_as 59 = .ok (.aload_n 0, 1) := by decide +kernel
theorem dX5_as_60 : decode cX5_as 60 = .ok (.getfield 28, 3) := by decide +kernel
theorem dX5_as_63 : decode cX5_as 63 = .ok (.iload_n 1, 1) := by decide +kernel
theorem dX5_as_64 : decode cX5_as 64 = .ok (.iconst 1, 1) := by decide +kernel
theorem dX5_as_65 : decode cX5_as 65 = .ok (.invokevirtual 118, 3) := by decide +kernel
theorem dX5_as_68 : decode cX5_as 68 = .ok (.ifCond .le 7, 3) := by decide +kernel
theorem dX5_as_71 : decode cX5_as 71 = .ok (.iconst 2, 1) := by decide +kernel
theorem dX5_as_72 : decode cX5_as 72 = .ok (.goto 4, 3) := by decide +kernel
theorem dX5_as_75 : decode cX5_as 75 = .ok (.iconst 0, 1) := by decide +kernel
theorem dX5_as_76 : decode cX5_as 76 = .ok (.istore 4, 2) := by decide +kernel
theorem dX5_as_78 : decode cX5_as 78 = .ok (.iload_n 3, 1) := by decide +kernel
theorem dX5_as_79 : decode cX5_as 79 = .ok (.iload 4, 2) := by decide +kernel
theorem dX5_as_81 : decode cX5_as 81 = .ok (.iadd, 1) := by decide +kernel
theorem dX5_as_82 : decode cX5_as 82 = .ok (.ireturn, 1) := by decide +kernel
theorem dX5_person_0 : decode cX5_person 0 = .ok (.aload_n 0, 1) := by decide +kernel
theorem dX5_person_1 : decode cX5_person 1 = .ok (.iload_n 1, 1) := by decide +kernel
theorem dX5_person_2 : decode cX5_person 2 = .ok (.invokevirtual 122, 3) := by decide +kernel
theorem dX5_person_5 : decode cX5_person 5 = .ok (.ifCond .eq 15, 3) := by decide +kernel
theorem dX5_person_8 : decode cX5_person 8 = .ok (.aload_n 0, 1) := by decide +kernel
theorem dX5_person_9 : decode cX5_person 9 = .ok (.getfield 28, 3) := by decide +kernel
theorem dX5_person_12 : decode cX5_person 12 = .ok (.getfield 125, 3) := by decide +kernel
theorem dX5_person_15 : decode cX5_person 15 = .ok (.iload_n 1, 1) := by decide +kernel
theorem dX5_person_16 : decode cX5_person 16 = .ok (.iaload, 1) := by decide +kernel
theorem dX5_person_17 : decode cX5_person 17 = .ok (.goto 5, 3) := by decide +kernel
theorem dX5_person_20 : decode cX5_person 20 = .ok (.bipush (-2), 2) := by decide +kernel
theorem dX5_person_22 : decode cX5_person 22 = .ok (.ireturn, 1) := by decide +kernel
theorem dX5_push_0 : decode cX5_push 0 = .ok (.aload_n 0, 1) := by decide +kernel
theorem dX5_push_1 : decode cX5_push 1 = .ok (.getfield 10, 3) := by decide +kernel
theorem dX5_push_4 : decode cX5_push 4 = .ok (.iload_n 1, 1) := by decide +kernel
theorem dX5_push_5 : decode cX5_push 5 = .ok (.invokevirtual 87, 3) := by decide +kernel
theorem dX5_push_8 : decode cX5_push 8 = .ok (.ifCond .ne 6, 3) := by decide +kernel
theorem dX5_push_11 : decode cX5_push 11 = .ok (.bipush (-2), 2) := by decide +kernel
theorem dX5_push_13 : decode cX5_push 13 = .ok (.ireturn, 1) := by decide +kernel
theorem dX5_push_14 : decode cX5_push 14 = .ok (.iload_n 2, 1) := by decide +kernel
theorem dX5_push_15 : decode cX5_push 15 = .ok (.invokestatic 128, 3) := by decide +kernel
theorem dX5_push_18 : decode cX5_push 18 = .ok (.ifCond .eq 14, 3) := by decide +kernel
theorem dX5_push_21 : decode cX5_push 21 = .ok (.iload_n 3, 1) := by decide +kernel
theorem dX5_push_22 : decode cX5_push 22 = .ok (.iconst 1, 1) := by decide +kernel
theorem dX5_push_23 : decode cX5_push 23 = .ok (.if_icmp .lt 9, 3) := by decide +kernel
theorem dX5_push_26 : decode cX5_push 26 = .ok (.iload_n 3, 1) := by decide +kernel
theorem dX5_push_27 : decode cX5_push 27 = .ok (.bipush 72, 2) := by decide +kernel
theorem dX5_push_29 : decode cX5_push 29 = .ok (.if_icmp .le 6, 3) := by decide +kernel
theorem dX5_push_32 : decode cX5_push 32 = .ok (.bipush (-3), 2) := by decide +kernel
theorem dX5_push_34 : decode cX5_push 34 = .ok (.ireturn, 1) := by decide +kernel
theorem dX5_push_35 : decode cX5_push 35 = .ok (.iconst 0, 1) := by decide +kernel
theorem dX5_push_36 : decode cX5_push 36 = .ok (.istore 4, 2) := by decide +kernel
theorem dX5_push_38 : decode cX5_push 38 = .ok (.iload 4, 2) := by decide +kernel
theorem dX5_push_40 : decode cX5_push 40 = .ok (.iload_n 3, 1) := by decide +kernel
theorem dX5_push_41 : decode cX5_push 41 = .ok (.if_icmp .ge 21, 3) := by decide +kernel
theorem dX5_push_44 : decode cX5_push 44 = .ok (.aload_n 0, 1) := by decide +kernel
theorem dX5_push_45 : decode cX5_push 45 = .ok (.getfield 28, 3) := by decide +kernel
theorem dX5_push_48 : decode cX5_push 48 = .ok (.iload_n 1, 1) := by decide +kernel
theorem dX5_push_49 : decode cX5_push 49 = .ok (.iload_n 2, 1) := by decide +kernel
theorem dX5_push_50 : decode cX5_push 50 = .ok (.invokevirtual 131, 3) := by decide +kernel
theorem dX5_push_53 : decode cX5_push 53 = .ok (.ifCond .eq 9, 3) := by decide +kernel
theorem dX5_push_56 : decode cX5_push 56 = .ok (.iinc 4 1, 3) := by decide +kernel
theorem dX5_push_59 : decode cX5_push 59 = .ok (.goto (-21), 3) := by decide +kernel
theorem dX5_push_62 : decode cX5_push 62 = .ok (.iload 4, 2) := by decide +kernel
theorem dX5_push_64 : decode cX5_push 64 = .ok (.ireturn, 1) := by decide +kernel
theorem dX5_hours_0 : decode cX5_hours 0 = .ok (.iload_n 1, 1) := by decide +kernel
theorem dX5_hours_1 : decode cX5_hours 1 = .ok (.iconst 1, 1) := by decide +kernel
theorem dX5_hours_2 : decode cX5_hours 2 = .ok (.if_icmp .lt 9, 3) := by decide +kernel
theorem dX5_hours_5 : decode cX5_hours 5 = .ok (.iload_n 1, 1) := by decide +kernel
theorem dX5_hours_6 : decode cX5_hours 6 = .ok (.bipush 99, 2) := by decide +kernel
theorem dX5_hours_8 : decode cX5_hours 8 = .ok (.if_icmp .le 6, 3) := by decide +kernel
theorem dX5_hours_11 : decode cX5_hours 11 = .ok (.bipush (-3), 2) := by decide +kernel
theorem dX5_hours_13 : decode cX5_hours 13 = .ok (.ireturn, 1) := by decide +kernel
theorem dX5_hours_14 : decode cX5_hours 14 = .ok (.aload_n 0, 1) := by decide +kernel
theorem dX5_hours_15 : decode cX5_hours 15 = .ok (.getfield 28, 3) := by decide +kernel
theorem dX5_hours_18 : decode cX5_hours 18 = .ok (.getfield 134, 3) := by decide +kernel
theorem dX5_hours_21 : decode cX5_hours 21 = .ok (.iload_n 1, 1) := by decide +kernel
theorem dX5_hours_22 : decode cX5_hours 22 = .ok (.iadd, 1) := by decide +kernel
theorem dX5_hours_23 : decode cX5_hours 23 = .ok (.sipush 9999, 3) := by decide +kernel
theorem dX5_hours_26 : decode cX5_hours 26 = .ok (.if_icmp .le 6, 3) := by decide +kernel
theorem dX5_hours_29 : decode cX5_hours 29 = .ok (.bipush (-5), 2) := by decide +kernel
theorem dX5_hours_31 : decode cX5_hours 31 = .ok (.ireturn, 1) := by decide +kernel
theorem dX5_hours_32 : decode cX5_hours 32 = .ok (.iconst 0, 1) := by decide +kernel
theorem dX5_hours_33 : decode cX5_hours 33 = .ok (.istore_n 2, 1) := by decide +kernel
theorem dX5_hours_34 : decode cX5_hours 34 = .ok (.iload_n 2, 1) := by decide +kernel
theorem dX5_hours_35 : decode cX5_hours 35 = .ok (.iload_n 1, 1) := by decide +kernel
theorem dX5_hours_36 : decode cX5_hours 36 = .ok (.if_icmp .ge 16, 3) := by decide +kernel
theorem dX5_hours_39 : decode cX5_hours 39 = .ok (.aload_n 0, 1) := by decide +kernel
theorem dX5_hours_40 : decode cX5_hours 40 = .ok (.getfield 28, 3) := by decide +kernel
theorem dX5_hours_43 : decode cX5_hours 43 = .ok (.invokevirtual 137, 3) := by decide +kernel
theorem dX5_hours_46 : decode cX5_hours 46 = .ok (.iinc 2 1, 3) := by decide +kernel
theorem dX5_hours_49 : decode cX5_hours 49 = .ok (.goto (-15), 3) := by decide +kernel
theorem dX5_hours_52 : decode cX5_hours 52 = .ok (.aload_n 0, 1) := by decide +kernel
theorem dX5_hours_53 : decode cX5_hours 53 = .ok (.getfield 28, 3) := by decide +kernel
theorem dX5_hours_56 : decode cX5_hours 56 = .ok (.getfield 134, 3) := by decide +kernel
theorem dX5_hours_59 : decode cX5_hours 59 = .ok (.ireturn, 1) := by decide +kernel
theorem dX5_leave_0 : decode cX5_leave 0 = .ok (.aload_n 0, 1) := by decide +kernel
theorem dX5_leave_1 : decode cX5_leave 1 = .ok (.iload_n 1, 1) := by decide +kernel
theorem dX5_leave_2 : decode cX5_leave 2 = .ok (.invokevirtual 122, 3) := by decide +kernel
theorem dX5_leave_5 : decode cX5_leave 5 = .ok (.ifCond .ne 6, 3) := by decide +kernel
theorem dX5_leave_8 : decode cX5_leave 8 = .ok (.bipush (-2), 2) := by decide +kernel
theorem dX5_leave_10 : decode cX5_leave 10 = .ok (.ireturn, 1) := by decide +kernel
theorem dX5_leave_11 : decode cX5_leave 11 = .ok (.aload_n 0, 1) := by decide +kernel
theorem dX5_leave_12 : decode cX5_leave 12 = .ok (.getfield 28, 3) := by decide +kernel
theorem dX5_leave_15 : decode cX5_leave 15 = .ok (.getfield 125, 3) := by decide +kernel
theorem dX5_leave_18 : decode cX5_leave 18 = .ok (.iload_n 1, 1) := by decide +kernel
theorem dX5_leave_19 : decode cX5_leave 19 = .ok (.iaload, 1) := by decide +kernel
theorem dX5_leave_20 : decode cX5_leave 20 = .ok (.istore_n 2, 1) := by decide +kernel
theorem dX5_leave_21 : decode cX5_leave 21 = .ok (.iload_n 2, 1) := by decide +kernel
theorem dX5_leave_22 : decode cX5_leave 22 = .ok (.iconst (-1), 1) := by decide +kernel
theorem dX5_leave_23 : decode cX5_leave 23 = .ok (.if_icmp .eq 14, 3) := by decide +kernel
theorem dX5_leave_26 : decode cX5_leave 26 = .ok (.aload_n 0, 1) := by decide +kernel
theorem dX5_leave_27 : decode cX5_leave 27 = .ok (.getfield 28, 3) := by decide +kernel
theorem dX5_leave_30 : decode cX5_leave 30 = .ok (.iload_n 2, 1) := by decide +kernel
theorem dX5_leave_31 : decode cX5_leave 31 = .ok (.invokevirtual 108, 3) := by decide +kernel
theorem dX5_leave_34 : decode cX5_leave 34 = .ok (.ifCond .ne 6, 3) := by decide +kernel
theorem dX5_leave_37 : decode cX5_leave 37 = .ok (.bipush (-4), 2) := by decide +kernel
theorem dX5_leave_39 : decode cX5_leave 39 = .ok (.ireturn, 1) := by decide +kernel
theorem dX5_leave_40 : decode cX5_leave 40 = .ok (.aload_n 0, 1) := by decide +kernel
theorem dX5_leave_41 : decode cX5_leave 41 = .ok (.getfield 28, 3) := by decide +kernel
theorem dX5_leave_44 : decode cX5_leave 44 = .ok (.getfield 125, 3) := by decide +kernel
theorem dX5_leave_47 : decode cX5_leave 47 = .ok (.iload_n 1, 1) := by decide +kernel
theorem dX5_leave_48 : decode cX5_leave 48 = .ok (.iconst (-1), 1) := by decide +kernel
theorem dX5_leave_49 : decode cX5_leave 49 = .ok (.iastore, 1) := by decide +kernel
theorem dX5_leave_50 : decode cX5_leave 50 = .ok (.iload_n 2, 1) := by decide +kernel
theorem dX5_leave_51 : decode cX5_leave 51 = .ok (.ireturn, 1) := by decide +kernel
theorem dX5_enter_0 : decode cX5_enter 0 = .ok (.aload_n 0, 1) := by decide +kernel
theorem dX5_enter_1 : decode cX5_enter 1 = .ok (.iload_n 1, 1) := by decide +kernel
theorem dX5_enter_2 : decode cX5_enter 2 = .ok (.invokevirtual 122, 3) := by decide +kernel
theorem dX5_enter_5 : decode cX5_enter 5 = .ok (.ifCond .eq 14, 3) := by decide +kernel
theorem dX5_enter_8 : decode cX5_enter 8 = .ok (.aload_n 0, 1) := by decide +kernel
theorem dX5_enter_9 : decode cX5_enter 9 = .ok (.getfield 10, 3) := by decide +kernel
theorem dX5_enter_12 : decode cX5_enter 12 = .ok (.iload_n 2, 1) := by decide +kernel
theorem dX5_enter_13 : decode cX5_enter 13 = .ok (.invokevirtual 87, 3) := by decide +kernel
theorem dX5_enter_16 : decode cX5_enter 16 = .ok (.ifCond .ne 6, 3) := by decide +kernel
theorem dX5_enter_19 : decode cX5_enter 19 = .ok (.bipush (-2), 2) := by decide +kernel
theorem dX5_enter_21 : decode cX5_enter 21 = .ok (.ireturn, 1) := by decide +kernel
theorem dX5_enter_22 : decode cX5_enter 22 = .ok (.aload_n 0, 1) := by decide +kernel
theorem dX5_enter_23 : decode cX5_enter 23 = .ok (.getfield 28, 3) := by decide +kernel
theorem dX5_enter_26 : decode cX5_enter 26 = .ok (.getfield 125, 3) := by decide +kernel
theorem dX5_enter_29 : decode cX5_enter 29 = .ok (.iload_n 1, 1) := by decide +kernel
theorem dX5_enter_30 : decode cX5_enter 30 = .ok (.iaload, 1) := by decide +kernel
theorem dX5_enter_31 : decode cX5_enter 31 = .ok (.iconst (-1), 1) := by decide +kernel
theorem dX5_enter_32 : decode cX5_enter 32 = .ok (.if_icmp .ne 14, 3) := by decide +kernel
theorem dX5_enter_35 : decode cX5_enter 35 = .ok (.aload_n 0, 1) := by decide +kernel
theorem dX5_enter_36 : decode cX5_enter 36 = .ok (.getfield 28, 3) := by decide +kernel
theorem dX5_enter_39 : decode cX5_enter 39 = .ok (.iload_n 2, 1) := by decide +kernel
theorem dX5_enter_40 : decode cX5_enter 40 = .ok (.invokevirtual 108, 3) := by decide +kernel
theorem dX5_enter_43 : decode cX5_enter 43 = .ok (.ifCond .ne 6, 3) := by decide +kernel
theorem dX5_enter_46 : decode cX5_enter 46 = .ok (.bipush (-4), 2) := by decide +kernel
theorem dX5_enter_48 : decode cX5_enter 48 = .ok (.ireturn, 1) := by decide +kernel
theorem dX5_enter_49 : decode cX5_enter 49 = .ok (.aload_n 0, 1) := by decide +kernel
theorem dX5_enter_50 : decode cX5_enter 50 = .ok (.getfield 28, 3) := by decide +kernel
theorem dX5_enter_53 : decode cX5_enter 53 = .ok (.getfield 125, 3) := by decide +kernel
theorem dX5_enter_56 : decode cX5_enter 56 = .ok (.iload_n 1, 1) := by decide +kernel
theorem dX5_enter_57 : decode cX5_enter 57 = .ok (.iload_n 2, 1) := by decide +kernel
theorem dX5_enter_58 : decode cX5_enter 58 = .ok (.iastore, 1) := by decide +kernel
theorem dX5_enter_59 : decode cX5_enter 59 = .ok (.aload_n 0, 1) := by decide +kernel
theorem dX5_enter_60 : decode cX5_enter 60 = .ok (.getfield 28, 3) := by decide +kernel
theorem dX5_enter_63 : decode cX5_enter 63 = .ok (.iload_n 2, 1) := by decide +kernel
theorem dX5_enter_64 : decode cX5_enter 64 = .ok (.invokevirtual 111, 3) := by decide +kernel
theorem dX5_enter_67 : decode cX5_enter 67 = .ok (.invokestatic 140, 3) := by decide +kernel
theorem dX5_enter_70 : decode cX5_enter 70 = .ok (.ireturn, 1) := by decide +kernel
theorem dX5_keep_0 : decode cX5_keep 0 = .ok (.iload_n 1, 1) := by decide +kernel
theorem dX5_keep_1 : decode cX5_keep 1 = .ok (.ifCond .lt 8, 3) := by decide +kernel
theorem dX5_keep_4 : decode cX5_keep 4 = .ok (.iload_n 1, 1) := by decide +kernel
theorem dX5_keep_5 : decode cX5_keep 5 = .ok (.iconst 2, 1) := by decide +kernel
theorem dX5_keep_6 : decode cX5_keep 6 = .ok (.if_icmp .lt 6, 3) := by decide +kernel
theorem dX5_keep_9 : decode cX5_keep 9 = .ok (.bipush (-2), 2) := by decide +kernel
theorem dX5_keep_11 : decode cX5_keep 11 = .ok (.ireturn, 1) := by decide +kernel
theorem dX5_keep_12 : decode cX5_keep 12 = .ok (.aload_n 0, 1) := by decide +kernel
theorem dX5_keep_13 : decode cX5_keep 13 = .ok (.getfield 35, 3) := by decide +kernel
theorem dX5_keep_16 : decode cX5_keep 16 = .ok (.iload_n 1, 1) := by decide +kernel
theorem dX5_keep_17 : decode cX5_keep 17 = .ok (.aaload, 1) := by decide +kernel
theorem dX5_keep_18 : decode cX5_keep 18 = .ok (.aload_n 0, 1) := by decide +kernel
theorem dX5_keep_19 : decode cX5_keep 19 = .ok (.getfield 28, 3) := by decide +kernel
theorem dX5_keep_22 : decode cX5_keep 22 = .ok (.invokevirtual 145, 3) := by decide +kernel
theorem dX5_keep_25 : decode cX5_keep 25 = .ok (.aload_n 0, 1) := by decide +kernel
theorem dX5_keep_26 : decode cX5_keep 26 = .ok (.getfield 39, 3) := by decide +kernel
theorem dX5_keep_29 : decode cX5_keep 29 = .ok (.iload_n 1, 1) := by decide +kernel
theorem dX5_keep_30 : decode cX5_keep 30 = .ok (.iconst 1, 1) := by decide +kernel
theorem dX5_keep_31 : decode cX5_keep 31 = .ok (.bastore, 1) := by decide +kernel
theorem dX5_keep_32 : decode cX5_keep 32 = .ok (.aload_n 0, 1) := by decide +kernel
theorem dX5_keep_33 : decode cX5_keep 33 = .ok (.getfield 28, 3) := by decide +kernel
theorem dX5_keep_36 : decode cX5_keep 36 = .ok (.getfield 134, 3) := by decide +kernel
theorem dX5_keep_39 : decode cX5_keep 39 = .ok (.ireturn, 1) := by decide +kernel
theorem dX5_back_0 : decode cX5_back 0 = .ok (.iload_n 1, 1) := by decide +kernel
theorem dX5_back_1 : decode cX5_back 1 = .ok (.ifCond .lt 8, 3) := by decide +kernel
theorem dX5_back_4 : decode cX5_back 4 = .ok (.iload_n 1, 1) := by decide +kernel
theorem dX5_back_5 : decode cX5_back 5 = .ok (.iconst 2, 1) := by decide +kernel
theorem dX5_back_6 : decode cX5_back 6 = .ok (.if_icmp .lt 6, 3) := by decide +kernel
theorem dX5_back_9 : decode cX5_back 9 = .ok (.bipush (-2), 2) := by decide +kernel
theorem dX5_back_11 : decode cX5_back 11 = .ok (.ireturn, 1) := by decide +kernel
theorem dX5_back_12 : decode cX5_back 12 = .ok (.aload_n 0, 1) := by decide +kernel
theorem dX5_back_13 : decode cX5_back 13 = .ok (.getfield 39, 3) := by decide +kernel
theorem dX5_back_16 : decode cX5_back 16 = .ok (.iload_n 1, 1) := by decide +kernel
theorem dX5_back_17 : decode cX5_back 17 = .ok (.baload, 1) := by decide +kernel
theorem dX5_back_18 : decode cX5_back 18 = .ok (.ifCond .ne 6, 3) := by decide +kernel
theorem dX5_back_21 : decode cX5_back 21 = .ok (.bipush (-4), 2) := by decide +kernel
theorem dX5_back_23 : decode cX5_back 23 = .ok (.ireturn, 1) := by decide +kernel
theorem dX5_back_24 : decode cX5_back 24 = .ok (.aload_n 0, 1) := by decide +kernel
theorem dX5_back_25 : decode cX5_back 25 = .ok (.getfield 28, 3) := by decide +kernel
theorem dX5_back_28 : decode cX5_back 28 = .ok (.aload_n 0, 1) := by decide +kernel
theorem dX5_back_29 : decode cX5_back 29 = .ok (.getfield 35, 3) := by decide +kernel
theorem dX5_back_32 : decode cX5_back 32 = .ok (.iload_n 1, 1) := by decide +kernel
theorem dX5_back_33 : decode cX5_back 33 = .ok (.aaload, 1) := by decide +kernel
theorem dX5_back_34 : decode cX5_back 34 = .ok (.invokevirtual 145, 3) := by decide +kernel
theorem dX5_back_37 : decode cX5_back 37 = .ok (.aload_n 0, 1) := by decide +kernel
theorem dX5_back_38 : decode cX5_back 38 = .ok (.getfield 28, 3) := by decide +kernel
theorem dX5_back_41 : decode cX5_back 41 = .ok (.getfield 134, 3) := by decide +kernel
theorem dX5_back_44 : decode cX5_back 44 = .ok (.ireturn, 1) := by decide +kernel
theorem dX5_turn_0 : decode cX5_turn 0 = .ok (.aload_n 0, 1) := by decide +kernel
theorem dX5_turn_1 : decode cX5_turn 1 = .ok (.getfield 10, 3) := by decide +kernel
theorem dX5_turn_4 : decode cX5_turn 4 = .ok (.iload_n 1, 1) := by decide +kernel
theorem dX5_turn_5 : decode cX5_turn 5 = .ok (.invokevirtual 87, 3) := by decide +kernel
theorem dX5_turn_8 : decode cX5_turn 8 = .ok (.ifCond .eq 14, 3) := by decide +kernel
theorem dX5_turn_11 : decode cX5_turn 11 = .ok (.aload_n 0, 1) := by decide +kernel
theorem dX5_turn_12 : decode cX5_turn 12 = .ok (.getfield 10, 3) := by decide +kernel
theorem dX5_turn_15 : decode cX5_turn 15 = .ok (.iload_n 3, 1) := by decide +kernel
theorem dX5_turn_16 : decode cX5_turn 16 = .ok (.invokevirtual 87, 3) := by decide +kernel
theorem dX5_turn_19 : decode cX5_turn 19 = .ok (.ifCond .ne 6, 3) := by decide +kernel
theorem dX5_turn_22 : decode cX5_turn 22 = .ok (.bipush (-2), 2) := by decide +kernel
theorem dX5_turn_24 : decode cX5_turn 24 = .ok (.ireturn, 1) := by decide +kernel
theorem dX5_turn_25 : decode cX5_turn 25 = .ok (.iload_n 2, 1) := by decide +kernel
theorem dX5_turn_26 : decode cX5_turn 26 = .ok (.invokestatic 128, 3) := by decide +kernel
theorem dX5_turn_29 : decode cX5_turn 29 = .ok (.ifCond .ne 6, 3) := by decide +kernel
theorem dX5_turn_32 : decode cX5_turn 32 = .ok (.bipush (-3), 2) := by decide +kernel
theorem dX5_turn_34 : decode cX5_turn 34 = .ok (.ireturn, 1) := by decide +kernel
theorem dX5_turn_35 : decode cX5_turn 35 = .ok (.aload_n 0, 1) := by decide +kernel
theorem dX5_turn_36 : decode cX5_turn 36 = .ok (.getfield 32, 3) := by decide +kernel
theorem dX5_turn_39 : decode cX5_turn 39 = .ok (.aload_n 0, 1) := by decide +kernel
theorem dX5_turn_40 : decode cX5_turn 40 = .ok (.getfield 28, 3) := by decide +kernel
theorem dX5_turn_43 : decode cX5_turn 43 = .ok (.invokevirtual 145, 3) := by decide +kernel
theorem dX5_turn_46 : decode cX5_turn 46 = .ok (.aload_n 0, 1) := by decide +kernel
theorem dX5_turn_47 : decode cX5_turn 47 = .ok (.getfield 32, 3) := by decide +kernel
theorem dX5_turn_50 : decode cX5_turn 50 = .ok (.iload_n 1, 1) := by decide +kernel
theorem dX5_turn_51 : decode cX5_turn 51 = .ok (.iload_n 2, 1) := by decide +kernel
theorem dX5_turn_52 : decode cX5_turn 52 = .ok (.iload_n 3, 1) := by decide +kernel
theorem dX5_turn_53 : decode cX5_turn 53 = .ok (.bipush 72, 2) := by decide +kernel
theorem dX5_turn_55 : decode cX5_turn 55 = .ok (.invokevirtual 148, 3) := by decide +kernel
theorem dX5_turn_58 : decode cX5_turn 58 = .ok (.ireturn, 1) := by decide +kernel
theorem dX5_best_0 : decode cX5_best 0 = .ok (.aload_n 0, 1) := by decide +kernel
theorem dX5_best_1 : decode cX5_best 1 = .ok (.getfield 10, 3) := by decide +kernel
theorem dX5_best_4 : decode cX5_best 4 = .ok (.iload_n 1, 1) := by decide +kernel
theorem dX5_best_5 : decode cX5_best 5 = .ok (.invokevirtual 87, 3) := by decide +kernel
theorem dX5_best_8 : decode cX5_best 8 = .ok (.ifCond .ne 6, 3) := by decide +kernel
theorem dX5_best_11 : decode cX5_best 11 = .ok (.bipush (-2), 2) := by decide +kernel
theorem dX5_best_13 : decode cX5_best 13 = .ok (.ireturn, 1) := by decide +kernel
theorem dX5_best_14 : decode cX5_best 14 = .ok (.iload_n 2, 1) := by decide +kernel
theorem dX5_best_15 : decode cX5_best 15 = .ok (.ifCond .lt 8, 3) := by decide +kernel
theorem dX5_best_18 : decode cX5_best 18 = .ok (.iload_n 2, 1) := by decide +kernel
theorem dX5_best_19 : decode cX5_best 19 = .ok (.iconst 2, 1) := by decide +kernel
theorem dX5_best_20 : decode cX5_best 20 = .ok (.if_icmp .le 6, 3) := by decide +kernel
theorem dX5_best_23 : decode cX5_best 23 = .ok (.bipush (-3), 2) := by decide +kernel
theorem dX5_best_25 : decode cX5_best 25 = .ok (.ireturn, 1) := by decide +kernel
theorem dX5_best_26 : decode cX5_best 26 = .ok (.iconst (-1), 1) := by decide +kernel
theorem dX5_best_27 : decode cX5_best 27 = .ok (.istore_n 3, 1) := by decide +kernel
theorem dX5_best_28 : decode cX5_best 28 = .ok (.iconst (-1), 1) := by decide +kernel
theorem dX5_best_29 : decode cX5_best 29 = .ok (.istore 4, 2) := by decide +kernel
theorem dX5_best_31 : decode cX5_best 31 = .ok (.iconst (-1), 1) := by decide +kernel
theorem dX5_best_32 : decode cX5_best 32 = .ok (.istore 5, 2) := by decide +kernel
theorem dX5_best_34 : decode cX5_best 34 = .ok (.bipush 72, 2) := by decide +kernel
theorem dX5_best_36 : decode cX5_best 36 = .ok (.istore 6, 2) := by decide +kernel
theorem dX5_best_38 : decode cX5_best 38 = .ok (.iconst 0, 1) := by decide +kernel
theorem dX5_best_39 : decode cX5_best 39 = .ok (.istore 7, 2) := by decide +kernel
theorem dX5_best_41 : decode cX5_best 41 = .ok (.iload 7, 2) := by decide +kernel
theorem dX5_best_43 : decode cX5_best 43 = .ok (.aload_n 0, 1) := by decide +kernel
theorem dX5_best_44 : decode cX5_best 44 = .ok (.getfield 10, 3) := by decide +kernel
theorem dX5_best_47 : decode cX5_best 47 = .ok (.getfield 152, 3) := by decide +kernel
theorem dX5_best_50 : decode cX5_best 50 = .ok (.if_icmp .ge 74, 3) := by decide +kernel
theorem dX5_best_53 : decode cX5_best 53 = .ok (.iconst 0, 1) := by decide +kernel
theorem dX5_best_54 : decode cX5_best 54 = .ok (.istore 8, 2) := by decide +kernel
theorem dX5_best_56 : decode cX5_best 56 = .ok (.iload 8, 2) := by decide +kernel
theorem dX5_best_58 : decode cX5_best 58 = .ok (.iconst 1, 1) := by decide +kernel
theorem dX5_best_59 : decode cX5_best 59 = .ok (.if_icmp .gt 59, 3) := by decide +kernel
theorem dX5_best_62 : decode cX5_best 62 = .ok (.aload_n 0, 1) := by decide +kernel
theorem dX5_best_63 : decode cX5_best 63 = .ok (.getfield 32, 3) := by decide +kernel
theorem dX5_best_66 : decode cX5_best 66 = .ok (.aload_n 0, 1) := by decide +kernel
theorem dX5_best_67 : decode cX5_best 67 = .ok (.getfield 28, 3) := by decide +kernel
theorem dX5_best_70 : decode cX5_best 70 = .ok (.invokevirtual 145, 3) := by decide +kernel
theorem dX5_best_73 : decode cX5_best 73 = .ok (.aload_n 0, 1) := by decide +kernel
theorem dX5_best_74 : decode cX5_best 74 = .ok (.getfield 32, 3) := by decide +kernel
theorem dX5_best_77 : decode cX5_best 77 = .ok (.iload 7, 2) := by decide +kernel
theorem dX5_best_79 : decode cX5_best 79 = .ok (.iload 8, 2) := by decide +kernel
theorem dX5_best_81 : decode cX5_best 81 = .ok (.iload_n 1, 1) := by decide +kernel
theorem dX5_best_82 : decode cX5_best 82 = .ok (.iload 6, 2) := by decide +kernel
theorem dX5_best_84 : decode cX5_best 84 = .ok (.invokevirtual 148, 3) := by decide +kernel
theorem dX5_best_87 : decode cX5_best 87 = .ok (.istore 9, 2) := by decide +kernel
theorem dX5_best_89 : decode cX5_best 89 = .ok (.iload 9, 2) := by decide +kernel
theorem dX5_best_91 : decode cX5_best 91 = .ok (.iconst (-1), 1) := by decide +kernel
theorem dX5_best_92 : decode cX5_best 92 = .ok (.if_icmp .eq 20, 3) := by decide +kernel
theorem dX5_best_95 : decode cX5_best 95 = .ok (.iload 9, 2) := by decide +kernel
theorem dX5_best_97 : decode cX5_best 97 = .ok (.istore_n 3, 1) := by decide +kernel
theorem dX5_best_98 : decode cX5_best 98 = .ok (.iload 7, 2) := by decide +kernel
theorem dX5_best_100 : decode cX5_best 100 = .ok (.istore 4, 2) := by decide +kernel
theorem dX5_best_102 : decode cX5_best 102 = .ok (.iload 8, 2) := by decide +kernel
theorem dX5_best_104 : decode cX5_best 104 = .ok (.istore 5, 2) := by decide +kernel
theorem dX5_best_106 : decode cX5_best 106 = .ok (.iload 9, 2) := by decide +kernel
theorem dX5_best_108 : decode cX5_best 108 = .ok (.iconst 1, 1) := by decide +kernel
theorem dX5_best_109 : decode cX5_best 109 = .ok (.isub, 1) := by decide +kernel
theorem dX5_best_110 : decode cX5_best 110 = .ok (.istore 6, 2) := by decide +kernel
theorem dX5_best_112 : decode cX5_best 112 = .ok (.iinc 8 1, 3) := by decide +kernel
theorem dX5_best_115 : decode cX5_best 115 = .ok (.goto (-59), 3) := by decide +kernel
theorem dX5_best_118 : decode cX5_best 118 = .ok (.iinc 7 1, 3) := by decide +kernel
theorem dX5_best_121 : decode cX5_best 121 = .ok (.goto (-80), 3) := by decide +kernel
theorem dX5_best_124 : decode cX5_best 124 = .ok (.iload_n 2, 1) := by decide +kernel
theorem dX5_best_125 : decode cX5_best 125 = .ok (.ifCond .ne 7, 3) := by decide +kernel
theorem dX5_best_128 : decode cX5_best 128 = .ok (.iload_n 3, 1) := by decide +kernel
theorem dX5_best_129 : decode cX5_best 129 = .ok (.goto 15, 3) := by decide +kernel
theorem dX5_best_132 : decode cX5_best 132 = .ok (.iload_n 2, 1) := by decide +kernel
theorem dX5_best_133 : decode cX5_best 133 = .ok (.iconst 1, 1) := by decide +kernel
theorem dX5_best_134 : decode cX5_best 134 = .ok (.if_icmp .ne 8, 3) := by decide +kernel
theorem dX5_best_137 : decode cX5_best 137 = .ok (.iload 4, 2) := by decide +kernel
theorem dX5_best_139 : decode cX5_best 139 = .ok (.goto 5, 3) := by decide +kernel
theorem dX5_best_142 : decode cX5_best 142 = .ok (.iload 5, 2) := by decide +kernel
theorem dX5_best_144 : decode cX5_best 144 = .ok (.ireturn, 1) := by decide +kernel
theorem dX5_widest_0 : decode cX5_widest 0 = .ok (.aload_n 0, 1) := by decide +kernel
theorem dX5_widest_1 : decode cX5_widest 1 = .ok (.getfield 10, 3) := by decide +kernel
theorem dX5_widest_4 : decode cX5_widest 4 = .ok (.iload_n 1, 1) := by decide +kernel
theorem dX5_widest_5 : decode cX5_widest 5 = .ok (.invokevirtual 87, 3) := by decide +kernel
theorem dX5_widest_8 : decode cX5_widest 8 = .ok (.ifCond .eq 14, 3) := by decide +kernel
theorem dX5_widest_11 : decode cX5_widest 11 = .ok (.aload_n 0, 1) := by decide +kernel
theorem dX5_widest_12 : decode cX5_widest 12 = .ok (.getfield 28, 3) := by decide +kernel
theorem dX5_widest_15 : decode cX5_widest 15 = .ok (.iload_n 1, 1) := by decide +kernel
theorem dX5_widest_16 : decode cX5_widest 16 = .ok (.invokevirtual 155, 3) := by decide +kernel
theorem dX5_widest_19 : decode cX5_widest 19 = .ok (.goto 5, 3) := by decide +kernel
theorem dX5_widest_22 : decode cX5_widest 22 = .ok (.bipush (-2), 2) := by decide +kernel
theorem dX5_widest_24 : decode cX5_widest 24 = .ok (.ireturn, 1) := by decide +kernel
theorem dX5_further_0 : decode cX5_further 0 = .ok (.iload_n 1, 1) := by decide +kernel
theorem dX5_further_1 : decode cX5_further 1 = .ok (.ifCond .lt 8, 3) := by decide +kernel
theorem dX5_further_4 : decode cX5_further 4 = .ok (.iload_n 1, 1) := by decide +kernel
theorem dX5_further_5 : decode cX5_further 5 = .ok (.iconst 1, 1) := by decide +kernel
theorem dX5_further_6 : decode cX5_further 6 = .ok (.if_icmp .le 6, 3) := by decide +kernel
theorem dX5_further_9 : decode cX5_further 9 = .ok (.bipush (-3), 2) := by decide +kernel
theorem dX5_further_11 : decode cX5_further 11 = .ok (.ireturn, 1) := by decide +kernel
theorem dX5_further_12 : decode cX5_further 12 = .ok (.iconst 0, 1) := by decide +kernel
theorem dX5_further_13 : decode cX5_further 13 = .ok (.istore_n 2, 1) := by decide +kernel
theorem dX5_further_14 : decode cX5_further 14 = .ok (.iconst (-1), 1) := by decide +kernel
theorem dX5_further_15 : decode cX5_further 15 = .ok (.istore_n 3, 1) := by decide +kernel
theorem dX5_further_16 : decode cX5_further 16 = .ok (.iconst 0, 1) := by decide +kernel
theorem dX5_further_17 : decode cX5_further 17 = .ok (.istore 4, 2) := by decide +kernel
theorem dX5_further_19 : decode cX5_further 19 = .ok (.iload 4, 2) := by decide +kernel
theorem dX5_further_21 : decode cX5_further 21 = .ok (.aload_n 0, 1) := by decide +kernel
theorem dX5_further_22 : decode cX5_further 22 = .ok (.getfield 10, 3) := by decide +kernel
theorem dX5_further_25 : decode cX5_further 25 = .ok (.getfield 152, 3) := by decide +kernel
theorem dX5_further_28 : decode cX5_further 28 = .ok (.if_icmp .ge 34, 3) := by decide +kernel
theorem dX5_further_31 : decode cX5_further 31 = .ok (.aload_n 0, 1) := by decide +kernel
theorem dX5_further_32 : decode cX5_further 32 = .ok (.getfield 28, 3) := by decide +kernel
theorem dX5_further_35 : decode cX5_further 35 = .ok (.iload 4, 2) := by decide +kernel
theorem dX5_further_37 : decode cX5_further 37 = .ok (.invokevirtual 101, 3) := by decide +kernel
theorem dX5_further_40 : decode cX5_further 40 = .ok (.iconst 2, 1) := by decide +kernel
theorem dX5_further_41 : decode cX5_further 41 = .ok (.idiv, 1) := by decide +kernel
theorem dX5_further_42 : decode cX5_further 42 = .ok (.istore 5, 2) := by decide +kernel
theorem dX5_further_44 : decode cX5_further 44 = .ok (.iload 5, 2) := by decide +kernel
theorem dX5_further_46 : decode cX5_further 46 = .ok (.iload_n 3, 1) := by decide +kernel
theorem dX5_further_47 : decode cX5_further 47 = .ok (.if_icmp .le 9, 3) := by decide +kernel
theorem dX5_further_50 : decode cX5_further 50 = .ok (.iload 4, 2) := by decide +kernel
theorem dX5_further_52 : decode cX5_further 52 = .ok (.istore_n 2, 1) := by decide +kernel
theorem dX5_further_53 : decode cX5_further 53 = .ok (.iload 5, 2) := by decide +kernel
theorem dX5_further_55 : decode cX5_further 55 = .ok (.istore_n 3, 1) := by decide +kernel
theorem dX5_further_56 : decode cX5_further 56 = .ok (.iinc 4 1, 3) := by decide +kernel
theorem dX5_further_59 : decode cX5_further 59 = .ok (.goto (-40), 3) := by decide +kernel
theorem dX5_further_62 : decode cX5_further 62 = .ok (.iload_n 1, 1) := by decide +kernel
theorem dX5_further_63 : decode cX5_further 63 = .ok (.ifCond .ne 7, 3) := by decide +kernel
theorem dX5_further_66 : decode cX5_further 66 = .ok (.iload_n 2, 1) := by decide +kernel
theorem dX5_further_67 : decode cX5_further 67 = .ok (.goto 4, 3) := by decide +kernel
theorem dX5_further_70 : decode cX5_further 70 = .ok (.iload_n 3, 1) := by decide +kernel
theorem dX5_further_71 : decode cX5_further 71 = .ok (.ireturn, 1) := by decide +kernel
theorem dX5_share_0 : decode cX5_share 0 = .ok (.aload_n 0, 1) := by decide +kernel
theorem dX5_share_1 : decode cX5_share 1 = .ok (.getfield 10, 3) := by decide +kernel
theorem dX5_share_4 : decode cX5_share 4 = .ok (.iload_n 1, 1) := by decide +kernel
theorem dX5_share_5 : decode cX5_share 5 = .ok (.invokevirtual 87, 3) := by decide +kernel
theorem dX5_share_8 : decode cX5_share 8 = .ok (.ifCond .ne 6, 3) := by decide +kernel
theorem dX5_share_11 : decode cX5_share 11 = .ok (.bipush (-2), 2) := by decide +kernel
theorem dX5_share_13 : decode cX5_share 13 = .ok (.ireturn, 1) := by decide +kernel
theorem dX5_share_14 : decode cX5_share 14 = .ok (.iload_n 2, 1) := by decide +kernel
theorem dX5_share_15 : decode cX5_share 15 = .ok (.ifCond .lt 8, 3) := by decide +kernel
theorem dX5_share_18 : decode cX5_share 18 = .ok (.iload_n 2, 1) := by decide +kernel
theorem dX5_share_19 : decode cX5_share 19 = .ok (.iconst 1, 1) := by decide +kernel
theorem dX5_share_20 : decode cX5_share 20 = .ok (.if_icmp .le 6, 3) := by decide +kernel
theorem dX5_share_23 : decode cX5_share 23 = .ok (.bipush (-3), 2) := by decide +kernel
theorem dX5_share_25 : decode cX5_share 25 = .ok (.ireturn, 1) := by decide +kernel
theorem dX5_share_26 : decode cX5_share 26 = .ok (.aload_n 0, 1) := by decide +kernel
theorem dX5_share_27 : decode cX5_share 27 = .ok (.getfield 28, 3) := by decide +kernel
theorem dX5_share_30 : decode cX5_share 30 = .ok (.iload_n 1, 1) := by decide +kernel
theorem dX5_share_31 : decode cX5_share 31 = .ok (.invokevirtual 101, 3) := by decide +kernel
theorem dX5_share_34 : decode cX5_share 34 = .ok (.istore_n 3, 1) := by decide +kernel
theorem dX5_share_35 : decode cX5_share 35 = .ok (.iload_n 2, 1) := by decide +kernel
theorem dX5_share_36 : decode cX5_share 36 = .ok (.ifCond .ne 7, 3) := by decide +kernel
theorem dX5_share_39 : decode cX5_share 39 = .ok (.iload_n 3, 1) := by decide +kernel
theorem dX5_share_40 : decode cX5_share 40 = .ok (.goto 5, 3) := by decide +kernel
theorem dX5_share_43 : decode cX5_share 43 = .ok (.bipush 72, 2) := by decide +kernel
theorem dX5_share_45 : decode cX5_share 45 = .ok (.istore 4, 2) := by decide +kernel
theorem dX5_share_47 : decode cX5_share 47 = .ok (.iload_n 3, 1) := by decide +kernel
theorem dX5_share_48 : decode cX5_share 48 = .ok (.istore 5, 2) := by decide +kernel
theorem dX5_share_50 : decode cX5_share 50 = .ok (.iload 5, 2) := by decide +kernel
theorem dX5_share_52 : decode cX5_share 52 = .ok (.iconst 1, 1) := by decide +kernel
theorem dX5_share_53 : decode cX5_share 53 = .ok (.if_icmp .le 30, 3) := by decide +kernel
theorem dX5_share_56 : decode cX5_share 56 = .ok (.iload_n 3, 1) := by decide +kernel
theorem dX5_share_57 : decode cX5_share 57 = .ok (.iload 5, 2) := by decide +kernel
theorem dX5_share_59 : decode cX5_share 59 = .ok (.irem, 1) := by decide +kernel
theorem dX5_share_60 : decode cX5_share 60 = .ok (.ifCond .ne 17, 3) := by decide +kernel
theorem dX5_share_63 : decode cX5_share 63 = .ok (.bipush 72, 2) := by decide +kernel
theorem dX5_share_65 : decode cX5_share 65 = .ok (.iload 5, 2) := by decide +kernel
theorem dX5_share_67 : decode cX5_share 67 = .ok (.irem, 1) := by decide +kernel
theorem dX5_share_68 : decode cX5_share 68 = .ok (.ifCond .ne 9, 3) := by decide +kernel
theorem dX5_share_71 : decode cX5_share 71 = .ok (.iload 4, 2) := by decide +kernel
theorem dX5_share_73 : decode cX5_share 73 = .ok (.iload 5, 2) := by decide +kernel
theorem dX5_share_75 : decode cX5_share 75 = .ok (.idiv, 1) := by decide +kernel
theorem dX5_share_76 : decode cX5_share 76 = .ok (.ireturn, 1) := by decide +kernel
theorem dX5_share_77 : decode cX5_share 77 = .ok (.iinc 5 (-1), 3) := by decide +kernel
theorem dX5_share_80 : decode cX5_share 80 = .ok (.goto (-30), 3) := by decide +kernel
theorem dX5_share_83 : decode cX5_share 83 = .ok (.iload 4, 2) := by decide +kernel
theorem dX5_share_85 : decode cX5_share 85 = .ok (.ireturn, 1) := by decide +kernel
theorem dX5_errands_0 : decode cX5_errands 0 = .ok (.aload_n 0, 1) := by decide +kernel
theorem dX5_errands_1 : decode cX5_errands 1 = .ok (.getfield 10, 3) := by decide +kernel
theorem dX5_errands_4 : decode cX5_errands 4 = .ok (.iload_n 2, 1) := by decide +kernel
theorem dX5_errands_5 : decode cX5_errands 5 = .ok (.invokevirtual 87, 3) := by decide +kernel
theorem dX5_errands_8 : decode cX5_errands 8 = .ok (.ifCond .eq 15, 3) := by decide +kernel
theorem dX5_errands_11 : decode cX5_errands 11 = .ok (.iload_n 1, 1) := by decide +kernel
theorem dX5_errands_12 : decode cX5_errands 12 = .ok (.aload_n 0, 1) := by decide +kernel
theorem dX5_errands_13 : decode cX5_errands 13 = .ok (.getfield 10, 3) := by decide +kernel
theorem dX5_errands_16 : decode cX5_errands 16 = .ok (.getfield 152, 3) := by decide +kernel
theorem dX5_errands_19 : decode cX5_errands 19 = .ok (.iushr, 1) := by decide +kernel
theorem dX5_errands_20 : decode cX5_errands 20 = .ok (.ifCond .eq 6, 3) := by decide +kernel
theorem dX5_errands_23 : decode cX5_errands 23 = .ok (.bipush (-2), 2) := by decide +kernel
theorem dX5_errands_25 : decode cX5_errands 25 = .ok (.ireturn, 1) := by decide +kernel
theorem dX5_errands_26 : decode cX5_errands 26 = .ok (.iload_n 3, 1) := by decide +kernel
theorem dX5_errands_27 : decode cX5_errands 27 = .ok (.iconst (-1), 1) := by decide +kernel
theorem dX5_errands_28 : decode cX5_errands 28 = .ok (.if_icmp .ge 6, 3) := by decide +kernel
theorem dX5_errands_31 : decode cX5_errands 31 = .ok (.bipush (-3), 2) := by decide +kernel
theorem dX5_errands_33 : decode cX5_errands 33 = .ok (.ireturn, 1) := by decide +kernel
theorem dX5_errands_34 : decode cX5_errands 34 = .ok (.iload_n 1, 1) := by decide +kernel
theorem dX5_errands_35 : decode cX5_errands 35 = .ok (.invokestatic 140, 3) := by decide +kernel
theorem dX5_errands_38 : decode cX5_errands 38 = .ok (.istore 4, 2) := by decide +kernel
theorem dX5_errands_40 : decode cX5_errands 40 = .ok (.iload 4, 2) := by decide +kernel
theorem dX5_errands_42 : decode cX5_errands 42 = .ok (.iconst 5, 1) := by decide +kernel
theorem dX5_errands_43 : decode cX5_errands 43 = .ok (.if_icmp .le 6, 3) := by decide +kernel
theorem dX5_errands_46 : decode cX5_errands 46 = .ok (.bipush (-4), 2) := by decide +kernel
theorem dX5_errands_48 : decode cX5_errands 48 = .ok (.ireturn, 1) := by decide +kernel
theorem dX5_errands_49 : decode cX5_errands 49 = .ok (.aload_n 0, 1) := by decide +kernel
theorem dX5_errands_50 : decode cX5_errands 50 = .ok (.getfield 46, 3) := by decide +kernel
theorem dX5_errands_53 : decode cX5_errands 53 = .ok (.aload_n 0, 1) := by decide +kernel
theorem dX5_errands_54 : decode cX5_errands 54 = .ok (.getfield 28, 3) := by decide +kernel
theorem dX5_errands_57 : decode cX5_errands 57 = .ok (.iload_n 2, 1) := by decide +kernel
theorem dX5_errands_58 : decode cX5_errands 58 = .ok (.invokevirtual 158, 3) := by decide +kernel
theorem dX5_errands_61 : decode cX5_errands 61 = .ok (.aload_n 0, 1) := by decide +kernel
theorem dX5_errands_62 : decode cX5_errands 62 = .ok (.getfield 46, 3) := by decide +kernel
theorem dX5_errands_65 : decode cX5_errands 65 = .ok (.iconst 0, 1) := by decide +kernel
theorem dX5_errands_66 : decode cX5_errands 66 = .ok (.iload_n 1, 1) := by decide +kernel
theorem dX5_errands_67 : decode cX5_errands 67 = .ok (.iconst 0, 1) := by decide +kernel
theorem dX5_errands_68 : decode cX5_errands 68 = .ok (.invokevirtual 161, 3) := by decide +kernel
theorem dX5_errands_71 : decode cX5_errands 71 = .ok (.aload_n 0, 1) := by decide +kernel
theorem dX5_errands_72 : decode cX5_errands 72 = .ok (.getfield 46, 3) := by decide +kernel
theorem dX5_errands_75 : decode cX5_errands 75 = .ok (.getfield 165, 3) := by decide +kernel
theorem dX5_errands_78 : decode cX5_errands 78 = .ok (.sipush 360, 3) := by decide +kernel
theorem dX5_errands_81 : decode cX5_errands 81 = .ok (.if_icmp .le 5, 3) := by decide +kernel
theorem dX5_errands_84 : decode cX5_errands 84 = .ok (.iconst (-1), 1) := by decide +kernel
theorem dX5_errands_85 : decode cX5_errands 85 = .ok (.ireturn, 1) := by decide +kernel
theorem dX5_errands_86 : decode cX5_errands 86 = .ok (.iload_n 3, 1) := by decide +kernel
theorem dX5_errands_87 : decode cX5_errands 87 = .ok (.iconst (-1), 1) := by decide +kernel
theorem dX5_errands_88 : decode cX5_errands 88 = .ok (.if_icmp .ne 11, 3) := by decide +kernel
theorem dX5_errands_91 : decode cX5_errands 91 = .ok (.aload_n 0, 1) := by decide +kernel
theorem dX5_errands_92 : decode cX5_errands 92 = .ok (.getfield 46, 3) := by decide +kernel
theorem dX5_errands_95 : decode cX5_errands 95 = .ok (.getfield 165, 3) := by decide +kernel
theorem dX5_errands_98 : decode cX5_errands 98 = .ok (.ireturn, 1) := by decide +kernel
theorem dX5_errands_99 : decode cX5_errands 99 = .ok (.iload_n 3, 1) := by decide +kernel
theorem dX5_errands_100 : decode cX5_errands 100 = .ok (.iload 4, 2) := by decide +kernel
theorem dX5_errands_102 : decode cX5_errands 102 = .ok (.if_icmp .ge 15, 3) := by decide +kernel
theorem dX5_errands_105 : decode cX5_errands 105 = .ok (.aload_n 0, 1) := by decide +kernel
theorem dX5_errands_106 : decode cX5_errands 106 = .ok (.getfield 46, 3) := by decide +kernel
theorem dX5_errands_109 : decode cX5_errands 109 = .ok (.getfield 168, 3) := by decide +kernel
theorem dX5_errands_112 : decode cX5_errands 112 = .ok (.iload_n 3, 1) := by decide +kernel
theorem dX5_errands_113 : decode cX5_errands 113 = .ok (.iaload, 1) := by decide +kernel
theorem dX5_errands_114 : decode cX5_errands 114 = .ok (.goto 4, 3) := by decide +kernel
theorem dX5_errands_117 : decode cX5_errands 117 = .ok (.iconst (-1), 1) := by decide +kernel
theorem dX5_errands_118 : decode cX5_errands 118 = .ok (.ireturn, 1) := by decide +kernel
theorem dX5_slam_0 : decode cX5_slam 0 = .ok (.aload_n 0, 1) := by decide +kernel
theorem dX5_slam_1 : decode cX5_slam 1 = .ok (.getfield 10, 3) := by decide +kernel
theorem dX5_slam_4 : decode cX5_slam 4 = .ok (.iload_n 1, 1) := by decide +kernel
theorem dX5_slam_5 : decode cX5_slam 5 = .ok (.invokevirtual 87, 3) := by decide +kernel
theorem dX5_slam_8 : decode cX5_slam 8 = .ok (.ifCond .ne 6, 3) := by decide +kernel
theorem dX5_slam_11 : decode cX5_slam 11 = .ok (.bipush (-2), 2) := by decide +kernel
theorem dX5_slam_13 : decode cX5_slam 13 = .ok (.ireturn, 1) := by decide +kernel
theorem dX5_slam_14 : decode cX5_slam 14 = .ok (.iload_n 2, 1) := by decide +kernel
theorem dX5_slam_15 : decode cX5_slam 15 = .ok (.invokestatic 128, 3) := by decide +kernel
theorem dX5_slam_18 : decode cX5_slam 18 = .ok (.ifCond .eq 12, 3) := by decide +kernel
theorem dX5_slam_21 : decode cX5_slam 21 = .ok (.iload_n 3, 1) := by decide +kernel
theorem dX5_slam_22 : decode cX5_slam 22 = .ok (.ifCond .lt 8, 3) := by decide +kernel
theorem dX5_slam_25 : decode cX5_slam 25 = .ok (.iload_n 3, 1) := by decide +kernel
theorem dX5_slam_26 : decode cX5_slam 26 = .ok (.iconst 1, 1) := by decide +kernel
theorem dX5_slam_27 : decode cX5_slam 27 = .ok (.if_icmp .le 6, 3) := by decide +kernel
theorem dX5_slam_30 : decode cX5_slam 30 = .ok (.bipush (-3), 2) := by decide +kernel
theorem dX5_slam_32 : decode cX5_slam 32 = .ok (.ireturn, 1) := by decide +kernel
theorem dX5_slam_33 : decode cX5_slam 33 = .ok (.aload_n 0, 1) := by decide +kernel
theorem dX5_slam_34 : decode cX5_slam 34 = .ok (.getfield 10, 3) := by decide +kernel
theorem dX5_slam_37 : decode cX5_slam 37 = .ok (.getfield 91, 3) := by decide +kernel
theorem dX5_slam_40 : decode cX5_slam 40 = .ok (.iload_n 1, 1) := by decide +kernel
theorem dX5_slam_41 : decode cX5_slam 41 = .ok (.iaload, 1) := by decide +kernel
theorem dX5_slam_42 : decode cX5_slam 42 = .ok (.iconst 3, 1) := by decide +kernel
theorem dX5_slam_43 : decode cX5_slam 43 = .ok (.if_icmp .ne 6, 3) := by decide +kernel
theorem dX5_slam_46 : decode cX5_slam 46 = .ok (.bipush (-4), 2) := by decide +kernel
theorem dX5_slam_48 : decode cX5_slam 48 = .ok (.ireturn, 1) := by decide +kernel
theorem dX5_slam_49 : decode cX5_slam 49 = .ok (.iload_n 3, 1) := by decide +kernel
theorem dX5_slam_50 : decode cX5_slam 50 = .ok (.ifCond .ne 22, 3) := by decide +kernel
theorem dX5_slam_53 : decode cX5_slam 53 = .ok (.aload_n 0, 1) := by decide +kernel
theorem dX5_slam_54 : decode cX5_slam 54 = .ok (.getfield 28, 3) := by decide +kernel
theorem dX5_slam_57 : decode cX5_slam 57 = .ok (.aload_n 0, 1) := by decide +kernel
theorem dX5_slam_58 : decode cX5_slam 58 = .ok (.getfield 10, 3) := by decide +kernel
theorem dX5_slam_61 : decode cX5_slam 61 = .ok (.iload_n 1, 1) := by decide +kernel
theorem dX5_slam_62 : decode cX5_slam 62 = .ok (.iload_n 2, 1) := by decide +kernel
theorem dX5_slam_63 : decode cX5_slam 63 = .ok (.invokevirtual 171, 3) := by decide +kernel
theorem dX5_slam_66 : decode cX5_slam 66 = .ok (.invokevirtual 174, 3) := by decide +kernel
theorem dX5_slam_69 : decode cX5_slam 69 = .ok (.goto 12, 3) := by decide +kernel
theorem dX5_slam_72 : decode cX5_slam 72 = .ok (.aload_n 0, 1) := by decide +kernel
theorem dX5_slam_73 : decode cX5_slam 73 = .ok (.getfield 10, 3) := by decide +kernel
theorem dX5_slam_76 : decode cX5_slam 76 = .ok (.iload_n 1, 1) := by decide +kernel
theorem dX5_slam_77 : decode cX5_slam 77 = .ok (.iload_n 2, 1) := by decide +kernel
theorem dX5_slam_78 : decode cX5_slam 78 = .ok (.invokevirtual 177, 3) := by decide +kernel
theorem dX5_slam_81 : decode cX5_slam 81 = .ok (.ireturn, 1) := by decide +kernel
theorem dX5_fire_0 : decode cX5_fire 0 = .ok (.aload_n 0, 1) := by decide +kernel
theorem dX5_fire_1 : decode cX5_fire 1 = .ok (.getfield 10, 3) := by decide +kernel
theorem dX5_fire_4 : decode cX5_fire 4 = .ok (.iload_n 1, 1) := by decide +kernel
theorem dX5_fire_5 : decode cX5_fire 5 = .ok (.invokevirtual 87, 3) := by decide +kernel
theorem dX5_fire_8 : decode cX5_fire 8 = .ok (.ifCond .ne 6, 3) := by decide +kernel
theorem dX5_fire_11 : decode cX5_fire 11 = .ok (.bipush (-2), 2) := by decide +kernel
theorem dX5_fire_13 : decode cX5_fire 13 = .ok (.ireturn, 1) := by decide +kernel
theorem dX5_fire_14 : decode cX5_fire 14 = .ok (.iload_n 2, 1) := by decide +kernel
theorem dX5_fire_15 : decode cX5_fire 15 = .ok (.invokestatic 128, 3) := by decide +kernel
theorem dX5_fire_18 : decode cX5_fire 18 = .ok (.ifCond .ne 6, 3) := by decide +kernel
theorem dX5_fire_21 : decode cX5_fire 21 = .ok (.bipush (-3), 2) := by decide +kernel
theorem dX5_fire_23 : decode cX5_fire 23 = .ok (.ireturn, 1) := by decide +kernel
theorem dX5_fire_24 : decode cX5_fire 24 = .ok (.aload_n 0, 1) := by decide +kernel
theorem dX5_fire_25 : decode cX5_fire 25 = .ok (.getfield 32, 3) := by decide +kernel
theorem dX5_fire_28 : decode cX5_fire 28 = .ok (.aload_n 0, 1) := by decide +kernel
theorem dX5_fire_29 : decode cX5_fire 29 = .ok (.getfield 28, 3) := by decide +kernel
theorem dX5_fire_32 : decode cX5_fire 32 = .ok (.invokevirtual 145, 3) := by decide +kernel
theorem dX5_fire_35 : decode cX5_fire 35 = .ok (.iconst 0, 1) := by decide +kernel
theorem dX5_fire_36 : decode cX5_fire 36 = .ok (.istore_n 3, 1) := by decide +kernel
theorem dX5_fire_37 : decode cX5_fire 37 = .ok (.iload_n 3, 1) := by decide +kernel
theorem dX5_fire_38 : decode cX5_fire 38 = .ok (.sipush 200, 3) := by decide +kernel
theorem dX5_fire_41 : decode cX5_fire 41 = .ok (.if_icmp .gt 38, 3) := by decide +kernel
theorem dX5_fire_44 : decode cX5_fire 44 = .ok (.aload_n 0, 1) := by decide +kernel
theorem dX5_fire_45 : decode cX5_fire 45 = .ok (.getfield 32, 3) := by decide +kernel
theorem dX5_fire_48 : decode cX5_fire 48 = .ok (.invokevirtual 180, 3) := by decide +kernel
theorem dX5_fire_51 : decode cX5_fire 51 = .ok (.ifCond .eq 5, 3) := by decide +kernel
theorem dX5_fire_54 : decode cX5_fire 54 = .ok (.iload_n 3, 1) := by decide +kernel
theorem dX5_fire_55 : decode cX5_fire 55 = .ok (.ireturn, 1) := by decide +kernel
theorem dX5_fire_56 : decode cX5_fire 56 = .ok (.aload_n 0, 1) := by decide +kernel
theorem dX5_fire_57 : decode cX5_fire 57 = .ok (.getfield 32, 3) := by decide +kernel
theorem dX5_fire_60 : decode cX5_fire 60 = .ok (.invokevirtual 184, 3) := by decide +kernel
theorem dX5_fire_63 : decode cX5_fire 63 = .ok (.aload_n 0, 1) := by decide +kernel
theorem dX5_fire_64 : decode cX5_fire 64 = .ok (.getfield 32, 3) := by decide +kernel
theorem dX5_fire_67 : decode cX5_fire 67 = .ok (.iload_n 1, 1) := by decide +kernel
theorem dX5_fire_68 : decode cX5_fire 68 = .ok (.iload_n 2, 1) := by decide +kernel
theorem dX5_fire_69 : decode cX5_fire 69 = .ok (.invokevirtual 131, 3) := by decide +kernel
theorem dX5_fire_72 : decode cX5_fire 72 = .ok (.pop, 1) := by decide +kernel
theorem dX5_fire_73 : decode cX5_fire 73 = .ok (.iinc 3 1, 3) := by decide +kernel
theorem dX5_fire_76 : decode cX5_fire 76 = .ok (.goto (-39), 3) := by decide +kernel
theorem dX5_fire_79 : decode cX5_fire 79 = .ok (.iconst (-1), 1) := by decide +kernel
theorem dX5_fire_80 : decode cX5_fire 80 = .ok (.ireturn, 1) := by decide +kernel
theorem dX5_seen_0 : decode cX5_seen 0 = .ok (.aload_n 0, 1) := by decide +kernel
theorem dX5_seen_1 : decode cX5_seen 1 = .ok (.getfield 10, 3) := by decide +kernel
theorem dX5_seen_4 : decode cX5_seen 4 = .ok (.iload_n 1, 1) := by decide +kernel
theorem dX5_seen_5 : decode cX5_seen 5 = .ok (.invokevirtual 87, 3) := by decide +kernel
theorem dX5_seen_8 : decode cX5_seen 8 = .ok (.ifCond .ne 6, 3) := by decide +kernel
theorem dX5_seen_11 : decode cX5_seen 11 = .ok (.bipush (-2), 2) := by decide +kernel
theorem dX5_seen_13 : decode cX5_seen 13 = .ok (.ireturn, 1) := by decide +kernel
theorem dX5_seen_14 : decode cX5_seen 14 = .ok (.iload_n 2, 1) := by decide +kernel
theorem dX5_seen_15 : decode cX5_seen 15 = .ok (.ifCond .lt 9, 3) := by decide +kernel
theorem dX5_seen_18 : decode cX5_seen 18 = .ok (.iload_n 2, 1) := by decide +kernel
theorem dX5_seen_19 : decode cX5_seen 19 = .ok (.bipush 72, 2) := by decide +kernel
theorem dX5_seen_21 : decode cX5_seen 21 = .ok (.if_icmp .lt 6, 3) := by decide +kernel
theorem dX5_seen_24 : decode cX5_seen 24 = .ok (.bipush (-3), 2) := by decide +kernel
theorem dX5_seen_26 : decode cX5_seen 26 = .ok (.ireturn, 1) := by decide +kernel
theorem dX5_seen_27 : decode cX5_seen 27 = .ok (.aload_n 0, 1) := by decide +kernel
theorem dX5_seen_28 : decode cX5_seen 28 = .ok (.getfield 53, 3) := by decide +kernel
theorem dX5_seen_31 : decode cX5_seen 31 = .ok (.getfield 81, 3) := by decide +kernel
theorem dX5_seen_34 : decode cX5_seen 34 = .ok (.bipush 8, 2) := by decide +kernel
theorem dX5_seen_36 : decode cX5_seen 36 = .ok (.if_icmp .lt 6, 3) := by decide +kernel
theorem dX5_seen_39 : decode cX5_seen 39 = .ok (.bipush (-5), 2) := by decide +kernel
theorem dX5_seen_41 : decode cX5_seen 41 = .ok (.ireturn, 1) := by decide +kernel
theorem dX5_seen_42 : decode cX5_seen 42 = .ok (.aload_n 0, 1) := by decide +kernel
theorem dX5_seen_43 : decode cX5_seen 43 = .ok (.getfield 53, 3) := by decide +kernel
theorem dX5_seen_46 : decode cX5_seen 46 = .ok (.getfield 187, 3) := by decide +kernel
theorem dX5_seen_49 : decode cX5_seen 49 = .ok (.aload_n 0, 1) := by decide +kernel
theorem dX5_seen_50 : decode cX5_seen 50 = .ok (.getfield 53, 3) := by decide +kernel
theorem dX5_seen_53 : decode cX5_seen 53 = .ok (.getfield 81, 3) := by decide +kernel
theorem dX5_seen_56 : decode cX5_seen 56 = .ok (.iload_n 1, 1) := by decide +kernel
theorem dX5_seen_57 : decode cX5_seen 57 = .ok (.iastore, 1) := by decide +kernel
theorem dX5_seen_58 : decode cX5_seen 58 = .ok (.aload_n 0, 1) := by decide +kernel
theorem dX5_seen_59 : decode cX5_seen 59 = .ok (.getfield 53, 3) := by decide +kernel
theorem dX5_seen_62 : decode cX5_seen 62 = .ok (.getfield 190, 3) := by decide +kernel
theorem dX5_seen_65 : decode cX5_seen 65 = .ok (.aload_n 0, 1) := by decide +kernel
theorem dX5_seen_66 : decode cX5_seen 66 = .ok (.getfield 53, 3) := by decide +kernel
theorem dX5_seen_69 : decode cX5_seen 69 = .ok (.getfield 81, 3) := by decide +kernel
theorem dX5_seen_72 : decode cX5_seen 72 = .ok (.iload_n 2, 1) := by decide +kernel
theorem dX5_seen_73 : decode cX5_seen 73 = .ok (.iastore, 1) := by decide +kernel
theorem dX5_seen_74 : decode cX5_seen 74 = .ok (.aload_n 0, 1) := by decide +kernel
theorem dX5_seen_75 : decode cX5_seen 75 = .ok (.getfield 53, 3) := by decide +kernel
theorem dX5_seen_78 : decode cX5_seen 78 = .ok (.dup, 1) := by decide +kernel
theorem dX5_seen_79 : decode cX5_seen 79 = .ok (.getfield 81, 3) := by decide +kernel
theorem dX5_seen_82 : decode cX5_seen 82 = .ok (.iconst 1, 1) := by decide +kernel
theorem dX5_seen_83 : decode cX5_seen 83 = .ok (.iadd, 1) := by decide +kernel
theorem dX5_seen_84 : decode cX5_seen 84 = .ok (.putfield 81, 3) := by decide +kernel
theorem dX5_seen_87 : decode cX5_seen 87 = .ok (.aload_n 0, 1) := by decide +kernel
theorem dX5_seen_88 : decode cX5_seen 88 = .ok (.getfield 53, 3) := by decide +kernel
theorem dX5_seen_91 : decode cX5_seen 91 = .ok (.getfield 81, 3) := by decide +kernel
theorem dX5_seen_94 : decode cX5_seen 94 = .ok (.ireturn, 1) := by decide +kernel
theorem dX5_forget_0 : decode cX5_forget 0 = .ok (.aload_n 0, 1) := by decide +kernel
theorem dX5_forget_1 : decode cX5_forget 1 = .ok (.getfield 53, 3) := by decide +kernel
theorem dX5_forget_4 : decode cX5_forget 4 = .ok (.getfield 81, 3) := by decide +kernel
theorem dX5_forget_7 : decode cX5_forget 7 = .ok (.istore_n 1, 1) := by decide +kernel
theorem dX5_forget_8 : decode cX5_forget 8 = .ok (.aload_n 0, 1) := by decide +kernel
theorem dX5_forget_9 : decode cX5_forget 9 = .ok (.getfield 53, 3) := by decide +kernel
theorem dX5_forget_12 : decode cX5_forget 12 = .ok (.iconst 0, 1) := by decide +kernel
theorem dX5_forget_13 : decode cX5_forget 13 = .ok (.putfield 81, 3) := by decide +kernel
theorem dX5_forget_16 : decode cX5_forget 16 = .ok (.iload_n 1, 1) := by decide +kernel
theorem dX5_forget_17 : decode cX5_forget 17 = .ok (.ireturn, 1) := by decide +kernel
theorem dX5_least_0 : decode cX5_least 0 = .ok (.aload_n 0, 1) := by decide +kernel
theorem dX5_least_1 : decode cX5_least 1 = .ok (.getfield 10, 3) := by decide +kernel
theorem dX5_least_4 : decode cX5_least 4 = .ok (.iload_n 1, 1) := by decide +kernel
theorem dX5_least_5 : decode cX5_least 5 = .ok (.invokevirtual 87, 3) := by decide +kernel
theorem dX5_least_8 : decode cX5_least 8 = .ok (.ifCond .eq 32, 3) := by decide +kernel
theorem dX5_least_11 : decode cX5_least 11 = .ok (.aload_n 0, 1) := by decide +kernel
theorem dX5_least_12 : decode cX5_least 12 = .ok (.getfield 53, 3) := by decide +kernel
theorem dX5_least_15 : decode cX5_least 15 = .ok (.iload_n 1, 1) := by decide +kernel
theorem dX5_least_16 : decode cX5_least 16 = .ok (.aload_n 0, 1) := by decide +kernel
theorem dX5_least_17 : decode cX5_least 17 = .ok (.getfield 10, 3) := by decide +kernel
theorem dX5_least_20 : decode cX5_least 20 = .ok (.getfield 98, 3) := by decide +kernel
theorem dX5_least_23 : decode cX5_least 23 = .ok (.iload_n 1, 1) := by decide +kernel
theorem dX5_least_24 : decode cX5_least 24 = .ok (.iaload, 1) := by decide +kernel
theorem dX5_least_25 : decode cX5_least 25 = .ok (.aload_n 0, 1) := by decide +kernel
theorem dX5_least_26 : decode cX5_least 26 = .ok (.getfield 28, 3) := by decide +kernel
theorem dX5_least_29 : decode cX5_least 29 = .ok (.getfield 95, 3) := by decide +kernel
theorem dX5_least_32 : decode cX5_least 32 = .ok (.iload_n 1, 1) := by decide +kernel
theorem dX5_least_33 : decode cX5_least 33 = .ok (.iaload, 1) := by decide +kernel
theorem dX5_least_34 : decode cX5_least 34 = .ok (.invokevirtual 193, 3) := by decide +kernel
theorem dX5_least_37 : decode cX5_least 37 = .ok (.goto 5, 3) := by decide +kernel
theorem dX5_least_40 : decode cX5_least 40 = .ok (.bipush (-2), 2) := by decide +kernel
theorem dX5_least_42 : decode cX5_least 42 = .ok (.ireturn, 1) := by decide +kernel
theorem dX5_count_0 : decode cX5_count 0 = .ok (.iload_n 1, 1) := by decide +kernel
theorem dX5_count_1 : decode cX5_count 1 = .ok (.tableswitch 112 0 7 #[47, 55, 63, 71, 79, 87, 96, 104], 47) := by decide +kernel
theorem dX5_count_48 : decode cX5_count 48 = .ok (.aload_n 0, 1) := by decide +kernel
theorem dX5_count_49 : decode cX5_count 49 = .ok (.getfield 10, 3) := by decide +kernel
theorem dX5_count_52 : decode cX5_count 52 = .ok (.getfield 152, 3) := by decide +kernel
theorem dX5_count_55 : decode cX5_count 55 = .ok (.ireturn, 1) := by decide +kernel
theorem dX5_count_56 : decode cX5_count 56 = .ok (.aload_n 0, 1) := by decide +kernel
theorem dX5_count_57 : decode cX5_count 57 = .ok (.getfield 10, 3) := by decide +kernel
theorem dX5_count_60 : decode cX5_count 60 = .ok (.getfield 197, 3) := by decide +kernel
theorem dX5_count_63 : decode cX5_count 63 = .ok (.ireturn, 1) := by decide +kernel
theorem dX5_count_64 : decode cX5_count 64 = .ok (.aload_n 0, 1) := by decide +kernel
theorem dX5_count_65 : decode cX5_count 65 = .ok (.getfield 10, 3) := by decide +kernel
theorem dX5_count_68 : decode cX5_count 68 = .ok (.getfield 200, 3) := by decide +kernel
theorem dX5_count_71 : decode cX5_count 71 = .ok (.ireturn, 1) := by decide +kernel
theorem dX5_count_72 : decode cX5_count 72 = .ok (.aload_n 0, 1) := by decide +kernel
theorem dX5_count_73 : decode cX5_count 73 = .ok (.getfield 28, 3) := by decide +kernel
theorem dX5_count_76 : decode cX5_count 76 = .ok (.getfield 134, 3) := by decide +kernel
theorem dX5_count_79 : decode cX5_count 79 = .ok (.ireturn, 1) := by decide +kernel
theorem dX5_count_80 : decode cX5_count 80 = .ok (.aload_n 0, 1) := by decide +kernel
theorem dX5_count_81 : decode cX5_count 81 = .ok (.getfield 28, 3) := by decide +kernel
theorem dX5_count_84 : decode cX5_count 84 = .ok (.invokevirtual 203, 3) := by decide +kernel
theorem dX5_count_87 : decode cX5_count 87 = .ok (.ireturn, 1) := by decide +kernel
theorem dX5_count_88 : decode cX5_count 88 = .ok (.aload_n 0, 1) := by decide +kernel
theorem dX5_count_89 : decode cX5_count 89 = .ok (.getfield 28, 3) := by decide +kernel
theorem dX5_count_92 : decode cX5_count 92 = .ok (.iconst (-1), 1) := by decide +kernel
theorem dX5_count_93 : decode cX5_count 93 = .ok (.invokevirtual 111, 3) := by decide +kernel
theorem dX5_count_96 : decode cX5_count 96 = .ok (.ireturn, 1) := by decide +kernel
theorem dX5_count_97 : decode cX5_count 97 = .ok (.aload_n 0, 1) := by decide +kernel
theorem dX5_count_98 : decode cX5_count 98 = .ok (.getfield 53, 3) := by decide +kernel
theorem dX5_count_101 : decode cX5_count 101 = .ok (.getfield 81, 3) := by decide +kernel
theorem dX5_count_104 : decode cX5_count 104 = .ok (.ireturn, 1) := by decide +kernel
theorem dX5_count_105 : decode cX5_count 105 = .ok (.aload_n 0, 1) := by decide +kernel
theorem dX5_count_106 : decode cX5_count 106 = .ok (.getfield 19, 3) := by decide +kernel
theorem dX5_count_109 : decode cX5_count 109 = .ok (.getfield 63, 3) := by decide +kernel
theorem dX5_count_112 : decode cX5_count 112 = .ok (.ireturn, 1) := by decide +kernel
theorem dX5_count_113 : decode cX5_count 113 = .ok (.bipush (-3), 2) := by decide +kernel
theorem dX5_count_115 : decode cX5_count 115 = .ok (.ireturn, 1) := by decide +kernel
theorem dX5_isPerson_0 : decode cX5_isPerson 0 = .ok (.iload_n 1, 1) := by decide +kernel
theorem dX5_isPerson_1 : decode cX5_isPerson 1 = .ok (.ifCond .lt 18, 3) := by decide +kernel
theorem dX5_isPerson_4 : decode cX5_isPerson 4 = .ok (.iload_n 1, 1) := by decide +kernel
theorem dX5_isPerson_5 : decode cX5_isPerson 5 = .ok (.aload_n 0, 1) := by decide +kernel
theorem dX5_isPerson_6 : decode cX5_isPerson 6 = .ok (.getfield 10, 3) := by decide +kernel
theorem dX5_isPerson_9 : decode cX5_isPerson 9 = .ok (.getfield 200, 3) := by decide +kernel
theorem dX5_isPerson_12 : decode cX5_isPerson 12 = .ok (.if_icmp .ge 7, 3) := by decide +kernel
theorem dX5_isPerson_15 : decode cX5_isPerson 15 = .ok (.iconst 1, 1) := by decide +kernel
theorem dX5_isPerson_16 : decode cX5_isPerson 16 = .ok (.goto 4, 3) := by decide +kernel
theorem dX5_isPerson_19 : decode cX5_isPerson 19 = .ok (.iconst 0, 1) := by decide +kernel
theorem dX5_isPerson_20 : decode cX5_isPerson 20 = .ok (.ireturn, 1) := by decide +kernel
theorem dX5_isSide_0 : decode cX5_isSide 0 = .ok (.iload_n 0, 1) := by decide +kernel
theorem dX5_isSide_1 : decode cX5_isSide 1 = .ok (.ifCond .eq 8, 3) := by decide +kernel
theorem dX5_isSide_4 : decode cX5_isSide 4 = .ok (.iload_n 0, 1) := by decide +kernel
theorem dX5_isSide_5 : decode cX5_isSide 5 = .ok (.iconst 1, 1) := by decide +kernel
theorem dX5_isSide_6 : decode cX5_isSide 6 = .ok (.if_icmp .ne 7, 3) := by decide +kernel
theorem dX5_isSide_9 : decode cX5_isSide 9 = .ok (.iconst 1, 1) := by decide +kernel
theorem dX5_isSide_10 : decode cX5_isSide 10 = .ok (.goto 4, 3) := by decide +kernel
theorem dX5_isSide_13 : decode cX5_isSide 13 = .ok (.iconst 0, 1) := by decide +kernel
theorem dX5_isSide_14 : decode cX5_isSide 14 = .ok (.ireturn, 1) := by decide +kernel
theorem dX5_between_0 : decode cX5_between 0 = .ok (.iload_n 1, 1) := by decide +kernel
theorem dX5_between_1 : decode cX5_between 1 = .ok (.iload_n 0, 1) := by decide +kernel
theorem dX5_between_2 : decode cX5_between 2 = .ok (.if_icmp .lt 9, 3) := by decide +kernel
theorem dX5_between_5 : decode cX5_between 5 = .ok (.iload_n 1, 1) := by decide +kernel
theorem dX5_between_6 : decode cX5_between 6 = .ok (.iload_n 0, 1) := by decide +kernel
theorem dX5_between_7 : decode cX5_between 7 = .ok (.isub, 1) := by decide +kernel
theorem dX5_between_8 : decode cX5_between 8 = .ok (.goto 9, 3) := by decide +kernel
theorem dX5_between_11 : decode cX5_between 11 = .ok (.iload_n 1, 1) := by decide +kernel
theorem dX5_between_12 : decode cX5_between 12 = .ok (.iload_n 0, 1) := by decide +kernel
theorem dX5_between_13 : decode cX5_between 13 = .ok (.isub, 1) := by decide +kernel
theorem dX5_between_14 : decode cX5_between 14 = .ok (.bipush 72, 2) := by decide +kernel
theorem dX5_between_16 : decode cX5_between 16 = .ok (.iadd, 1) := by decide +kernel
theorem dX5_between_17 : decode cX5_between 17 = .ok (.ireturn, 1) := by decide +kernel
end
section
theorem dJ6_bitCount_0f7a4_0 : decode cJ6_bitCount_0f7a4 0 = .ok (.iload_n 0, 1) := by decide +kernel
theorem dJ6_bitCount_0f7a4_1 : decode cJ6_bitCount_0f7a4 1 = .ok (.iload_n 0, 1) := by decide +kernel
theorem dJ6_bitCount_0f7a4_2 : decode cJ6_bitCount_0f7a4 2 = .ok (.iconst 1, 1) := by decide +kernel
theorem dJ6_bitCount_0f7a4_3 : decode cJ6_bitCount_0f7a4 3 = .ok (.iushr, 1) := by decide +kernel
theorem dJ6_bitCount_0f7a4_4 : decode cJ6_bitCount_0f7a4 4 = .ok (.ldc_w 265, 3) := by decide +kernel
theorem dJ6_bitCount_0f7a4_7 : decode cJ6_bitCount_0f7a4 7 = .ok (.iand, 1) := by decide +kernel
theorem dJ6_bitCount_0f7a4_8 : decode cJ6_bitCount_0f7a4 8 = .ok (.isub, 1) := by decide +kernel
theorem dJ6_bitCount_0f7a4_9 : decode cJ6_bitCount_0f7a4 9 = .ok (.istore_n 0, 1) := by decide +kernel
theorem dJ6_bitCount_0f7a4_10 : decode cJ6_bitCount_0f7a4 10 = .ok (.iload_n 0, 1) := by decide +kernel
theorem dJ6_bitCount_0f7a4_11 : decode cJ6_bitCount_0f7a4 11 = .ok (.ldc_w 266, 3) := by decide +kernel
theorem dJ6_bitCount_0f7a4_14 : decode cJ6_bitCount_0f7a4 14 = .ok (.iand, 1) := by decide +kernel
theorem dJ6_bitCount_0f7a4_15 : decode cJ6_bitCount_0f7a4 15 = .ok (.iload_n 0, 1) := by decide +kernel
theorem dJ6_bitCount_0f7a4_16 : decode cJ6_bitCount_0f7a4 16 = .ok (.iconst 2, 1) := by decide +kernel
theorem dJ6_bitCount_0f7a4_17 : decode cJ6_bitCount_0f7a4 17 = .ok (.iushr, 1) := by decide +kernel
theorem dJ6_bitCount_0f7a4_18 : decode cJ6_bitCount_0f7a4 18 = .ok (.ldc_w 266, 3) := by decide +kernel
theorem dJ6_bitCount_0f7a4_21 : decode cJ6_bitCount_0f7a4 21 = .ok (.iand, 1) := by decide +kernel
theorem dJ6_bitCount_0f7a4_22 : decode cJ6_bitCount_0f7a4 22 = .ok (.iadd, 1) := by decide +kernel
theorem dJ6_bitCount_0f7a4_23 : decode cJ6_bitCount_0f7a4 23 = .ok (.istore_n 0, 1) := by decide +kernel
theorem dJ6_bitCount_0f7a4_24 : decode cJ6_bitCount_0f7a4 24 = .ok (.iload_n 0, 1) := by decide +kernel
theorem dJ6_bitCount_0f7a4_25 : decode cJ6_bitCount_0f7a4 25 = .ok (.iload_n 0, 1) := by decide +kernel
theorem dJ6_bitCount_0f7a4_26 : decode cJ6_bitCount_0f7a4 26 = .ok (.iconst 4, 1) := by decide +kernel
theorem dJ6_bitCount_0f7a4_27 : decode cJ6_bitCount_0f7a4 27 = .ok (.iushr, 1) := by decide +kernel
theorem dJ6_bitCount_0f7a4_28 : decode cJ6_bitCount_0f7a4 28 = .ok (.iadd, 1) := by decide +kernel
theorem dJ6_bitCount_0f7a4_29 : decode cJ6_bitCount_0f7a4 29 = .ok (.ldc_w 267, 3) := by decide +kernel
theorem dJ6_bitCount_0f7a4_32 : decode cJ6_bitCount_0f7a4 32 = .ok (.iand, 1) := by decide +kernel
theorem dJ6_bitCount_0f7a4_33 : decode cJ6_bitCount_0f7a4 33 = .ok (.istore_n 0, 1) := by decide +kernel
theorem dJ6_bitCount_0f7a4_34 : decode cJ6_bitCount_0f7a4 34 = .ok (.iload_n 0, 1) := by decide +kernel
theorem dJ6_bitCount_0f7a4_35 : decode cJ6_bitCount_0f7a4 35 = .ok (.iload_n 0, 1) := by decide +kernel
theorem dJ6_bitCount_0f7a4_36 : decode cJ6_bitCount_0f7a4 36 = .ok (.bipush 8, 2) := by decide +kernel
theorem dJ6_bitCount_0f7a4_38 : decode cJ6_bitCount_0f7a4 38 = .ok (.iushr, 1) := by decide +kernel
theorem dJ6_bitCount_0f7a4_39 : decode cJ6_bitCount_0f7a4 39 = .ok (.iadd, 1) := by decide +kernel
theorem dJ6_bitCount_0f7a4_40 : decode cJ6_bitCount_0f7a4 40 = .ok (.istore_n 0, 1) := by decide +kernel
theorem dJ6_bitCount_0f7a4_41 : decode cJ6_bitCount_0f7a4 41 = .ok (.iload_n 0, 1) := by decide +kernel
theorem dJ6_bitCount_0f7a4_42 : decode cJ6_bitCount_0f7a4 42 = .ok (.iload_n 0, 1) := by decide +kernel
theorem dJ6_bitCount_0f7a4_43 : decode cJ6_bitCount_0f7a4 43 = .ok (.bipush 16, 2) := by decide +kernel
theorem dJ6_bitCount_0f7a4_45 : decode cJ6_bitCount_0f7a4 45 = .ok (.iushr, 1) := by decide +kernel
theorem dJ6_bitCount_0f7a4_46 : decode cJ6_bitCount_0f7a4 46 = .ok (.iadd, 1) := by decide +kernel
theorem dJ6_bitCount_0f7a4_47 : decode cJ6_bitCount_0f7a4 47 = .ok (.istore_n 0, 1) := by decide +kernel
theorem dJ6_bitCount_0f7a4_48 : decode cJ6_bitCount_0f7a4 48 = .ok (.iload_n 0, 1) := by decide +kernel
theorem dJ6_bitCount_0f7a4_49 : decode cJ6_bitCount_0f7a4 49 = .ok (.bipush 63, 2) := by decide +kernel
theorem dJ6_bitCount_0f7a4_51 : decode cJ6_bitCount_0f7a4 51 = .ok (.iand, 1) := by decide +kernel
theorem dJ6_bitCount_0f7a4_52 : decode cJ6_bitCount_0f7a4 52 = .ok (.ireturn, 1) := by decide +kernel
theorem dJ9_min_7cf53_0 : decode cJ9_min_7cf53 0 = .ok (.iload_n 0, 1) := by decide +kernel
theorem dJ9_min_7cf53_1 : decode cJ9_min_7cf53 1 = .ok (.iload_n 1, 1) := by decide +kernel
theorem dJ9_min_7cf53_2 : decode cJ9_min_7cf53 2 = .ok (.if_icmp .gt 7, 3) := by decide +kernel
theorem dJ9_min_7cf53_5 : decode cJ9_min_7cf53 5 = .ok (.iload_n 0, 1) := by decide +kernel
theorem dJ9_min_7cf53_6 : decode cJ9_min_7cf53 6 = .ok (.goto 4, 3) := by decide +kernel
theorem dJ9_min_7cf53_9 : decode cJ9_min_7cf53 9 = .ok (.iload_n 1, 1) := by decide +kernel
theorem dJ9_min_7cf53_10 : decode cJ9_min_7cf53 10 = .ok (.ireturn, 1) := by decide +kernel
theorem dJ0_length_8abf5_0 : decode cJ0_length_8abf5 0 = .ok (.aload_n 0, 1) := by decide +kernel
theorem dJ0_length_8abf5_1 : decode cJ0_length_8abf5 1 = .ok (.getfield 9, 3) := by decide +kernel
theorem dJ0_length_8abf5_4 : decode cJ0_length_8abf5 4 = .ok (.arraylength, 1) := by decide +kernel
theorem dJ0_length_8abf5_5 : decode cJ0_length_8abf5 5 = .ok (.aload_n 0, 1) := by decide +kernel
theorem dJ0_length_8abf5_6 : decode cJ0_length_8abf5 6 = .ok (.invokevirtual 335, 3) := by decide +kernel
theorem dJ0_length_8abf5_9 : decode cJ0_length_8abf5 9 = .ok (.ishr, 1) := by decide +kernel
theorem dJ0_length_8abf5_10 : decode cJ0_length_8abf5 10 = .ok (.ireturn, 1) := by decide +kernel
theorem dJ0_charAt_5068e_0 : decode cJ0_charAt_5068e 0 = .ok (.aload_n 0, 1) := by decide +kernel
theorem dJ0_charAt_5068e_1 : decode cJ0_charAt_5068e 1 = .ok (.invokevirtual 492, 3) := by decide +kernel
theorem dJ0_charAt_5068e_4 : decode cJ0_charAt_5068e 4 = .ok (.ifCond .eq 12, 3) := by decide +kernel
theorem dJ0_charAt_5068e_7 : decode cJ0_charAt_5068e 7 = .ok (.aload_n 0, 1) := by decide +kernel
theorem dJ0_charAt_5068e_8 : decode cJ0_charAt_5068e 8 = .ok (.getfield 9, 3) := by decide +kernel
theorem dJ0_charAt_5068e_11 : decode cJ0_charAt_5068e 11 = .ok (.iload_n 1, 1) := by decide +kernel
theorem dJ0_charAt_5068e_12 : decode cJ0_charAt_5068e 12 = .ok (.invokestatic 495, 3) := by decide +kernel
theorem dJ0_charAt_5068e_15 : decode cJ0_charAt_5068e 15 = .ok (.ireturn, 1) := by decide +kernel
theorem dJ0_charAt_5068e_16 : decode cJ0_charAt_5068e 16 = .ok (.aload_n 0, 1) := by decide +kernel
theorem dJ0_charAt_5068e_17 : decode cJ0_charAt_5068e 17 = .ok (.getfield 9, 3) := by decide +kernel
theorem dJ0_charAt_5068e_20 : decode cJ0_charAt_5068e 20 = .ok (.iload_n 1, 1) := by decide +kernel
theorem dJ0_charAt_5068e_21 : decode cJ0_charAt_5068e 21 = .ok (.invokestatic 498, 3) := by decide +kernel
theorem dJ0_charAt_5068e_24 : decode cJ0_charAt_5068e 24 = .ok (.ireturn, 1) := by decide +kernel
theorem dJ0_coder_7d493_0 : decode cJ0_coder_7d493 0 = .ok (.getstatic 38, 3) := by decide +kernel
theorem dJ0_coder_7d493_3 : decode cJ0_coder_7d493 3 = .ok (.ifCond .eq 10, 3) := by decide +kernel
theorem dJ0_coder_7d493_6 : decode cJ0_coder_7d493 6 = .ok (.aload_n 0, 1) := by decide +kernel
theorem dJ0_coder_7d493_7 : decode cJ0_coder_7d493 7 = .ok (.getfield 15, 3) := by decide +kernel
theorem dJ0_coder_7d493_10 : decode cJ0_coder_7d493 10 = .ok (.goto 4, 3) := by decide +kernel
theorem dJ0_coder_7d493_13 : decode cJ0_coder_7d493 13 = .ok (.iconst 1, 1) := by decide +kernel
theorem dJ0_coder_7d493_14 : decode cJ0_coder_7d493 14 = .ok (.ireturn, 1) := by decide +kernel
theorem dJ0_isLatin1_aae02_0 : decode cJ0_isLatin1_aae02 0 = .ok (.getstatic 38, 3) := by decide +kernel
theorem dJ0_isLatin1_aae02_3 : decode cJ0_isLatin1_aae02 3 = .ok (.ifCond .eq 14, 3) := by decide +kernel
theorem dJ0_isLatin1_aae02_6 : decode cJ0_isLatin1_aae02 6 = .ok (.aload_n 0, 1) := by decide +kernel
theorem dJ0_isLatin1_aae02_7 : decode cJ0_isLatin1_aae02 7 = .ok (.getfield 15, 3) := by decide +kernel
theorem dJ0_isLatin1_aae02_10 : decode cJ0_isLatin1_aae02 10 = .ok (.ifCond .ne 7, 3) := by decide +kernel
theorem dJ0_isLatin1_aae02_13 : decode cJ0_isLatin1_aae02 13 = .ok (.iconst 1, 1) := by decide +kernel
theorem dJ0_isLatin1_aae02_14 : decode cJ0_isLatin1_aae02 14 = .ok (.goto 4, 3) := by decide +kernel
theorem dJ0_isLatin1_aae02_17 : decode cJ0_isLatin1_aae02 17 = .ok (.iconst 0, 1) := by decide +kernel
theorem dJ0_isLatin1_aae02_18 : decode cJ0_isLatin1_aae02 18 = .ok (.ireturn, 1) := by decide +kernel
theorem dJ0_checkIndex_df160_0 : decode cJ0_checkIndex_df160 0 = .ok (.iload_n 0, 1) := by decide +kernel
theorem dJ0_checkIndex_df160_1 : decode cJ0_checkIndex_df160 1 = .ok (.iload_n 1, 1) := by decide +kernel
theorem dJ0_checkIndex_df160_2 : decode cJ0_checkIndex_df160 2 = .ok (.getstatic 1053, 3) := by decide +kernel
theorem dJ0_checkIndex_df160_5 : decode cJ0_checkIndex_df160 5 = .ok (.invokestatic 1059, 3) := by decide +kernel
theorem dJ0_checkIndex_df160_8 : decode cJ0_checkIndex_df160 8 = .ok (.pop, 1) := by decide +kernel
theorem dJ0_checkIndex_df160_9 : decode cJ0_checkIndex_df160 9 = .ok (.return_, 1) := by decide +kernel
theorem dJ1_charAt_3b067_0 : decode cJ1_charAt_3b067 0 = .ok (.iload_n 1, 1) := by decide +kernel
theorem dJ1_charAt_3b067_1 : decode cJ1_charAt_3b067 1 = .ok (.aload_n 0, 1) := by decide +kernel
theorem dJ1_charAt_3b067_2 : decode cJ1_charAt_3b067 2 = .ok (.arraylength, 1) := by decide +kernel
theorem dJ1_charAt_3b067_3 : decode cJ1_charAt_3b067 3 = .ok (.invokestatic 9, 3) := by decide +kernel
theorem dJ1_charAt_3b067_6 : decode cJ1_charAt_3b067 6 = .ok (.aload_n 0, 1) := by decide +kernel
theorem dJ1_charAt_3b067_7 : decode cJ1_charAt_3b067 7 = .ok (.iload_n 1, 1) := by decide +kernel
theorem dJ1_charAt_3b067_8 : decode cJ1_charAt_3b067 8 = .ok (.baload, 1) := by decide +kernel
theorem dJ1_charAt_3b067_9 : decode cJ1_charAt_3b067 9 = .ok (.sipush 255, 3) := by decide +kernel
theorem dJ1_charAt_3b067_12 : decode cJ1_charAt_3b067 12 = .ok (.iand, 1) := by decide +kernel
theorem dJ1_charAt_3b067_13 : decode cJ1_charAt_3b067 13 = .ok (.i2c, 1) := by decide +kernel
theorem dJ1_charAt_3b067_14 : decode cJ1_charAt_3b067 14 = .ok (.ireturn, 1) := by decide +kernel
theorem dJ2_getChar_3b067_0 : decode cJ2_getChar_3b067 0 = .ok (.getstatic 44, 3) := by decide +kernel
theorem dJ2_getChar_3b067_3 : decode cJ2_getChar_3b067 3 = .ok (.ifCond .ne 25, 3) := by decide +kernel
theorem dJ2_getChar_3b067_6 : decode cJ2_getChar_3b067 6 = .ok (.iload_n 1, 1) := by decide +kernel
theorem dJ2_getChar_3b067_7 : decode cJ2_getChar_3b067 7 = .ok (.ifCond .lt 11, 3) := by decide +kernel
theorem dJ2_getChar_3b067_10 : decode cJ2_getChar_3b067 10 = .ok (.iload_n 1, 1) := by decide +kernel
theorem dJ2_getChar_3b067_11 : decode cJ2_getChar_3b067 11 = .ok (.aload_n 0, 1) := by decide +kernel
theorem dJ2_getChar_3b067_12 : decode cJ2_getChar_3b067 12 = .ok (.invokestatic 48, 3) := by decide +kernel
theorem dJ2_getChar_3b067_15 : decode cJ2_getChar_3b067 15 = .ok (.if_icmp .lt 13, 3) := by decide +kernel
theorem dJ2_getChar_3b067_18 : decode cJ2_getChar_3b067 18 = .ok (.new 52, 3) := by decide +kernel
theorem dJ2_getChar_3b067_21 : decode cJ2_getChar_3b067 21 = .ok (.dup, 1) := by decide +kernel
theorem dJ2_getChar_3b067_22 : decode cJ2_getChar_3b067 22 = .ok (.ldc 54, 2) := by decide +kernel
theorem dJ2_getChar_3b067_24 : decode cJ2_getChar_3b067 24 = .ok (.invokespecial 56, 3) := by decide +kernel
theorem dJ2_getChar_3b067_27 : decode cJ2_getChar_3b067 27 = .ok (.athrow, 1) := by decide +kernel
theorem dJ2_getChar_3b067_28 : decode cJ2_getChar_3b067 28 = .ok (.iload_n 1, 1) := by decide +kernel
theorem dJ2_getChar_3b067_29 : decode cJ2_getChar_3b067 29 = .ok (.iconst 1, 1) := by decide +kernel
theorem dJ2_getChar_3b067_30 : decode cJ2_getChar_3b067 30 = .ok (.ishl, 1) := by decide +kernel
theorem dJ2_getChar_3b067_31 : decode cJ2_getChar_3b067 31 = .ok (.istore_n 1, 1) := by decide +kernel
theorem dJ2_getChar_3b067_32 : decode cJ2_getChar_3b067 32 = .ok (.aload_n 0, 1) := by decide +kernel
theorem dJ2_getChar_3b067_33 : decode cJ2_getChar_3b067 33 = .ok (.iload_n 1, 1) := by decide +kernel
theorem dJ2_getChar_3b067_34 : decode cJ2_getChar_3b067 34 = .ok (.iinc 1 1, 3) := by decide +kernel
theorem dJ2_getChar_3b067_37 : decode cJ2_getChar_3b067 37 = .ok (.baload, 1) := by decide +kernel
theorem dJ2_getChar_3b067_38 : decode cJ2_getChar_3b067 38 = .ok (.sipush 255, 3) := by decide +kernel
theorem dJ2_getChar_3b067_41 : decode cJ2_getChar_3b067 41 = .ok (.iand, 1) := by decide +kernel
theorem dJ2_getChar_3b067_42 : decode cJ2_getChar_3b067 42 = .ok (.getstatic 59, 3) := by decide +kernel
theorem dJ2_getChar_3b067_45 : decode cJ2_getChar_3b067 45 = .ok (.ishl, 1) := by decide +kernel
theorem dJ2_getChar_3b067_46 : decode cJ2_getChar_3b067 46 = .ok (.aload_n 0, 1) := by decide +kernel
theorem dJ2_getChar_3b067_47 : decode cJ2_getChar_3b067 47 = .ok (.iload_n 1, 1) := by decide +kernel
theorem dJ2_getChar_3b067_48 : decode cJ2_getChar_3b067 48 = .ok (.baload, 1) := by decide +kernel
theorem dJ2_getChar_3b067_49 : decode cJ2_getChar_3b067 49 = .ok (.sipush 255, 3) := by decide +kernel
theorem dJ2_getChar_3b067_52 : decode cJ2_getChar_3b067 52 = .ok (.iand, 1) := by decide +kernel
theorem dJ2_getChar_3b067_53 : decode cJ2_getChar_3b067 53 = .ok (.getstatic 63, 3) := by decide +kernel
theorem dJ2_getChar_3b067_56 : decode cJ2_getChar_3b067 56 = .ok (.ishl, 1) := by decide +kernel
theorem dJ2_getChar_3b067_57 : decode cJ2_getChar_3b067 57 = .ok (.ior, 1) := by decide +kernel
theorem dJ2_getChar_3b067_58 : decode cJ2_getChar_3b067 58 = .ok (.i2c, 1) := by decide +kernel
theorem dJ2_getChar_3b067_59 : decode cJ2_getChar_3b067 59 = .ok (.ireturn, 1) := by decide +kernel
theorem dJ2_length_9d52b_0 : decode cJ2_length_9d52b 0 = .ok (.aload_n 0, 1) := by decide +kernel
theorem dJ2_length_9d52b_1 : decode cJ2_length_9d52b 1 = .ok (.arraylength, 1) := by decide +kernel
theorem dJ2_length_9d52b_2 : decode cJ2_length_9d52b 2 = .ok (.iconst 1, 1) := by decide +kernel
theorem dJ2_length_9d52b_3 : decode cJ2_length_9d52b 3 = .ok (.ishr, 1) := by decide +kernel
theorem dJ2_length_9d52b_4 : decode cJ2_length_9d52b 4 = .ok (.ireturn, 1) := by decide +kernel
theorem dJ2_charAt_3b067_0 : decode cJ2_charAt_3b067 0 = .ok (.iload_n 1, 1) := by decide +kernel
theorem dJ2_charAt_3b067_1 : decode cJ2_charAt_3b067 1 = .ok (.aload_n 0, 1) := by decide +kernel
theorem dJ2_charAt_3b067_2 : decode cJ2_charAt_3b067 2 = .ok (.invokestatic 67, 3) := by decide +kernel
theorem dJ2_charAt_3b067_5 : decode cJ2_charAt_3b067 5 = .ok (.aload_n 0, 1) := by decide +kernel
theorem dJ2_charAt_3b067_6 : decode cJ2_charAt_3b067 6 = .ok (.iload_n 1, 1) := by decide +kernel
theorem dJ2_charAt_3b067_7 : decode cJ2_charAt_3b067 7 = .ok (.invokestatic 71, 3) := by decide +kernel
theorem dJ2_charAt_3b067_10 : decode cJ2_charAt_3b067 10 = .ok (.ireturn, 1) := by decide +kernel
theorem dJ2_checkIndex_2214a_0 : decode cJ2_checkIndex_2214a 0 = .ok (.iload_n 0, 1) := by decide +kernel
theorem dJ2_checkIndex_2214a_1 : decode cJ2_checkIndex_2214a 1 = .ok (.aload_n 1, 1) := by decide +kernel
theorem dJ2_checkIndex_2214a_2 : decode cJ2_checkIndex_2214a 2 = .ok (.invokestatic 48, 3) := by decide +kernel
theorem dJ2_checkIndex_2214a_5 : decode cJ2_checkIndex_2214a 5 = .ok (.invokestatic 414, 3) := by decide +kernel
theorem dJ2_checkIndex_2214a_8 : decode cJ2_checkIndex_2214a 8 = .ok (.return_, 1) := by decide +kernel
theorem dJ3_checkIndex_8e157_0 : decode cJ3_checkIndex_8e157 0 = .ok (.iload_n 0, 1) := by decide +kernel
theorem dJ3_checkIndex_8e157_1 : decode cJ3_checkIndex_8e157 1 = .ok (.ifCond .lt 8, 3) := by decide +kernel
theorem dJ3_checkIndex_8e157_4 : decode cJ3_checkIndex_8e157 4 = .ok (.iload_n 0, 1) := by decide +kernel
theorem dJ3_checkIndex_8e157_5 : decode cJ3_checkIndex_8e157 5 = .ok (.iload_n 1, 1) := by decide +kernel
theorem dJ3_checkIndex_8e157_6 : decode cJ3_checkIndex_8e157 6 = .ok (.if_icmp .lt 10, 3) := by decide +kernel
theorem dJ3_checkIndex_8e157_9 : decode cJ3_checkIndex_8e157 9 = .ok (.aload_n 2, 1) := by decide +kernel
theorem dJ3_checkIndex_8e157_10 : decode cJ3_checkIndex_8e157 10 = .ok (.iload_n 0, 1) := by decide +kernel
theorem dJ3_checkIndex_8e157_11 : decode cJ3_checkIndex_8e157 11 = .ok (.iload_n 1, 1) := by decide +kernel
theorem dJ3_checkIndex_8e157_12 : decode cJ3_checkIndex_8e157 12 = .ok (.invokestatic 95, 3) := by decide +kernel
theorem dJ3_checkIndex_8e157_15 : decode cJ3_checkIndex_8e157 15 = .ok (.athrow, 1) := by decide +kernel
theorem dJ3_checkIndex_8e157_16 : decode cJ3_checkIndex_8e157 16 = .ok (.iload_n 0, 1) := by decide +kernel
theorem dJ3_checkIndex_8e157_17 : decode cJ3_checkIndex_8e157 17 = .ok (.ireturn, 1) := by decide +kernel
end
section
/-! THE ROWS for ints that are natural numbers, and for answers that are yes or no; contracts with one answer -/
/-- a contract with one answer and one world behind it -/
def Fok (M : Mt) (ids : List Id2) (d : Nat) (av : List AV) (D : Wd) (r : Option AV) (D' : Wd) : Prop := Mok M ids d av D (fun r' D'' => r' = r ∧ D'' = D')
theorem bi_iff {c e : Prop} [Decidable c] [Decidable e] (h : c ↔ e) : (if c then (1 : Int32) else 0) = if e then 1 else 0 := by
  by_cases hc : c
  · rw [if_pos hc, if_pos (h.mp hc)]
  · rw [if_neg hc, if_neg (fun q => hc (h.mpr q))]
theorem bi_nar (c : Prop) [Decidable c] : narrow .boolean (.int (if c then 1 else 0)) = .int (if c then 1 else 0) := by
  by_cases hc : c
  · rw [if_pos hc]; rfl
  · rw [if_neg hc]; rfl
theorem nI_d {n : Nat} (h : Int32.ofInt n = nI n := by decide) : Int32.ofInt n = nI n := h
section NAT
variable {X : Cxt} {M : Mt} {ids : List Id2} {d pc : Nat} {L : Lc} {st : List AV} {D : Wd}
theorem g_top {x y : Int32} (h : x = y) (k : Gk X M ids pc L (vi y :: st) D) : Gk X M ids pc L (vi x :: st) D := h ▸ k
theorem g_wd {D' : Wd} (h : D = D') (k : Gk X M ids pc L st D') : Gk X M ids pc L st D := h ▸ k
theorem g_loc {L' : Lc} (h : L = L') (k : Gk X M ids pc L' st D) : Gk X M ids pc L st D := h ▸ k
theorem g_iaddN {a b : Nat} (cx : Cx X M ids d) (hd : decode M.2.1 pc = .ok (.iadd, 1)) (k : Gk X M ids (pc + 1) L (vi (nI (a + b)) :: st) D) : Gk X M ids pc L (vi (nI b) :: vi (nI a) :: st) D :=
  g_iadd cx hd (g_top (nI_add a b) k)
theorem g_isubN {a b : Nat} (cx : Cx X M ids d) (hd : decode M.2.1 pc = .ok (.isub, 1)) (h : b ≤ a) (k : Gk X M ids (pc + 1) L (vi (nI (a - b)) :: st) D) : Gk X M ids pc L (vi (nI b) :: vi (nI a) :: st) D :=
  g_isub cx hd (g_top (pk_sub h) k)
theorem g_imulN {a b : Nat} (cx : Cx X M ids d) (hd : decode M.2.1 pc = .ok (.imul, 1)) (k : Gk X M ids (pc + 1) L (vi (nI (a * b)) :: st) D) : Gk X M ids pc L (vi (nI b) :: vi (nI a) :: st) D :=
  g_imul cx hd (g_top (pk_mul a b) k)
theorem g_idivN {a b : Nat} (cx : Cx X M ids d) (hd : decode M.2.1 pc = .ok (.idiv, 1)) (ha : a < 2 ^ 31) (h0 : 0 < b) (hb : b < 2 ^ 31) (k : Gk X M ids (pc + 1) L (vi (nI (a / b)) :: st) D) : Gk X M ids pc L (vi (nI b) :: vi (nI a) :: st) D :=
  g_idiv cx hd (nI_ne0 h0 hb) (g_top (pk_div ha h0 hb) k)
theorem g_iremN {a b : Nat} (cx : Cx X M ids d) (hd : decode M.2.1 pc = .ok (.irem, 1)) (ha : a < 2 ^ 31) (h0 : 0 < b) (hb : b < 2 ^ 31) (k : Gk X M ids (pc + 1) L (vi (nI (a % b)) :: st) D) : Gk X M ids pc L (vi (nI b) :: vi (nI a) :: st) D :=
  g_irem cx hd (nI_ne0 h0 hb) (g_top (pk_rem ha h0 hb) k)
theorem g_iincN {i a : Nat} {L' : Lc} (cx : Cx X M ids d) (hd : decode M.2.1 pc = .ok (.iinc i 1, 3)) (hi : L[i]? = some (some (vi (nI a)))) (hn : i < M.2.2.1) (hb : nlb L i = true) (hl : L.set i (some (vi (nI (a + 1)))) = L') (k : Gk X M ids (pc + 3) L' st D) : Gk X M ids pc L st D :=
  g_iinc cx hd hi (by have h1 : Int32.ofInt 1 = 1 := by decide
                      rw [h1, nI_1]) hn hb hl k
theorem g_icmp_eqN {a b : Nat} {off : Int} {tgt : Nat} (cx : Cx X M ids d) (hd : decode M.2.1 pc = .ok (.if_icmp .eq off, 3)) (ht : (pc : Int) + off = (tgt : Int)) (ha : a < 2 ^ 31) (hb : b < 2 ^ 31) (kt : a = b → Gk X M ids tgt L st D) (kf : a ≠ b → Gk X M ids (pc + 3) L st D) : Gk X M ids pc L (vi (nI b) :: vi (nI a) :: st) D :=
  g_icmp_eq cx hd ht (fun q => kt ((nI_eq ha hb).mp q)) (fun q => kf (fun e => q ((nI_eq ha hb).mpr e)))
theorem g_icmp_neN {a b : Nat} {off : Int} {tgt : Nat} (cx : Cx X M ids d) (hd : decode M.2.1 pc = .ok (.if_icmp .ne off, 3)) (ht : (pc : Int) + off = (tgt : Int)) (ha : a < 2 ^ 31) (hb : b < 2 ^ 31) (kt : a ≠ b → Gk X M ids tgt L st D) (kf : a = b → Gk X M ids (pc + 3) L st D) : Gk X M ids pc L (vi (nI b) :: vi (nI a) :: st) D :=
  g_icmp_ne cx hd ht (fun q => kt (fun e => q ((nI_eq ha hb).mpr e))) (fun q => kf ((nI_eq ha hb).mp q))
theorem g_icmp_ltN {a b : Nat} {off : Int} {tgt : Nat} (cx : Cx X M ids d) (hd : decode M.2.1 pc = .ok (.if_icmp .lt off, 3)) (ht : (pc : Int) + off = (tgt : Int)) (ha : a < 2 ^ 31) (hb : b < 2 ^ 31) (kt : a < b → Gk X M ids tgt L st D) (kf : b ≤ a → Gk X M ids (pc + 3) L st D) : Gk X M ids pc L (vi (nI b) :: vi (nI a) :: st) D :=
  g_icmp_lt cx hd ht (fun q => kt ((nI_ltI ha hb).mp q)) (fun q => kf (Nat.le_of_not_lt (fun e => q ((nI_ltI ha hb).mpr e))))
theorem g_icmp_geN {a b : Nat} {off : Int} {tgt : Nat} (cx : Cx X M ids d) (hd : decode M.2.1 pc = .ok (.if_icmp .ge off, 3)) (ht : (pc : Int) + off = (tgt : Int)) (ha : a < 2 ^ 31) (hb : b < 2 ^ 31) (kt : b ≤ a → Gk X M ids tgt L st D) (kf : a < b → Gk X M ids (pc + 3) L st D) : Gk X M ids pc L (vi (nI b) :: vi (nI a) :: st) D :=
  g_icmp_ge cx hd ht (fun q => kt ((nI_leI hb ha).mp q)) (fun q => kf (Nat.lt_of_not_le (fun e => q ((nI_leI hb ha).mpr e))))
theorem g_icmp_gtN {a b : Nat} {off : Int} {tgt : Nat} (cx : Cx X M ids d) (hd : decode M.2.1 pc = .ok (.if_icmp .gt off, 3)) (ht : (pc : Int) + off = (tgt : Int)) (ha : a < 2 ^ 31) (hb : b < 2 ^ 31) (kt : b < a → Gk X M ids tgt L st D) (kf : a ≤ b → Gk X M ids (pc + 3) L st D) : Gk X M ids pc L (vi (nI b) :: vi (nI a) :: st) D :=
  g_icmp_gt cx hd ht (fun q => kt ((nI_ltI hb ha).mp q)) (fun q => kf (Nat.le_of_not_lt (fun e => q ((nI_ltI hb ha).mpr e))))
theorem g_icmp_leN {a b : Nat} {off : Int} {tgt : Nat} (cx : Cx X M ids d) (hd : decode M.2.1 pc = .ok (.if_icmp .le off, 3)) (ht : (pc : Int) + off = (tgt : Int)) (ha : a < 2 ^ 31) (hb : b < 2 ^ 31) (kt : a ≤ b → Gk X M ids tgt L st D) (kf : b < a → Gk X M ids (pc + 3) L st D) : Gk X M ids pc L (vi (nI b) :: vi (nI a) :: st) D :=
  g_icmp_le cx hd ht (fun q => kt ((nI_leI ha hb).mp q)) (fun q => kf (Nat.lt_of_not_le (fun e => q ((nI_leI ha hb).mpr e))))
theorem z_eq {a : Nat} (h : a < 2 ^ 31) : nI a = 0 ↔ a = 0 := by
  rw [← nI_0]; exact nI_eq h (by decide)
theorem z_gt {a : Nat} (h : a < 2 ^ 31) : 0 < nI a ↔ 0 < a := by
  rw [← nI_0]; exact nI_ltI (by decide) h
theorem z_le {a : Nat} (h : a < 2 ^ 31) : nI a ≤ 0 ↔ a = 0 := by
  rw [← nI_0, nI_leI h (by decide)]; omega
theorem z_lt {a : Nat} (h : a < 2 ^ 31) : ¬ nI a < 0 := nI_pos h
theorem g_if_eqN {a : Nat} {off : Int} {tgt : Nat} (cx : Cx X M ids d) (hd : decode M.2.1 pc = .ok (.ifCond .eq off, 3)) (ht : (pc : Int) + off = (tgt : Int)) (ha : a < 2 ^ 31) (kt : a = 0 → Gk X M ids tgt L st D) (kf : a ≠ 0 → Gk X M ids (pc + 3) L st D) : Gk X M ids pc L (vi (nI a) :: st) D :=
  g_if_eq cx hd ht (fun q => kt ((z_eq ha).mp q)) (fun q => kf (fun e => q ((z_eq ha).mpr e)))
theorem g_if_neN {a : Nat} {off : Int} {tgt : Nat} (cx : Cx X M ids d) (hd : decode M.2.1 pc = .ok (.ifCond .ne off, 3)) (ht : (pc : Int) + off = (tgt : Int)) (ha : a < 2 ^ 31) (kt : a ≠ 0 → Gk X M ids tgt L st D) (kf : a = 0 → Gk X M ids (pc + 3) L st D) : Gk X M ids pc L (vi (nI a) :: st) D :=
  g_if_ne cx hd ht (fun q => kt (fun e => q ((z_eq ha).mpr e))) (fun q => kf ((z_eq ha).mp q))
theorem g_if_gtN {a : Nat} {off : Int} {tgt : Nat} (cx : Cx X M ids d) (hd : decode M.2.1 pc = .ok (.ifCond .gt off, 3)) (ht : (pc : Int) + off = (tgt : Int)) (ha : a < 2 ^ 31) (kt : 0 < a → Gk X M ids tgt L st D) (kf : a = 0 → Gk X M ids (pc + 3) L st D) : Gk X M ids pc L (vi (nI a) :: st) D :=
  g_if_gt cx hd ht (fun q => kt ((z_gt ha).mp q)) (fun q => kf (Nat.eq_zero_of_not_pos (fun e => q ((z_gt ha).mpr e))))
theorem g_if_leN {a : Nat} {off : Int} {tgt : Nat} (cx : Cx X M ids d) (hd : decode M.2.1 pc = .ok (.ifCond .le off, 3)) (ht : (pc : Int) + off = (tgt : Int)) (ha : a < 2 ^ 31) (kt : a = 0 → Gk X M ids tgt L st D) (kf : 0 < a → Gk X M ids (pc + 3) L st D) : Gk X M ids pc L (vi (nI a) :: st) D :=
  g_if_le cx hd ht (fun q => kt ((z_le ha).mp q)) (fun q => kf (Nat.pos_of_ne_zero (fun e => q ((z_le ha).mpr e))))
theorem g_if_ltN {a : Nat} {off : Int} {tgt : Nat} (cx : Cx X M ids d) (hd : decode M.2.1 pc = .ok (.ifCond .lt off, 3)) (ht : (pc : Int) + off = (tgt : Int)) (ha : a < 2 ^ 31) (kf : Gk X M ids (pc + 3) L st D) : Gk X M ids pc L (vi (nI a) :: st) D :=
  g_if_lt cx hd ht (fun q => absurd q (z_lt ha)) (fun _ => kf)
theorem g_if_eqB {c : Prop} [Decidable c] {off : Int} {tgt : Nat} (cx : Cx X M ids d) (hd : decode M.2.1 pc = .ok (.ifCond .eq off, 3)) (ht : (pc : Int) + off = (tgt : Int)) (kt : ¬ c → Gk X M ids tgt L st D) (kf : c → Gk X M ids (pc + 3) L st D) : Gk X M ids pc L (vi (if c then 1 else 0) :: st) D :=
  g_if_eq cx hd ht (fun q => kt (fun e => by rw [if_pos e] at q; exact absurd q (by decide))) (fun q => kf (Classical.byContradiction (fun e => q (if_neg e))))
theorem g_if_neB {c : Prop} [Decidable c] {off : Int} {tgt : Nat} (cx : Cx X M ids d) (hd : decode M.2.1 pc = .ok (.ifCond .ne off, 3)) (ht : (pc : Int) + off = (tgt : Int)) (kt : c → Gk X M ids tgt L st D) (kf : ¬ c → Gk X M ids (pc + 3) L st D) : Gk X M ids pc L (vi (if c then 1 else 0) :: st) D :=
  g_if_ne cx hd ht (fun q => kt (Classical.byContradiction (fun e => q (if_neg e)))) (fun q => kf (fun e => by rw [if_pos e] at q; exact absurd q (by decide)))
theorem g_getIN {i : Id2} {ci k N ix : Nat} {fs : List (Option Id2)} {C : String} {T : u_T} {v : Int32} (cx : Cx X M ids d) (hi : i ∈ ids) (hs : sh i = .inl (ci, fs)) (hf : fs[k]? = some none) (hc : vwCl[ci]? = some (C, T, N)) (hk : k < N) (hin : ∀ w ∈ u_ws C T N, w ∈ TB) (hw : Cond.fieldLink M.1.cls ix (T k).1 (T k).2.1 (T k).2.2.1 ∈ TB) (hd : decode M.2.1 pc = .ok (.getfield ix, 3)) (hv : D i k = v) (kk : Gk X M ids (pc + 3) L (vi v :: st) D) : Gk X M ids pc L (vr i :: st) D :=
  g_getI cx hi hs hf hc hk hin hw hd (g_top hv kk)
theorem g_ialdN {i : Id2} {n j : Nat} {x v : Int32} (cx : Cx X M ids d) (hi : i ∈ ids) (hs : sh i = .inr (0, n, none)) (hx : x = nI j) (hj : j < n) (hn : n < 2 ^ 31) (hd : decode M.2.1 pc = .ok (.iaload, 1)) (hv : D i j = v) (kk : Gk X M ids (pc + 1) L (vi v :: st) D) : Gk X M ids pc L (vi x :: vr i :: st) D :=
  g_iald cx hi hs hx hj hn hd (g_top hv kk)
theorem g_fret {x : Int32} {ty : FieldType} {r : Option AV} {D' : Wd} (cx : Cx X M ids d) (rq : Rq X ids (fun r' D'' => r' = r ∧ D'' = D')) (hr : M.2.2.2 = some ty) (hn : narrow ty (.int x) = .int x) (hd : decode M.2.1 pc = .ok (.ireturn, 1)) (h1 : some (vi x) = r) (h2 : D = D') : Gk X M ids pc L [vi x] D :=
  g_ret cx rq hr hn hd ⟨h1, h2⟩
theorem g_fvret {r : Option AV} {D' : Wd} (cx : Cx X M ids d) (rq : Rq X ids (fun r' D'' => r' = r ∧ D'' = D')) (hr : M.2.2.2 = none) (hd : decode M.2.1 pc = .ok (.return_, 1)) (h1 : none = r) (h2 : D = D') : Gk X M ids pc L [] D :=
  g_vret cx rq hr hd ⟨h1, h2⟩
theorem g_fcallV {N : Mt} {ix n d' ci nf : Nat} {i : Id2} {As rest : List AV} {fs : List (Option Id2)} {T : u_T} {v : AV} {D' : Wd} (cx : Cx X M ids d) (hN : Kn N n) (hM : Fok N ids d' (vr i :: As) D (some v) D') (hi : i ∈ ids) (hs : sh i = .inl (ci, fs)) (hc : vwCl[ci]? = some (N.1.cls, T, nf)) (hw : Cond.methodLink M.1.cls ix N.1 ∈ TB) (hin : Cond.instanceMethod N.1 ∈ TB) (hse : Cond.selects N.1.cls N.1 N.1 ∈ TB) (hn : As.length = n) (hdd : d' + 1 ≤ d) (hr : rcat rest ≤ 8) (hst : st = As.reverse ++ vr i :: rest) (hd : decode M.2.1 pc = .ok (.invokevirtual ix, 3)) (kk : Gk X M ids (pc + 3) L (v :: rest) D') : Gk X M ids pc L st D :=
  g_callV cx hN hM hi hs hc hw hin hse hn hdd hr hst hd (fun r D2 h => by obtain ⟨rfl, rfl⟩ := h; exact kk)
theorem g_fcallVv {N : Mt} {ix n d' ci nf : Nat} {i : Id2} {As rest : List AV} {fs : List (Option Id2)} {T : u_T} {D' : Wd} (cx : Cx X M ids d) (hN : Kn N n) (hM : Fok N ids d' (vr i :: As) D none D') (hi : i ∈ ids) (hs : sh i = .inl (ci, fs)) (hc : vwCl[ci]? = some (N.1.cls, T, nf)) (hw : Cond.methodLink M.1.cls ix N.1 ∈ TB) (hin : Cond.instanceMethod N.1 ∈ TB) (hse : Cond.selects N.1.cls N.1 N.1 ∈ TB) (hn : As.length = n) (hdd : d' + 1 ≤ d) (hr : rcat rest ≤ 8) (hst : st = As.reverse ++ vr i :: rest) (hd : decode M.2.1 pc = .ok (.invokevirtual ix, 3)) (kk : Gk X M ids (pc + 3) L rest D') : Gk X M ids pc L st D :=
  g_callV cx hN hM hi hs hc hw hin hse hn hdd hr hst hd (fun r D2 h => by obtain ⟨rfl, rfl⟩ := h; exact kk)
theorem g_fcallS {N : Mt} {ix n d' : Nat} {As rest : List AV} {v : AV} {D' : Wd} (cx : Cx X M ids d) (hN : Kn N n) (hM : Fok N ids d' As D (some v) D') (hw : Cond.methodLink M.1.cls ix N.1 ∈ TB) (hstt : Cond.static N.1 ∈ TB) (hn : As.length = n) (hdd : d' + 1 ≤ d) (hr : rcat rest ≤ 8) (hst : st = As.reverse ++ rest) (hd : decode M.2.1 pc = .ok (.invokestatic ix, 3)) (kk : Gk X M ids (pc + 3) L (v :: rest) D') : Gk X M ids pc L st D :=
  g_callS cx hN hM hw hstt hn hdd hr hst hd (fun r D2 h => by obtain ⟨rfl, rfl⟩ := h; exact kk)
theorem g_fcallSN {N : Mt} {ix n d' : Nat} {host : String} {As rest : List AV} {v : AV} {D' : Wd} (cx : Cx X M ids d) (hN : Kn N n) (hM : Fok N ids d' As D (some v) D') (hw : (M.1.cls, ix, N.1, host) ∈ nwM) (hstt : Cond.static N.1 ∈ TB) (hn : As.length = n) (hdd : d' + 1 ≤ d) (hr : rcat rest ≤ 8) (hst : st = As.reverse ++ rest) (hd : decode M.2.1 pc = .ok (.invokestatic ix, 3)) (kk : Gk X M ids (pc + 3) L (v :: rest) D') : Gk X M ids pc L st D :=
  g_callSN cx hN hM hw hstt hn hdd hr hst hd (fun r D2 h => by obtain ⟨rfl, rfl⟩ := h; exact kk)
end NAT
end
section
/-! WHAT THE DOCUMENT SAYS, in numbers: rooms, steps, pushes -/
def nx (n i : Nat) : Nat := if i + 1 < n then i + 1 else 0
def bf (n i : Nat) : Nat := if i = 0 then n - 1 else i - 1
def onN (a b : Nat) : Nat := if a ≤ b then b - a else b + 72 - a
def wid (n : Nat) (a : Nat → Nat) (r : Nat) : Nat := onN (a r) (a (nx n r))
def anyB (p : Nat → Bool) : Nat → Bool
  | 0 => false
  | n + 1 => anyB p n || p n
def opC (n : Nat) (a dr : Nat → Nat) (r k : Nat) : Bool := decide (0 < onN (a r) (dr k)) && decide (onN (a r) (dr k) < wid n a r)
def opn (n : Nat) (a : Nat → Nat) (dn : Nat) (dr : Nat → Nat) (r : Nat) : Bool := anyB (opC n a dr r) dn
def rmB (n i s : Nat) : Nat := if s = 0 then i else bf n i
def lfB (n i s : Nat) : Nat := if s = 0 then nx n i else bf n i
def movG (n : Nat) (a k f : Nat → Nat) (s : Nat) : Nat → Nat → Nat → Nat
  | 0, _, many => many
  | fu + 1, last, many => if f (rmB n last s) + 1 < wid n a (rmB n last s) then many else if 1 < k (lfB n last s) then 0 else movG n a k f s fu (lfB n last s) (many + 1)
def mov (n : Nat) (a k f : Nat → Nat) (i s : Nat) : Nat := if k i = 3 then 0 else movG n a k f s (n - 1) i 1
def inM (n m i s j : Nat) : Bool := decide ((if s = 0 then (j + n - i) % n else (i + n - j) % n) < m)
def sa (s x : Nat) : Nat := if s = 0 then (x + 1) % 72 else (x + 71) % 72
def stp (n : Nat) (a k f : Nat → Nat) (i s : Nat) : Nat → Nat := fun j => if inM n (mov n a k f i s) i s j then sa s (a j) else a j
theorem nx_lt {n i : Nat} (h : 0 < n) : nx n i < n := by unfold nx; split <;> omega
theorem bf_lt {n i : Nat} (h : i < n) : bf n i < n := by unfold bf; split <;> omega
theorem nx_mod {n i : Nat} (h : i < n) : (i + 1) % n = nx n i := by
  unfold nx
  split
  · exact Nat.mod_eq_of_lt (by omega)
  · have e : i + 1 = n := by omega
    rw [e, Nat.mod_self]
theorem bf_mod {n i : Nat} (h : i < n) : (i + n - 1) % n = bf n i := by
  unfold bf
  split
  · have e : i + n - 1 = n - 1 := by omega
    rw [e]; exact Nat.mod_eq_of_lt (by omega)
  · have e : i + n - 1 = (i - 1) + n := by omega
    rw [e, Nat.add_mod_right]; exact Nat.mod_eq_of_lt (by omega)
theorem onN_mod {a b : Nat} (ha : a < 72) (hb : b < 72) : (b + 72 - a) % 72 = onN a b := by
  unfold onN
  split <;> omega
theorem onN_lt {a b : Nat} (ha : a < 72) (hb : b < 72) : onN a b < 72 := by
  unfold onN; split <;> omega
theorem wid_lt {n : Nat} {a : Nat → Nat} {r : Nat} (hr : r < n) (ha : ∀ j, j < n → a j < 72) : wid n a r < 72 := onN_lt (ha _ hr) (ha _ (nx_lt (by omega)))
theorem rmB_lt {n i s : Nat} (h : i < n) : rmB n i s < n := by unfold rmB; split; exact h; exact bf_lt h
theorem lfB_lt {n i s : Nat} (h : i < n) : lfB n i s < n := by unfold lfB; split; exact nx_lt (by omega); exact bf_lt h
theorem anyB_iff {p : Nat → Bool} : ∀ {n : Nat}, anyB p n = true ↔ ∃ k, k < n ∧ p k = true
  | 0 => by simp [anyB]
  | n + 1 => by
    rw [anyB, Bool.or_eq_true, anyB_iff]
    constructor
    · rintro (⟨k, h1, h2⟩ | h)
      · exact ⟨k, by omega, h2⟩
      · exact ⟨n, by omega, h⟩
    · rintro ⟨k, h1, h2⟩
      by_cases e : k = n
      · subst e; exact Or.inr h2
      · exact Or.inl ⟨k, by omega, h2⟩
theorem movG_le (n : Nat) (a k f : Nat → Nat) (s : Nat) : ∀ fu last many, movG n a k f s fu last many ≤ fu + many
  | 0, _, many => by simp [movG]
  | fu + 1, last, many => by
    rw [movG]
    split
    · omega
    · split
      · omega
      · have := movG_le n a k f s fu (lfB n last s) (many + 1); omega
theorem mov_le {n : Nat} {a k f : Nat → Nat} {i s : Nat} (h : 0 < n) : mov n a k f i s ≤ n := by
  unfold mov
  split
  · omega
  · have := movG_le n a k f s (n - 1) i 1; omega
theorem sa_lt (s x : Nat) : sa s x < 72 := by unfold sa; split <;> omega
theorem stp_lt {n : Nat} {a k f : Nat → Nat} {i s : Nat} {j : Nat} (h : a j < 72) : stp n a k f i s j < 72 := by
  unfold stp; split; exact sa_lt _ _; exact h
/-! rows of a world that hold numbers -/
def putA (w : Nat → Int32) (b n : Nat) (a : Nat → Nat) : Nat → Int32 := fun q => if b ≤ q ∧ q < b + n then nI (a (q - b)) else w q
theorem putA_in {w : Nat → Int32} {b n : Nat} {a : Nat → Nat} {j : Nat} (h : j < n) : putA w b n a (b + j) = nI (a j) := by
  unfold putA; rw [if_pos ⟨by omega, by omega⟩]; congr 2; omega
theorem putA_out {w : Nat → Int32} {b n : Nat} {a : Nat → Nat} {q : Nat} (h : ¬ (b ≤ q ∧ q < b + n)) : putA w b n a q = w q := by
  unfold putA; rw [if_neg h]
theorem putA_put (w : Nat → Int32) (b n : Nat) (a a' : Nat → Nat) : putA (putA w b n a) b n a' = putA w b n a' := by
  funext q; unfold putA; split <;> rfl
theorem putA_self {w : Nat → Int32} {b n : Nat} {a : Nat → Nat} (h : ∀ j, j < n → w (b + j) = nI (a j)) : putA w b n a = w := by
  funext q; unfold putA; split
  · rename_i c; rw [← h (q - b) (by omega)]; congr 1; omega
  · rfl
theorem putA_congr {w : Nat → Int32} {b n : Nat} {a a' : Nat → Nat} (h : ∀ j, j < n → a j = a' j) : putA w b n a = putA w b n a' := by
  funext q; unfold putA; split
  · rename_i c; rw [h (q - b) (by omega)]
  · rfl
theorem upA_up (D : Wd) (i : Id2) (f g : Nat → Int32) : upA (upA D i f) i g = upA D i g := by
  funext j; unfold upA; split <;> rfl
theorem upA_self (D : Wd) (i : Id2) : upA D i (D i) = D := by
  funext j; unfold upA; split
  · rename_i h; rw [h]
  · rfl
theorem upA_swap (D : Wd) {i j : Id2} (f g : Nat → Int32) (h : i ≠ j) : upA (upA D i f) j g = upA (upA D j g) i f := by
  funext q; unfold upA
  by_cases h1 : q = j
  · have h2 : ¬ q = i := fun e => h (e.symm.trans h1)
    simp [h1, h2, Ne.symm h]
  · simp [h1]
/-! the reference's plan and rows -/
def PM (D : Wd) (n : Nat) (k f : Nat → Nat) (dn : Nat) (dr : Nat → Nat) (pn : Nat) : Prop :=
  3 ≤ n ∧ n ≤ 8 ∧ D (30, 0) 6 = nI n ∧ (∀ j, j < n → D (35, 0) j = nI (k j) ∧ k j < 4) ∧ (∀ j, j < n → D (36, 0) j = nI (f j) ∧ f j ≤ 20) ∧ dn ≤ 3 ∧ D (30, 0) 10 = nI dn ∧ (∀ j, j < dn → D (37, 0) j = nI (dr j) ∧ dr j < 72) ∧ pn ≤ 5 ∧ D (30, 0) 11 = nI pn
def AM (D : Wd) (b n : Nat) (a : Nat → Nat) : Prop := ∀ j, j < n → D (31, 0) (b + j) = nI (a j) ∧ a j < 72
theorem nI_on {a b : Nat} (ha : a < 72) : nI b - nI a + nI 72 = nI (b + 72 - a) := by
  have e : nI (b + 72 - a) = nI b + nI 72 - nI a := by rw [nI_add, pk_sub (by omega)]
  rw [e]
  generalize nI a = x; generalize nI b = y; generalize nI 72 = z
  apply Int32.toBitVec_inj.mp
  simp only [Int32.toBitVec_add, Int32.toBitVec_sub]
  rw [BitVec.sub_eq_add_neg, BitVec.sub_eq_add_neg, BitVec.add_assoc, BitVec.add_assoc, BitVec.add_comm (-x.toBitVec)]
abbrev idsA : List Id2 := idsX ++ idsM
theorem a0_0 : (0, 0) ∈ idsA := by decide
theorem a7_0 : (7, 0) ∈ idsA := by decide
theorem a8_0 : (8, 0) ∈ idsA := by decide
theorem a12_0 : (12, 0) ∈ idsA := by decide
theorem a13_0 : (13, 0) ∈ idsA := by decide
theorem a14_0 : (14, 0) ∈ idsA := by decide
theorem a15_0 : (15, 0) ∈ idsA := by decide
theorem a16_0 : (16, 0) ∈ idsA := by decide
theorem a17_0 : (17, 0) ∈ idsA := by decide
theorem a18_0 : (18, 0) ∈ idsA := by decide
theorem a19_0 : (19, 0) ∈ idsA := by decide
theorem a20_0 : (20, 0) ∈ idsA := by decide
theorem a1_0 : (1, 0) ∈ idsA := by decide
theorem a2_0 : (2, 0) ∈ idsA := by decide
theorem a3_0 : (3, 0) ∈ idsA := by decide
theorem a4_0 : (4, 0) ∈ idsA := by decide
theorem a5_0 : (5, 0) ∈ idsA := by decide
theorem a6_0 : (6, 0) ∈ idsA := by decide
theorem a1_1 : (1, 1) ∈ idsA := by decide
theorem a2_1 : (2, 1) ∈ idsA := by decide
theorem a3_1 : (3, 1) ∈ idsA := by decide
theorem a4_1 : (4, 1) ∈ idsA := by decide
theorem a5_1 : (5, 1) ∈ idsA := by decide
theorem a6_1 : (6, 1) ∈ idsA := by decide
theorem a9_0 : (9, 0) ∈ idsA := by decide
theorem a10_0 : (10, 0) ∈ idsA := by decide
theorem a11_0 : (11, 0) ∈ idsA := by decide
theorem a9_1 : (9, 1) ∈ idsA := by decide
theorem a10_1 : (10, 1) ∈ idsA := by decide
theorem a11_1 : (11, 1) ∈ idsA := by decide
theorem a9_2 : (9, 2) ∈ idsA := by decide
theorem a10_2 : (10, 2) ∈ idsA := by decide
theorem a11_2 : (11, 2) ∈ idsA := by decide
theorem a9_3 : (9, 3) ∈ idsA := by decide
theorem a10_3 : (10, 3) ∈ idsA := by decide
theorem a11_3 : (11, 3) ∈ idsA := by decide
theorem a9_4 : (9, 4) ∈ idsA := by decide
theorem a10_4 : (10, 4) ∈ idsA := by decide
theorem a11_4 : (11, 4) ∈ idsA := by decide
theorem a9_5 : (9, 5) ∈ idsA := by decide
theorem a10_5 : (10, 5) ∈ idsA := by decide
theorem a11_5 : (11, 5) ∈ idsA := by decide
theorem a9_6 : (9, 6) ∈ idsA := by decide
theorem a10_6 : (10, 6) ∈ idsA := by decide
theorem a11_6 : (11, 6) ∈ idsA := by decide
theorem a9_7 : (9, 7) ∈ idsA := by decide
theorem a10_7 : (10, 7) ∈ idsA := by decide
theorem a11_7 : (11, 7) ∈ idsA := by decide
theorem a9_8 : (9, 8) ∈ idsA := by decide
theorem a10_8 : (10, 8) ∈ idsA := by decide
theorem a11_8 : (11, 8) ∈ idsA := by decide
theorem a9_9 : (9, 9) ∈ idsA := by decide
theorem a10_9 : (10, 9) ∈ idsA := by decide
theorem a11_9 : (11, 9) ∈ idsA := by decide
theorem a9_10 : (9, 10) ∈ idsA := by decide
theorem a10_10 : (10, 10) ∈ idsA := by decide
theorem a11_10 : (11, 10) ∈ idsA := by decide
theorem a30_0 : (30, 0) ∈ idsA := by decide
theorem a31_0 : (31, 0) ∈ idsA := by decide
theorem a32_0 : (32, 0) ∈ idsA := by decide
theorem a33_0 : (33, 0) ∈ idsA := by decide
theorem a34_0 : (34, 0) ∈ idsA := by decide
theorem a35_0 : (35, 0) ∈ idsA := by decide
theorem a36_0 : (36, 0) ∈ idsA := by decide
theorem a37_0 : (37, 0) ∈ idsA := by decide
theorem a38_0 : (38, 0) ∈ idsA := by decide
theorem a39_0 : (39, 0) ∈ idsA := by decide
theorem a40_0 : (40, 0) ∈ idsA := by decide
theorem a41_0 : (41, 0) ∈ idsA := by decide
theorem a42_0 : (42, 0) ∈ idsA := by decide
theorem a43_0 : (43, 0) ∈ idsA := by decide
theorem aH9 : ∀ h, h < 11 → (9, h) ∈ idsA := by decide
theorem aH10 : ∀ h, h < 11 → (10, h) ∈ idsA := by decide
theorem aH11 : ∀ h, h < 11 → (11, h) ∈ idsA := by decide
theorem aP1 : ∀ h, h < 2 → (1, h) ∈ idsA := by decide
theorem aP2 : ∀ h, h < 2 → (2, h) ∈ idsA := by decide
theorem aP3 : ∀ h, h < 2 → (3, h) ∈ idsA := by decide
theorem aP4 : ∀ h, h < 2 → (4, h) ∈ idsA := by decide
theorem aP5 : ∀ h, h < 2 → (5, h) ∈ idsA := by decide
theorem aP6 : ∀ h, h < 2 → (6, h) ∈ idsA := by decide
end
section
set_option maxRecDepth 100000 in
set_option maxHeartbeats 4000000 in
theorem m_in {D : Wd} (v a c : Int64) : Fok mX6_in idsA 0 [vl v, vl a, vl c] D (some (vi (if a ≤ v ∧ v ≤ c then 1 else 0))) D := by
  refine Mok.of (L := [some (vl v), none, some (vl a), none, some (vl c), none]) rfl (fun _ => Nat.le_of_ble_eq_true rfl) (fun _ => rfl) (fun X cx rq => ?_)
  refine g_lload_n cx dX6_in_0 rfl ?_
  refine g_lload_n cx dX6_in_1 rfl ?_
  refine g_lcmp cx dX6_in_2 ?_
  refine g_if_lt (tgt := 17) cx dX6_in_3 (by decide) (fun h_3 => ?_) (fun h_3 => ?_)
  · skip
    rw [lg_cmp_lt] at h_3
    refine g_iconst (v := nI 0) cx dX6_in_17 (by decide) ?_
    exact g_fret cx rq rfl (by rfl) dX6_in_18 (by rw [if_neg (by first | exact fun q => absurd h_3 (Int64.not_lt.mpr q.1) | exact fun q => absurd h_10 (Int64.not_lt.mpr q.2))]; rfl) (rfl)
  · skip
    rw [lg_cmp_lt] at h_3
    refine g_lload_n cx dX6_in_6 rfl ?_
    refine g_lload cx dX6_in_7 rfl ?_
    refine g_lcmp cx dX6_in_9 ?_
    refine g_if_gt (tgt := 17) cx dX6_in_10 (by decide) (fun h_10 => ?_) (fun h_10 => ?_)
    · skip
      rw [lg_cmp_gt] at h_10
      refine g_iconst (v := nI 0) cx dX6_in_17 (by decide) ?_
      exact g_fret cx rq rfl (by rfl) dX6_in_18 (by rw [if_neg (by first | exact fun q => absurd h_3 (Int64.not_lt.mpr q.1) | exact fun q => absurd h_10 (Int64.not_lt.mpr q.2))]; rfl) (rfl)
    · skip
      rw [lg_cmp_gt] at h_10
      refine g_iconst (v := nI 1) cx dX6_in_13 (by decide) ?_
      refine g_goto (tgt := 18) cx dX6_in_14 (by decide) ?_
      exact g_fret cx rq rfl (by rfl) dX6_in_18 (by rw [if_pos ⟨Int64.not_lt.mp h_3, Int64.not_lt.mp h_10⟩]; rfl) (rfl)

set_option maxRecDepth 100000 in
set_option maxHeartbeats 4000000 in
theorem m_on {D : Wd} {a c : Nat} (ha : a < 72) (hc : c < 72) : Fok mX6_on idsA 0 [vi (nI a), vi (nI c)] D (some (vi (nI (onN a c)))) D := by
  refine Mok.of (L := [some (vi (nI a)), some (vi (nI c))]) rfl (fun _ => Nat.le_of_ble_eq_true rfl) (fun _ => rfl) (fun X cx rq => ?_)
  refine g_iload_n cx dX6_on_0 rfl ?_
  refine g_iload_n cx dX6_on_1 rfl ?_
  refine g_isub cx dX6_on_2 ?_
  refine g_bipush (v := nI 72) cx dX6_on_3 (by decide) ?_
  refine g_iadd cx dX6_on_5 ?_
  refine g_top (nI_on ha) ?_
  refine g_bipush (v := nI 72) cx dX6_on_6 (by decide) ?_
  refine g_iremN cx dX6_on_8 (by omega) (by omega) (by omega) ?_
  exact g_fret cx rq rfl (rfl) dX6_on_9 (by rw [onN_mod ha hc]) (rfl)

set_option maxRecDepth 100000 in
set_option maxHeartbeats 4000000 in
theorem m_next {D : Wd} {n : Nat} {k f : Nat → Nat} {dn : Nat} {dr : Nat → Nat} {pn : Nat} (hP : PM D n k f dn dr pn) {i : Nat} (hi : i < n) : Fok mX6_next idsA 0 [vr (30, 0), vi (nI i)] D (some (vi (nI (nx n i)))) D := by
  obtain ⟨hn3, hn8, hN, hK, hF, hd3, hDn, hDr, hp5, hPn⟩ := id hP
  refine Mok.of (L := [some (vr (30, 0)), some (vi (nI i))]) rfl (fun _ => Nat.le_of_ble_eq_true rfl) (fun _ => rfl) (fun X cx rq => ?_)
  refine g_iload_n cx dX6_next_0 rfl ?_
  refine g_iconst (v := nI 1) cx dX6_next_1 (by decide) ?_
  refine g_iaddN cx dX6_next_2 ?_
  refine g_aload_n cx dX6_next_3 rfl ?_
  refine g_getIN (i := (30, 0)) (ci := 6) (k := 6) (v := nI n) cx a30_0 rfl rfl rfl (by decide) inX6 lfX6_23 dX6_next_4 (hN) ?_
  refine g_iremN cx dX6_next_7 (by omega) (by omega) (by omega) ?_
  exact g_fret cx rq rfl (rfl) dX6_next_8 (by rw [nx_mod hi]) (rfl)

set_option maxRecDepth 100000 in
set_option maxHeartbeats 4000000 in
theorem m_ahead {D : Wd} {n : Nat} {k f : Nat → Nat} {dn : Nat} {dr : Nat → Nat} {pn : Nat} (hP : PM D n k f dn dr pn) {i : Nat} (hi : i < n) : Fok mX6_ahead idsA 0 [vr (30, 0), vi (nI i)] D (some (vi (nI (bf n i)))) D := by
  obtain ⟨hn3, hn8, hN, hK, hF, hd3, hDn, hDr, hp5, hPn⟩ := id hP
  refine Mok.of (L := [some (vr (30, 0)), some (vi (nI i))]) rfl (fun _ => Nat.le_of_ble_eq_true rfl) (fun _ => rfl) (fun X cx rq => ?_)
  refine g_iload_n cx dX6_ahead_0 rfl ?_
  refine g_aload_n cx dX6_ahead_1 rfl ?_
  refine g_getIN (i := (30, 0)) (ci := 6) (k := 6) (v := nI n) cx a30_0 rfl rfl rfl (by decide) inX6 lfX6_23 dX6_ahead_2 (hN) ?_
  refine g_iaddN cx dX6_ahead_5 ?_
  refine g_iconst (v := nI 1) cx dX6_ahead_6 (by decide) ?_
  refine g_isubN cx dX6_ahead_7 (by omega) ?_
  refine g_aload_n cx dX6_ahead_8 rfl ?_
  refine g_getIN (i := (30, 0)) (ci := 6) (k := 6) (v := nI n) cx a30_0 rfl rfl rfl (by decide) inX6 lfX6_23 dX6_ahead_9 (hN) ?_
  refine g_iremN cx dX6_ahead_12 (by omega) (by omega) (by omega) ?_
  exact g_fret cx rq rfl (rfl) dX6_ahead_13 (by rw [bf_mod hi]) (rfl)

set_option maxRecDepth 100000 in
set_option maxHeartbeats 4000000 in
theorem m_width {D : Wd} {n : Nat} {k f : Nat → Nat} {dn : Nat} {dr : Nat → Nat} {pn : Nat} (hP : PM D n k f dn dr pn) {bs : Nat} {a : Nat → Nat} (hA : AM D bs n a) (hb : bs + 14 ≤ 70) {i : Nat} (hi : i < n) : Fok mX6_width idsA 1 [vr (30, 0), vi (nI bs), vi (nI i)] D (some (vi (nI (wid n a i)))) D := by
  obtain ⟨hn3, hn8, hN, hK, hF, hd3, hDn, hDr, hp5, hPn⟩ := id hP
  have hnx := nx_lt (n := n) (i := i) (by omega)
  refine Mok.of (L := [some (vr (30, 0)), some (vi (nI bs)), some (vi (nI i))]) rfl (fun _ => Nat.le_of_ble_eq_true rfl) (fun _ => rfl) (fun X cx rq => ?_)
  refine g_aload_n cx dX6_width_0 rfl ?_
  refine g_getR (i := (30, 0)) (ci := 6) (k := 0) (j := (31, 0)) cx a30_0 rfl rfl rfl (by decide) inX6 lfX6_7 dX6_width_1 ?_
  refine g_iload_n cx dX6_width_4 rfl ?_
  refine g_iload_n cx dX6_width_5 rfl ?_
  refine g_iaddN cx dX6_width_6 ?_
  refine g_ialdN (i := (31, 0)) (j := bs + i) (v := nI (a i)) cx a31_0 rfl (rfl) (by omega) (by decide) dX6_width_7 ((hA i (by omega)).1) ?_
  refine g_aload_n cx dX6_width_8 rfl ?_
  refine g_getR (i := (30, 0)) (ci := 6) (k := 0) (j := (31, 0)) cx a30_0 rfl rfl rfl (by decide) inX6 lfX6_7 dX6_width_9 ?_
  refine g_iload_n cx dX6_width_12 rfl ?_
  refine g_aload_n cx dX6_width_13 rfl ?_
  refine g_iload_n cx dX6_width_14 rfl ?_
  refine g_fcallV (As := [vi (nI i)]) (rest := [vi (nI bs), vr (31, 0), vi (nI (a i))]) cx knX6_next (m_next hP (i := i) (by omega)) a30_0 rfl rfl lmX6_177 niX6_next seX6_next rfl (by decide) (Nat.le_of_ble_eq_true rfl) rfl dX6_width_15 ?_
  refine g_iaddN cx dX6_width_18 ?_
  refine g_ialdN (i := (31, 0)) (j := bs + (nx n i)) (v := nI (a (nx n i))) cx a31_0 rfl (rfl) (by omega) (by decide) dX6_width_19 ((hA (nx n i) (by omega)).1) ?_
  refine g_fcallS (As := [vi (nI (a i)), vi (nI (a (nx n i)))]) (rest := []) cx knX6_on (m_on (a := a i) (c := a (nx n i)) ((hA i (by omega)).2) ((hA (nx n i) (by omega)).2)) lmX6_54 nsX6_on rfl (by decide) (Nat.le_of_ble_eq_true rfl) rfl dX6_width_20 ?_
  exact g_fret cx rq rfl (rfl) dX6_width_23 (rfl) (rfl)
end
section
/-! bits of small numbers; who moves with whom -/
def bitsN (p : Nat → Bool) : Nat → Nat
  | 0 => 0
  | n + 1 => bitsN p n + if p n then 2 ^ n else 0
theorem bitsN_lt (p : Nat → Bool) : ∀ n, bitsN p n < 2 ^ n
  | 0 => by simp [bitsN]
  | n + 1 => by
    have := bitsN_lt p n
    rw [bitsN, Nat.pow_succ]
    split <;> omega
theorem bitsN_tb (p : Nat → Bool) : ∀ n j, (bitsN p n).testBit j = (decide (j < n) && p j)
  | 0, j => by simp [bitsN]
  | n + 1, j => by
    rw [bitsN]
    have hlt := bitsN_lt p n
    by_cases hp : p n = true
    · rw [if_pos hp, Nat.add_comm]
      by_cases hj : j = n
      · subst hj
        rw [Nat.testBit_two_pow_add_eq, bitsN_tb p j j]
        simp [hp]
      · rcases Nat.lt_or_gt_of_ne hj with h | h
        · rw [Nat.testBit_two_pow_add_gt h, bitsN_tb p n j]
          simp [h, Nat.lt_succ_of_lt h]
        · have h1 : (2 ^ n + bitsN p n) < 2 ^ j := by
            have : 2 ^ (n + 1) ≤ 2 ^ j := Nat.pow_le_pow_right (by decide) h
            rw [Nat.pow_succ] at this; omega
          rw [Nat.testBit_lt_two_pow h1]
          have : ¬ j < n + 1 := by omega
          simp [this]
    · rw [if_neg hp, Nat.add_zero, bitsN_tb p n j]
      by_cases hj : j = n
      · subst hj; simp [hp]
      · have : (j < n) ↔ (j < n + 1) := by omega
        simp [this]
theorem bitsN_or (p : Nat → Bool) {n t : Nat} (ht : t < n) : bitsN p n ||| 2 ^ t = bitsN (fun j => p j || decide (j = t)) n := by
  apply Nat.eq_of_testBit_eq
  intro j
  rw [Nat.testBit_or, bitsN_tb, bitsN_tb, Nat.testBit_two_pow]
  by_cases hj : j = t
  · subst hj; simp [ht]
  · have : ¬ t = j := fun e => hj e.symm
    simp [hj, this]
theorem bitsN_congr {p q : Nat → Bool} : ∀ {n : Nat}, (∀ j, j < n → p j = q j) → bitsN p n = bitsN q n
  | 0, _ => rfl
  | n + 1, h => by rw [bitsN, bitsN, bitsN_congr (fun j hj => h j (by omega)), h n (by omega)]
theorem bitsN_0 {p : Nat → Bool} : ∀ {n : Nat}, (∀ j, j < n → p j = false) → bitsN p n = 0
  | 0, _ => rfl
  | n + 1, h => by rw [bitsN, bitsN_0 (fun j hj => h j (by omega)), h n (by omega)]; rfl
theorem bitsN_pos {p : Nat → Bool} {n j : Nat} (hj : j < n) (h : p j = true) : bitsN p n ≠ 0 := by
  intro e
  have h1 := bitsN_tb p n j
  rw [e] at h1
  simp [hj, h] at h1
theorem bitsN_one {n t : Nat} (ht : t < n) : bitsN (fun j => decide (j = t)) n = 2 ^ t := by
  apply Nat.eq_of_testBit_eq
  intro j
  rw [bitsN_tb, Nat.testBit_two_pow]
  by_cases hj : j = t
  · subst hj; simp [ht]
  · have : ¬ t = j := fun e => hj e.symm
    simp [hj, this]
theorem nI_or (a b : Nat) : nI a ||| nI b = nI (a ||| b) := by
  apply Int32.toBitVec_inj.1
  show BitVec.ofNat 32 a ||| BitVec.ofNat 32 b = BitVec.ofNat 32 (a ||| b)
  apply BitVec.eq_of_getLsbD_eq
  intro i hi
  simp [hi]
theorem nI_shl : ∀ t, t < 8 → nI 1 <<< (nI t &&& 31) = nI (2 ^ t) := by decide +kernel
theorem nI_bit : ∀ v, v < 256 → ∀ t, t < 8 → (nI v >>> (nI t &&& 31)) &&& nI 1 = nI (v / 2 ^ t % 2) := by decide +kernel
theorem tb_div (v t : Nat) : v / 2 ^ t % 2 = 1 ↔ v.testBit t = true := by
  rw [Nat.testBit_eq_decide_div_mod_eq]; simp
theorem bi_t {c : Prop} [Decidable c] (h : c) : (if c then (1 : Int32) else 0) = nI 1 := by rw [if_pos h]; decide
theorem bi_f {c : Prop} [Decidable c] (h : ¬ c) : (if c then (1 : Int32) else 0) = nI 0 := by rw [if_neg h]; decide
/-! how far on (or back) a leaf is from another -/
def dst (n i s j : Nat) : Nat := if s = 0 then (j + n - i) % n else (i + n - j) % n
theorem dst_0 : ∀ n, n < 9 → ∀ i, i < n → ∀ s, s < 2 → dst n i s i = 0 := by decide +kernel
theorem dst_lf : ∀ n, n < 9 → ∀ i, i < n → ∀ s, s < 2 → ∀ j, j < n → dst n i s (lfB n j s) = if dst n i s j + 1 = n then 0 else dst n i s j + 1 := by decide +kernel
theorem dst_lt : ∀ n, n < 9 → ∀ i, i < n → ∀ s, s < 2 → ∀ j, j < n → dst n i s j < n := by decide +kernel
theorem dst_injB : ((List.range 9).all fun n => (List.range n).all fun i => (List.range 2).all fun s => (List.range n).all fun j => (List.range n).all fun t => (dst n i s j != dst n i s t) || j == t) = true := by decide +kernel
theorem dst_inj (n : Nat) (hn : n < 9) (i : Nat) (hi : i < n) (s : Nat) (hs : s < 2) (j : Nat) (hj : j < n) (t : Nat) (ht : t < n) (h : dst n i s j = dst n i s t) : j = t := by
  have h1 := dst_injB
  simp only [List.all_eq_true, List.mem_range] at h1
  have h2 := h1 n hn i hi s hs j hj t ht
  simpa [h] using h2
theorem inM_dst (n m i s j : Nat) : inM n m i s j = decide (dst n i s j < m) := rfl
theorem inM_next {n i s c w : Nat} (hn : n < 9) (hi : i < n) (hs : s < 2) (hw : w < n) (hc : dst n i s w = c) : bitsN (inM n c i s) n ||| 2 ^ w = bitsN (inM n (c + 1) i s) n := by
  rw [bitsN_or _ hw]
  apply bitsN_congr
  intro j hj
  rw [inM_dst, inM_dst]
  by_cases h : j = w
  · subst h; simp [hc]
  · have h1 : dst n i s j ≠ c := fun e => h (dst_inj n hn i hi s hs j hj w hw (e.trans hc.symm))
    have h2 : dst n i s j < c + 1 ↔ dst n i s j < c := by omega
    simp [h, h2]
theorem inM_one {n i s : Nat} (hn : n < 9) (hi : i < n) (hs : s < 2) : 2 ^ i = bitsN (inM n 1 i s) n := by
  rw [← bitsN_one hi]
  apply bitsN_congr
  intro j hj
  rw [inM_dst]
  by_cases h : j = i
  · subst h; simp [dst_0 n hn j hi s hs]
  · have h1 : dst n i s j ≠ 0 := fun e => h (dst_inj n hn i hi s hs j hj i hi (e.trans (dst_0 n hn i hi s hs).symm))
    have h2 : ¬ dst n i s j < 1 := by omega
    simp [h, h2]
theorem inM_zero (n i s : Nat) : bitsN (inM n 0 i s) n = 0 := bitsN_0 (fun j _ => by simp [inM])
theorem bits256 {p : Nat → Bool} {n : Nat} (h : n ≤ 8) : bitsN p n < 256 := Nat.lt_of_lt_of_le (bitsN_lt p n) (Nat.pow_le_pow_right (by decide) h)
theorem mset_ne {n m i s : Nat} (hn : n < 9) (hi : i < n) (hs : s < 2) : bitsN (inM n m i s) n = 0 ↔ m = 0 := by
  constructor
  · intro h
    rcases Nat.eq_zero_or_pos m with e | e
    · exact e
    · exact absurd h (bitsN_pos hi (by rw [inM_dst, dst_0 n hn i hi s hs]; simpa using e))
  · intro h; subst h; exact inM_zero n i s
theorem any_1 {p : Nat → Bool} {q : Nat} (h : anyB p q = true) : anyB p (q + 1) = true := by rw [anyB, h]; rfl
theorem any_2 {p : Nat → Bool} {q : Nat} (h : p q = true) : anyB p (q + 1) = true := by rw [anyB, h, Bool.or_true]
theorem any_0 {p : Nat → Bool} {q : Nat} (h : ¬ anyB p q = true) (h2 : p q = false) : ¬ anyB p (q + 1) = true := by
  rw [anyB, h2, Bool.or_false]; exact h
theorem opC_t {n : Nat} {a dr : Nat → Nat} {r k : Nat} (h1 : 0 < onN (a r) (dr k)) (h2 : onN (a r) (dr k) < wid n a r) : opC n a dr r k = true := by simp [opC, h1, h2]
theorem opC_f1 {n : Nat} {a dr : Nat → Nat} {r k : Nat} (h1 : onN (a r) (dr k) = 0) : opC n a dr r k = false := by simp [opC, h1]
theorem opC_f2 {n : Nat} {a dr : Nat → Nat} {r k : Nat} (h1 : wid n a r ≤ onN (a r) (dr k)) : opC n a dr r k = false := by
  have : ¬ onN (a r) (dr k) < wid n a r := by omega
  simp [opC, this]
theorem g_drop {X : Cxt} {M : Mt} {ids : List Id2} {pc : Nat} {L : Lc} {st : List AV} {D : Wd} {L' : Lc} (i : Nat) (h : L.set i none = L') (k : Gk X M ids pc L' st D) : Gk X M ids pc L st D := by
  subst h
  intro H locs ls hH hL
  refine k H locs ls hH ⟨hL.1, hL.2.1, fun j v hj => hL.2.2 j v ?_⟩
  by_cases e : i = j
  · subst e
    by_cases hl : i < L.length
    · rw [List.getElem?_set_self hl] at hj; cases hj
    · rw [List.getElem?_eq_none (by simp; omega)] at hj; cases hj
  · rw [List.getElem?_set_ne e] at hj; exact hj
theorem movG_wide {n : Nat} {a k f : Nat → Nat} {s w m : Nat} (h : f (rmB n w s) + 1 < wid n a (rmB n w s)) : ∀ fu, movG n a k f s fu w m = m
  | 0 => rfl
  | fu + 1 => by rw [movG, if_pos h]
end
section
set_option maxRecDepth 100000 in
set_option maxHeartbeats 4000000 in
theorem m_isOpen {D : Wd} {n : Nat} {k f : Nat → Nat} {dn : Nat} {dr : Nat → Nat} {pn : Nat} (hP : PM D n k f dn dr pn) {bs : Nat} {a : Nat → Nat} (hA : AM D bs n a) (hb : bs + 14 ≤ 70) {i : Nat} (hi : i < n) : Fok mX6_isOpen idsA 2 [vr (30, 0), vi (nI bs), vi (nI i)] D (some (vi (if opn n a dn dr i = true then 1 else 0))) D := by
  obtain ⟨hn3, hn8, hN, hK, hF, hd3, hDn, hDr, hp5, hPn⟩ := id hP
  refine Mok.of (L := [some (vr (30, 0)), some (vi (nI bs)), some (vi (nI i)), none, none, none]) rfl (fun _ => Nat.le_of_ble_eq_true rfl) (fun _ => rfl) (fun X cx rq => ?_)
  refine g_iconst (v := nI 0) cx dX6_isOpen_0 (by decide) ?_
  refine g_istore_n (L' := [some (vr (30, 0)), some (vi (nI bs)), some (vi (nI i)), some (vi (nI 0)), none, none]) cx dX6_isOpen_1 (by decide) rfl rfl ?_
  refine g_iconst (v := nI 0) cx dX6_isOpen_2 (by decide) ?_
  refine g_istore (L' := [some (vr (30, 0)), some (vi (nI bs)), some (vi (nI i)), some (vi (nI 0)), some (vi (nI 0)), none]) cx dX6_isOpen_3 (by decide) rfl rfl ?_
  refine g_loc (L' := [some (vr (30, 0)), some (vi (nI bs)), some (vi (nI i)), some (vi (if anyB (opC n a dr i) 0 = true then 1 else 0)), some (vi (nI 0)), none]) (by rw [bi_f (c := anyB (opC n a dr i) 0 = true) (by simp [anyB])]) ?_
  have lp : ∀ (fu : Nat) (q : Nat), dn - q < fu → (q ≤ dn) → Gk X mX6_isOpen idsA 5 [some (vr (30, 0)), some (vi (nI bs)), some (vi (nI i)), some (vi (if anyB (opC n a dr i) q = true then 1 else 0)), some (vi (nI q)), none] [] D := by
    intro fu
    induction fu with
    | zero => intro q hfu; exact absurd hfu (Nat.not_lt_zero _)
    | succ fu ih =>
      intro q hfu hq
      refine g_iload cx dX6_isOpen_5 rfl ?_
      refine g_aload_n cx dX6_isOpen_7 rfl ?_
      refine g_getIN (i := (30, 0)) (ci := 6) (k := 10) (v := nI dn) cx a30_0 rfl rfl rfl (by decide) inX6 lfX6_150 dX6_isOpen_8 (hDn) ?_
      refine g_icmp_geN (tgt := 66) cx dX6_isOpen_11 (by decide) (by omega) (by omega) (fun h_11 => ?_) (fun h_11 => ?_)
      · skip
        have e : q = dn := by omega
        subst e
        refine g_iload_n cx dX6_isOpen_66 rfl ?_
        exact g_fret cx rq rfl (bi_nar _) dX6_isOpen_67 (rfl) (rfl)
      · skip
        refine g_aload_n cx dX6_isOpen_14 rfl ?_
        refine g_getR (i := (30, 0)) (ci := 6) (k := 0) (j := (31, 0)) cx a30_0 rfl rfl rfl (by decide) inX6 lfX6_7 dX6_isOpen_15 ?_
        refine g_iload_n cx dX6_isOpen_18 rfl ?_
        refine g_iload_n cx dX6_isOpen_19 rfl ?_
        refine g_iaddN cx dX6_isOpen_20 ?_
        refine g_ialdN (i := (31, 0)) (j := bs + i) (v := nI (a i)) cx a31_0 rfl (rfl) (by omega) (by decide) dX6_isOpen_21 ((hA i (by omega)).1) ?_
        refine g_aload_n cx dX6_isOpen_22 rfl ?_
        refine g_getR (i := (30, 0)) (ci := 6) (k := 9) (j := (37, 0)) cx a30_0 rfl rfl rfl (by decide) inX6 lfX6_33 dX6_isOpen_23 ?_
        refine g_iload cx dX6_isOpen_26 rfl ?_
        refine g_ialdN (i := (37, 0)) (j := q) (v := nI (dr q)) cx a37_0 rfl (rfl) (by omega) (by decide) dX6_isOpen_28 ((hDr q (by omega)).1) ?_
        refine g_fcallS (As := [vi (nI (a i)), vi (nI (dr q))]) (rest := []) cx knX6_on (m_on (a := a i) (c := dr q) ((hA i (by omega)).2) ((hDr q (by omega)).2)) lmX6_54 nsX6_on rfl (by decide) (Nat.le_of_ble_eq_true rfl) rfl dX6_isOpen_29 ?_
        refine g_istore (L' := [some (vr (30, 0)), some (vi (nI bs)), some (vi (nI i)), some (vi (if anyB (opC n a dr i) q = true then 1 else 0)), some (vi (nI q)), some (vi (nI (onN (a i) (dr q))))]) cx dX6_isOpen_32 (by decide) rfl rfl ?_
        refine g_iload_n cx dX6_isOpen_34 rfl ?_
        refine g_if_neB (tgt := 54) cx dX6_isOpen_35 (by decide) (fun h_35 => ?_) (fun h_35 => ?_)
        · skip
          refine g_iconst (v := nI 1) cx dX6_isOpen_54 (by decide) ?_
          refine g_goto (tgt := 59) cx dX6_isOpen_55 (by decide) ?_
          refine g_istore_n (L' := [some (vr (30, 0)), some (vi (nI bs)), some (vi (nI i)), some (vi (nI 1)), some (vi (nI q)), some (vi (nI (onN (a i) (dr q))))]) cx dX6_isOpen_59 (by decide) rfl rfl ?_
          refine g_loc (L' := [some (vr (30, 0)), some (vi (nI bs)), some (vi (nI i)), some (vi (if anyB (opC n a dr i) (q + 1) = true then 1 else 0)), some (vi (nI q)), some (vi (nI (onN (a i) (dr q))))]) (by rw [bi_t (c := anyB (opC n a dr i) (q + 1) = true) (by first | exact any_1 h_35 | exact any_2 (opC_t h_40 h_51))]) ?_
          refine g_iincN (L' := [some (vr (30, 0)), some (vi (nI bs)), some (vi (nI i)), some (vi (if anyB (opC n a dr i) (q + 1) = true then 1 else 0)), some (vi (nI (q + 1))), some (vi (nI (onN (a i) (dr q))))]) cx dX6_isOpen_60 rfl (by decide) rfl rfl ?_
          refine g_goto (tgt := 5) cx dX6_isOpen_63 (by decide) ?_
          refine g_drop 5 (L' := [some (vr (30, 0)), some (vi (nI bs)), some (vi (nI i)), some (vi (if anyB (opC n a dr i) (q + 1) = true then 1 else 0)), some (vi (nI (q + 1))), none]) rfl ?_
          exact ih (q + 1) (by omega) (by omega)
        · skip
          refine g_iload cx dX6_isOpen_38 rfl ?_
          have hon := onN_lt ((hA i (by omega)).2) ((hDr q (by omega)).2)
          refine g_if_leN (tgt := 58) cx dX6_isOpen_40 (by decide) (by omega) (fun h_40 => ?_) (fun h_40 => ?_)
          · skip
            refine g_iconst (v := nI 0) cx dX6_isOpen_58 (by decide) ?_
            refine g_istore_n (L' := [some (vr (30, 0)), some (vi (nI bs)), some (vi (nI i)), some (vi (nI 0)), some (vi (nI q)), some (vi (nI (onN (a i) (dr q))))]) cx dX6_isOpen_59 (by decide) rfl rfl ?_
            refine g_loc (L' := [some (vr (30, 0)), some (vi (nI bs)), some (vi (nI i)), some (vi (if anyB (opC n a dr i) (q + 1) = true then 1 else 0)), some (vi (nI q)), some (vi (nI (onN (a i) (dr q))))]) (by rw [bi_f (c := anyB (opC n a dr i) (q + 1) = true) (by first | exact any_0 h_35 (opC_f1 h_40) | exact any_0 h_35 (opC_f2 h_51))]) ?_
            refine g_iincN (L' := [some (vr (30, 0)), some (vi (nI bs)), some (vi (nI i)), some (vi (if anyB (opC n a dr i) (q + 1) = true then 1 else 0)), some (vi (nI (q + 1))), some (vi (nI (onN (a i) (dr q))))]) cx dX6_isOpen_60 rfl (by decide) rfl rfl ?_
            refine g_goto (tgt := 5) cx dX6_isOpen_63 (by decide) ?_
            refine g_drop 5 (L' := [some (vr (30, 0)), some (vi (nI bs)), some (vi (nI i)), some (vi (if anyB (opC n a dr i) (q + 1) = true then 1 else 0)), some (vi (nI (q + 1))), none]) rfl ?_
            exact ih (q + 1) (by omega) (by omega)
          · skip
            refine g_iload cx dX6_isOpen_43 rfl ?_
            refine g_aload_n cx dX6_isOpen_45 rfl ?_
            refine g_iload_n cx dX6_isOpen_46 rfl ?_
            refine g_iload_n cx dX6_isOpen_47 rfl ?_
            refine g_fcallV (As := [vi (nI bs), vi (nI i)]) (rest := [vi (nI (onN (a i) (dr q)))]) cx knX6_width (m_width hP hA (by omega) (i := i) (by omega)) a30_0 rfl rfl lmX6_180 niX6_width seX6_width rfl (by decide) (Nat.le_of_ble_eq_true rfl) rfl dX6_isOpen_48 ?_
            have hwd := wid_lt hi (fun j hj => (hA j hj).2)
            refine g_icmp_geN (tgt := 58) cx dX6_isOpen_51 (by decide) (by omega) (by omega) (fun h_51 => ?_) (fun h_51 => ?_)
            · skip
              refine g_iconst (v := nI 0) cx dX6_isOpen_58 (by decide) ?_
              refine g_istore_n (L' := [some (vr (30, 0)), some (vi (nI bs)), some (vi (nI i)), some (vi (nI 0)), some (vi (nI q)), some (vi (nI (onN (a i) (dr q))))]) cx dX6_isOpen_59 (by decide) rfl rfl ?_
              refine g_loc (L' := [some (vr (30, 0)), some (vi (nI bs)), some (vi (nI i)), some (vi (if anyB (opC n a dr i) (q + 1) = true then 1 else 0)), some (vi (nI q)), some (vi (nI (onN (a i) (dr q))))]) (by rw [bi_f (c := anyB (opC n a dr i) (q + 1) = true) (by first | exact any_0 h_35 (opC_f1 h_40) | exact any_0 h_35 (opC_f2 h_51))]) ?_
              refine g_iincN (L' := [some (vr (30, 0)), some (vi (nI bs)), some (vi (nI i)), some (vi (if anyB (opC n a dr i) (q + 1) = true then 1 else 0)), some (vi (nI (q + 1))), some (vi (nI (onN (a i) (dr q))))]) cx dX6_isOpen_60 rfl (by decide) rfl rfl ?_
              refine g_goto (tgt := 5) cx dX6_isOpen_63 (by decide) ?_
              refine g_drop 5 (L' := [some (vr (30, 0)), some (vi (nI bs)), some (vi (nI i)), some (vi (if anyB (opC n a dr i) (q + 1) = true then 1 else 0)), some (vi (nI (q + 1))), none]) rfl ?_
              exact ih (q + 1) (by omega) (by omega)
            · skip
              refine g_iconst (v := nI 1) cx dX6_isOpen_54 (by decide) ?_
              refine g_goto (tgt := 59) cx dX6_isOpen_55 (by decide) ?_
              refine g_istore_n (L' := [some (vr (30, 0)), some (vi (nI bs)), some (vi (nI i)), some (vi (nI 1)), some (vi (nI q)), some (vi (nI (onN (a i) (dr q))))]) cx dX6_isOpen_59 (by decide) rfl rfl ?_
              refine g_loc (L' := [some (vr (30, 0)), some (vi (nI bs)), some (vi (nI i)), some (vi (if anyB (opC n a dr i) (q + 1) = true then 1 else 0)), some (vi (nI q)), some (vi (nI (onN (a i) (dr q))))]) (by rw [bi_t (c := anyB (opC n a dr i) (q + 1) = true) (by first | exact any_1 h_35 | exact any_2 (opC_t h_40 h_51))]) ?_
              refine g_iincN (L' := [some (vr (30, 0)), some (vi (nI bs)), some (vi (nI i)), some (vi (if anyB (opC n a dr i) (q + 1) = true then 1 else 0)), some (vi (nI (q + 1))), some (vi (nI (onN (a i) (dr q))))]) cx dX6_isOpen_60 rfl (by decide) rfl rfl ?_
              refine g_goto (tgt := 5) cx dX6_isOpen_63 (by decide) ?_
              refine g_drop 5 (L' := [some (vr (30, 0)), some (vi (nI bs)), some (vi (nI i)), some (vi (if anyB (opC n a dr i) (q + 1) = true then 1 else 0)), some (vi (nI (q + 1))), none]) rfl ?_
              exact ih (q + 1) (by omega) (by omega)
  exact lp (dn + 1) 0 (by omega) (by omega)

set_option maxRecDepth 100000 in
set_option maxHeartbeats 4000000 in
theorem m_has {D : Wd} {v t : Nat} (hv : v < 256) (ht : t < 8) : Fok mX6_has idsA 0 [vi (nI v), vi (nI t)] D (some (vi (if v.testBit t = true then 1 else 0))) D := by
  refine Mok.of (L := [some (vi (nI v)), some (vi (nI t))]) rfl (fun _ => Nat.le_of_ble_eq_true rfl) (fun _ => rfl) (fun X cx rq => ?_)
  refine g_iload_n cx dX6_has_0 rfl ?_
  refine g_iload_n cx dX6_has_1 rfl ?_
  refine g_ishr cx dX6_has_2 ?_
  refine g_iconst (v := nI 1) cx dX6_has_3 (by decide) ?_
  refine g_iand cx dX6_has_4 ?_
  refine g_top (nI_bit v hv t ht) ?_
  refine g_iconst (v := nI 1) cx dX6_has_5 (by decide) ?_
  refine g_icmp_neN (tgt := 13) cx dX6_has_6 (by decide) (by omega) (by omega) (fun h_6 => ?_) (fun h_6 => ?_)
  · skip
    refine g_iconst (v := nI 0) cx dX6_has_13 (by decide) ?_
    exact g_fret cx rq rfl (by rfl) dX6_has_14 (by rw [bi_f (fun q => h_6 ((tb_div v t).mpr q))]) (rfl)
  · skip
    refine g_iconst (v := nI 1) cx dX6_has_9 (by decide) ?_
    refine g_goto (tgt := 14) cx dX6_has_10 (by decide) ?_
    exact g_fret cx rq rfl (by rfl) dX6_has_14 (by rw [bi_t ((tb_div v t).mp h_6)]) (rfl)

set_option maxRecDepth 100000 in
set_option maxHeartbeats 4000000 in
theorem m_chain {D : Wd} {n : Nat} {k f : Nat → Nat} {dn : Nat} {dr : Nat → Nat} {pn : Nat} (hP : PM D n k f dn dr pn) {bs : Nat} {a : Nat → Nat} (hA : AM D bs n a) (hb : bs + 14 ≤ 70) {i s : Nat} (hi : i < n) (hs : s < 2) : Fok mX6_chain idsA 3 [vr (30, 0), vi (nI bs), vi (nI i), vi (nI s)] D (some (vi (nI (bitsN (inM n (mov n a k f i s) i s) n)))) D := by
  obtain ⟨hn3, hn8, hN, hK, hF, hd3, hDn, hDr, hp5, hPn⟩ := id hP
  have hki := (hK i hi).2
  refine Mok.of (L := [some (vr (30, 0)), some (vi (nI bs)), some (vi (nI i)), some (vi (nI s)), none, none, none, none]) rfl (fun _ => Nat.le_of_ble_eq_true rfl) (fun _ => rfl) (fun X cx rq => ?_)
  refine g_aload_n cx dX6_chain_0 rfl ?_
  refine g_getR (i := (30, 0)) (ci := 6) (k := 7) (j := (35, 0)) cx a30_0 rfl rfl rfl (by decide) inX6 lfX6_27 dX6_chain_1 ?_
  refine g_iload_n cx dX6_chain_4 rfl ?_
  refine g_ialdN (i := (35, 0)) (j := i) (v := nI (k i)) cx a35_0 rfl (rfl) (by omega) (by decide) dX6_chain_5 ((hK i (by omega)).1) ?_
  refine g_iconst (v := nI 3) cx dX6_chain_6 (by decide) ?_
  refine g_icmp_neN (tgt := 12) cx dX6_chain_7 (by decide) (by omega) (by omega) (fun h_7 => ?_) (fun h_7 => ?_)
  · skip
    refine g_iconst (v := nI 1) cx dX6_chain_12 (by decide) ?_
    refine g_iload_n cx dX6_chain_13 rfl ?_
    refine g_ishl cx dX6_chain_14 ?_
    refine g_top (nI_shl i (by omega)) ?_
    refine g_istore (L' := [some (vr (30, 0)), some (vi (nI bs)), some (vi (nI i)), some (vi (nI s)), some (vi (nI (2 ^ i))), none, none, none]) cx dX6_chain_15 (by decide) rfl rfl ?_
    refine g_iload_n cx dX6_chain_17 rfl ?_
    refine g_istore (L' := [some (vr (30, 0)), some (vi (nI bs)), some (vi (nI i)), some (vi (nI s)), some (vi (nI (2 ^ i))), some (vi (nI i)), none, none]) cx dX6_chain_18 (by decide) rfl rfl ?_
    refine g_iconst (v := nI 0) cx dX6_chain_20 (by decide) ?_
    refine g_istore (L' := [some (vr (30, 0)), some (vi (nI bs)), some (vi (nI i)), some (vi (nI s)), some (vi (nI (2 ^ i))), some (vi (nI i)), some (vi (nI 0)), none]) cx dX6_chain_21 (by decide) rfl rfl ?_
    have lp : ∀ (fu : Nat) (c : Nat) (w : Nat) (v : Nat), n - c < fu → (c < n) → (w < n) → (v = bitsN (inM n (c + 1) i s) n) → (dst n i s w = c) → (movG n a k f s (n - 1 - c) w (c + 1) = mov n a k f i s) → Gk X mX6_chain idsA 23 [some (vr (30, 0)), some (vi (nI bs)), some (vi (nI i)), some (vi (nI s)), some (vi (nI v)), some (vi (nI w)), some (vi (nI c)), none] [] D := by
      intro fu
      induction fu with
      | zero => intro c w v hfu; exact absurd hfu (Nat.not_lt_zero _)
      | succ fu ih =>
        intro c w v hfu hc hw hv hcd hm
        refine g_iload cx dX6_chain_23 rfl ?_
        refine g_aload_n cx dX6_chain_25 rfl ?_
        refine g_getIN (i := (30, 0)) (ci := 6) (k := 6) (v := nI n) cx a30_0 rfl rfl rfl (by decide) inX6 lfX6_23 dX6_chain_26 (hN) ?_
        refine g_icmp_geN (tgt := 129) cx dX6_chain_29 (by decide) (by omega) (by omega) (fun h_29 => ?_) (fun h_29 => ?_)
        · skip
          exact absurd h_29 (by omega)
        · skip
          refine g_iload_n cx dX6_chain_32 rfl ?_
          refine g_if_neN (tgt := 41) cx dX6_chain_33 (by decide) (by omega) (fun h_33 => ?_) (fun h_33 => ?_)
          · skip
            refine g_aload_n cx dX6_chain_41 rfl ?_
            refine g_iload cx dX6_chain_42 rfl ?_
            refine g_fcallV (As := [vi (nI w)]) (rest := []) cx knX6_ahead (m_ahead hP (i := w) (by omega)) a30_0 rfl rfl lmX6_192 niX6_ahead seX6_ahead rfl (by decide) (Nat.le_of_ble_eq_true rfl) rfl dX6_chain_44 ?_
            refine g_top (y := nI (rmB n w s)) (by unfold rmB; rw [if_neg h_33]) ?_
            have hrm := rmB_lt (s := s) hw
            refine g_istore (L' := [some (vr (30, 0)), some (vi (nI bs)), some (vi (nI i)), some (vi (nI s)), some (vi (nI v)), some (vi (nI w)), some (vi (nI c)), some (vi (nI (rmB n w s)))]) cx dX6_chain_47 (by decide) rfl rfl ?_
            refine g_aload_n cx dX6_chain_49 rfl ?_
            refine g_iload_n cx dX6_chain_50 rfl ?_
            refine g_iload cx dX6_chain_51 rfl ?_
            refine g_fcallV (As := [vi (nI bs), vi (nI (rmB n w s))]) (rest := []) cx knX6_width (m_width hP hA (by omega) (i := rmB n w s) (by omega)) a30_0 rfl rfl lmX6_180 niX6_width seX6_width rfl (by decide) (Nat.le_of_ble_eq_true rfl) rfl dX6_chain_53 ?_
            refine g_aload_n cx dX6_chain_56 rfl ?_
            refine g_getR (i := (30, 0)) (ci := 6) (k := 8) (j := (36, 0)) cx a30_0 rfl rfl rfl (by decide) inX6 lfX6_30 dX6_chain_57 ?_
            refine g_iload cx dX6_chain_60 rfl ?_
            refine g_ialdN (i := (36, 0)) (j := rmB n w s) (v := nI (f (rmB n w s))) cx a36_0 rfl (rfl) (by omega) (by decide) dX6_chain_62 ((hF (rmB n w s) (by omega)).1) ?_
            refine g_iconst (v := nI 1) cx dX6_chain_63 (by decide) ?_
            refine g_iaddN cx dX6_chain_64 ?_
            have hwd := wid_lt hrm (fun j hj => (hA j hj).2)
            have hfr := (hF _ hrm).2
            refine g_icmp_leN (tgt := 71) cx dX6_chain_65 (by decide) (by omega) (by omega) (fun h_65 => ?_) (fun h_65 => ?_)
            · skip
              refine g_iload_n cx dX6_chain_71 rfl ?_
              refine g_if_neN (tgt := 84) cx dX6_chain_72 (by decide) (by omega) (fun h_72 => ?_) (fun h_72 => ?_)
              · skip
                refine g_aload_n cx dX6_chain_84 rfl ?_
                refine g_iload cx dX6_chain_85 rfl ?_
                refine g_fcallV (As := [vi (nI w)]) (rest := []) cx knX6_ahead (m_ahead hP (i := w) (by omega)) a30_0 rfl rfl lmX6_192 niX6_ahead seX6_ahead rfl (by decide) (Nat.le_of_ble_eq_true rfl) rfl dX6_chain_87 ?_
                refine g_top (y := nI (lfB n w s)) (by unfold lfB; rw [if_neg h_72]) ?_
                have hlf := lfB_lt (s := s) hw
                refine g_istore (L' := [some (vr (30, 0)), some (vi (nI bs)), some (vi (nI i)), some (vi (nI s)), some (vi (nI v)), some (vi (nI (lfB n w s))), some (vi (nI c)), some (vi (nI (rmB n w s)))]) cx dX6_chain_90 (by decide) rfl rfl ?_
                refine g_iload cx dX6_chain_92 rfl ?_
                refine g_iload_n cx dX6_chain_94 rfl ?_
                refine g_icmp_neN (tgt := 101) cx dX6_chain_95 (by decide) (by omega) (by omega) (fun h_95 => ?_) (fun h_95 => ?_)
                · skip
                  have hd1 := dst_lf n (by omega) i hi s hs w hw
                  rw [hcd] at hd1
                  have hcn : ¬ c + 1 = n := fun e => by
                    rw [if_pos e] at hd1
                    exact h_95 (dst_inj n (by omega) i hi s hs _ hlf i hi (hd1.trans (dst_0 n (by omega) i hi s hs).symm))
                  rw [if_neg hcn] at hd1
                  have hd2 : dst n i s (lfB n w s) = c + 1 := hd1
                  have hfu : n - 1 - c = (n - 1 - (c + 1)) + 1 := by omega
                  rw [hfu, movG, if_neg (by omega)] at hm
                  have hk2 := (hK _ hlf).2
                  refine g_aload_n cx dX6_chain_101 rfl ?_
                  refine g_getR (i := (30, 0)) (ci := 6) (k := 7) (j := (35, 0)) cx a30_0 rfl rfl rfl (by decide) inX6 lfX6_27 dX6_chain_102 ?_
                  refine g_iload cx dX6_chain_105 rfl ?_
                  refine g_ialdN (i := (35, 0)) (j := lfB n w s) (v := nI (k (lfB n w s))) cx a35_0 rfl (rfl) (by omega) (by decide) dX6_chain_107 ((hK (lfB n w s) (by omega)).1) ?_
                  refine g_iconst (v := nI 1) cx dX6_chain_108 (by decide) ?_
                  refine g_icmp_leN (tgt := 114) cx dX6_chain_109 (by decide) (by omega) (by omega) (fun h_109 => ?_) (fun h_109 => ?_)
                  · skip
                    rw [if_neg (by omega)] at hm
                    have hm2 := hm
                    refine g_iload cx dX6_chain_114 rfl ?_
                    refine g_iconst (v := nI 1) cx dX6_chain_116 (by decide) ?_
                    refine g_iload cx dX6_chain_117 rfl ?_
                    refine g_ishl cx dX6_chain_119 ?_
                    refine g_top (nI_shl _ (by omega)) ?_
                    refine g_ior cx dX6_chain_120 ?_
                    refine g_top (nI_or _ _) ?_
                    refine g_istore (L' := [some (vr (30, 0)), some (vi (nI bs)), some (vi (nI i)), some (vi (nI s)), some (vi (nI (v ||| 2 ^ (lfB n w s)))), some (vi (nI (lfB n w s))), some (vi (nI c)), some (vi (nI (rmB n w s)))]) cx dX6_chain_121 (by decide) rfl rfl ?_
                    refine g_iincN (L' := [some (vr (30, 0)), some (vi (nI bs)), some (vi (nI i)), some (vi (nI s)), some (vi (nI (v ||| 2 ^ (lfB n w s)))), some (vi (nI (lfB n w s))), some (vi (nI (c + 1))), some (vi (nI (rmB n w s)))]) cx dX6_chain_123 rfl (by decide) rfl rfl ?_
                    refine g_goto (tgt := 23) cx dX6_chain_126 (by decide) ?_
                    refine g_drop 7 (L' := [some (vr (30, 0)), some (vi (nI bs)), some (vi (nI i)), some (vi (nI s)), some (vi (nI (v ||| 2 ^ (lfB n w s)))), some (vi (nI (lfB n w s))), some (vi (nI (c + 1))), none]) rfl ?_
                    exact ih (c + 1) (lfB n w s) (v ||| 2 ^ (lfB n w s)) (by omega) (by omega) hlf (by rw [hv]; exact inM_next (by omega) hi hs hlf hd2) hd2 hm2
                  · skip
                    rw [if_pos (by omega)] at hm
                    refine g_iconst (v := nI 0) cx dX6_chain_112 (by decide) ?_
                    exact g_fret cx rq rfl (rfl) dX6_chain_113 (by rw [← hm, inM_zero]) (rfl)
                · skip
                  have hd1 := dst_lf n (by omega) i hi s hs w hw
                  rw [hcd] at hd1
                  have hcn : c + 1 = n := by
                    by_cases e : c + 1 = n
                    · exact e
                    · rw [if_neg e, h_95, dst_0 n (by omega) i hi s hs] at hd1; omega
                  refine g_iload cx dX6_chain_98 rfl ?_
                  exact g_fret cx rq rfl (rfl) dX6_chain_100 (by rw [hv, ← hm, show n - 1 - c = 0 from by omega]; rfl) (rfl)
              · skip
                refine g_aload_n cx dX6_chain_75 rfl ?_
                refine g_iload cx dX6_chain_76 rfl ?_
                refine g_fcallV (As := [vi (nI w)]) (rest := []) cx knX6_next (m_next hP (i := w) (by omega)) a30_0 rfl rfl lmX6_177 niX6_next seX6_next rfl (by decide) (Nat.le_of_ble_eq_true rfl) rfl dX6_chain_78 ?_
                refine g_goto (tgt := 90) cx dX6_chain_81 (by decide) ?_
                refine g_top (y := nI (lfB n w s)) (by unfold lfB; rw [if_pos h_72]) ?_
                have hlf := lfB_lt (s := s) hw
                refine g_istore (L' := [some (vr (30, 0)), some (vi (nI bs)), some (vi (nI i)), some (vi (nI s)), some (vi (nI v)), some (vi (nI (lfB n w s))), some (vi (nI c)), some (vi (nI (rmB n w s)))]) cx dX6_chain_90 (by decide) rfl rfl ?_
                refine g_iload cx dX6_chain_92 rfl ?_
                refine g_iload_n cx dX6_chain_94 rfl ?_
                refine g_icmp_neN (tgt := 101) cx dX6_chain_95 (by decide) (by omega) (by omega) (fun h_95 => ?_) (fun h_95 => ?_)
                · skip
                  have hd1 := dst_lf n (by omega) i hi s hs w hw
                  rw [hcd] at hd1
                  have hcn : ¬ c + 1 = n := fun e => by
                    rw [if_pos e] at hd1
                    exact h_95 (dst_inj n (by omega) i hi s hs _ hlf i hi (hd1.trans (dst_0 n (by omega) i hi s hs).symm))
                  rw [if_neg hcn] at hd1
                  have hd2 : dst n i s (lfB n w s) = c + 1 := hd1
                  have hfu : n - 1 - c = (n - 1 - (c + 1)) + 1 := by omega
                  rw [hfu, movG, if_neg (by omega)] at hm
                  have hk2 := (hK _ hlf).2
                  refine g_aload_n cx dX6_chain_101 rfl ?_
                  refine g_getR (i := (30, 0)) (ci := 6) (k := 7) (j := (35, 0)) cx a30_0 rfl rfl rfl (by decide) inX6 lfX6_27 dX6_chain_102 ?_
                  refine g_iload cx dX6_chain_105 rfl ?_
                  refine g_ialdN (i := (35, 0)) (j := lfB n w s) (v := nI (k (lfB n w s))) cx a35_0 rfl (rfl) (by omega) (by decide) dX6_chain_107 ((hK (lfB n w s) (by omega)).1) ?_
                  refine g_iconst (v := nI 1) cx dX6_chain_108 (by decide) ?_
                  refine g_icmp_leN (tgt := 114) cx dX6_chain_109 (by decide) (by omega) (by omega) (fun h_109 => ?_) (fun h_109 => ?_)
                  · skip
                    rw [if_neg (by omega)] at hm
                    have hm2 := hm
                    refine g_iload cx dX6_chain_114 rfl ?_
                    refine g_iconst (v := nI 1) cx dX6_chain_116 (by decide) ?_
                    refine g_iload cx dX6_chain_117 rfl ?_
                    refine g_ishl cx dX6_chain_119 ?_
                    refine g_top (nI_shl _ (by omega)) ?_
                    refine g_ior cx dX6_chain_120 ?_
                    refine g_top (nI_or _ _) ?_
                    refine g_istore (L' := [some (vr (30, 0)), some (vi (nI bs)), some (vi (nI i)), some (vi (nI s)), some (vi (nI (v ||| 2 ^ (lfB n w s)))), some (vi (nI (lfB n w s))), some (vi (nI c)), some (vi (nI (rmB n w s)))]) cx dX6_chain_121 (by decide) rfl rfl ?_
                    refine g_iincN (L' := [some (vr (30, 0)), some (vi (nI bs)), some (vi (nI i)), some (vi (nI s)), some (vi (nI (v ||| 2 ^ (lfB n w s)))), some (vi (nI (lfB n w s))), some (vi (nI (c + 1))), some (vi (nI (rmB n w s)))]) cx dX6_chain_123 rfl (by decide) rfl rfl ?_
                    refine g_goto (tgt := 23) cx dX6_chain_126 (by decide) ?_
                    refine g_drop 7 (L' := [some (vr (30, 0)), some (vi (nI bs)), some (vi (nI i)), some (vi (nI s)), some (vi (nI (v ||| 2 ^ (lfB n w s)))), some (vi (nI (lfB n w s))), some (vi (nI (c + 1))), none]) rfl ?_
                    exact ih (c + 1) (lfB n w s) (v ||| 2 ^ (lfB n w s)) (by omega) (by omega) hlf (by rw [hv]; exact inM_next (by omega) hi hs hlf hd2) hd2 hm2
                  · skip
                    rw [if_pos (by omega)] at hm
                    refine g_iconst (v := nI 0) cx dX6_chain_112 (by decide) ?_
                    exact g_fret cx rq rfl (rfl) dX6_chain_113 (by rw [← hm, inM_zero]) (rfl)
                · skip
                  have hd1 := dst_lf n (by omega) i hi s hs w hw
                  rw [hcd] at hd1
                  have hcn : c + 1 = n := by
                    by_cases e : c + 1 = n
                    · exact e
                    · rw [if_neg e, h_95, dst_0 n (by omega) i hi s hs] at hd1; omega
                  refine g_iload cx dX6_chain_98 rfl ?_
                  exact g_fret cx rq rfl (rfl) dX6_chain_100 (by rw [hv, ← hm, show n - 1 - c = 0 from by omega]; rfl) (rfl)
            · skip
              refine g_iload cx dX6_chain_68 rfl ?_
              exact g_fret cx rq rfl (rfl) dX6_chain_70 (by rw [hv, ← hm, movG_wide h_65]) (rfl)
          · skip
            refine g_iload cx dX6_chain_36 rfl ?_
            refine g_goto (tgt := 47) cx dX6_chain_38 (by decide) ?_
            refine g_top (y := nI (rmB n w s)) (by unfold rmB; rw [if_pos h_33]) ?_
            have hrm := rmB_lt (s := s) hw
            refine g_istore (L' := [some (vr (30, 0)), some (vi (nI bs)), some (vi (nI i)), some (vi (nI s)), some (vi (nI v)), some (vi (nI w)), some (vi (nI c)), some (vi (nI (rmB n w s)))]) cx dX6_chain_47 (by decide) rfl rfl ?_
            refine g_aload_n cx dX6_chain_49 rfl ?_
            refine g_iload_n cx dX6_chain_50 rfl ?_
            refine g_iload cx dX6_chain_51 rfl ?_
            refine g_fcallV (As := [vi (nI bs), vi (nI (rmB n w s))]) (rest := []) cx knX6_width (m_width hP hA (by omega) (i := rmB n w s) (by omega)) a30_0 rfl rfl lmX6_180 niX6_width seX6_width rfl (by decide) (Nat.le_of_ble_eq_true rfl) rfl dX6_chain_53 ?_
            refine g_aload_n cx dX6_chain_56 rfl ?_
            refine g_getR (i := (30, 0)) (ci := 6) (k := 8) (j := (36, 0)) cx a30_0 rfl rfl rfl (by decide) inX6 lfX6_30 dX6_chain_57 ?_
            refine g_iload cx dX6_chain_60 rfl ?_
            refine g_ialdN (i := (36, 0)) (j := rmB n w s) (v := nI (f (rmB n w s))) cx a36_0 rfl (rfl) (by omega) (by decide) dX6_chain_62 ((hF (rmB n w s) (by omega)).1) ?_
            refine g_iconst (v := nI 1) cx dX6_chain_63 (by decide) ?_
            refine g_iaddN cx dX6_chain_64 ?_
            have hwd := wid_lt hrm (fun j hj => (hA j hj).2)
            have hfr := (hF _ hrm).2
            refine g_icmp_leN (tgt := 71) cx dX6_chain_65 (by decide) (by omega) (by omega) (fun h_65 => ?_) (fun h_65 => ?_)
            · skip
              refine g_iload_n cx dX6_chain_71 rfl ?_
              refine g_if_neN (tgt := 84) cx dX6_chain_72 (by decide) (by omega) (fun h_72 => ?_) (fun h_72 => ?_)
              · skip
                refine g_aload_n cx dX6_chain_84 rfl ?_
                refine g_iload cx dX6_chain_85 rfl ?_
                refine g_fcallV (As := [vi (nI w)]) (rest := []) cx knX6_ahead (m_ahead hP (i := w) (by omega)) a30_0 rfl rfl lmX6_192 niX6_ahead seX6_ahead rfl (by decide) (Nat.le_of_ble_eq_true rfl) rfl dX6_chain_87 ?_
                refine g_top (y := nI (lfB n w s)) (by unfold lfB; rw [if_neg h_72]) ?_
                have hlf := lfB_lt (s := s) hw
                refine g_istore (L' := [some (vr (30, 0)), some (vi (nI bs)), some (vi (nI i)), some (vi (nI s)), some (vi (nI v)), some (vi (nI (lfB n w s))), some (vi (nI c)), some (vi (nI (rmB n w s)))]) cx dX6_chain_90 (by decide) rfl rfl ?_
                refine g_iload cx dX6_chain_92 rfl ?_
                refine g_iload_n cx dX6_chain_94 rfl ?_
                refine g_icmp_neN (tgt := 101) cx dX6_chain_95 (by decide) (by omega) (by omega) (fun h_95 => ?_) (fun h_95 => ?_)
                · skip
                  have hd1 := dst_lf n (by omega) i hi s hs w hw
                  rw [hcd] at hd1
                  have hcn : ¬ c + 1 = n := fun e => by
                    rw [if_pos e] at hd1
                    exact h_95 (dst_inj n (by omega) i hi s hs _ hlf i hi (hd1.trans (dst_0 n (by omega) i hi s hs).symm))
                  rw [if_neg hcn] at hd1
                  have hd2 : dst n i s (lfB n w s) = c + 1 := hd1
                  have hfu : n - 1 - c = (n - 1 - (c + 1)) + 1 := by omega
                  rw [hfu, movG, if_neg (by omega)] at hm
                  have hk2 := (hK _ hlf).2
                  refine g_aload_n cx dX6_chain_101 rfl ?_
                  refine g_getR (i := (30, 0)) (ci := 6) (k := 7) (j := (35, 0)) cx a30_0 rfl rfl rfl (by decide) inX6 lfX6_27 dX6_chain_102 ?_
                  refine g_iload cx dX6_chain_105 rfl ?_
                  refine g_ialdN (i := (35, 0)) (j := lfB n w s) (v := nI (k (lfB n w s))) cx a35_0 rfl (rfl) (by omega) (by decide) dX6_chain_107 ((hK (lfB n w s) (by omega)).1) ?_
                  refine g_iconst (v := nI 1) cx dX6_chain_108 (by decide) ?_
                  refine g_icmp_leN (tgt := 114) cx dX6_chain_109 (by decide) (by omega) (by omega) (fun h_109 => ?_) (fun h_109 => ?_)
                  · skip
                    rw [if_neg (by omega)] at hm
                    have hm2 := hm
                    refine g_iload cx dX6_chain_114 rfl ?_
                    refine g_iconst (v := nI 1) cx dX6_chain_116 (by decide) ?_
                    refine g_iload cx dX6_chain_117 rfl ?_
                    refine g_ishl cx dX6_chain_119 ?_
                    refine g_top (nI_shl _ (by omega)) ?_
                    refine g_ior cx dX6_chain_120 ?_
                    refine g_top (nI_or _ _) ?_
                    refine g_istore (L' := [some (vr (30, 0)), some (vi (nI bs)), some (vi (nI i)), some (vi (nI s)), some (vi (nI (v ||| 2 ^ (lfB n w s)))), some (vi (nI (lfB n w s))), some (vi (nI c)), some (vi (nI (rmB n w s)))]) cx dX6_chain_121 (by decide) rfl rfl ?_
                    refine g_iincN (L' := [some (vr (30, 0)), some (vi (nI bs)), some (vi (nI i)), some (vi (nI s)), some (vi (nI (v ||| 2 ^ (lfB n w s)))), some (vi (nI (lfB n w s))), some (vi (nI (c + 1))), some (vi (nI (rmB n w s)))]) cx dX6_chain_123 rfl (by decide) rfl rfl ?_
                    refine g_goto (tgt := 23) cx dX6_chain_126 (by decide) ?_
                    refine g_drop 7 (L' := [some (vr (30, 0)), some (vi (nI bs)), some (vi (nI i)), some (vi (nI s)), some (vi (nI (v ||| 2 ^ (lfB n w s)))), some (vi (nI (lfB n w s))), some (vi (nI (c + 1))), none]) rfl ?_
                    exact ih (c + 1) (lfB n w s) (v ||| 2 ^ (lfB n w s)) (by omega) (by omega) hlf (by rw [hv]; exact inM_next (by omega) hi hs hlf hd2) hd2 hm2
                  · skip
                    rw [if_pos (by omega)] at hm
                    refine g_iconst (v := nI 0) cx dX6_chain_112 (by decide) ?_
                    exact g_fret cx rq rfl (rfl) dX6_chain_113 (by rw [← hm, inM_zero]) (rfl)
                · skip
                  have hd1 := dst_lf n (by omega) i hi s hs w hw
                  rw [hcd] at hd1
                  have hcn : c + 1 = n := by
                    by_cases e : c + 1 = n
                    · exact e
                    · rw [if_neg e, h_95, dst_0 n (by omega) i hi s hs] at hd1; omega
                  refine g_iload cx dX6_chain_98 rfl ?_
                  exact g_fret cx rq rfl (rfl) dX6_chain_100 (by rw [hv, ← hm, show n - 1 - c = 0 from by omega]; rfl) (rfl)
              · skip
                refine g_aload_n cx dX6_chain_75 rfl ?_
                refine g_iload cx dX6_chain_76 rfl ?_
                refine g_fcallV (As := [vi (nI w)]) (rest := []) cx knX6_next (m_next hP (i := w) (by omega)) a30_0 rfl rfl lmX6_177 niX6_next seX6_next rfl (by decide) (Nat.le_of_ble_eq_true rfl) rfl dX6_chain_78 ?_
                refine g_goto (tgt := 90) cx dX6_chain_81 (by decide) ?_
                refine g_top (y := nI (lfB n w s)) (by unfold lfB; rw [if_pos h_72]) ?_
                have hlf := lfB_lt (s := s) hw
                refine g_istore (L' := [some (vr (30, 0)), some (vi (nI bs)), some (vi (nI i)), some (vi (nI s)), some (vi (nI v)), some (vi (nI (lfB n w s))), some (vi (nI c)), some (vi (nI (rmB n w s)))]) cx dX6_chain_90 (by decide) rfl rfl ?_
                refine g_iload cx dX6_chain_92 rfl ?_
                refine g_iload_n cx dX6_chain_94 rfl ?_
                refine g_icmp_neN (tgt := 101) cx dX6_chain_95 (by decide) (by omega) (by omega) (fun h_95 => ?_) (fun h_95 => ?_)
                · skip
                  have hd1 := dst_lf n (by omega) i hi s hs w hw
                  rw [hcd] at hd1
                  have hcn : ¬ c + 1 = n := fun e => by
                    rw [if_pos e] at hd1
                    exact h_95 (dst_inj n (by omega) i hi s hs _ hlf i hi (hd1.trans (dst_0 n (by omega) i hi s hs).symm))
                  rw [if_neg hcn] at hd1
                  have hd2 : dst n i s (lfB n w s) = c + 1 := hd1
                  have hfu : n - 1 - c = (n - 1 - (c + 1)) + 1 := by omega
                  rw [hfu, movG, if_neg (by omega)] at hm
                  have hk2 := (hK _ hlf).2
                  refine g_aload_n cx dX6_chain_101 rfl ?_
                  refine g_getR (i := (30, 0)) (ci := 6) (k := 7) (j := (35, 0)) cx a30_0 rfl rfl rfl (by decide) inX6 lfX6_27 dX6_chain_102 ?_
                  refine g_iload cx dX6_chain_105 rfl ?_
                  refine g_ialdN (i := (35, 0)) (j := lfB n w s) (v := nI (k (lfB n w s))) cx a35_0 rfl (rfl) (by omega) (by decide) dX6_chain_107 ((hK (lfB n w s) (by omega)).1) ?_
                  refine g_iconst (v := nI 1) cx dX6_chain_108 (by decide) ?_
                  refine g_icmp_leN (tgt := 114) cx dX6_chain_109 (by decide) (by omega) (by omega) (fun h_109 => ?_) (fun h_109 => ?_)
                  · skip
                    rw [if_neg (by omega)] at hm
                    have hm2 := hm
                    refine g_iload cx dX6_chain_114 rfl ?_
                    refine g_iconst (v := nI 1) cx dX6_chain_116 (by decide) ?_
                    refine g_iload cx dX6_chain_117 rfl ?_
                    refine g_ishl cx dX6_chain_119 ?_
                    refine g_top (nI_shl _ (by omega)) ?_
                    refine g_ior cx dX6_chain_120 ?_
                    refine g_top (nI_or _ _) ?_
                    refine g_istore (L' := [some (vr (30, 0)), some (vi (nI bs)), some (vi (nI i)), some (vi (nI s)), some (vi (nI (v ||| 2 ^ (lfB n w s)))), some (vi (nI (lfB n w s))), some (vi (nI c)), some (vi (nI (rmB n w s)))]) cx dX6_chain_121 (by decide) rfl rfl ?_
                    refine g_iincN (L' := [some (vr (30, 0)), some (vi (nI bs)), some (vi (nI i)), some (vi (nI s)), some (vi (nI (v ||| 2 ^ (lfB n w s)))), some (vi (nI (lfB n w s))), some (vi (nI (c + 1))), some (vi (nI (rmB n w s)))]) cx dX6_chain_123 rfl (by decide) rfl rfl ?_
                    refine g_goto (tgt := 23) cx dX6_chain_126 (by decide) ?_
                    refine g_drop 7 (L' := [some (vr (30, 0)), some (vi (nI bs)), some (vi (nI i)), some (vi (nI s)), some (vi (nI (v ||| 2 ^ (lfB n w s)))), some (vi (nI (lfB n w s))), some (vi (nI (c + 1))), none]) rfl ?_
                    exact ih (c + 1) (lfB n w s) (v ||| 2 ^ (lfB n w s)) (by omega) (by omega) hlf (by rw [hv]; exact inM_next (by omega) hi hs hlf hd2) hd2 hm2
                  · skip
                    rw [if_pos (by omega)] at hm
                    refine g_iconst (v := nI 0) cx dX6_chain_112 (by decide) ?_
                    exact g_fret cx rq rfl (rfl) dX6_chain_113 (by rw [← hm, inM_zero]) (rfl)
                · skip
                  have hd1 := dst_lf n (by omega) i hi s hs w hw
                  rw [hcd] at hd1
                  have hcn : c + 1 = n := by
                    by_cases e : c + 1 = n
                    · exact e
                    · rw [if_neg e, h_95, dst_0 n (by omega) i hi s hs] at hd1; omega
                  refine g_iload cx dX6_chain_98 rfl ?_
                  exact g_fret cx rq rfl (rfl) dX6_chain_100 (by rw [hv, ← hm, show n - 1 - c = 0 from by omega]; rfl) (rfl)
            · skip
              refine g_iload cx dX6_chain_68 rfl ?_
              exact g_fret cx rq rfl (rfl) dX6_chain_70 (by rw [hv, ← hm, movG_wide h_65]) (rfl)
    exact lp (n + 1) 0 i (2 ^ i) (by omega) (by omega) hi (inM_one (by omega) hi hs) (dst_0 n (by omega) i hi s hs) (by unfold mov; rw [if_neg h_7]; rfl)
  · skip
    refine g_iconst (v := nI 0) cx dX6_chain_10 (by decide) ?_
    exact g_fret cx rq rfl (rfl) dX6_chain_11 (by unfold mov; rw [if_pos h_7, inM_zero]) (rfl)
end
section
/-! pushes, ranges, and how a world changes under them -/
def lt0 (x : Int32) (n : Nat) : Bool := decide (0 ≤ x.toInt ∧ x.toInt < (n : Int))
def rng (x : Int32) (a b : Nat) : Bool := decide ((a : Int) ≤ x.toInt ∧ x.toInt ≤ (b : Int))
abbrev ix (x : Int32) : Nat := x.toNatClampNeg
theorem lt0_iff {x : Int32} {n : Nat} : lt0 x n = true ↔ (0 ≤ x.toInt ∧ x.toInt < (n : Int)) := by simp [lt0]
theorem rng_iff {x : Int32} {a b : Nat} : rng x a b = true ↔ ((a : Int) ≤ x.toInt ∧ x.toInt ≤ (b : Int)) := by simp [rng]
theorem lt0_nI {x : Int32} {n : Nat} (h : lt0 x n = true) : ∃ j : Nat, j < n ∧ x = nI j := by
  obtain ⟨h1, h2⟩ := lt0_iff.mp h
  obtain ⟨j, h3, h4⟩ := nI_of (x := x) (by rw [Int32.lt_iff_toInt_lt, Int32.toInt_zero]; omega)
  subst h4
  rw [nI_toInt h3] at h2
  exact ⟨j, by omega, rfl⟩
theorem lt0_of {j n : Nat} (h : j < n) (hn : n < 2 ^ 31) : lt0 (nI j) n = true := by
  rw [lt0_iff, nI_toInt (by omega)]; omega
theorem i64_le (x y : Int32) : x.toInt64 ≤ y.toInt64 ↔ x.toInt ≤ y.toInt := by
  rw [Int64.le_iff_toInt_le]; simp
theorem in_iff {x : Int32} {n : Nat} (h0 : 0 < n) (hn : n < 2 ^ 31) : ((0 : Int64) ≤ x.toInt64 ∧ x.toInt64 ≤ (nI (n - 1)).toInt64) ↔ lt0 x n = true := by
  have e : (0 : Int64) = (0 : Int32).toInt64 := by decide
  rw [e, i64_le, i64_le, nI_toInt (by omega), Int32.toInt_zero, lt0_iff]
  omega
theorem in_iff0 {x : Int32} {n : Nat} {B : Int64} (hB : B = (nI (n - 1)).toInt64) (h0 : 0 < n) (hn : n < 2 ^ 31) : ((0 : Int64) ≤ x.toInt64 ∧ x.toInt64 ≤ B) ↔ lt0 x n = true := by
  rw [hB]; exact in_iff h0 hn
theorem in_iff2 {x : Int32} {a b : Nat} {A B : Int64} (hA : A = (nI a).toInt64) (hB : B = (nI b).toInt64) (ha : a < 2 ^ 31) (hb : b < 2 ^ 31) : (A ≤ x.toInt64 ∧ x.toInt64 ≤ B) ↔ rng x a b = true := by
  rw [hA, hB, i64_le, i64_le, nI_toInt ha, nI_toInt hb, rng_iff]
theorem rng_nI {x : Int32} {a b : Nat} (h : rng x a b = true) : ∃ j : Nat, a ≤ j ∧ j ≤ b ∧ x = nI j := by
  obtain ⟨h3, h4⟩ := rng_iff.mp h
  have hr := Int32.toInt_lt x
  by_cases hb : b < 2 ^ 31
  · obtain ⟨j, h1, h2⟩ := lt0_nI (x := x) (n := b + 1) (lt0_iff.mpr ⟨by omega, by omega⟩)
    subst h2
    rw [nI_toInt (by omega)] at h3
    exact ⟨j, by omega, by omega, rfl⟩
  · obtain ⟨j2, h5, h6⟩ := lt0_nI (x := x) (n := 2 ^ 31) (lt0_iff.mpr ⟨by omega, by omega⟩)
    subst h6
    rw [nI_toInt h5] at h3
    exact ⟨j2, by omega, by omega, rfl⟩
theorem inM_of {p : Nat → Bool} {n q : Nat} (hq : q < n) : (bitsN p n).testBit q = true ↔ p q = true := by
  rw [bitsN_tb]; simp [hq]
theorem stp_0 {n : Nat} {a k f : Nat → Nat} {i s : Nat} (h : mov n a k f i s = 0) : stp n a k f i s = a := by
  funext j; unfold stp; rw [h]; simp [inM]
theorem putA_succ (w : Nat → Int32) (b q : Nat) (a : Nat → Nat) : upd (putA w b q a) (b + q) (nI (a q)) = putA w b (q + 1) a := by
  funext j; unfold upd putA
  by_cases h : j = b + q
  · subst h
    rw [if_pos rfl, if_pos ⟨by omega, by omega⟩]; congr 2; omega
  · rw [if_neg h]
    by_cases h2 : b ≤ j ∧ j < b + q
    · rw [if_pos h2, if_pos ⟨by omega, by omega⟩]
    · rw [if_neg h2, if_neg (by omega)]
theorem putA_zero (w : Nat → Int32) (b : Nat) (a : Nat → Nat) : putA w b 0 a = w := by
  funext j; unfold putA; rw [if_neg (by omega)]
theorem put_step (D : Wd) (i : Id2) (w : Nat → Int32) (b q : Nat) (a : Nat → Nat) : upA (upA D i (putA w b q a)) i (upd (upA D i (putA w b q a) i) (b + q) (nI (a q))) = upA D i (putA w b (q + 1) a) := by
  rw [upA_up, upA_s, putA_succ]
theorem put_0 (D : Wd) (i : Id2) (b : Nat) (a : Nat → Nat) : D = upA D i (putA (D i) b 0 a) := by
  rw [putA_zero, upA_self]
/-- the same plan in a world that differs in a row alone -/
theorem PM.up {D : Wd} {n : Nat} {k f : Nat → Nat} {dn : Nat} {dr : Nat → Nat} {pn : Nat} {g : Nat → Int32} (h : PM D n k f dn dr pn) : PM (upA D (31, 0) g) n k f dn dr pn := by
  obtain ⟨h1, h2, h3, h4, h5, h6, h7, h8, h9, h10⟩ := h
  have e : ∀ i : Id2, i ≠ (31, 0) → upA D (31, 0) g i = D i := fun i hi => upA_n D g hi
  exact ⟨h1, h2, by rw [e _ (by decide)]; exact h3, by rw [e _ (by decide)]; exact h4, by rw [e _ (by decide)]; exact h5, h6, by rw [e _ (by decide)]; exact h7, by rw [e _ (by decide)]; exact h8, h9, by rw [e _ (by decide)]; exact h10⟩
/-- the world with a row's angles put anew -/
def Rw (D : Wd) (bs n : Nat) (a : Nat → Nat) : Wd := upA D (31, 0) (putA (D (31, 0)) bs n a)
theorem Rw.P {D : Wd} {n : Nat} {k f : Nat → Nat} {dn : Nat} {dr : Nat → Nat} {pn bs : Nat} {a : Nat → Nat} (h : PM D n k f dn dr pn) : PM (Rw D bs n a) n k f dn dr pn := h.up
theorem Rw.A {D : Wd} {n bs : Nat} {a : Nat → Nat} (h : ∀ j, j < n → a j < 72) : AM (Rw D bs n a) bs n a := by
  intro j hj
  rw [Rw, upA_s, putA_in hj]
  exact ⟨rfl, h j hj⟩
theorem Rw.self {D : Wd} {n bs : Nat} {a : Nat → Nat} (h : AM D bs n a) : Rw D bs n a = D := by
  rw [Rw, putA_self (fun j hj => (h j hj).1), upA_self]
theorem Rw.twice (D : Wd) (bs n : Nat) (a a' : Nat → Nat) : Rw (Rw D bs n a) bs n a' = Rw D bs n a' := by
  show upA (upA D (31, 0) (putA (D (31, 0)) bs n a)) (31, 0) (putA ((upA D (31, 0) (putA (D (31, 0)) bs n a)) (31, 0)) bs n a') = upA D (31, 0) (putA (D (31, 0)) bs n a')
  rw [upA_s, upA_up, putA_put]
theorem Rw.at {D : Wd} {bs n : Nat} {a : Nat → Nat} {i : Id2} (h : i ≠ (31, 0)) : Rw D bs n a i = D i := upA_n D _ h
/-- a push of at most d steps: how many it moved, and where all stands then -/
def psh (n : Nat) (k f : Nat → Nat) (i s : Nat) : Nat → (Nat → Nat) → Nat × (Nat → Nat)
  | 0, a => (0, a)
  | d + 1, a => if mov n a k f i s = 0 then (0, a) else ((psh n k f i s d (stp n a k f i s)).1 + 1, (psh n k f i s d (stp n a k f i s)).2)
theorem psh_le (n : Nat) (k f : Nat → Nat) (i s : Nat) : ∀ d a, (psh n k f i s d a).1 ≤ d
  | 0, a => by simp [psh]
  | d + 1, a => by
    rw [psh]; split
    · simp
    · have := psh_le n k f i s d (stp n a k f i s); simp only; omega
theorem psh_lt {n : Nat} {k f : Nat → Nat} {i s : Nat} : ∀ d a, (∀ j, j < n → a j < 72) → ∀ j, j < n → (psh n k f i s d a).2 j < 72
  | 0, a, h => h
  | d + 1, a, h => by
    rw [psh]; split
    · exact h
    · exact psh_lt d _ (fun j hj => stp_lt (h j hj))
/-! places of people, hours, copies of rows -/
def PLM (D : Wd) (bs pn : Nat) (pl : Nat → Int32) : Prop := ∀ p, p < pn → D (31, 0) (bs + 8 + p) = pl p
/-- each of them is out, or in a room that there is -/
def PLok (n pn : Nat) (pl : Nat → Int32) : Prop := ∀ p, p < pn → pl p = -1 ∨ ∃ r, r < n ∧ pl p = nI r
def ppl (pn : Nat) (pl : Nat → Int32) (x : Int32) : Nat := bitsN (fun p => decide (pl p = x)) pn
def hrA (n : Nat) (k f hm : Nat → Nat) : Nat → (Nat → Nat) → (Nat → Nat)
  | 0, a => a
  | m + 1, a => if k m = 1 ∧ onN (hrA n k f hm m a m) (hm m) ≠ 0 then stp n (hrA n k f hm m a) k f m (if onN (hrA n k f hm m a m) (hm m) ≤ 72 - onN (hrA n k f hm m a m) (hm m) then 0 else 1) else hrA n k f hm m a
def hrN (n : Nat) (k f hm : Nat → Nat) : Nat → (Nat → Nat) → (Nat → Nat)
  | 0, a => a
  | m + 1, a => hrA n k f hm n (hrN n k f hm m a)
theorem hrA_lt {n : Nat} {k f hm : Nat → Nat} : ∀ m a, (∀ j, j < n → a j < 72) → ∀ j, j < n → hrA n k f hm m a j < 72
  | 0, a, h => h
  | m + 1, a, h => by
    intro j hj
    rw [hrA]; split
    · exact stp_lt (hrA_lt m a h j hj)
    · exact hrA_lt m a h j hj
theorem hrN_lt {n : Nat} {k f hm : Nat → Nat} : ∀ m a, (∀ j, j < n → a j < 72) → ∀ j, j < n → hrN n k f hm m a j < 72
  | 0, a, h => h
  | m + 1, a, h => hrA_lt n _ (hrN_lt m a h)
def cpR (w : Nat → Int32) (fr to m : Nat) : Nat → Int32 := fun q => if to ≤ q ∧ q < to + m then w (fr + (q - to)) else w q
theorem cpR_0 (w : Nat → Int32) (fr to : Nat) : cpR w fr to 0 = w := by
  funext q; unfold cpR; rw [if_neg (by omega)]
theorem cpR_succ (w : Nat → Int32) {fr to q : Nat} (x : Int32) (hx : x = w (fr + q)) : upd (cpR w fr to q) (to + q) x = cpR w fr to (q + 1) := by
  funext j; unfold upd cpR
  by_cases h : j = to + q
  · subst h
    rw [if_pos rfl, if_pos ⟨by omega, by omega⟩, hx]; congr 1; omega
  · rw [if_neg h]
    by_cases h2 : to ≤ j ∧ j < to + q
    · rw [if_pos h2, if_pos ⟨by omega, by omega⟩]
    · rw [if_neg h2, if_neg (by omega)]
theorem cpR_out {w : Nat → Int32} {fr to m q : Nat} (h : q < to ∨ to + m ≤ q) : cpR w fr to m q = w q := by
  unfold cpR; rw [if_neg (by omega)]
theorem cpR_in {w : Nat → Int32} {fr to m q : Nat} (h : q < m) : cpR w fr to m (to + q) = w (fr + q) := by
  unfold cpR; rw [if_pos ⟨by omega, by omega⟩]; congr 1; omega
theorem AM.z {D : Wd} {n : Nat} {a : Nat → Nat} (h : AM D 0 n a) (j : Nat) (hj : j < n) : D (31, 0) j = nI (a j) ∧ a j < 72 := by
  have := h j hj
  rwa [Nat.zero_add] at this
theorem PLM.z {D : Wd} {pn : Nat} {pl : Nat → Int32} (h : PLM D 0 pn pl) (p : Nat) (hp : p < pn) : D (31, 0) (8 + p) = pl p := by
  have := h p hp
  rwa [Nat.zero_add] at this
def cntN (p : Nat → Bool) : Nat → Nat
  | 0 => 0
  | n + 1 => cntN p n + if p n then 1 else 0
/-! what the public methods answer -/
def leafS (n : Nat) (k a hm : Nat → Nat) (x w : Int32) : Int32 := if lt0 x n then (if w = 0 then nI (k (ix x)) else if w = nI 1 then nI (a (ix x)) else if w = nI 2 then nI (hm (ix x)) else -3) else -2
def roomS (n : Nat) (f a : Nat → Nat) (dn : Nat) (dr : Nat → Nat) (pn : Nat) (pl : Nat → Int32) (x w : Int32) : Int32 := if lt0 x n then (if w = 0 then nI (wid n a (ix x)) else if w = nI 1 then nI (f (ix x)) else if w = nI 2 then (if opn n a dn dr (ix x) then nI 1 else nI 0) else if w = nI 3 then nI (ppl pn pl x) else -3) else -2
def isAs (q : Nat) (w : Int32) : Bool := decide (w = 0) || (decide (w = nI 1) && decide (q < 2)) || (decide (w = nI 2) && decide (q = 1)) || (decide (w = nI 3) && decide (2 ≤ q)) || (decide (w = nI 4) && decide (q = 3))
def asS (n : Nat) (k f a : Nat → Nat) (x w : Int32) : Int32 := if lt0 x n then (if lt0 w 5 then (if isAs (k (ix x)) w then nI ((if mov n a k f (ix x) 0 = 0 then 0 else 1) + (if mov n a k f (ix x) 1 = 0 then 0 else 2)) else -4) else -3) else -2
def personS (pn : Nat) (pl : Nat → Int32) (x : Int32) : Int32 := if lt0 x pn then pl (ix x) else -2
def pushS (n : Nat) (k f a : Nat → Nat) (x s d : Int32) : Int32 := if lt0 x n then (if lt0 s 2 && rng d 1 72 then nI (psh n k f (ix x) (ix s) (ix d) a).1 else -3) else -2
def pushA (n : Nat) (k f a : Nat → Nat) (x s d : Int32) : Nat → Nat := if lt0 x n then (if lt0 s 2 && rng d 1 72 then (psh n k f (ix x) (ix s) (ix d) a).2 else a) else a
def hoursS (hr : Nat) (x : Int32) : Int32 := if rng x 1 99 then (if 9999 < hr + ix x then -5 else nI (hr + ix x)) else -3
end
section
set_option maxRecDepth 100000 in
set_option maxHeartbeats 4000000 in
theorem m_step {D : Wd} {n : Nat} {k f : Nat → Nat} {dn : Nat} {dr : Nat → Nat} {pn : Nat} (hP : PM D n k f dn dr pn) {bs : Nat} {a : Nat → Nat} (hA : AM D bs n a) (hb : bs + 14 ≤ 70) {i s : Nat} (hi : i < n) (hs : s < 2) : Fok mX6_step idsA 4 [vr (30, 0), vi (nI bs), vi (nI i), vi (nI s)] D (some (vi (if 0 < mov n a k f i s then 1 else 0))) (Rw D bs n (stp n a k f i s)) := by
  obtain ⟨hn3, hn8, hN, hK, hF, hd3, hDn, hDr, hp5, hPn⟩ := id hP
  have hb256 : bitsN (inM n (mov n a k f i s) i s) n < 256 := bits256 hn8
  refine Mok.of (L := [some (vr (30, 0)), some (vi (nI bs)), some (vi (nI i)), some (vi (nI s)), none, none]) rfl (fun _ => Nat.le_of_ble_eq_true rfl) (fun _ => rfl) (fun X cx rq => ?_)
  refine g_aload_n cx dX6_step_0 rfl ?_
  refine g_iload_n cx dX6_step_1 rfl ?_
  refine g_iload_n cx dX6_step_2 rfl ?_
  refine g_iload_n cx dX6_step_3 rfl ?_
  refine g_fcallV (As := [vi (nI bs), vi (nI i), vi (nI s)]) (rest := []) cx knX6_chain (m_chain hP hA (by omega) (i := i) (s := s) (by omega) (by omega)) a30_0 rfl rfl lmX6_195 niX6_chain seX6_chain rfl (by decide) (Nat.le_of_ble_eq_true rfl) rfl dX6_step_4 ?_
  refine g_istore (L' := [some (vr (30, 0)), some (vi (nI bs)), some (vi (nI i)), some (vi (nI s)), some (vi (nI (bitsN (inM n (mov n a k f i s) i s) n))), none]) cx dX6_step_7 (by decide) rfl rfl ?_
  refine g_iconst (v := nI 0) cx dX6_step_9 (by decide) ?_
  refine g_istore (L' := [some (vr (30, 0)), some (vi (nI bs)), some (vi (nI i)), some (vi (nI s)), some (vi (nI (bitsN (inM n (mov n a k f i s) i s) n))), some (vi (nI 0))]) cx dX6_step_10 (by decide) rfl rfl ?_
  have lp : ∀ (fu : Nat) (q : Nat), n - q < fu → (q ≤ n) → Gk X mX6_step idsA 12 [some (vr (30, 0)), some (vi (nI bs)), some (vi (nI i)), some (vi (nI s)), some (vi (nI (bitsN (inM n (mov n a k f i s) i s) n))), some (vi (nI q))] [] (Rw D bs q (stp n a k f i s)) := by
    intro fu
    induction fu with
    | zero => intro q hfu; exact absurd hfu (Nat.not_lt_zero _)
    | succ fu ih =>
      intro q hfu hq
      refine g_iload cx dX6_step_12 rfl ?_
      refine g_aload_n cx dX6_step_14 rfl ?_
      refine g_getIN (i := (30, 0)) (ci := 6) (k := 6) (v := nI n) cx a30_0 rfl rfl rfl (by decide) inX6 lfX6_23 dX6_step_15 ((congrFun (Rw.at (by decide)) 6).trans hN) ?_
      refine g_icmp_geN (tgt := 81) cx dX6_step_18 (by decide) (by omega) (by omega) (fun h_18 => ?_) (fun h_18 => ?_)
      · skip
        have e : q = n := by omega
        subst e
        refine g_iload cx dX6_step_81 rfl ?_
        refine g_if_eqN (tgt := 90) cx dX6_step_83 (by decide) (by omega) (fun h_83 => ?_) (fun h_83 => ?_)
        · skip
          refine g_iconst (v := nI 0) cx dX6_step_90 (by decide) ?_
          exact g_fret cx rq rfl (by rfl) dX6_step_91 (by rw [bi_f (c := 0 < mov q a k f i s) (fun e => absurd ((mset_ne (by omega) hi hs).mp h_83) (by omega))]) (rfl)
        · skip
          refine g_iconst (v := nI 1) cx dX6_step_86 (by decide) ?_
          refine g_goto (tgt := 91) cx dX6_step_87 (by decide) ?_
          exact g_fret cx rq rfl (by rfl) dX6_step_91 (by rw [bi_t (c := 0 < mov q a k f i s) (Nat.pos_of_ne_zero (fun e => h_83 ((mset_ne (by omega) hi hs).mpr e)))]) (rfl)
      · skip
        refine g_aload_n cx dX6_step_21 rfl ?_
        refine g_getR (i := (30, 0)) (ci := 6) (k := 0) (j := (31, 0)) cx a30_0 rfl rfl rfl (by decide) inX6 lfX6_7 dX6_step_22 ?_
        refine g_iload_n cx dX6_step_25 rfl ?_
        refine g_iload cx dX6_step_26 rfl ?_
        refine g_iaddN cx dX6_step_28 ?_
        refine g_iload cx dX6_step_29 rfl ?_
        refine g_iload cx dX6_step_31 rfl ?_
        refine g_fcallS (As := [vi (nI (bitsN (inM n (mov n a k f i s) i s) n)), vi (nI q)]) (rest := [vi (nI (bs + q)), vr (31, 0)]) cx knX6_has (m_has (v := bitsN (inM n (mov n a k f i s) i s) n) (t := q) (hb256) (by omega)) lmX6_199 nsX6_has rfl (by decide) (Nat.le_of_ble_eq_true rfl) rfl dX6_step_33 ?_
        refine g_if_eqB (tgt := 65) cx dX6_step_36 (by decide) (fun h_36 => ?_) (fun h_36 => ?_)
        · skip
          refine g_aload_n cx dX6_step_65 rfl ?_
          refine g_getR (i := (30, 0)) (ci := 6) (k := 0) (j := (31, 0)) cx a30_0 rfl rfl rfl (by decide) inX6 lfX6_7 dX6_step_66 ?_
          refine g_iload_n cx dX6_step_69 rfl ?_
          refine g_iload cx dX6_step_70 rfl ?_
          refine g_iaddN cx dX6_step_72 ?_
          refine g_ialdN (i := (31, 0)) (j := bs + q) (v := nI (a q)) cx a31_0 rfl (rfl) (by omega) (by decide) dX6_step_73 (by rw [Rw, upA_s, putA_out (by omega)]; exact (hA q (by omega)).1) ?_
          refine g_top (y := nI (stp n a k f i s q)) (by unfold stp; rw [if_neg (fun e => h_36 ((inM_of (by omega)).mpr e))]) ?_
          refine g_iast (i := (31, 0)) (j := bs + q) cx a31_0 rfl (rfl) (by omega) (by decide) dX6_step_74 ?_
          refine g_iincN (L' := [some (vr (30, 0)), some (vi (nI bs)), some (vi (nI i)), some (vi (nI s)), some (vi (nI (bitsN (inM n (mov n a k f i s) i s) n))), some (vi (nI (q + 1)))]) cx dX6_step_75 rfl (by decide) rfl rfl ?_
          refine g_goto (tgt := 12) cx dX6_step_78 (by decide) ?_
          refine g_wd (D' := Rw D bs (q + 1) (stp n a k f i s)) (put_step D (31, 0) (D (31, 0)) bs q _) ?_
          exact ih (q + 1) (by omega) (by omega)
        · skip
          have haq := (hA q (by omega)).2
          refine g_aload_n cx dX6_step_39 rfl ?_
          refine g_getR (i := (30, 0)) (ci := 6) (k := 0) (j := (31, 0)) cx a30_0 rfl rfl rfl (by decide) inX6 lfX6_7 dX6_step_40 ?_
          refine g_iload_n cx dX6_step_43 rfl ?_
          refine g_iload cx dX6_step_44 rfl ?_
          refine g_iaddN cx dX6_step_46 ?_
          refine g_ialdN (i := (31, 0)) (j := bs + q) (v := nI (a q)) cx a31_0 rfl (rfl) (by omega) (by decide) dX6_step_47 (by rw [Rw, upA_s, putA_out (by omega)]; exact (hA q (by omega)).1) ?_
          refine g_iload_n cx dX6_step_48 rfl ?_
          refine g_if_neN (tgt := 56) cx dX6_step_49 (by decide) (by omega) (fun h_49 => ?_) (fun h_49 => ?_)
          · skip
            refine g_bipush (v := nI 71) cx dX6_step_56 (by decide) ?_
            refine g_iaddN cx dX6_step_58 ?_
            refine g_bipush (v := nI 72) cx dX6_step_59 (by decide) ?_
            refine g_iremN cx dX6_step_61 (by omega) (by omega) (by omega) ?_
            refine g_goto (tgt := 74) cx dX6_step_62 (by decide) ?_
            refine g_top (y := nI (stp n a k f i s q)) (by unfold stp; rw [if_pos ((inM_of (by omega)).mp h_36), sa, if_neg h_49]) ?_
            refine g_iast (i := (31, 0)) (j := bs + q) cx a31_0 rfl (rfl) (by omega) (by decide) dX6_step_74 ?_
            refine g_iincN (L' := [some (vr (30, 0)), some (vi (nI bs)), some (vi (nI i)), some (vi (nI s)), some (vi (nI (bitsN (inM n (mov n a k f i s) i s) n))), some (vi (nI (q + 1)))]) cx dX6_step_75 rfl (by decide) rfl rfl ?_
            refine g_goto (tgt := 12) cx dX6_step_78 (by decide) ?_
            refine g_wd (D' := Rw D bs (q + 1) (stp n a k f i s)) (put_step D (31, 0) (D (31, 0)) bs q _) ?_
            exact ih (q + 1) (by omega) (by omega)
          · skip
            refine g_iconst (v := nI 1) cx dX6_step_52 (by decide) ?_
            refine g_goto (tgt := 58) cx dX6_step_53 (by decide) ?_
            refine g_iaddN cx dX6_step_58 ?_
            refine g_bipush (v := nI 72) cx dX6_step_59 (by decide) ?_
            refine g_iremN cx dX6_step_61 (by omega) (by omega) (by omega) ?_
            refine g_goto (tgt := 74) cx dX6_step_62 (by decide) ?_
            refine g_top (y := nI (stp n a k f i s q)) (by unfold stp; rw [if_pos ((inM_of (by omega)).mp h_36), sa, if_pos h_49]) ?_
            refine g_iast (i := (31, 0)) (j := bs + q) cx a31_0 rfl (rfl) (by omega) (by decide) dX6_step_74 ?_
            refine g_iincN (L' := [some (vr (30, 0)), some (vi (nI bs)), some (vi (nI i)), some (vi (nI s)), some (vi (nI (bitsN (inM n (mov n a k f i s) i s) n))), some (vi (nI (q + 1)))]) cx dX6_step_75 rfl (by decide) rfl rfl ?_
            refine g_goto (tgt := 12) cx dX6_step_78 (by decide) ?_
            refine g_wd (D' := Rw D bs (q + 1) (stp n a k f i s)) (put_step D (31, 0) (D (31, 0)) bs q _) ?_
            exact ih (q + 1) (by omega) (by omega)
  refine g_wd (D' := Rw D bs 0 (stp n a k f i s)) (put_0 D (31, 0) bs _) ?_
  exact lp (n + 1) 0 (by omega) (by omega)

set_option maxRecDepth 100000 in
set_option maxHeartbeats 4000000 in
theorem m_isLeaf {D : Wd} {n : Nat} {k f : Nat → Nat} {dn : Nat} {dr : Nat → Nat} {pn : Nat} (hP : PM D n k f dn dr pn) (x : Int32) : Fok mX6_isLeaf idsA 1 [vr (30, 0), vi x] D (some (vi (if lt0 x n = true then 1 else 0))) D := by
  obtain ⟨hn3, hn8, hN, hK, hF, hd3, hDn, hDr, hp5, hPn⟩ := id hP
  refine Mok.of (L := [some (vr (30, 0)), some (vi x)]) rfl (fun _ => Nat.le_of_ble_eq_true rfl) (fun _ => rfl) (fun X cx rq => ?_)
  refine g_iload_n cx dX6_isLeaf_0 rfl ?_
  refine g_i2l cx dX6_isLeaf_1 ?_
  refine g_lconst (v := 0) cx dX6_isLeaf_2 (by decide) ?_
  refine g_aload_n cx dX6_isLeaf_3 rfl ?_
  refine g_getIN (i := (30, 0)) (ci := 6) (k := 6) (v := nI n) cx a30_0 rfl rfl rfl (by decide) inX6 lfX6_23 dX6_isLeaf_4 (hN) ?_
  refine g_iconst (v := nI 1) cx dX6_isLeaf_7 (by decide) ?_
  refine g_isubN cx dX6_isLeaf_8 (by omega) ?_
  refine g_i2l cx dX6_isLeaf_9 ?_
  refine g_fcallS (As := [vl x.toInt64, vl 0, vl ((nI (n - 1)).toInt64)]) (rest := []) cx knX6_in (m_in x.toInt64 0 ((nI (n - 1)).toInt64)) lmX6_60 nsX6_in rfl (by decide) (Nat.le_of_ble_eq_true rfl) rfl dX6_isLeaf_10 ?_
  refine g_top (bi_iff (in_iff (by omega) (by omega))) ?_
  exact g_fret cx rq rfl (bi_nar _) dX6_isLeaf_13 (rfl) (rfl)

set_option maxRecDepth 100000 in
set_option maxHeartbeats 4000000 in
theorem m_isSide {D : Wd} (x : Int32) : Fok mX6_isSide idsA 1 [vi x] D (some (vi (if lt0 x 2 = true then 1 else 0))) D := by
  refine Mok.of (L := [some (vi x)]) rfl (fun _ => Nat.le_of_ble_eq_true rfl) (fun _ => rfl) (fun X cx rq => ?_)
  refine g_iload_n cx dX6_isSide_0 rfl ?_
  refine g_i2l cx dX6_isSide_1 ?_
  refine g_lconst (v := 0) cx dX6_isSide_2 (by decide) ?_
  refine g_lconst (v := 1) cx dX6_isSide_3 (by decide) ?_
  refine g_fcallS (As := [vl x.toInt64, vl 0, vl 1]) (rest := []) cx knX6_in (m_in x.toInt64 0 1) lmX6_60 nsX6_in rfl (by decide) (Nat.le_of_ble_eq_true rfl) rfl dX6_isSide_4 ?_
  refine g_top (bi_iff (in_iff (n := 2) (by omega) (by omega))) ?_
  exact g_fret cx rq rfl (bi_nar _) dX6_isSide_7 (rfl) (rfl)

set_option maxRecDepth 100000 in
set_option maxHeartbeats 4000000 in
theorem m_pushBy {D : Wd} {n : Nat} {k f : Nat → Nat} {dn : Nat} {dr : Nat → Nat} {pn : Nat} (hP : PM D n k f dn dr pn) {bs : Nat} {a : Nat → Nat} (hA : AM D bs n a) (hb : bs + 14 ≤ 70) {i s d : Nat} (hi : i < n) (hs : s < 2) (hd : d < 100) : Fok mX6_pushBy idsA 5 [vr (30, 0), vi (nI bs), vi (nI i), vi (nI s), vi (nI d)] D (some (vi (nI ((psh n k f i s d a).1)))) (Rw D bs n (psh n k f i s d a).2) := by
  obtain ⟨hn3, hn8, hN, hK, hF, hd3, hDn, hDr, hp5, hPn⟩ := id hP
  refine Mok.of (L := [some (vr (30, 0)), some (vi (nI bs)), some (vi (nI i)), some (vi (nI s)), some (vi (nI d)), none]) rfl (fun _ => Nat.le_of_ble_eq_true rfl) (fun _ => rfl) (fun X cx rq => ?_)
  refine g_iconst (v := nI 0) cx dX6_pushBy_0 (by decide) ?_
  refine g_istore (L' := [some (vr (30, 0)), some (vi (nI bs)), some (vi (nI i)), some (vi (nI s)), some (vi (nI d)), some (vi (nI 0))]) cx dX6_pushBy_1 (by decide) rfl rfl ?_
  have lp : ∀ (fu : Nat) (c : Nat) (ac : Nat → Nat), d - c < fu → (c ≤ d) → (∀ j, j < n → ac j < 72) → (c + (psh n k f i s (d - c) ac).1 = (psh n k f i s d a).1 ∧ (psh n k f i s (d - c) ac).2 = (psh n k f i s d a).2) → Gk X mX6_pushBy idsA 3 [some (vr (30, 0)), some (vi (nI bs)), some (vi (nI i)), some (vi (nI s)), some (vi (nI d)), some (vi (nI c))] [] (Rw D bs n ac) := by
    intro fu
    induction fu with
    | zero => intro c ac hfu; exact absurd hfu (Nat.not_lt_zero _)
    | succ fu ih =>
      intro c ac hfu hc hac hm
      refine g_iload cx dX6_pushBy_3 rfl ?_
      refine g_iload cx dX6_pushBy_5 rfl ?_
      refine g_icmp_geN (tgt := 26) cx dX6_pushBy_7 (by decide) (by omega) (by omega) (fun h_7 => ?_) (fun h_7 => ?_)
      · skip
        have e : d - c = 0 := by omega
        rw [e] at hm
        refine g_iload cx dX6_pushBy_26 rfl ?_
        exact g_fret cx rq rfl (rfl) dX6_pushBy_28 (by rw [← hm.1]; rfl) (by rw [← hm.2]; rfl)
      · skip
        obtain ⟨z, hz⟩ : ∃ z, d - c = z + 1 := ⟨d - c - 1, by omega⟩
        rw [hz, psh] at hm
        refine g_aload_n cx dX6_pushBy_10 rfl ?_
        refine g_iload_n cx dX6_pushBy_11 rfl ?_
        refine g_iload_n cx dX6_pushBy_12 rfl ?_
        refine g_iload_n cx dX6_pushBy_13 rfl ?_
        refine g_fcallV (As := [vi (nI bs), vi (nI i), vi (nI s)]) (rest := []) cx knX6_step (m_step (Rw.P hP) (Rw.A hac) (by omega) (i := i) (s := s) (by omega) (by omega)) a30_0 rfl rfl lmX6_207 niX6_step seX6_step rfl (by decide) (Nat.le_of_ble_eq_true rfl) rfl dX6_pushBy_14 ?_
        refine g_wd (D' := Rw D bs n (stp n ac k f i s)) (Rw.twice _ _ _ _ _) ?_
        refine g_if_eqB (tgt := 26) cx dX6_pushBy_17 (by decide) (fun h_17 => ?_) (fun h_17 => ?_)
        · skip
          have h0 : mov n ac k f i s = 0 := by omega
          rw [if_pos h0] at hm
          refine g_iload cx dX6_pushBy_26 rfl ?_
          exact g_fret cx rq rfl (rfl) dX6_pushBy_28 (by rw [← hm.1]; rfl) (by rw [← hm.2, stp_0 h0])
        · skip
          rw [if_neg (by omega)] at hm
          have hm2 : (c + 1) + (psh n k f i s (d - (c + 1)) (stp n ac k f i s)).1 = (psh n k f i s d a).1 ∧ (psh n k f i s (d - (c + 1)) (stp n ac k f i s)).2 = (psh n k f i s d a).2 := by
            have e : d - (c + 1) = z := by omega
            rw [e]
            exact ⟨by have := hm.1; omega, hm.2⟩
          refine g_iincN (L' := [some (vr (30, 0)), some (vi (nI bs)), some (vi (nI i)), some (vi (nI s)), some (vi (nI d)), some (vi (nI (c + 1)))]) cx dX6_pushBy_20 rfl (by decide) rfl rfl ?_
          refine g_goto (tgt := 3) cx dX6_pushBy_23 (by decide) ?_
          exact ih (c + 1) (stp n ac k f i s) (by omega) (by omega) (fun j hj => stp_lt (hac j hj)) hm2
  refine g_wd (D' := Rw D bs n a) ((Rw.self hA).symm) ?_
  exact lp (d + 1) 0 a (by omega) (by omega) (fun j hj => (hA j hj).2) (⟨Nat.zero_add _, rfl⟩)
end
section
theorem nI_one : nI 1 = 1 := by decide
theorem in_iffp {x : Int32} {n : Nat} (hn : n < 2 ^ 31) : ((0 : Int64) ≤ x.toInt64 ∧ x.toInt64 ≤ (nI n - nI 1).toInt64) ↔ lt0 x n = true := by
  rcases Nat.eq_zero_or_pos n with e | e
  · subst e
    have e1 : nI 0 - nI 1 = -1 := by decide
    have e0 : (0 : Int64) = (0 : Int32).toInt64 := by decide
    have e2 : (-1 : Int32).toInt = -1 := by decide
    rw [e1, e0, i64_le, i64_le, lt0_iff, Int32.toInt_zero, e2]
    omega
  · rw [pk_sub e]; exact in_iff e hn
theorem ppl_s (pl : Nat → Int32) (x : Int32) (q : Nat) (hq : q < 8) : nI (bitsN (fun p => decide (pl p = x)) q) ||| (if pl q = x then nI (2 ^ q) else nI 0) = nI (bitsN (fun p => decide (pl p = x)) (q + 1)) := by
  rw [bitsN]
  by_cases h : pl q = x
  · rw [if_pos h, if_pos (by simpa using h), nI_or]
    congr 1
    have hl := bitsN_lt (fun p => decide (pl p = x)) q
    rw [Nat.or_comm, Nat.add_comm]
    have h9 := Nat.two_pow_add_eq_or_of_lt hl 1
    rw [Nat.mul_one] at h9
    exact h9.symm
  · rw [if_neg h, if_neg (by simpa using h), nI_or]; simp
set_option maxRecDepth 100000 in
set_option maxHeartbeats 4000000 in
theorem m_leaf {D : Wd} {n : Nat} {k f : Nat → Nat} {dn : Nat} {dr : Nat → Nat} {pn : Nat} (hP : PM D n k f dn dr pn) {a : Nat → Nat} (hA : AM D 0 n a) {hm : Nat → Nat} (hH : AM D 56 n hm) (x w : Int32) : Fok mX6_leaf idsA 2 [vr (30, 0), vi x, vi w] D (some (vi (leafS n k a hm x w))) D := by
  obtain ⟨hn3, hn8, hN, hK, hF, hd3, hDn, hDr, hp5, hPn⟩ := id hP
  refine Mok.of (L := [some (vr (30, 0)), some (vi x), some (vi w)]) rfl (fun _ => Nat.le_of_ble_eq_true rfl) (fun _ => rfl) (fun X cx rq => ?_)
  refine g_aload_n cx dX6_leaf_0 rfl ?_
  refine g_iload_n cx dX6_leaf_1 rfl ?_
  refine g_fcallV (As := [vi x]) (rest := []) cx knX6_isLeaf (m_isLeaf hP x) a30_0 rfl rfl lmX6_183 niX6_isLeaf seX6_isLeaf rfl (by decide) (Nat.le_of_ble_eq_true rfl) rfl dX6_leaf_2 ?_
  refine g_if_neB (tgt := 11) cx dX6_leaf_5 (by decide) (fun h_5 => ?_) (fun h_5 => ?_)
  · skip
    obtain ⟨j, hj, rfl⟩ := lt0_nI h_5
    have hjx : (nI j).toNatClampNeg = j := nI_clamp (by omega)
    refine g_iload_n cx dX6_leaf_11 rfl ?_
    refine g_if_ne (tgt := 24) cx dX6_leaf_12 (by decide) (fun h_12 => ?_) (fun h_12 => ?_)
    · skip
      refine g_iload_n cx dX6_leaf_24 rfl ?_
      refine g_iconst (v := nI 1) cx dX6_leaf_25 (by decide) ?_
      refine g_icmp_ne (tgt := 38) cx dX6_leaf_26 (by decide) (fun h_26 => ?_) (fun h_26 => ?_)
      · skip
        refine g_iload_n cx dX6_leaf_38 rfl ?_
        refine g_iconst (v := nI 2) cx dX6_leaf_39 (by decide) ?_
        refine g_icmp_ne (tgt := 55) cx dX6_leaf_40 (by decide) (fun h_40 => ?_) (fun h_40 => ?_)
        · skip
          refine g_bipush (v := (-3)) cx dX6_leaf_55 (by decide) ?_
          exact g_fret cx rq rfl (rfl) dX6_leaf_57 (by simp [leafS, eq_true h_5, hjx, eq_false h_12, eq_false h_26, eq_false h_40]) (rfl)
        · skip
          refine g_aload_n cx dX6_leaf_43 rfl ?_
          refine g_getR (i := (30, 0)) (ci := 6) (k := 0) (j := (31, 0)) cx a30_0 rfl rfl rfl (by decide) inX6 lfX6_7 dX6_leaf_44 ?_
          refine g_bipush (v := nI 56) cx dX6_leaf_47 (by decide) ?_
          refine g_iload_n cx dX6_leaf_49 rfl ?_
          refine g_iaddN cx dX6_leaf_50 ?_
          refine g_ialdN (i := (31, 0)) (j := 56 + j) (v := nI (hm j)) cx a31_0 rfl (rfl) (by omega) (by decide) dX6_leaf_51 ((hH j (by omega)).1) ?_
          refine g_goto (tgt := 57) cx dX6_leaf_52 (by decide) ?_
          exact g_fret cx rq rfl (rfl) dX6_leaf_57 (by simp [leafS, eq_true h_5, hjx, eq_false h_12, eq_false h_26, eq_true h_40]) (rfl)
      · skip
        refine g_aload_n cx dX6_leaf_29 rfl ?_
        refine g_getR (i := (30, 0)) (ci := 6) (k := 0) (j := (31, 0)) cx a30_0 rfl rfl rfl (by decide) inX6 lfX6_7 dX6_leaf_30 ?_
        refine g_iload_n cx dX6_leaf_33 rfl ?_
        refine g_ialdN (i := (31, 0)) (j := j) (v := nI (a j)) cx a31_0 rfl (rfl) (by omega) (by decide) dX6_leaf_34 ((hA.z j (by omega)).1) ?_
        refine g_goto (tgt := 57) cx dX6_leaf_35 (by decide) ?_
        exact g_fret cx rq rfl (rfl) dX6_leaf_57 (by simp [leafS, eq_true h_5, hjx, eq_false h_12, eq_true h_26]) (rfl)
    · skip
      refine g_aload_n cx dX6_leaf_15 rfl ?_
      refine g_getR (i := (30, 0)) (ci := 6) (k := 7) (j := (35, 0)) cx a30_0 rfl rfl rfl (by decide) inX6 lfX6_27 dX6_leaf_16 ?_
      refine g_iload_n cx dX6_leaf_19 rfl ?_
      refine g_ialdN (i := (35, 0)) (j := j) (v := nI (k j)) cx a35_0 rfl (rfl) (by omega) (by decide) dX6_leaf_20 ((hK j (by omega)).1) ?_
      refine g_goto (tgt := 57) cx dX6_leaf_21 (by decide) ?_
      exact g_fret cx rq rfl (rfl) dX6_leaf_57 (by simp [leafS, eq_true h_5, hjx, eq_true h_12]) (rfl)
  · skip
    refine g_bipush (v := (-2)) cx dX6_leaf_8 (by decide) ?_
    exact g_fret cx rq rfl (rfl) dX6_leaf_10 (by simp [leafS, eq_false h_5]) (rfl)

set_option maxRecDepth 100000 in
set_option maxHeartbeats 4000000 in
theorem m_isPerson {D : Wd} {n : Nat} {k f : Nat → Nat} {dn : Nat} {dr : Nat → Nat} {pn : Nat} (hP : PM D n k f dn dr pn) (x : Int32) : Fok mX6_isPerson idsA 1 [vr (30, 0), vi x] D (some (vi (if lt0 x pn = true then 1 else 0))) D := by
  obtain ⟨hn3, hn8, hN, hK, hF, hd3, hDn, hDr, hp5, hPn⟩ := id hP
  refine Mok.of (L := [some (vr (30, 0)), some (vi x)]) rfl (fun _ => Nat.le_of_ble_eq_true rfl) (fun _ => rfl) (fun X cx rq => ?_)
  refine g_iload_n cx dX6_isPerson_0 rfl ?_
  refine g_i2l cx dX6_isPerson_1 ?_
  refine g_lconst (v := 0) cx dX6_isPerson_2 (by decide) ?_
  refine g_aload_n cx dX6_isPerson_3 rfl ?_
  refine g_getIN (i := (30, 0)) (ci := 6) (k := 11) (v := nI pn) cx a30_0 rfl rfl rfl (by decide) inX6 lfX6_153 dX6_isPerson_4 (hPn) ?_
  refine g_iconst (v := nI 1) cx dX6_isPerson_7 (by decide) ?_
  refine g_isub cx dX6_isPerson_8 ?_
  refine g_i2l cx dX6_isPerson_9 ?_
  refine g_fcallS (As := [vl x.toInt64, vl 0, vl (((nI pn) - (nI 1)).toInt64)]) (rest := []) cx knX6_in (m_in x.toInt64 0 (((nI pn) - (nI 1)).toInt64)) lmX6_60 nsX6_in rfl (by decide) (Nat.le_of_ble_eq_true rfl) rfl dX6_isPerson_10 ?_
  refine g_top (bi_iff (in_iffp (by omega))) ?_
  exact g_fret cx rq rfl (bi_nar _) dX6_isPerson_13 (rfl) (rfl)

set_option maxRecDepth 100000 in
set_option maxHeartbeats 4000000 in
theorem m_person {D : Wd} {n : Nat} {k f : Nat → Nat} {dn : Nat} {dr : Nat → Nat} {pn : Nat} (hP : PM D n k f dn dr pn) {pl : Nat → Int32} (hPl : PLM D 0 pn pl) (hPo : PLok n pn pl) (x : Int32) : Fok mX6_person idsA 2 [vr (30, 0), vi x] D (some (vi (personS pn pl x))) D := by
  obtain ⟨hn3, hn8, hN, hK, hF, hd3, hDn, hDr, hp5, hPn⟩ := id hP
  refine Mok.of (L := [some (vr (30, 0)), some (vi x)]) rfl (fun _ => Nat.le_of_ble_eq_true rfl) (fun _ => rfl) (fun X cx rq => ?_)
  refine g_aload_n cx dX6_person_0 rfl ?_
  refine g_iload_n cx dX6_person_1 rfl ?_
  refine g_fcallV (As := [vi x]) (rest := []) cx knX6_isPerson (m_isPerson hP x) a30_0 rfl rfl lmX6_204 niX6_isPerson seX6_isPerson rfl (by decide) (Nat.le_of_ble_eq_true rfl) rfl dX6_person_2 ?_
  refine g_if_eqB (tgt := 20) cx dX6_person_5 (by decide) (fun h_5 => ?_) (fun h_5 => ?_)
  · skip
    refine g_bipush (v := (-2)) cx dX6_person_20 (by decide) ?_
    exact g_fret cx rq rfl (rfl) dX6_person_22 (by simp [personS, eq_false h_5]) (rfl)
  · skip
    obtain ⟨j, hj, rfl⟩ := lt0_nI h_5
    have hjx : (nI j).toNatClampNeg = j := nI_clamp (by omega)
    refine g_aload_n cx dX6_person_8 rfl ?_
    refine g_getR (i := (30, 0)) (ci := 6) (k := 0) (j := (31, 0)) cx a30_0 rfl rfl rfl (by decide) inX6 lfX6_7 dX6_person_9 ?_
    refine g_bipush (v := nI 8) cx dX6_person_12 (by decide) ?_
    refine g_iload_n cx dX6_person_14 rfl ?_
    refine g_iaddN cx dX6_person_15 ?_
    refine g_ialdN (i := (31, 0)) (j := 8 + j) (v := (pl j)) cx a31_0 rfl (rfl) (by omega) (by decide) dX6_person_16 (hPl.z j (by omega)) ?_
    refine g_goto (tgt := 22) cx dX6_person_17 (by decide) ?_
    exact g_fret cx rq rfl (rfl) dX6_person_22 (by simp [personS, eq_true h_5, hjx]) (rfl)

set_option maxRecDepth 100000 in
set_option maxHeartbeats 4000000 in
theorem m_inRoom {D : Wd} {n : Nat} {k f : Nat → Nat} {dn : Nat} {dr : Nat → Nat} {pn : Nat} (hP : PM D n k f dn dr pn) {bs : Nat} {pl : Nat → Int32} (hPl : PLM D bs pn pl) (hb : bs + 14 ≤ 70) (x : Int32) : Fok mX6_inRoom idsA 0 [vr (30, 0), vi (nI bs), vi x] D (some (vi (nI (ppl pn pl x)))) D := by
  obtain ⟨hn3, hn8, hN, hK, hF, hd3, hDn, hDr, hp5, hPn⟩ := id hP
  refine Mok.of (L := [some (vr (30, 0)), some (vi (nI bs)), some (vi x), none, none]) rfl (fun _ => Nat.le_of_ble_eq_true rfl) (fun _ => rfl) (fun X cx rq => ?_)
  refine g_iconst (v := nI 0) cx dX6_inRoom_0 (by decide) ?_
  refine g_istore_n (L' := [some (vr (30, 0)), some (vi (nI bs)), some (vi x), some (vi (nI 0)), none]) cx dX6_inRoom_1 (by decide) rfl rfl ?_
  refine g_iconst (v := nI 0) cx dX6_inRoom_2 (by decide) ?_
  refine g_istore (L' := [some (vr (30, 0)), some (vi (nI bs)), some (vi x), some (vi (nI 0)), some (vi (nI 0))]) cx dX6_inRoom_3 (by decide) rfl rfl ?_
  have lp : ∀ (fu : Nat) (q : Nat), pn - q < fu → (q ≤ pn) → Gk X mX6_inRoom idsA 5 [some (vr (30, 0)), some (vi (nI bs)), some (vi x), some (vi (nI (bitsN (fun p => decide (pl p = x)) q))), some (vi (nI q))] [] D := by
    intro fu
    induction fu with
    | zero => intro q hfu; exact absurd hfu (Nat.not_lt_zero _)
    | succ fu ih =>
      intro q hfu hq
      refine g_iload cx dX6_inRoom_5 rfl ?_
      refine g_aload_n cx dX6_inRoom_7 rfl ?_
      refine g_getIN (i := (30, 0)) (ci := 6) (k := 11) (v := nI pn) cx a30_0 rfl rfl rfl (by decide) inX6 lfX6_153 dX6_inRoom_8 (hPn) ?_
      refine g_icmp_geN (tgt := 47) cx dX6_inRoom_11 (by decide) (by omega) (by omega) (fun h_11 => ?_) (fun h_11 => ?_)
      · skip
        have e : q = pn := by omega
        subst e
        refine g_iload_n cx dX6_inRoom_47 rfl ?_
        exact g_fret cx rq rfl (rfl) dX6_inRoom_48 (rfl) (rfl)
      · skip
        refine g_iload_n cx dX6_inRoom_14 rfl ?_
        refine g_aload_n cx dX6_inRoom_15 rfl ?_
        refine g_getR (i := (30, 0)) (ci := 6) (k := 0) (j := (31, 0)) cx a30_0 rfl rfl rfl (by decide) inX6 lfX6_7 dX6_inRoom_16 ?_
        refine g_iload_n cx dX6_inRoom_19 rfl ?_
        refine g_bipush (v := nI 8) cx dX6_inRoom_20 (by decide) ?_
        refine g_iaddN cx dX6_inRoom_22 ?_
        refine g_iload cx dX6_inRoom_23 rfl ?_
        refine g_iaddN cx dX6_inRoom_25 ?_
        refine g_ialdN (i := (31, 0)) (j := (bs + 8) + q) (v := (pl q)) cx a31_0 rfl (rfl) (by omega) (by decide) dX6_inRoom_26 (hPl q (by omega)) ?_
        refine g_iload_n cx dX6_inRoom_27 rfl ?_
        refine g_icmp_ne (tgt := 38) cx dX6_inRoom_28 (by decide) (fun h_28 => ?_) (fun h_28 => ?_)
        · skip
          refine g_iconst (v := nI 0) cx dX6_inRoom_38 (by decide) ?_
          refine g_top (y := if pl q = x then nI (2 ^ q) else nI 0) (by rw [if_neg h_28]) ?_
          refine g_ior cx dX6_inRoom_39 ?_
          refine g_top (y := nI (bitsN (fun p => decide (pl p = x)) (q + 1))) (ppl_s pl x q (by omega)) ?_
          refine g_istore_n (L' := [some (vr (30, 0)), some (vi (nI bs)), some (vi x), some (vi (nI (bitsN (fun p => decide (pl p = x)) (q + 1)))), some (vi (nI q))]) cx dX6_inRoom_40 (by decide) rfl rfl ?_
          refine g_iincN (L' := [some (vr (30, 0)), some (vi (nI bs)), some (vi x), some (vi (nI (bitsN (fun p => decide (pl p = x)) (q + 1)))), some (vi (nI (q + 1)))]) cx dX6_inRoom_41 rfl (by decide) rfl rfl ?_
          refine g_goto (tgt := 5) cx dX6_inRoom_44 (by decide) ?_
          exact ih (q + 1) (by omega) (by omega)
        · skip
          refine g_iconst (v := nI 1) cx dX6_inRoom_31 (by decide) ?_
          refine g_iload cx dX6_inRoom_32 rfl ?_
          refine g_ishl cx dX6_inRoom_34 ?_
          refine g_goto (tgt := 39) cx dX6_inRoom_35 (by decide) ?_
          refine g_top (y := if pl q = x then nI (2 ^ q) else nI 0) (by rw [if_pos h_28]; exact nI_shl q (by omega)) ?_
          refine g_ior cx dX6_inRoom_39 ?_
          refine g_top (y := nI (bitsN (fun p => decide (pl p = x)) (q + 1))) (ppl_s pl x q (by omega)) ?_
          refine g_istore_n (L' := [some (vr (30, 0)), some (vi (nI bs)), some (vi x), some (vi (nI (bitsN (fun p => decide (pl p = x)) (q + 1)))), some (vi (nI q))]) cx dX6_inRoom_40 (by decide) rfl rfl ?_
          refine g_iincN (L' := [some (vr (30, 0)), some (vi (nI bs)), some (vi x), some (vi (nI (bitsN (fun p => decide (pl p = x)) (q + 1)))), some (vi (nI (q + 1)))]) cx dX6_inRoom_41 rfl (by decide) rfl rfl ?_
          refine g_goto (tgt := 5) cx dX6_inRoom_44 (by decide) ?_
          exact ih (q + 1) (by omega) (by omega)
  exact lp (pn + 1) 0 (by omega) (by omega)

set_option maxRecDepth 100000 in
set_option maxHeartbeats 4000000 in
theorem m_room {D : Wd} {n : Nat} {k f : Nat → Nat} {dn : Nat} {dr : Nat → Nat} {pn : Nat} (hP : PM D n k f dn dr pn) {a : Nat → Nat} (hA : AM D 0 n a) {pl : Nat → Int32} (hPl : PLM D 0 pn pl) (hPo : PLok n pn pl) (x w : Int32) : Fok mX6_room idsA 3 [vr (30, 0), vi x, vi w] D (some (vi (roomS n f a dn dr pn pl x w))) D := by
  obtain ⟨hn3, hn8, hN, hK, hF, hd3, hDn, hDr, hp5, hPn⟩ := id hP
  refine Mok.of (L := [some (vr (30, 0)), some (vi x), some (vi w)]) rfl (fun _ => Nat.le_of_ble_eq_true rfl) (fun _ => rfl) (fun X cx rq => ?_)
  refine g_aload_n cx dX6_room_0 rfl ?_
  refine g_iload_n cx dX6_room_1 rfl ?_
  refine g_fcallV (As := [vi x]) (rest := []) cx knX6_isLeaf (m_isLeaf hP x) a30_0 rfl rfl lmX6_183 niX6_isLeaf seX6_isLeaf rfl (by decide) (Nat.le_of_ble_eq_true rfl) rfl dX6_room_2 ?_
  refine g_if_neB (tgt := 11) cx dX6_room_5 (by decide) (fun h_5 => ?_) (fun h_5 => ?_)
  · skip
    obtain ⟨j, hj, rfl⟩ := lt0_nI h_5
    have hjx : (nI j).toNatClampNeg = j := nI_clamp (by omega)
    refine g_iload_n cx dX6_room_11 rfl ?_
    refine g_if_ne (tgt := 24) cx dX6_room_12 (by decide) (fun h_12 => ?_) (fun h_12 => ?_)
    · skip
      refine g_iload_n cx dX6_room_24 rfl ?_
      refine g_iconst (v := nI 1) cx dX6_room_25 (by decide) ?_
      refine g_icmp_ne (tgt := 38) cx dX6_room_26 (by decide) (fun h_26 => ?_) (fun h_26 => ?_)
      · skip
        refine g_iload_n cx dX6_room_38 rfl ?_
        refine g_iconst (v := nI 2) cx dX6_room_39 (by decide) ?_
        refine g_icmp_ne (tgt := 60) cx dX6_room_40 (by decide) (fun h_40 => ?_) (fun h_40 => ?_)
        · skip
          refine g_iload_n cx dX6_room_60 rfl ?_
          refine g_iconst (v := nI 3) cx dX6_room_61 (by decide) ?_
          refine g_icmp_ne (tgt := 74) cx dX6_room_62 (by decide) (fun h_62 => ?_) (fun h_62 => ?_)
          · skip
            refine g_bipush (v := (-3)) cx dX6_room_74 (by decide) ?_
            exact g_fret cx rq rfl (rfl) dX6_room_76 (by simp [roomS, eq_true h_5, hjx, eq_false h_12, eq_false h_26, eq_false h_40, eq_false h_62]) (rfl)
          · skip
            refine g_aload_n cx dX6_room_65 rfl ?_
            refine g_iconst (v := nI 0) cx dX6_room_66 (by decide) ?_
            refine g_iload_n cx dX6_room_67 rfl ?_
            refine g_fcallV (As := [vi (nI 0), vi (nI j)]) (rest := []) cx knX6_inRoom (m_inRoom hP (bs := 0) hPl (by omega) (nI j)) a30_0 rfl rfl lmX6_189 niX6_inRoom seX6_inRoom rfl (by decide) (Nat.le_of_ble_eq_true rfl) rfl dX6_room_68 ?_
            refine g_goto (tgt := 76) cx dX6_room_71 (by decide) ?_
            exact g_fret cx rq rfl (rfl) dX6_room_76 (by simp [roomS, eq_true h_5, hjx, eq_false h_12, eq_false h_26, eq_false h_40, eq_true h_62]) (rfl)
        · skip
          refine g_aload_n cx dX6_room_43 rfl ?_
          refine g_iconst (v := nI 0) cx dX6_room_44 (by decide) ?_
          refine g_iload_n cx dX6_room_45 rfl ?_
          refine g_fcallV (As := [vi (nI 0), vi (nI j)]) (rest := []) cx knX6_isOpen (m_isOpen hP hA (by omega) (i := j) (by omega)) a30_0 rfl rfl lmX6_186 niX6_isOpen seX6_isOpen rfl (by decide) (Nat.le_of_ble_eq_true rfl) rfl dX6_room_46 ?_
          refine g_if_eqB (tgt := 56) cx dX6_room_49 (by decide) (fun h_49 => ?_) (fun h_49 => ?_)
          · skip
            refine g_iconst (v := nI 0) cx dX6_room_56 (by decide) ?_
            refine g_goto (tgt := 76) cx dX6_room_57 (by decide) ?_
            exact g_fret cx rq rfl (rfl) dX6_room_76 (by simp [roomS, eq_true h_5, hjx, eq_false h_12, eq_false h_26, eq_true h_40, eq_false h_49]) (rfl)
          · skip
            refine g_iconst (v := nI 1) cx dX6_room_52 (by decide) ?_
            refine g_goto (tgt := 76) cx dX6_room_53 (by decide) ?_
            exact g_fret cx rq rfl (rfl) dX6_room_76 (by simp [roomS, eq_true h_5, hjx, eq_false h_12, eq_false h_26, eq_true h_40, eq_true h_49]) (rfl)
      · skip
        refine g_aload_n cx dX6_room_29 rfl ?_
        refine g_getR (i := (30, 0)) (ci := 6) (k := 8) (j := (36, 0)) cx a30_0 rfl rfl rfl (by decide) inX6 lfX6_30 dX6_room_30 ?_
        refine g_iload_n cx dX6_room_33 rfl ?_
        refine g_ialdN (i := (36, 0)) (j := j) (v := nI (f j)) cx a36_0 rfl (rfl) (by omega) (by decide) dX6_room_34 ((hF j (by omega)).1) ?_
        refine g_goto (tgt := 76) cx dX6_room_35 (by decide) ?_
        exact g_fret cx rq rfl (rfl) dX6_room_76 (by simp [roomS, eq_true h_5, hjx, eq_false h_12, eq_true h_26]) (rfl)
    · skip
      refine g_aload_n cx dX6_room_15 rfl ?_
      refine g_iconst (v := nI 0) cx dX6_room_16 (by decide) ?_
      refine g_iload_n cx dX6_room_17 rfl ?_
      refine g_fcallV (As := [vi (nI 0), vi (nI j)]) (rest := []) cx knX6_width (m_width hP hA (by omega) (i := j) (by omega)) a30_0 rfl rfl lmX6_180 niX6_width seX6_width rfl (by decide) (Nat.le_of_ble_eq_true rfl) rfl dX6_room_18 ?_
      refine g_goto (tgt := 76) cx dX6_room_21 (by decide) ?_
      exact g_fret cx rq rfl (rfl) dX6_room_76 (by simp [roomS, eq_true h_5, hjx, eq_true h_12]) (rfl)
  · skip
    refine g_bipush (v := (-2)) cx dX6_room_8 (by decide) ?_
    exact g_fret cx rq rfl (rfl) dX6_room_10 (by simp [roomS, eq_false h_5]) (rfl)

set_option maxRecDepth 100000 in
set_option maxHeartbeats 4000000 in
theorem m_push {D : Wd} {n : Nat} {k f : Nat → Nat} {dn : Nat} {dr : Nat → Nat} {pn : Nat} (hP : PM D n k f dn dr pn) {a : Nat → Nat} (hA : AM D 0 n a) (x s d : Int32) : Fok mX6_push idsA 6 [vr (30, 0), vi x, vi s, vi d] D (some (vi (pushS n k f a x s d))) (Rw D 0 n (pushA n k f a x s d)) := by
  obtain ⟨hn3, hn8, hN, hK, hF, hd3, hDn, hDr, hp5, hPn⟩ := id hP
  refine Mok.of (L := [some (vr (30, 0)), some (vi x), some (vi s), some (vi d)]) rfl (fun _ => Nat.le_of_ble_eq_true rfl) (fun _ => rfl) (fun X cx rq => ?_)
  refine g_aload_n cx dX6_push_0 rfl ?_
  refine g_iload_n cx dX6_push_1 rfl ?_
  refine g_fcallV (As := [vi x]) (rest := []) cx knX6_isLeaf (m_isLeaf hP x) a30_0 rfl rfl lmX6_183 niX6_isLeaf seX6_isLeaf rfl (by decide) (Nat.le_of_ble_eq_true rfl) rfl dX6_push_2 ?_
  refine g_if_neB (tgt := 11) cx dX6_push_5 (by decide) (fun h_5 => ?_) (fun h_5 => ?_)
  · skip
    obtain ⟨j, hj, rfl⟩ := lt0_nI h_5
    have hjx : (nI j).toNatClampNeg = j := nI_clamp (by omega)
    refine g_iload_n cx dX6_push_11 rfl ?_
    refine g_fcallS (As := [vi s]) (rest := []) cx knX6_isSide (m_isSide s) lmX6_210 nsX6_isSide rfl (by decide) (Nat.le_of_ble_eq_true rfl) rfl dX6_push_12 ?_
    refine g_if_eqB (tgt := 41) cx dX6_push_15 (by decide) (fun h_15 => ?_) (fun h_15 => ?_)
    · skip
      refine g_bipush (v := (-3)) cx dX6_push_41 (by decide) ?_
      exact g_fret cx rq rfl (rfl) dX6_push_43 (by simp [pushS, eq_true h_5, hjx, eq_false h_15]) (by simp [pushA, eq_true h_5, hjx, eq_false h_15, Rw.self hA])
    · skip
      obtain ⟨t, ht, rfl⟩ := lt0_nI h_15
      have htx : (nI t).toNatClampNeg = t := nI_clamp (by omega)
      refine g_iload_n cx dX6_push_18 rfl ?_
      refine g_i2l cx dX6_push_19 ?_
      refine g_lconst (v := 1) cx dX6_push_20 (by decide) ?_
      refine g_ldc2 (v := 72) cx lcX6_213 dX6_push_21 ?_
      refine g_fcallS (As := [vl d.toInt64, vl 1, vl 72]) (rest := []) cx knX6_in (m_in d.toInt64 1 72) lmX6_60 nsX6_in rfl (by decide) (Nat.le_of_ble_eq_true rfl) rfl dX6_push_24 ?_
      refine g_top (bi_iff (in_iff2 (a := 1) (b := 72) (by decide) (by decide) (by decide) (by decide))) ?_
      refine g_if_eqB (tgt := 41) cx dX6_push_27 (by decide) (fun h_27 => ?_) (fun h_27 => ?_)
      · skip
        refine g_bipush (v := (-3)) cx dX6_push_41 (by decide) ?_
        exact g_fret cx rq rfl (rfl) dX6_push_43 (by simp [pushS, eq_true h_5, hjx, eq_true h_15, htx, eq_false h_27]) (by simp [pushA, eq_true h_5, hjx, eq_true h_15, htx, eq_false h_27, Rw.self hA])
      · skip
        obtain ⟨u, hua, hub, rfl⟩ := rng_nI h_27
        have hux : (nI u).toNatClampNeg = u := nI_clamp (by omega)
        refine g_aload_n cx dX6_push_30 rfl ?_
        refine g_iconst (v := nI 0) cx dX6_push_31 (by decide) ?_
        refine g_iload_n cx dX6_push_32 rfl ?_
        refine g_iload_n cx dX6_push_33 rfl ?_
        refine g_iload_n cx dX6_push_34 rfl ?_
        refine g_fcallV (As := [vi (nI 0), vi (nI j), vi (nI t), vi (nI u)]) (rest := []) cx knX6_pushBy (m_pushBy hP hA (by omega) (i := j) (s := t) (d := u) (by omega) (by omega) (by omega)) a30_0 rfl rfl lmX6_215 niX6_pushBy seX6_pushBy rfl (by decide) (Nat.le_of_ble_eq_true rfl) rfl dX6_push_35 ?_
        refine g_goto (tgt := 43) cx dX6_push_38 (by decide) ?_
        exact g_fret cx rq rfl (rfl) dX6_push_43 (by simp [pushS, eq_true h_5, hjx, eq_true h_15, htx, eq_true h_27, hux]) (by simp [pushA, eq_true h_5, hjx, eq_true h_15, htx, eq_true h_27, hux])
  · skip
    refine g_bipush (v := (-2)) cx dX6_push_8 (by decide) ?_
    exact g_fret cx rq rfl (rfl) dX6_push_10 (by simp [pushS, eq_false h_5]) (by simp [pushA, eq_false h_5, Rw.self hA])
end
section
theorem Rw.out {D : Wd} {bs n : Nat} {a : Nat → Nat} {q : Nat} (h : bs + n ≤ q) : Rw D bs n a (31, 0) q = D (31, 0) q := by
  rw [Rw, upA_s, putA_out (by omega)]
theorem isAs_f {q : Nat} {w : Int32} (h0 : ¬ w = 0) (h1 : w = nI 1 → ¬ q < 2) (h2 : w = nI 2 → ¬ q = 1) (h3 : w = nI 3 → ¬ 2 ≤ q) (h4 : w = nI 4 → ¬ q = 3) : ¬ isAs q w = true := by
  intro h
  simp only [isAs, Bool.or_eq_true, Bool.and_eq_true, decide_eq_true_eq] at h
  rcases h with (((h | ⟨a, b⟩) | ⟨a, b⟩) | ⟨a, b⟩) | ⟨a, b⟩
  · exact h0 h
  · exact h1 a b
  · exact h2 a b
  · exact h3 a b
  · exact h4 a b
set_option maxRecDepth 100000 in
set_option maxHeartbeats 4000000 in
theorem m_as {D : Wd} {n : Nat} {k f : Nat → Nat} {dn : Nat} {dr : Nat → Nat} {pn : Nat} (hP : PM D n k f dn dr pn) {a : Nat → Nat} (hA : AM D 0 n a) (x w : Int32) : Fok mX6_as idsA 4 [vr (30, 0), vi x, vi w] D (some (vi (asS n k f a x w))) D := by
  obtain ⟨hn3, hn8, hN, hK, hF, hd3, hDn, hDr, hp5, hPn⟩ := id hP
  have hbz : ∀ m i s, bitsN (inM n m i s) n < 256 := fun m i s => bits256 hn8
  refine Mok.of (L := [some (vr (30, 0)), some (vi x), some (vi w), none, none]) rfl (fun _ => Nat.le_of_ble_eq_true rfl) (fun _ => rfl) (fun X cx rq => ?_)
  refine g_aload_n cx dX6_as_0 rfl ?_
  refine g_iload_n cx dX6_as_1 rfl ?_
  refine g_fcallV (As := [vi x]) (rest := []) cx knX6_isLeaf (m_isLeaf hP x) a30_0 rfl rfl lmX6_183 niX6_isLeaf seX6_isLeaf rfl (by decide) (Nat.le_of_ble_eq_true rfl) rfl dX6_as_2 ?_
  refine g_if_neB (tgt := 11) cx dX6_as_5 (by decide) (fun h_5 => ?_) (fun h_5 => ?_)
  · skip
    obtain ⟨j, hj, rfl⟩ := lt0_nI h_5
    have hjx : (nI j).toNatClampNeg = j := nI_clamp (by omega)
    have hkj := (hK j hj).2
    refine g_iload_n cx dX6_as_11 rfl ?_
    refine g_i2l cx dX6_as_12 ?_
    refine g_lconst (v := 0) cx dX6_as_13 (by decide) ?_
    refine g_ldc2 (v := 4) cx lcX6_202 dX6_as_14 ?_
    refine g_fcallS (As := [vl w.toInt64, vl 0, vl 4]) (rest := []) cx knX6_in (m_in w.toInt64 0 4) lmX6_60 nsX6_in rfl (by decide) (Nat.le_of_ble_eq_true rfl) rfl dX6_as_17 ?_
    refine g_top (bi_iff (in_iff0 (n := 5) (by decide) (by decide) (by decide))) ?_
    refine g_if_neB (tgt := 26) cx dX6_as_20 (by decide) (fun h_20 => ?_) (fun h_20 => ?_)
    · skip
      refine g_aload_n cx dX6_as_26 rfl ?_
      refine g_getR (i := (30, 0)) (ci := 6) (k := 7) (j := (35, 0)) cx a30_0 rfl rfl rfl (by decide) inX6 lfX6_27 dX6_as_27 ?_
      refine g_iload_n cx dX6_as_30 rfl ?_
      refine g_ialdN (i := (35, 0)) (j := j) (v := nI (k j)) cx a35_0 rfl (rfl) (by omega) (by decide) dX6_as_31 ((hK j (by omega)).1) ?_
      refine g_istore_n (L' := [some (vr (30, 0)), some (vi (nI j)), some (vi w), some (vi (nI (k j))), none]) cx dX6_as_32 (by decide) rfl rfl ?_
      have jn : Gk X mX6_as idsA 84 [some (vr (30, 0)), some (vi (nI j)), some (vi w), some (vi (nI (k j))), some (vi (if isAs (k j) w = true then 1 else 0))] [] D := by
        refine g_iload cx dX6_as_84 rfl ?_
        refine g_if_eqB (tgt := 123) cx dX6_as_86 (by decide) (fun h_86 => ?_) (fun h_86 => ?_)
        · skip
          refine g_bipush (v := (-4)) cx dX6_as_123 (by decide) ?_
          exact g_fret cx rq rfl (rfl) dX6_as_125 (by simp [asS, eq_true h_5, hjx, eq_true h_20, eq_false h_86]) (rfl)
        · skip
          refine g_aload_n cx dX6_as_89 rfl ?_
          refine g_iconst (v := nI 0) cx dX6_as_90 (by decide) ?_
          refine g_iload_n cx dX6_as_91 rfl ?_
          refine g_iconst (v := nI 0) cx dX6_as_92 (by decide) ?_
          refine g_fcallV (As := [vi (nI 0), vi (nI j), vi (nI 0)]) (rest := []) cx knX6_chain (m_chain hP hA (by omega) (i := j) (s := 0) (by omega) (by omega)) a30_0 rfl rfl lmX6_195 niX6_chain seX6_chain rfl (by decide) (Nat.le_of_ble_eq_true rfl) rfl dX6_as_93 ?_
          have hb1 := hbz (mov n a k f j 0) j 0
          refine g_if_eqN (tgt := 103) cx dX6_as_96 (by decide) (by omega) (fun h_96 => ?_) (fun h_96 => ?_)
          · skip
            refine g_iconst (v := nI 0) cx dX6_as_103 (by decide) ?_
            refine g_top (y := nI (if mov n a k f j 0 = 0 then 0 else 1)) (by rw [if_pos ((mset_ne (by omega) hj (by decide)).mp h_96)]) ?_
            refine g_aload_n cx dX6_as_104 rfl ?_
            refine g_iconst (v := nI 0) cx dX6_as_105 (by decide) ?_
            refine g_iload_n cx dX6_as_106 rfl ?_
            refine g_iconst (v := nI 1) cx dX6_as_107 (by decide) ?_
            refine g_fcallV (As := [vi (nI 0), vi (nI j), vi (nI 1)]) (rest := [vi (nI (if mov n a k f j 0 = 0 then 0 else 1))]) cx knX6_chain (m_chain hP hA (by omega) (i := j) (s := 1) (by omega) (by omega)) a30_0 rfl rfl lmX6_195 niX6_chain seX6_chain rfl (by decide) (Nat.le_of_ble_eq_true rfl) rfl dX6_as_108 ?_
            have hb2 := hbz (mov n a k f j 1) j 1
            refine g_if_eqN (tgt := 118) cx dX6_as_111 (by decide) (by omega) (fun h_111 => ?_) (fun h_111 => ?_)
            · skip
              refine g_iconst (v := nI 0) cx dX6_as_118 (by decide) ?_
              refine g_top (y := nI (if mov n a k f j 1 = 0 then 0 else 2)) (by rw [if_pos ((mset_ne (by omega) hj (by decide)).mp h_111)]) ?_
              refine g_iaddN cx dX6_as_119 ?_
              refine g_goto (tgt := 125) cx dX6_as_120 (by decide) ?_
              exact g_fret cx rq rfl (rfl) dX6_as_125 (by simp [asS, eq_true h_5, hjx, eq_true h_20, eq_true h_86, h_96, h_111]) (rfl)
            · skip
              refine g_iconst (v := nI 2) cx dX6_as_114 (by decide) ?_
              refine g_goto (tgt := 119) cx dX6_as_115 (by decide) ?_
              refine g_top (y := nI (if mov n a k f j 1 = 0 then 0 else 2)) (by rw [if_neg (fun e => h_111 ((mset_ne (by omega) hj (by decide)).mpr e))]) ?_
              refine g_iaddN cx dX6_as_119 ?_
              refine g_goto (tgt := 125) cx dX6_as_120 (by decide) ?_
              exact g_fret cx rq rfl (rfl) dX6_as_125 (by simp [asS, eq_true h_5, hjx, eq_true h_20, eq_true h_86, h_96, h_111]) (rfl)
          · skip
            refine g_iconst (v := nI 1) cx dX6_as_99 (by decide) ?_
            refine g_goto (tgt := 104) cx dX6_as_100 (by decide) ?_
            refine g_top (y := nI (if mov n a k f j 0 = 0 then 0 else 1)) (by rw [if_neg (fun e => h_96 ((mset_ne (by omega) hj (by decide)).mpr e))]) ?_
            refine g_aload_n cx dX6_as_104 rfl ?_
            refine g_iconst (v := nI 0) cx dX6_as_105 (by decide) ?_
            refine g_iload_n cx dX6_as_106 rfl ?_
            refine g_iconst (v := nI 1) cx dX6_as_107 (by decide) ?_
            refine g_fcallV (As := [vi (nI 0), vi (nI j), vi (nI 1)]) (rest := [vi (nI (if mov n a k f j 0 = 0 then 0 else 1))]) cx knX6_chain (m_chain hP hA (by omega) (i := j) (s := 1) (by omega) (by omega)) a30_0 rfl rfl lmX6_195 niX6_chain seX6_chain rfl (by decide) (Nat.le_of_ble_eq_true rfl) rfl dX6_as_108 ?_
            have hb2 := hbz (mov n a k f j 1) j 1
            refine g_if_eqN (tgt := 118) cx dX6_as_111 (by decide) (by omega) (fun h_111 => ?_) (fun h_111 => ?_)
            · skip
              refine g_iconst (v := nI 0) cx dX6_as_118 (by decide) ?_
              refine g_top (y := nI (if mov n a k f j 1 = 0 then 0 else 2)) (by rw [if_pos ((mset_ne (by omega) hj (by decide)).mp h_111)]) ?_
              refine g_iaddN cx dX6_as_119 ?_
              refine g_goto (tgt := 125) cx dX6_as_120 (by decide) ?_
              exact g_fret cx rq rfl (rfl) dX6_as_125 (by simp [asS, eq_true h_5, hjx, eq_true h_20, eq_true h_86, h_96, h_111]) (rfl)
            · skip
              refine g_iconst (v := nI 2) cx dX6_as_114 (by decide) ?_
              refine g_goto (tgt := 119) cx dX6_as_115 (by decide) ?_
              refine g_top (y := nI (if mov n a k f j 1 = 0 then 0 else 2)) (by rw [if_neg (fun e => h_111 ((mset_ne (by omega) hj (by decide)).mpr e))]) ?_
              refine g_iaddN cx dX6_as_119 ?_
              refine g_goto (tgt := 125) cx dX6_as_120 (by decide) ?_
              exact g_fret cx rq rfl (rfl) dX6_as_125 (by simp [asS, eq_true h_5, hjx, eq_true h_20, eq_true h_86, h_96, h_111]) (rfl)
      refine g_iload_n cx dX6_as_33 rfl ?_
      refine g_if_eq (tgt := 77) cx dX6_as_34 (by decide) (fun h_34 => ?_) (fun h_34 => ?_)
      · skip
        refine g_iconst (v := nI 1) cx dX6_as_77 (by decide) ?_
        refine g_goto (tgt := 82) cx dX6_as_78 (by decide) ?_
        refine g_top (y := if isAs (k j) w = true then 1 else 0) (by rw [bi_t (c := isAs (k j) w = true) (by simp [isAs, eq_true h_5, hjx, eq_true h_20, eq_true h_34])]) ?_
        refine g_istore (L' := [some (vr (30, 0)), some (vi (nI j)), some (vi w), some (vi (nI (k j))), some (vi (if isAs (k j) w = true then 1 else 0))]) cx dX6_as_82 (by decide) rfl rfl ?_
        exact jn
      · skip
        refine g_iload_n cx dX6_as_37 rfl ?_
        refine g_iconst (v := nI 1) cx dX6_as_38 (by decide) ?_
        refine g_icmp_ne (tgt := 47) cx dX6_as_39 (by decide) (fun h_39 => ?_) (fun h_39 => ?_)
        · skip
          refine g_iload_n cx dX6_as_47 rfl ?_
          refine g_iconst (v := nI 2) cx dX6_as_48 (by decide) ?_
          refine g_icmp_ne (tgt := 57) cx dX6_as_49 (by decide) (fun h_49 => ?_) (fun h_49 => ?_)
          · skip
            refine g_iload_n cx dX6_as_57 rfl ?_
            refine g_iconst (v := nI 3) cx dX6_as_58 (by decide) ?_
            refine g_icmp_ne (tgt := 67) cx dX6_as_59 (by decide) (fun h_59 => ?_) (fun h_59 => ?_)
            · skip
              refine g_iload_n cx dX6_as_67 rfl ?_
              refine g_iconst (v := nI 4) cx dX6_as_68 (by decide) ?_
              refine g_icmp_ne (tgt := 81) cx dX6_as_69 (by decide) (fun h_69 => ?_) (fun h_69 => ?_)
              · skip
                refine g_iconst (v := nI 0) cx dX6_as_81 (by decide) ?_
                refine g_top (y := if isAs (k j) w = true then 1 else 0) (by rw [bi_f (c := isAs (k j) w = true) (isAs_f (by first | exact h_34) (by first | (intro e; exact absurd e h_39) | (intro e; omega)) (by first | (intro e; exact absurd e h_49) | (intro e; omega)) (by first | (intro e; exact absurd e h_59) | (intro e; omega)) (by first | (intro e; exact absurd e h_69) | (intro e; omega)))]) ?_
                refine g_istore (L' := [some (vr (30, 0)), some (vi (nI j)), some (vi w), some (vi (nI (k j))), some (vi (if isAs (k j) w = true then 1 else 0))]) cx dX6_as_82 (by decide) rfl rfl ?_
                exact jn
              · skip
                refine g_iload_n cx dX6_as_72 rfl ?_
                refine g_iconst (v := nI 3) cx dX6_as_73 (by decide) ?_
                refine g_icmp_neN (tgt := 81) cx dX6_as_74 (by decide) (by omega) (by omega) (fun h_74 => ?_) (fun h_74 => ?_)
                · skip
                  refine g_iconst (v := nI 0) cx dX6_as_81 (by decide) ?_
                  refine g_top (y := if isAs (k j) w = true then 1 else 0) (by rw [bi_f (c := isAs (k j) w = true) (isAs_f (by first | exact h_34) (by first | (intro e; exact absurd e h_39) | (intro e; omega)) (by first | (intro e; exact absurd e h_49) | (intro e; omega)) (by first | (intro e; exact absurd e h_59) | (intro e; omega)) (by first | (intro e; exact absurd e h_69) | (intro e; omega)))]) ?_
                  refine g_istore (L' := [some (vr (30, 0)), some (vi (nI j)), some (vi w), some (vi (nI (k j))), some (vi (if isAs (k j) w = true then 1 else 0))]) cx dX6_as_82 (by decide) rfl rfl ?_
                  exact jn
                · skip
                  refine g_iconst (v := nI 1) cx dX6_as_77 (by decide) ?_
                  refine g_goto (tgt := 82) cx dX6_as_78 (by decide) ?_
                  refine g_top (y := if isAs (k j) w = true then 1 else 0) (by rw [bi_t (c := isAs (k j) w = true) (by simp [isAs, eq_true h_5, hjx, eq_true h_20, eq_false h_34, eq_false h_39, eq_false h_49, eq_false h_59, eq_true h_69, h_74])]) ?_
                  refine g_istore (L' := [some (vr (30, 0)), some (vi (nI j)), some (vi w), some (vi (nI (k j))), some (vi (if isAs (k j) w = true then 1 else 0))]) cx dX6_as_82 (by decide) rfl rfl ?_
                  exact jn
            · skip
              refine g_iload_n cx dX6_as_62 rfl ?_
              refine g_iconst (v := nI 2) cx dX6_as_63 (by decide) ?_
              refine g_icmp_geN (tgt := 77) cx dX6_as_64 (by decide) (by omega) (by omega) (fun h_64 => ?_) (fun h_64 => ?_)
              · skip
                refine g_iconst (v := nI 1) cx dX6_as_77 (by decide) ?_
                refine g_goto (tgt := 82) cx dX6_as_78 (by decide) ?_
                refine g_top (y := if isAs (k j) w = true then 1 else 0) (by rw [bi_t (c := isAs (k j) w = true) (by simp [isAs, eq_true h_5, hjx, eq_true h_20, eq_false h_34, eq_false h_39, eq_false h_49, eq_true h_59, h_64])]) ?_
                refine g_istore (L' := [some (vr (30, 0)), some (vi (nI j)), some (vi w), some (vi (nI (k j))), some (vi (if isAs (k j) w = true then 1 else 0))]) cx dX6_as_82 (by decide) rfl rfl ?_
                exact jn
              · skip
                refine g_iload_n cx dX6_as_67 rfl ?_
                refine g_iconst (v := nI 4) cx dX6_as_68 (by decide) ?_
                refine g_icmp_ne (tgt := 81) cx dX6_as_69 (by decide) (fun h_69 => ?_) (fun h_69 => ?_)
                · skip
                  refine g_iconst (v := nI 0) cx dX6_as_81 (by decide) ?_
                  refine g_top (y := if isAs (k j) w = true then 1 else 0) (by rw [bi_f (c := isAs (k j) w = true) (isAs_f (by first | exact h_34) (by first | (intro e; exact absurd e h_39) | (intro e; omega)) (by first | (intro e; exact absurd e h_49) | (intro e; omega)) (by first | (intro e; exact absurd e h_59) | (intro e; omega)) (by first | (intro e; exact absurd e h_69) | (intro e; omega)))]) ?_
                  refine g_istore (L' := [some (vr (30, 0)), some (vi (nI j)), some (vi w), some (vi (nI (k j))), some (vi (if isAs (k j) w = true then 1 else 0))]) cx dX6_as_82 (by decide) rfl rfl ?_
                  exact jn
                · skip
                  refine g_iload_n cx dX6_as_72 rfl ?_
                  refine g_iconst (v := nI 3) cx dX6_as_73 (by decide) ?_
                  refine g_icmp_neN (tgt := 81) cx dX6_as_74 (by decide) (by omega) (by omega) (fun h_74 => ?_) (fun h_74 => ?_)
                  · skip
                    refine g_iconst (v := nI 0) cx dX6_as_81 (by decide) ?_
                    refine g_top (y := if isAs (k j) w = true then 1 else 0) (by rw [bi_f (c := isAs (k j) w = true) (isAs_f (by first | exact h_34) (by first | (intro e; exact absurd e h_39) | (intro e; omega)) (by first | (intro e; exact absurd e h_49) | (intro e; omega)) (by first | (intro e; exact absurd e h_59) | (intro e; omega)) (by first | (intro e; exact absurd e h_69) | (intro e; omega)))]) ?_
                    refine g_istore (L' := [some (vr (30, 0)), some (vi (nI j)), some (vi w), some (vi (nI (k j))), some (vi (if isAs (k j) w = true then 1 else 0))]) cx dX6_as_82 (by decide) rfl rfl ?_
                    exact jn
                  · skip
                    refine g_iconst (v := nI 1) cx dX6_as_77 (by decide) ?_
                    refine g_goto (tgt := 82) cx dX6_as_78 (by decide) ?_
                    refine g_top (y := if isAs (k j) w = true then 1 else 0) (by rw [bi_t (c := isAs (k j) w = true) (by simp [isAs, eq_true h_5, hjx, eq_true h_20, eq_false h_34, eq_false h_39, eq_false h_49, eq_true h_59, h_64, eq_true h_69, h_74])]) ?_
                    refine g_istore (L' := [some (vr (30, 0)), some (vi (nI j)), some (vi w), some (vi (nI (k j))), some (vi (if isAs (k j) w = true then 1 else 0))]) cx dX6_as_82 (by decide) rfl rfl ?_
                    exact jn
          · skip
            refine g_iload_n cx dX6_as_52 rfl ?_
            refine g_iconst (v := nI 1) cx dX6_as_53 (by decide) ?_
            refine g_icmp_eqN (tgt := 77) cx dX6_as_54 (by decide) (by omega) (by omega) (fun h_54 => ?_) (fun h_54 => ?_)
            · skip
              refine g_iconst (v := nI 1) cx dX6_as_77 (by decide) ?_
              refine g_goto (tgt := 82) cx dX6_as_78 (by decide) ?_
              refine g_top (y := if isAs (k j) w = true then 1 else 0) (by rw [bi_t (c := isAs (k j) w = true) (by simp [isAs, eq_true h_5, hjx, eq_true h_20, eq_false h_34, eq_false h_39, eq_true h_49, h_54])]) ?_
              refine g_istore (L' := [some (vr (30, 0)), some (vi (nI j)), some (vi w), some (vi (nI (k j))), some (vi (if isAs (k j) w = true then 1 else 0))]) cx dX6_as_82 (by decide) rfl rfl ?_
              exact jn
            · skip
              refine g_iload_n cx dX6_as_57 rfl ?_
              refine g_iconst (v := nI 3) cx dX6_as_58 (by decide) ?_
              refine g_icmp_ne (tgt := 67) cx dX6_as_59 (by decide) (fun h_59 => ?_) (fun h_59 => ?_)
              · skip
                refine g_iload_n cx dX6_as_67 rfl ?_
                refine g_iconst (v := nI 4) cx dX6_as_68 (by decide) ?_
                refine g_icmp_ne (tgt := 81) cx dX6_as_69 (by decide) (fun h_69 => ?_) (fun h_69 => ?_)
                · skip
                  refine g_iconst (v := nI 0) cx dX6_as_81 (by decide) ?_
                  refine g_top (y := if isAs (k j) w = true then 1 else 0) (by rw [bi_f (c := isAs (k j) w = true) (isAs_f (by first | exact h_34) (by first | (intro e; exact absurd e h_39) | (intro e; omega)) (by first | (intro e; exact absurd e h_49) | (intro e; omega)) (by first | (intro e; exact absurd e h_59) | (intro e; omega)) (by first | (intro e; exact absurd e h_69) | (intro e; omega)))]) ?_
                  refine g_istore (L' := [some (vr (30, 0)), some (vi (nI j)), some (vi w), some (vi (nI (k j))), some (vi (if isAs (k j) w = true then 1 else 0))]) cx dX6_as_82 (by decide) rfl rfl ?_
                  exact jn
                · skip
                  refine g_iload_n cx dX6_as_72 rfl ?_
                  refine g_iconst (v := nI 3) cx dX6_as_73 (by decide) ?_
                  refine g_icmp_neN (tgt := 81) cx dX6_as_74 (by decide) (by omega) (by omega) (fun h_74 => ?_) (fun h_74 => ?_)
                  · skip
                    refine g_iconst (v := nI 0) cx dX6_as_81 (by decide) ?_
                    refine g_top (y := if isAs (k j) w = true then 1 else 0) (by rw [bi_f (c := isAs (k j) w = true) (isAs_f (by first | exact h_34) (by first | (intro e; exact absurd e h_39) | (intro e; omega)) (by first | (intro e; exact absurd e h_49) | (intro e; omega)) (by first | (intro e; exact absurd e h_59) | (intro e; omega)) (by first | (intro e; exact absurd e h_69) | (intro e; omega)))]) ?_
                    refine g_istore (L' := [some (vr (30, 0)), some (vi (nI j)), some (vi w), some (vi (nI (k j))), some (vi (if isAs (k j) w = true then 1 else 0))]) cx dX6_as_82 (by decide) rfl rfl ?_
                    exact jn
                  · skip
                    refine g_iconst (v := nI 1) cx dX6_as_77 (by decide) ?_
                    refine g_goto (tgt := 82) cx dX6_as_78 (by decide) ?_
                    refine g_top (y := if isAs (k j) w = true then 1 else 0) (by rw [bi_t (c := isAs (k j) w = true) (by simp [isAs, eq_true h_5, hjx, eq_true h_20, eq_false h_34, eq_false h_39, eq_true h_49, h_54, eq_false h_59, eq_true h_69, h_74])]) ?_
                    refine g_istore (L' := [some (vr (30, 0)), some (vi (nI j)), some (vi w), some (vi (nI (k j))), some (vi (if isAs (k j) w = true then 1 else 0))]) cx dX6_as_82 (by decide) rfl rfl ?_
                    exact jn
              · skip
                refine g_iload_n cx dX6_as_62 rfl ?_
                refine g_iconst (v := nI 2) cx dX6_as_63 (by decide) ?_
                refine g_icmp_geN (tgt := 77) cx dX6_as_64 (by decide) (by omega) (by omega) (fun h_64 => ?_) (fun h_64 => ?_)
                · skip
                  refine g_iconst (v := nI 1) cx dX6_as_77 (by decide) ?_
                  refine g_goto (tgt := 82) cx dX6_as_78 (by decide) ?_
                  refine g_top (y := if isAs (k j) w = true then 1 else 0) (by rw [bi_t (c := isAs (k j) w = true) (by simp [isAs, eq_true h_5, hjx, eq_true h_20, eq_false h_34, eq_false h_39, eq_true h_49, h_54, eq_true h_59, h_64])]) ?_
                  refine g_istore (L' := [some (vr (30, 0)), some (vi (nI j)), some (vi w), some (vi (nI (k j))), some (vi (if isAs (k j) w = true then 1 else 0))]) cx dX6_as_82 (by decide) rfl rfl ?_
                  exact jn
                · skip
                  refine g_iload_n cx dX6_as_67 rfl ?_
                  refine g_iconst (v := nI 4) cx dX6_as_68 (by decide) ?_
                  refine g_icmp_ne (tgt := 81) cx dX6_as_69 (by decide) (fun h_69 => ?_) (fun h_69 => ?_)
                  · skip
                    refine g_iconst (v := nI 0) cx dX6_as_81 (by decide) ?_
                    refine g_top (y := if isAs (k j) w = true then 1 else 0) (by rw [bi_f (c := isAs (k j) w = true) (isAs_f (by first | exact h_34) (by first | (intro e; exact absurd e h_39) | (intro e; omega)) (by first | (intro e; exact absurd e h_49) | (intro e; omega)) (by first | (intro e; exact absurd e h_59) | (intro e; omega)) (by first | (intro e; exact absurd e h_69) | (intro e; omega)))]) ?_
                    refine g_istore (L' := [some (vr (30, 0)), some (vi (nI j)), some (vi w), some (vi (nI (k j))), some (vi (if isAs (k j) w = true then 1 else 0))]) cx dX6_as_82 (by decide) rfl rfl ?_
                    exact jn
                  · skip
                    refine g_iload_n cx dX6_as_72 rfl ?_
                    refine g_iconst (v := nI 3) cx dX6_as_73 (by decide) ?_
                    refine g_icmp_neN (tgt := 81) cx dX6_as_74 (by decide) (by omega) (by omega) (fun h_74 => ?_) (fun h_74 => ?_)
                    · skip
                      refine g_iconst (v := nI 0) cx dX6_as_81 (by decide) ?_
                      refine g_top (y := if isAs (k j) w = true then 1 else 0) (by rw [bi_f (c := isAs (k j) w = true) (isAs_f (by first | exact h_34) (by first | (intro e; exact absurd e h_39) | (intro e; omega)) (by first | (intro e; exact absurd e h_49) | (intro e; omega)) (by first | (intro e; exact absurd e h_59) | (intro e; omega)) (by first | (intro e; exact absurd e h_69) | (intro e; omega)))]) ?_
                      refine g_istore (L' := [some (vr (30, 0)), some (vi (nI j)), some (vi w), some (vi (nI (k j))), some (vi (if isAs (k j) w = true then 1 else 0))]) cx dX6_as_82 (by decide) rfl rfl ?_
                      exact jn
                    · skip
                      refine g_iconst (v := nI 1) cx dX6_as_77 (by decide) ?_
                      refine g_goto (tgt := 82) cx dX6_as_78 (by decide) ?_
                      refine g_top (y := if isAs (k j) w = true then 1 else 0) (by rw [bi_t (c := isAs (k j) w = true) (by simp [isAs, eq_true h_5, hjx, eq_true h_20, eq_false h_34, eq_false h_39, eq_true h_49, h_54, eq_true h_59, h_64, eq_true h_69, h_74])]) ?_
                      refine g_istore (L' := [some (vr (30, 0)), some (vi (nI j)), some (vi w), some (vi (nI (k j))), some (vi (if isAs (k j) w = true then 1 else 0))]) cx dX6_as_82 (by decide) rfl rfl ?_
                      exact jn
        · skip
          refine g_iload_n cx dX6_as_42 rfl ?_
          refine g_iconst (v := nI 2) cx dX6_as_43 (by decide) ?_
          refine g_icmp_ltN (tgt := 77) cx dX6_as_44 (by decide) (by omega) (by omega) (fun h_44 => ?_) (fun h_44 => ?_)
          · skip
            refine g_iconst (v := nI 1) cx dX6_as_77 (by decide) ?_
            refine g_goto (tgt := 82) cx dX6_as_78 (by decide) ?_
            refine g_top (y := if isAs (k j) w = true then 1 else 0) (by rw [bi_t (c := isAs (k j) w = true) (by simp [isAs, eq_true h_5, hjx, eq_true h_20, eq_false h_34, eq_true h_39, h_44])]) ?_
            refine g_istore (L' := [some (vr (30, 0)), some (vi (nI j)), some (vi w), some (vi (nI (k j))), some (vi (if isAs (k j) w = true then 1 else 0))]) cx dX6_as_82 (by decide) rfl rfl ?_
            exact jn
          · skip
            refine g_iload_n cx dX6_as_47 rfl ?_
            refine g_iconst (v := nI 2) cx dX6_as_48 (by decide) ?_
            refine g_icmp_ne (tgt := 57) cx dX6_as_49 (by decide) (fun h_49 => ?_) (fun h_49 => ?_)
            · skip
              refine g_iload_n cx dX6_as_57 rfl ?_
              refine g_iconst (v := nI 3) cx dX6_as_58 (by decide) ?_
              refine g_icmp_ne (tgt := 67) cx dX6_as_59 (by decide) (fun h_59 => ?_) (fun h_59 => ?_)
              · skip
                refine g_iload_n cx dX6_as_67 rfl ?_
                refine g_iconst (v := nI 4) cx dX6_as_68 (by decide) ?_
                refine g_icmp_ne (tgt := 81) cx dX6_as_69 (by decide) (fun h_69 => ?_) (fun h_69 => ?_)
                · skip
                  refine g_iconst (v := nI 0) cx dX6_as_81 (by decide) ?_
                  refine g_top (y := if isAs (k j) w = true then 1 else 0) (by rw [bi_f (c := isAs (k j) w = true) (isAs_f (by first | exact h_34) (by first | (intro e; exact absurd e h_39) | (intro e; omega)) (by first | (intro e; exact absurd e h_49) | (intro e; omega)) (by first | (intro e; exact absurd e h_59) | (intro e; omega)) (by first | (intro e; exact absurd e h_69) | (intro e; omega)))]) ?_
                  refine g_istore (L' := [some (vr (30, 0)), some (vi (nI j)), some (vi w), some (vi (nI (k j))), some (vi (if isAs (k j) w = true then 1 else 0))]) cx dX6_as_82 (by decide) rfl rfl ?_
                  exact jn
                · skip
                  refine g_iload_n cx dX6_as_72 rfl ?_
                  refine g_iconst (v := nI 3) cx dX6_as_73 (by decide) ?_
                  refine g_icmp_neN (tgt := 81) cx dX6_as_74 (by decide) (by omega) (by omega) (fun h_74 => ?_) (fun h_74 => ?_)
                  · skip
                    refine g_iconst (v := nI 0) cx dX6_as_81 (by decide) ?_
                    refine g_top (y := if isAs (k j) w = true then 1 else 0) (by rw [bi_f (c := isAs (k j) w = true) (isAs_f (by first | exact h_34) (by first | (intro e; exact absurd e h_39) | (intro e; omega)) (by first | (intro e; exact absurd e h_49) | (intro e; omega)) (by first | (intro e; exact absurd e h_59) | (intro e; omega)) (by first | (intro e; exact absurd e h_69) | (intro e; omega)))]) ?_
                    refine g_istore (L' := [some (vr (30, 0)), some (vi (nI j)), some (vi w), some (vi (nI (k j))), some (vi (if isAs (k j) w = true then 1 else 0))]) cx dX6_as_82 (by decide) rfl rfl ?_
                    exact jn
                  · skip
                    refine g_iconst (v := nI 1) cx dX6_as_77 (by decide) ?_
                    refine g_goto (tgt := 82) cx dX6_as_78 (by decide) ?_
                    refine g_top (y := if isAs (k j) w = true then 1 else 0) (by rw [bi_t (c := isAs (k j) w = true) (by simp [isAs, eq_true h_5, hjx, eq_true h_20, eq_false h_34, eq_true h_39, h_44, eq_false h_49, eq_false h_59, eq_true h_69, h_74])]) ?_
                    refine g_istore (L' := [some (vr (30, 0)), some (vi (nI j)), some (vi w), some (vi (nI (k j))), some (vi (if isAs (k j) w = true then 1 else 0))]) cx dX6_as_82 (by decide) rfl rfl ?_
                    exact jn
              · skip
                refine g_iload_n cx dX6_as_62 rfl ?_
                refine g_iconst (v := nI 2) cx dX6_as_63 (by decide) ?_
                refine g_icmp_geN (tgt := 77) cx dX6_as_64 (by decide) (by omega) (by omega) (fun h_64 => ?_) (fun h_64 => ?_)
                · skip
                  refine g_iconst (v := nI 1) cx dX6_as_77 (by decide) ?_
                  refine g_goto (tgt := 82) cx dX6_as_78 (by decide) ?_
                  refine g_top (y := if isAs (k j) w = true then 1 else 0) (by rw [bi_t (c := isAs (k j) w = true) (by simp [isAs, eq_true h_5, hjx, eq_true h_20, eq_false h_34, eq_true h_39, h_44, eq_false h_49, eq_true h_59, h_64])]) ?_
                  refine g_istore (L' := [some (vr (30, 0)), some (vi (nI j)), some (vi w), some (vi (nI (k j))), some (vi (if isAs (k j) w = true then 1 else 0))]) cx dX6_as_82 (by decide) rfl rfl ?_
                  exact jn
                · skip
                  refine g_iload_n cx dX6_as_67 rfl ?_
                  refine g_iconst (v := nI 4) cx dX6_as_68 (by decide) ?_
                  refine g_icmp_ne (tgt := 81) cx dX6_as_69 (by decide) (fun h_69 => ?_) (fun h_69 => ?_)
                  · skip
                    refine g_iconst (v := nI 0) cx dX6_as_81 (by decide) ?_
                    refine g_top (y := if isAs (k j) w = true then 1 else 0) (by rw [bi_f (c := isAs (k j) w = true) (isAs_f (by first | exact h_34) (by first | (intro e; exact absurd e h_39) | (intro e; omega)) (by first | (intro e; exact absurd e h_49) | (intro e; omega)) (by first | (intro e; exact absurd e h_59) | (intro e; omega)) (by first | (intro e; exact absurd e h_69) | (intro e; omega)))]) ?_
                    refine g_istore (L' := [some (vr (30, 0)), some (vi (nI j)), some (vi w), some (vi (nI (k j))), some (vi (if isAs (k j) w = true then 1 else 0))]) cx dX6_as_82 (by decide) rfl rfl ?_
                    exact jn
                  · skip
                    refine g_iload_n cx dX6_as_72 rfl ?_
                    refine g_iconst (v := nI 3) cx dX6_as_73 (by decide) ?_
                    refine g_icmp_neN (tgt := 81) cx dX6_as_74 (by decide) (by omega) (by omega) (fun h_74 => ?_) (fun h_74 => ?_)
                    · skip
                      refine g_iconst (v := nI 0) cx dX6_as_81 (by decide) ?_
                      refine g_top (y := if isAs (k j) w = true then 1 else 0) (by rw [bi_f (c := isAs (k j) w = true) (isAs_f (by first | exact h_34) (by first | (intro e; exact absurd e h_39) | (intro e; omega)) (by first | (intro e; exact absurd e h_49) | (intro e; omega)) (by first | (intro e; exact absurd e h_59) | (intro e; omega)) (by first | (intro e; exact absurd e h_69) | (intro e; omega)))]) ?_
                      refine g_istore (L' := [some (vr (30, 0)), some (vi (nI j)), some (vi w), some (vi (nI (k j))), some (vi (if isAs (k j) w = true then 1 else 0))]) cx dX6_as_82 (by decide) rfl rfl ?_
                      exact jn
                    · skip
                      refine g_iconst (v := nI 1) cx dX6_as_77 (by decide) ?_
                      refine g_goto (tgt := 82) cx dX6_as_78 (by decide) ?_
                      refine g_top (y := if isAs (k j) w = true then 1 else 0) (by rw [bi_t (c := isAs (k j) w = true) (by simp [isAs, eq_true h_5, hjx, eq_true h_20, eq_false h_34, eq_true h_39, h_44, eq_false h_49, eq_true h_59, h_64, eq_true h_69, h_74])]) ?_
                      refine g_istore (L' := [some (vr (30, 0)), some (vi (nI j)), some (vi w), some (vi (nI (k j))), some (vi (if isAs (k j) w = true then 1 else 0))]) cx dX6_as_82 (by decide) rfl rfl ?_
                      exact jn
            · skip
              refine g_iload_n cx dX6_as_52 rfl ?_
              refine g_iconst (v := nI 1) cx dX6_as_53 (by decide) ?_
              refine g_icmp_eqN (tgt := 77) cx dX6_as_54 (by decide) (by omega) (by omega) (fun h_54 => ?_) (fun h_54 => ?_)
              · skip
                refine g_iconst (v := nI 1) cx dX6_as_77 (by decide) ?_
                refine g_goto (tgt := 82) cx dX6_as_78 (by decide) ?_
                refine g_top (y := if isAs (k j) w = true then 1 else 0) (by rw [bi_t (c := isAs (k j) w = true) (by simp [isAs, eq_true h_5, hjx, eq_true h_20, eq_false h_34, eq_true h_39, h_44, eq_true h_49, h_54])]) ?_
                refine g_istore (L' := [some (vr (30, 0)), some (vi (nI j)), some (vi w), some (vi (nI (k j))), some (vi (if isAs (k j) w = true then 1 else 0))]) cx dX6_as_82 (by decide) rfl rfl ?_
                exact jn
              · skip
                refine g_iload_n cx dX6_as_57 rfl ?_
                refine g_iconst (v := nI 3) cx dX6_as_58 (by decide) ?_
                refine g_icmp_ne (tgt := 67) cx dX6_as_59 (by decide) (fun h_59 => ?_) (fun h_59 => ?_)
                · skip
                  refine g_iload_n cx dX6_as_67 rfl ?_
                  refine g_iconst (v := nI 4) cx dX6_as_68 (by decide) ?_
                  refine g_icmp_ne (tgt := 81) cx dX6_as_69 (by decide) (fun h_69 => ?_) (fun h_69 => ?_)
                  · skip
                    refine g_iconst (v := nI 0) cx dX6_as_81 (by decide) ?_
                    refine g_top (y := if isAs (k j) w = true then 1 else 0) (by rw [bi_f (c := isAs (k j) w = true) (isAs_f (by first | exact h_34) (by first | (intro e; exact absurd e h_39) | (intro e; omega)) (by first | (intro e; exact absurd e h_49) | (intro e; omega)) (by first | (intro e; exact absurd e h_59) | (intro e; omega)) (by first | (intro e; exact absurd e h_69) | (intro e; omega)))]) ?_
                    refine g_istore (L' := [some (vr (30, 0)), some (vi (nI j)), some (vi w), some (vi (nI (k j))), some (vi (if isAs (k j) w = true then 1 else 0))]) cx dX6_as_82 (by decide) rfl rfl ?_
                    exact jn
                  · skip
                    refine g_iload_n cx dX6_as_72 rfl ?_
                    refine g_iconst (v := nI 3) cx dX6_as_73 (by decide) ?_
                    refine g_icmp_neN (tgt := 81) cx dX6_as_74 (by decide) (by omega) (by omega) (fun h_74 => ?_) (fun h_74 => ?_)
                    · skip
                      refine g_iconst (v := nI 0) cx dX6_as_81 (by decide) ?_
                      refine g_top (y := if isAs (k j) w = true then 1 else 0) (by rw [bi_f (c := isAs (k j) w = true) (isAs_f (by first | exact h_34) (by first | (intro e; exact absurd e h_39) | (intro e; omega)) (by first | (intro e; exact absurd e h_49) | (intro e; omega)) (by first | (intro e; exact absurd e h_59) | (intro e; omega)) (by first | (intro e; exact absurd e h_69) | (intro e; omega)))]) ?_
                      refine g_istore (L' := [some (vr (30, 0)), some (vi (nI j)), some (vi w), some (vi (nI (k j))), some (vi (if isAs (k j) w = true then 1 else 0))]) cx dX6_as_82 (by decide) rfl rfl ?_
                      exact jn
                    · skip
                      refine g_iconst (v := nI 1) cx dX6_as_77 (by decide) ?_
                      refine g_goto (tgt := 82) cx dX6_as_78 (by decide) ?_
                      refine g_top (y := if isAs (k j) w = true then 1 else 0) (by rw [bi_t (c := isAs (k j) w = true) (by simp [isAs, eq_true h_5, hjx, eq_true h_20, eq_false h_34, eq_true h_39, h_44, eq_true h_49, h_54, eq_false h_59, eq_true h_69, h_74])]) ?_
                      refine g_istore (L' := [some (vr (30, 0)), some (vi (nI j)), some (vi w), some (vi (nI (k j))), some (vi (if isAs (k j) w = true then 1 else 0))]) cx dX6_as_82 (by decide) rfl rfl ?_
                      exact jn
                · skip
                  refine g_iload_n cx dX6_as_62 rfl ?_
                  refine g_iconst (v := nI 2) cx dX6_as_63 (by decide) ?_
                  refine g_icmp_geN (tgt := 77) cx dX6_as_64 (by decide) (by omega) (by omega) (fun h_64 => ?_) (fun h_64 => ?_)
                  · skip
                    refine g_iconst (v := nI 1) cx dX6_as_77 (by decide) ?_
                    refine g_goto (tgt := 82) cx dX6_as_78 (by decide) ?_
                    refine g_top (y := if isAs (k j) w = true then 1 else 0) (by rw [bi_t (c := isAs (k j) w = true) (by simp [isAs, eq_true h_5, hjx, eq_true h_20, eq_false h_34, eq_true h_39, h_44, eq_true h_49, h_54, eq_true h_59, h_64])]) ?_
                    refine g_istore (L' := [some (vr (30, 0)), some (vi (nI j)), some (vi w), some (vi (nI (k j))), some (vi (if isAs (k j) w = true then 1 else 0))]) cx dX6_as_82 (by decide) rfl rfl ?_
                    exact jn
                  · skip
                    refine g_iload_n cx dX6_as_67 rfl ?_
                    refine g_iconst (v := nI 4) cx dX6_as_68 (by decide) ?_
                    refine g_icmp_ne (tgt := 81) cx dX6_as_69 (by decide) (fun h_69 => ?_) (fun h_69 => ?_)
                    · skip
                      refine g_iconst (v := nI 0) cx dX6_as_81 (by decide) ?_
                      refine g_top (y := if isAs (k j) w = true then 1 else 0) (by rw [bi_f (c := isAs (k j) w = true) (isAs_f (by first | exact h_34) (by first | (intro e; exact absurd e h_39) | (intro e; omega)) (by first | (intro e; exact absurd e h_49) | (intro e; omega)) (by first | (intro e; exact absurd e h_59) | (intro e; omega)) (by first | (intro e; exact absurd e h_69) | (intro e; omega)))]) ?_
                      refine g_istore (L' := [some (vr (30, 0)), some (vi (nI j)), some (vi w), some (vi (nI (k j))), some (vi (if isAs (k j) w = true then 1 else 0))]) cx dX6_as_82 (by decide) rfl rfl ?_
                      exact jn
                    · skip
                      refine g_iload_n cx dX6_as_72 rfl ?_
                      refine g_iconst (v := nI 3) cx dX6_as_73 (by decide) ?_
                      refine g_icmp_neN (tgt := 81) cx dX6_as_74 (by decide) (by omega) (by omega) (fun h_74 => ?_) (fun h_74 => ?_)
                      · skip
                        refine g_iconst (v := nI 0) cx dX6_as_81 (by decide) ?_
                        refine g_top (y := if isAs (k j) w = true then 1 else 0) (by rw [bi_f (c := isAs (k j) w = true) (isAs_f (by first | exact h_34) (by first | (intro e; exact absurd e h_39) | (intro e; omega)) (by first | (intro e; exact absurd e h_49) | (intro e; omega)) (by first | (intro e; exact absurd e h_59) | (intro e; omega)) (by first | (intro e; exact absurd e h_69) | (intro e; omega)))]) ?_
                        refine g_istore (L' := [some (vr (30, 0)), some (vi (nI j)), some (vi w), some (vi (nI (k j))), some (vi (if isAs (k j) w = true then 1 else 0))]) cx dX6_as_82 (by decide) rfl rfl ?_
                        exact jn
                      · skip
                        refine g_iconst (v := nI 1) cx dX6_as_77 (by decide) ?_
                        refine g_goto (tgt := 82) cx dX6_as_78 (by decide) ?_
                        refine g_top (y := if isAs (k j) w = true then 1 else 0) (by rw [bi_t (c := isAs (k j) w = true) (by simp [isAs, eq_true h_5, hjx, eq_true h_20, eq_false h_34, eq_true h_39, h_44, eq_true h_49, h_54, eq_true h_59, h_64, eq_true h_69, h_74])]) ?_
                        refine g_istore (L' := [some (vr (30, 0)), some (vi (nI j)), some (vi w), some (vi (nI (k j))), some (vi (if isAs (k j) w = true then 1 else 0))]) cx dX6_as_82 (by decide) rfl rfl ?_
                        exact jn
    · skip
      refine g_bipush (v := (-3)) cx dX6_as_23 (by decide) ?_
      exact g_fret cx rq rfl (rfl) dX6_as_25 (by simp [asS, eq_true h_5, hjx, eq_false h_20]) (rfl)
  · skip
    refine g_bipush (v := (-2)) cx dX6_as_8 (by decide) ?_
    exact g_fret cx rq rfl (rfl) dX6_as_10 (by simp [asS, eq_false h_5]) (rfl)

set_option maxRecDepth 100000 in
set_option maxHeartbeats 4000000 in
theorem m_hour {D : Wd} {n : Nat} {k f : Nat → Nat} {dn : Nat} {dr : Nat → Nat} {pn : Nat} (hP : PM D n k f dn dr pn) {a : Nat → Nat} (hA : AM D 0 n a) {hm : Nat → Nat} (hH : AM D 56 n hm) {hr : Nat} (hHr : D (31, 0) 13 = nI hr) : Fok mX6_hour idsA 5 [vr (30, 0)] D none (upA (Rw D 0 n (hrA n k f hm n a)) (31, 0) (upd ((Rw D 0 n (hrA n k f hm n a)) (31, 0)) 13 (nI (hr + 1)))) := by
  obtain ⟨hn3, hn8, hN, hK, hF, hd3, hDn, hDr, hp5, hPn⟩ := id hP
  refine Mok.of (L := [some (vr (30, 0)), none, none]) rfl (fun _ => Nat.le_of_ble_eq_true rfl) (fun _ => rfl) (fun X cx rq => ?_)
  refine g_iconst (v := nI 0) cx dX6_hour_0 (by decide) ?_
  refine g_istore_n (L' := [some (vr (30, 0)), some (vi (nI 0)), none]) cx dX6_hour_1 (by decide) rfl rfl ?_
  have lp : ∀ (fu : Nat) (q : Nat), n - q < fu → (q ≤ n) → Gk X mX6_hour idsA 2 [some (vr (30, 0)), some (vi (nI q)), none] [] (Rw D 0 n (hrA n k f hm q a)) := by
    intro fu
    induction fu with
    | zero => intro q hfu; exact absurd hfu (Nat.not_lt_zero _)
    | succ fu ih =>
      intro q hfu hq
      have hac := hrA_lt (k := k) (f := f) (hm := hm) q a (fun j hj => (hA j hj).2)
      refine g_iload_n cx dX6_hour_2 rfl ?_
      refine g_aload_n cx dX6_hour_3 rfl ?_
      refine g_getIN (i := (30, 0)) (ci := 6) (k := 6) (v := nI n) cx a30_0 rfl rfl rfl (by decide) inX6 lfX6_23 dX6_hour_4 ((congrFun (Rw.at (by decide)) 6).trans hN) ?_
      refine g_icmp_geN (tgt := 69) cx dX6_hour_7 (by decide) (by omega) (by omega) (fun h_7 => ?_) (fun h_7 => ?_)
      · skip
        have e : q = n := by omega
        subst e
        refine g_aload_n cx dX6_hour_69 rfl ?_
        refine g_getR (i := (30, 0)) (ci := 6) (k := 0) (j := (31, 0)) cx a30_0 rfl rfl rfl (by decide) inX6 lfX6_7 dX6_hour_70 ?_
        refine g_bipush (v := nI 13) cx dX6_hour_73 (by decide) ?_
        refine g_dup2 cx dX6_hour_75 rfl rfl ?_
        refine g_ialdN (i := (31, 0)) (j := 13) (v := nI hr) cx a31_0 rfl (rfl) (by omega) (by decide) dX6_hour_76 ((Rw.out (by omega)).trans hHr) ?_
        refine g_iconst (v := nI 1) cx dX6_hour_77 (by decide) ?_
        refine g_iaddN cx dX6_hour_78 ?_
        refine g_iast (i := (31, 0)) (j := 13) cx a31_0 rfl (rfl) (by omega) (by decide) dX6_hour_79 ?_
        exact g_fvret cx rq rfl dX6_hour_80 rfl (rfl)
      · skip
        refine g_aload_n cx dX6_hour_10 rfl ?_
        refine g_getR (i := (30, 0)) (ci := 6) (k := 0) (j := (31, 0)) cx a30_0 rfl rfl rfl (by decide) inX6 lfX6_7 dX6_hour_11 ?_
        refine g_iload_n cx dX6_hour_14 rfl ?_
        refine g_ialdN (i := (31, 0)) (j := q) (v := nI (hrA n k f hm q a q)) cx a31_0 rfl (rfl) (by omega) (by decide) dX6_hour_15 (((Rw.A hac).z q (by omega)).1) ?_
        refine g_aload_n cx dX6_hour_16 rfl ?_
        refine g_getR (i := (30, 0)) (ci := 6) (k := 0) (j := (31, 0)) cx a30_0 rfl rfl rfl (by decide) inX6 lfX6_7 dX6_hour_17 ?_
        refine g_bipush (v := nI 56) cx dX6_hour_20 (by decide) ?_
        refine g_iload_n cx dX6_hour_22 rfl ?_
        refine g_iaddN cx dX6_hour_23 ?_
        refine g_ialdN (i := (31, 0)) (j := 56 + q) (v := nI (hm q)) cx a31_0 rfl (rfl) (by omega) (by decide) dX6_hour_24 ((Rw.out (by omega)).trans (hH q (by omega)).1) ?_
        refine g_fcallS (As := [vi (nI (hrA n k f hm q a q)), vi (nI (hm q))]) (rest := []) cx knX6_on (m_on (a := hrA n k f hm q a q) (c := hm q) (hac q (by omega)) ((hH q (by omega)).2)) lmX6_54 nsX6_on rfl (by decide) (Nat.le_of_ble_eq_true rfl) rfl dX6_hour_25 ?_
        refine g_istore_n (L' := [some (vr (30, 0)), some (vi (nI q)), some (vi (nI (onN (hrA n k f hm q a q) (hm q))))]) cx dX6_hour_28 (by decide) rfl rfl ?_
        refine g_aload_n cx dX6_hour_29 rfl ?_
        refine g_getR (i := (30, 0)) (ci := 6) (k := 7) (j := (35, 0)) cx a30_0 rfl rfl rfl (by decide) inX6 lfX6_27 dX6_hour_30 ?_
        refine g_iload_n cx dX6_hour_33 rfl ?_
        refine g_ialdN (i := (35, 0)) (j := q) (v := nI (k q)) cx a35_0 rfl (rfl) (by omega) (by decide) dX6_hour_34 ((congrFun (Rw.at (by decide)) q).trans (hK q (by omega)).1) ?_
        refine g_iconst (v := nI 1) cx dX6_hour_35 (by decide) ?_
        have hkq := (hK q (by omega)).2
        have hon := onN_lt (hac q (by omega)) ((hH q (by omega)).2)
        refine g_icmp_neN (tgt := 63) cx dX6_hour_36 (by decide) (by omega) (by omega) (fun h_36 => ?_) (fun h_36 => ?_)
        · skip
          refine g_wd (D' := Rw D 0 n (hrA n k f hm (q + 1) a)) (by rw [hrA, if_neg (by first | exact fun e => h_36 e.1 | exact fun e => e.2 h_40)]) ?_
          refine g_iincN (L' := [some (vr (30, 0)), some (vi (nI (q + 1))), some (vi (nI (onN (hrA n k f hm q a q) (hm q))))]) cx dX6_hour_63 rfl (by decide) rfl rfl ?_
          refine g_goto (tgt := 2) cx dX6_hour_66 (by decide) ?_
          refine g_drop 2 (L' := [some (vr (30, 0)), some (vi (nI (q + 1))), none]) rfl ?_
          exact ih (q + 1) (by omega) (by omega)
        · skip
          refine g_iload_n cx dX6_hour_39 rfl ?_
          refine g_if_eqN (tgt := 63) cx dX6_hour_40 (by decide) (by omega) (fun h_40 => ?_) (fun h_40 => ?_)
          · skip
            refine g_wd (D' := Rw D 0 n (hrA n k f hm (q + 1) a)) (by rw [hrA, if_neg (by first | exact fun e => h_36 e.1 | exact fun e => e.2 h_40)]) ?_
            refine g_iincN (L' := [some (vr (30, 0)), some (vi (nI (q + 1))), some (vi (nI (onN (hrA n k f hm q a q) (hm q))))]) cx dX6_hour_63 rfl (by decide) rfl rfl ?_
            refine g_goto (tgt := 2) cx dX6_hour_66 (by decide) ?_
            refine g_drop 2 (L' := [some (vr (30, 0)), some (vi (nI (q + 1))), none]) rfl ?_
            exact ih (q + 1) (by omega) (by omega)
          · skip
            refine g_aload_n cx dX6_hour_43 rfl ?_
            refine g_iconst (v := nI 0) cx dX6_hour_44 (by decide) ?_
            refine g_iload_n cx dX6_hour_45 rfl ?_
            refine g_iload_n cx dX6_hour_46 rfl ?_
            refine g_bipush (v := nI 72) cx dX6_hour_47 (by decide) ?_
            refine g_iload_n cx dX6_hour_49 rfl ?_
            refine g_isubN cx dX6_hour_50 (by omega) ?_
            refine g_icmp_gtN (tgt := 58) cx dX6_hour_51 (by decide) (by omega) (by omega) (fun h_51 => ?_) (fun h_51 => ?_)
            · skip
              refine g_iconst (v := nI 1) cx dX6_hour_58 (by decide) ?_
              refine g_fcallV (As := [vi (nI 0), vi (nI q), vi (nI 1)]) (rest := []) cx knX6_step (m_step (Rw.P hP) (Rw.A hac) (by omega) (i := q) (s := 1) (by omega) (by omega)) a30_0 rfl rfl lmX6_207 niX6_step seX6_step rfl (by decide) (Nat.le_of_ble_eq_true rfl) rfl dX6_hour_59 ?_
              refine g_pop cx dX6_hour_62 rfl ?_
              refine g_wd (D' := Rw D 0 n (hrA n k f hm (q + 1) a)) (by rw [Rw.twice, hrA, if_pos ⟨h_36, h_40⟩]; rw [if_neg (by omega)]) ?_
              refine g_iincN (L' := [some (vr (30, 0)), some (vi (nI (q + 1))), some (vi (nI (onN (hrA n k f hm q a q) (hm q))))]) cx dX6_hour_63 rfl (by decide) rfl rfl ?_
              refine g_goto (tgt := 2) cx dX6_hour_66 (by decide) ?_
              refine g_drop 2 (L' := [some (vr (30, 0)), some (vi (nI (q + 1))), none]) rfl ?_
              exact ih (q + 1) (by omega) (by omega)
            · skip
              refine g_iconst (v := nI 0) cx dX6_hour_54 (by decide) ?_
              refine g_goto (tgt := 59) cx dX6_hour_55 (by decide) ?_
              refine g_fcallV (As := [vi (nI 0), vi (nI q), vi (nI 0)]) (rest := []) cx knX6_step (m_step (Rw.P hP) (Rw.A hac) (by omega) (i := q) (s := 0) (by omega) (by omega)) a30_0 rfl rfl lmX6_207 niX6_step seX6_step rfl (by decide) (Nat.le_of_ble_eq_true rfl) rfl dX6_hour_59 ?_
              refine g_pop cx dX6_hour_62 rfl ?_
              refine g_wd (D' := Rw D 0 n (hrA n k f hm (q + 1) a)) (by rw [Rw.twice, hrA, if_pos ⟨h_36, h_40⟩]; rw [if_pos h_51]) ?_
              refine g_iincN (L' := [some (vr (30, 0)), some (vi (nI (q + 1))), some (vi (nI (onN (hrA n k f hm q a q) (hm q))))]) cx dX6_hour_63 rfl (by decide) rfl rfl ?_
              refine g_goto (tgt := 2) cx dX6_hour_66 (by decide) ?_
              refine g_drop 2 (L' := [some (vr (30, 0)), some (vi (nI (q + 1))), none]) rfl ?_
              exact ih (q + 1) (by omega) (by omega)
  refine g_wd (D' := Rw D 0 n (hrA n k f hm 0 a)) ((Rw.self hA).symm) ?_
  exact lp (n + 1) 0 (by omega) (by omega)
end
section
/-! the world with the now row's angles and hour put anew -/
def Hr (D : Wd) (n : Nat) (a : Nat → Nat) (hr : Nat) : Wd := upA (Rw D 0 n a) (31, 0) (upd ((Rw D 0 n a) (31, 0)) 13 (nI hr))
theorem Hr.P {D : Wd} {n : Nat} {k f : Nat → Nat} {dn : Nat} {dr : Nat → Nat} {pn : Nat} {a : Nat → Nat} {hr : Nat} (h : PM D n k f dn dr pn) : PM (Hr D n a hr) n k f dn dr pn := (Rw.P h).up
theorem Hr.row {D : Wd} {n : Nat} {a : Nat → Nat} {hr q : Nat} : Hr D n a hr (31, 0) q = if q = 13 then nI hr else putA (D (31, 0)) 0 n a q := by
  rw [Hr, upA_s, Rw, upA_s]; rfl
theorem Hr.at {D : Wd} {n : Nat} {a : Nat → Nat} {hr : Nat} {i : Id2} (h : i ≠ (31, 0)) : Hr D n a hr i = D i := by
  rw [Hr, upA_n _ _ h]; exact Rw.at h
theorem Hr.A {D : Wd} {n : Nat} {a : Nat → Nat} {hr : Nat} (hn : n ≤ 8) (h : ∀ j, j < n → a j < 72) : AM (Hr D n a hr) 0 n a := by
  intro j hj
  rw [Hr.row, if_neg (by omega), putA_in hj]
  exact ⟨rfl, h j hj⟩
theorem Hr.out {D : Wd} {n : Nat} {a : Nat → Nat} {hr q : Nat} (hn : n ≤ q) (hq : q ≠ 13) : Hr D n a hr (31, 0) q = D (31, 0) q := by
  rw [Hr.row, if_neg hq, putA_out (by omega)]
theorem Hr.H {D : Wd} {n : Nat} {a hm : Nat → Nat} {hr : Nat} (hn : n ≤ 8) (h : AM D 56 n hm) : AM (Hr D n a hr) 56 n hm := by
  intro j hj
  rw [Hr.out (by omega) (by omega)]; exact h j hj
theorem Hr.R {D : Wd} {n : Nat} {a : Nat → Nat} {hr : Nat} : Hr D n a hr (31, 0) 13 = nI hr := by rw [Hr.row, if_pos rfl]
theorem wd_ext {D D' : Wd} (h : ∀ i q, D i q = D' i q) : D = D' := funext fun i => funext fun q => h i q
theorem Hr.twice (D : Wd) (n : Nat) (a a' : Nat → Nat) (hr hr' : Nat) : Hr (Hr D n a hr) n a' hr' = Hr D n a' hr' := by
  apply wd_ext
  intro i q
  by_cases h : i = (31, 0)
  · subst h
    rw [Hr.row, Hr.row]
    split
    · rfl
    · unfold putA
      split
      · rfl
      · rename_i h1 h2
        rw [Hr.row, if_neg h1, putA_out h2]
  · rw [Hr.at h, Hr.at h, Hr.at h]
theorem Hr.self {D : Wd} {n : Nat} {a : Nat → Nat} {hr : Nat} (hA : AM D 0 n a) (hR : D (31, 0) 13 = nI hr) : D = Hr D n a hr := by
  apply wd_ext
  intro i q
  by_cases h : i = (31, 0)
  · subst h
    rw [Hr.row]
    split
    · rename_i e; rw [e, hR]
    · rw [putA_self (fun j hj => (hA j hj).1)]
  · rw [Hr.at h]
def leaveOk (n : Nat) (a : Nat → Nat) (dn : Nat) (dr : Nat → Nat) (pn : Nat) (pl : Nat → Int32) (x : Int32) : Bool := lt0 x pn && (!decide (pl (ix x) = -1) && opn n a dn dr (ix (pl (ix x))))
def leaveS (n : Nat) (a : Nat → Nat) (dn : Nat) (dr : Nat → Nat) (pn : Nat) (pl : Nat → Int32) (x : Int32) : Int32 := if lt0 x pn then (if leaveOk n a dn dr pn pl x then pl (ix x) else -4) else -2
def enterOk (n : Nat) (a : Nat → Nat) (dn : Nat) (dr : Nat → Nat) (pn : Nat) (pl : Nat → Int32) (x r : Int32) : Bool := (lt0 x pn && lt0 r n) && (decide (pl (ix x) = -1) && opn n a dn dr (ix r))
def enterS (n : Nat) (a : Nat → Nat) (dn : Nat) (dr : Nat → Nat) (pn : Nat) (pl : Nat → Int32) (x r : Int32) : Int32 := if lt0 x pn && lt0 r n then (if enterOk n a dn dr pn pl x r then nI (cntN (fun p => (ppl pn (upd pl (ix x) r) r).testBit p) 8) else -4) else -2
def slamS (n : Nat) (k f a : Nat → Nat) (x s w : Int32) : Int32 := if lt0 x n then (if lt0 s 2 && lt0 w 2 then (if k (ix x) = 3 then -4 else if w = 0 then nI (wid n a (rmB n (ix x) (ix s)) - f (rmB n (ix x) (ix s)) - 1) else nI (lfB n (ix x) (ix s))) else -3) else -2
/-- the room whose half is widest, of the first m -/
def furG (n : Nat) (a : Nat → Nat) : Nat → Nat
  | 0 => 0
  | m + 1 => if wid n a (furG n a m) / 2 < wid n a m / 2 then m else furG n a m
def furS (n : Nat) (a : Nat → Nat) (w : Int32) : Int32 := if lt0 w 2 then (if w = 0 then nI (furG n a n) else nI (wid n a (furG n a n) / 2)) else -3
def shareS (n : Nat) (a : Nat → Nat) (x w : Int32) : Int32 := if lt0 x n then (if lt0 w 2 then (if w = 0 then nI (wid n a (ix x) / Nat.gcd (wid n a (ix x)) 72) else nI (72 / Nat.gcd (wid n a (ix x)) 72)) else -3) else -2
def shw (a b : Nat) : Nat := if onN a b < 72 - onN a b then onN a b else 72 - onN a b
/-- the way by what was seen of a leaf, the first m sights: steps so far, and where it was last -/
def lsG (lf an : Nat → Nat) (i h : Nat) : Nat → Nat × Nat
  | 0 => (0, h)
  | m + 1 => if lf m = i then ((lsG lf an i h m).1 + shw (lsG lf an i h m).2 (an m), an m) else lsG lf an i h m
def leastS (n : Nat) (a hm : Nat → Nat) (sm : Nat) (lf an : Nat → Nat) (x : Int32) : Int32 := if lt0 x n then nI ((lsG lf an (ix x) (hm (ix x)) sm).1 + shw (lsG lf an (ix x) (hm (ix x)) sm).2 (a (ix x))) else -2
theorem shw_lt {a b : Nat} (ha : a < 72) (hb : b < 72) : shw a b ≤ 72 := by
  have := onN_lt ha hb
  unfold shw; split <;> omega
theorem furG_lt {n : Nat} {a : Nat → Nat} : ∀ m, furG n a m ≤ m - 1
  | 0 => by simp [furG]
  | m + 1 => by
    have := furG_lt (n := n) (a := a) m
    rw [furG]; split <;> omega
theorem furG_le {n : Nat} {a : Nat → Nat} {m : Nat} (h : m ≤ n) (h0 : 0 < n) : furG n a m < n := by
  have := furG_lt (n := n) (a := a) m
  omega
theorem cntN_le (p : Nat → Bool) : ∀ n, cntN p n ≤ n
  | 0 => by simp [cntN]
  | n + 1 => by
    have := cntN_le p n
    rw [cntN]; split <;> omega
theorem lsG_ok {lf an : Nat → Nat} {i h m : Nat} (hh : h < 72) (han : ∀ q, q < m → an q < 72) : (lsG lf an i h m).1 ≤ 72 * m ∧ (lsG lf an i h m).2 < 72 := by
  induction m with
  | zero => exact ⟨by simp [lsG], hh⟩
  | succ m ih =>
    obtain ⟨h1, h2⟩ := ih (fun q hq => han q (by omega))
    rw [lsG]
    split
    · have := shw_lt h2 (han m (by omega))
      exact ⟨by simp only; omega, han m (by omega)⟩
    · exact ⟨by omega, h2⟩
theorem hrN_s (n : Nat) (k f hm : Nat → Nat) (q : Nat) (a : Nat → Nat) : hrA n k f hm n (hrN n k f hm q a) = hrN n k f hm (q + 1) a := rfl
theorem cp_step (D : Wd) {fr to q : Nat} (h : fr + 14 ≤ to ∨ to + 14 ≤ fr) (hq : q < 14) : upA (upA D (31, 0) (cpR (D (31, 0)) fr to q)) (31, 0) (upd (upA D (31, 0) (cpR (D (31, 0)) fr to q) (31, 0)) (to + q) (upA D (31, 0) (cpR (D (31, 0)) fr to q) (31, 0) (fr + q))) = upA D (31, 0) (cpR (D (31, 0)) fr to (q + 1)) := by
  rw [upA_up, upA_s, cpR_succ _ _ (cpR_out (by omega))]
end
section
theorem cnt_bit (v q : Nat) : cntN (fun p => v.testBit p) q + v / 2 ^ q % 2 = cntN (fun p => v.testBit p) (q + 1) := by
  rw [cntN]
  by_cases h : v.testBit q = true
  · rw [if_pos h, (tb_div v q).mpr h]
  · rw [if_neg h]
    have h1 : ¬ v / 2 ^ q % 2 = 1 := fun e => h ((tb_div v q).mp e)
    omega
theorem PLM.upd {D : Wd} {pn : Nat} {pl : Nat → Int32} {j : Nat} {x : Int32} (h : PLM D 0 pn pl) : PLM (upA D (31, 0) (upd (D (31, 0)) (8 + j) x)) 0 pn (upd pl j x) := by
  intro p hp
  rw [upA_s]
  show (if 0 + 8 + p = 8 + j then x else D (31, 0) (0 + 8 + p)) = (if p = j then x else pl p)
  by_cases e : p = j
  · subst e; rw [if_pos (by omega), if_pos rfl]
  · rw [if_neg (by omega), if_neg e]; exact h p hp
set_option maxRecDepth 100000 in
set_option maxHeartbeats 4000000 in
theorem m_erase {D : Wd} {len : Nat} (hLen : D (30, 0) 3 = nI len) : Fok mX6_erase idsA 0 [vr (30, 0)] D (some (vi (nI len))) (upA D (30, 0) (upd (D (30, 0)) 3 (nI 0))) := by
  refine Mok.of (L := [some (vr (30, 0)), none]) rfl (fun _ => Nat.le_of_ble_eq_true rfl) (fun _ => rfl) (fun X cx rq => ?_)
  refine g_aload_n cx dX6_erase_0 rfl ?_
  refine g_getIN (i := (30, 0)) (ci := 6) (k := 3) (v := nI len) cx a30_0 rfl rfl rfl (by decide) inX6 lfX6_64 dX6_erase_1 (hLen) ?_
  refine g_istore_n (L' := [some (vr (30, 0)), some (vi (nI len))]) cx dX6_erase_4 (by decide) rfl rfl ?_
  refine g_aload_n cx dX6_erase_5 rfl ?_
  refine g_iconst (v := nI 0) cx dX6_erase_6 (by decide) ?_
  refine g_putI (i := (30, 0)) (ci := 6) (k := 3) cx a30_0 rfl rfl rfl (by decide) inX6 tyX6_ok nmX6 rfl rfl lfX6_64 dX6_erase_7 ?_
  refine g_iload_n cx dX6_erase_10 rfl ?_
  exact g_fret cx rq rfl (rfl) dX6_erase_11 (rfl) (rfl)

set_option maxRecDepth 100000 in
set_option maxHeartbeats 4000000 in
theorem m_forget {D : Wd} {sm : Nat} (hSm : D (30, 0) 25 = nI sm) : Fok mX6_forget idsA 0 [vr (30, 0)] D (some (vi (nI sm))) (upA D (30, 0) (upd (D (30, 0)) 25 (nI 0))) := by
  refine Mok.of (L := [some (vr (30, 0)), none]) rfl (fun _ => Nat.le_of_ble_eq_true rfl) (fun _ => rfl) (fun X cx rq => ?_)
  refine g_aload_n cx dX6_forget_0 rfl ?_
  refine g_getIN (i := (30, 0)) (ci := 6) (k := 25) (v := nI sm) cx a30_0 rfl rfl rfl (by decide) inX6 lfX6_174 dX6_forget_1 (hSm) ?_
  refine g_istore_n (L' := [some (vr (30, 0)), some (vi (nI sm))]) cx dX6_forget_4 (by decide) rfl rfl ?_
  refine g_aload_n cx dX6_forget_5 rfl ?_
  refine g_iconst (v := nI 0) cx dX6_forget_6 (by decide) ?_
  refine g_putI (i := (30, 0)) (ci := 6) (k := 25) cx a30_0 rfl rfl rfl (by decide) inX6 tyX6_ok nmX6 rfl rfl lfX6_174 dX6_forget_7 ?_
  refine g_iload_n cx dX6_forget_10 rfl ?_
  exact g_fret cx rq rfl (rfl) dX6_forget_11 (rfl) (rfl)

set_option maxRecDepth 100000 in
set_option maxHeartbeats 4000000 in
theorem m_hours {D : Wd} {n : Nat} {k f : Nat → Nat} {dn : Nat} {dr : Nat → Nat} {pn : Nat} (hP : PM D n k f dn dr pn) {a : Nat → Nat} (hA : AM D 0 n a) {hm : Nat → Nat} (hH : AM D 56 n hm) {hr : Nat} (hHr : D (31, 0) 13 = nI hr) (hr9 : hr ≤ 9999) (x : Int32) : Fok mX6_hours idsA 6 [vr (30, 0), vi x] D (some (vi (hoursS hr x))) (if rng x 1 99 && decide (hr + ix x ≤ 9999) then Hr D n (hrN n k f hm (ix x) a) (hr + ix x) else D) := by
  obtain ⟨hn3, hn8, hN, hK, hF, hd3, hDn, hDr, hp5, hPn⟩ := id hP
  refine Mok.of (L := [some (vr (30, 0)), some (vi x), none]) rfl (fun _ => Nat.le_of_ble_eq_true rfl) (fun _ => rfl) (fun X cx rq => ?_)
  refine g_iload_n cx dX6_hours_0 rfl ?_
  refine g_i2l cx dX6_hours_1 ?_
  refine g_lconst (v := 1) cx dX6_hours_2 (by decide) ?_
  refine g_ldc2 (v := 99) cx lcX6_219 dX6_hours_3 ?_
  refine g_fcallS (As := [vl x.toInt64, vl 1, vl 99]) (rest := []) cx knX6_in (m_in x.toInt64 1 99) lmX6_60 nsX6_in rfl (by decide) (Nat.le_of_ble_eq_true rfl) rfl dX6_hours_6 ?_
  refine g_top (bi_iff (in_iff2 (a := 1) (b := 99) (by decide) (by decide) (by decide) (by decide))) ?_
  refine g_if_neB (tgt := 15) cx dX6_hours_9 (by decide) (fun h_9 => ?_) (fun h_9 => ?_)
  · skip
    obtain ⟨j, hja, hjb, rfl⟩ := rng_nI h_9
    have hjx : (nI j).toNatClampNeg = j := nI_clamp (by omega)
    refine g_aload_n cx dX6_hours_15 rfl ?_
    refine g_getR (i := (30, 0)) (ci := 6) (k := 0) (j := (31, 0)) cx a30_0 rfl rfl rfl (by decide) inX6 lfX6_7 dX6_hours_16 ?_
    refine g_bipush (v := nI 13) cx dX6_hours_19 (by decide) ?_
    refine g_ialdN (i := (31, 0)) (j := 13) (v := nI hr) cx a31_0 rfl (rfl) (by omega) (by decide) dX6_hours_21 (hHr) ?_
    refine g_iload_n cx dX6_hours_22 rfl ?_
    refine g_iaddN cx dX6_hours_23 ?_
    refine g_sipush (v := nI 9999) cx dX6_hours_24 (by decide) ?_
    refine g_icmp_leN (tgt := 33) cx dX6_hours_27 (by decide) (by omega) (by omega) (fun h_27 => ?_) (fun h_27 => ?_)
    · skip
      have h_27b : ¬ 9999 < hr + j := by omega
      refine g_iconst (v := nI 0) cx dX6_hours_33 (by decide) ?_
      refine g_istore_n (L' := [some (vr (30, 0)), some (vi (nI j)), some (vi (nI 0))]) cx dX6_hours_34 (by decide) rfl rfl ?_
      have lp : ∀ (fu : Nat) (q : Nat), j - q < fu → (q ≤ j) → Gk X mX6_hours idsA 35 [some (vr (30, 0)), some (vi (nI j)), some (vi (nI q))] [] (Hr D n (hrN n k f hm q a) (hr + q)) := by
        intro fu
        induction fu with
        | zero => intro q hfu; exact absurd hfu (Nat.not_lt_zero _)
        | succ fu ih =>
          intro q hfu hq
          have hac := hrN_lt (k := k) (f := f) (hm := hm) q a (fun j hj => (hA j hj).2)
          refine g_iload_n cx dX6_hours_35 rfl ?_
          refine g_iload_n cx dX6_hours_36 rfl ?_
          refine g_icmp_geN (tgt := 50) cx dX6_hours_37 (by decide) (by omega) (by omega) (fun h_37 => ?_) (fun h_37 => ?_)
          · skip
            have e : q = j := by omega
            subst e
            refine g_aload_n cx dX6_hours_50 rfl ?_
            refine g_getR (i := (30, 0)) (ci := 6) (k := 0) (j := (31, 0)) cx a30_0 rfl rfl rfl (by decide) inX6 lfX6_7 dX6_hours_51 ?_
            refine g_bipush (v := nI 13) cx dX6_hours_54 (by decide) ?_
            refine g_ialdN (i := (31, 0)) (j := 13) (v := nI (hr + q)) cx a31_0 rfl (rfl) (by omega) (by decide) dX6_hours_56 (Hr.R) ?_
            exact g_fret cx rq rfl (rfl) dX6_hours_57 (by simp [hoursS, eq_true h_9, hjx, h_27b]) (by simp [eq_true h_9, hjx, h_27])
          · skip
            refine g_aload_n cx dX6_hours_40 rfl ?_
            refine g_fcallVv (As := []) (rest := []) cx knX6_hour (m_hour (Hr.P hP) (Hr.A hn8 hac) (Hr.H hn8 hH) Hr.R) a30_0 rfl rfl lmX6_221 niX6_hour seX6_hour rfl (by decide) (Nat.le_of_ble_eq_true rfl) rfl dX6_hours_41 ?_
            refine g_iincN (L' := [some (vr (30, 0)), some (vi (nI j)), some (vi (nI (q + 1)))]) cx dX6_hours_44 rfl (by decide) rfl rfl ?_
            refine g_goto (tgt := 35) cx dX6_hours_47 (by decide) ?_
            refine g_wd (D' := Hr D n (hrN n k f hm (q + 1) a) (hr + (q + 1))) (Hr.twice D n _ _ _ (hr + q + 1)) ?_
            exact ih (q + 1) (by omega) (by omega)
      refine g_wd (D' := Hr D n (hrN n k f hm 0 a) (hr + 0)) (Hr.self hA hHr) ?_
      exact lp (j + 1) 0 (by omega) (by omega)
    · skip
      have h_27b : ¬ hr + j ≤ 9999 := by omega
      refine g_bipush (v := (-5)) cx dX6_hours_30 (by decide) ?_
      exact g_fret cx rq rfl (rfl) dX6_hours_32 (by simp [hoursS, eq_true h_9, hjx, h_27]) (by simp [hjx, h_27b])
  · skip
    refine g_bipush (v := (-3)) cx dX6_hours_12 (by decide) ?_
    exact g_fret cx rq rfl (rfl) dX6_hours_14 (by simp [hoursS, eq_false h_9]) (by simp [eq_false h_9])

set_option maxRecDepth 100000 in
set_option maxHeartbeats 4000000 in
theorem m_leave {D : Wd} {n : Nat} {k f : Nat → Nat} {dn : Nat} {dr : Nat → Nat} {pn : Nat} (hP : PM D n k f dn dr pn) {a : Nat → Nat} (hA : AM D 0 n a) {pl : Nat → Int32} (hPl : PLM D 0 pn pl) (hPo : PLok n pn pl) (x : Int32) : Fok mX6_leave idsA 3 [vr (30, 0), vi x] D (some (vi (leaveS n a dn dr pn pl x))) (if leaveOk n a dn dr pn pl x then upA D (31, 0) (upd (D (31, 0)) (8 + ix x) (-1)) else D) := by
  obtain ⟨hn3, hn8, hN, hK, hF, hd3, hDn, hDr, hp5, hPn⟩ := id hP
  refine Mok.of (L := [some (vr (30, 0)), some (vi x), none]) rfl (fun _ => Nat.le_of_ble_eq_true rfl) (fun _ => rfl) (fun X cx rq => ?_)
  refine g_aload_n cx dX6_leave_0 rfl ?_
  refine g_iload_n cx dX6_leave_1 rfl ?_
  refine g_fcallV (As := [vi x]) (rest := []) cx knX6_isPerson (m_isPerson hP x) a30_0 rfl rfl lmX6_204 niX6_isPerson seX6_isPerson rfl (by decide) (Nat.le_of_ble_eq_true rfl) rfl dX6_leave_2 ?_
  refine g_if_neB (tgt := 11) cx dX6_leave_5 (by decide) (fun h_5 => ?_) (fun h_5 => ?_)
  · skip
    obtain ⟨j, hj, rfl⟩ := lt0_nI h_5
    have hjx : (nI j).toNatClampNeg = j := nI_clamp (by omega)
    refine g_aload_n cx dX6_leave_11 rfl ?_
    refine g_getR (i := (30, 0)) (ci := 6) (k := 0) (j := (31, 0)) cx a30_0 rfl rfl rfl (by decide) inX6 lfX6_7 dX6_leave_12 ?_
    refine g_bipush (v := nI 8) cx dX6_leave_15 (by decide) ?_
    refine g_iload_n cx dX6_leave_17 rfl ?_
    refine g_iaddN cx dX6_leave_18 ?_
    refine g_ialdN (i := (31, 0)) (j := 8 + j) (v := (pl j)) cx a31_0 rfl (rfl) (by omega) (by decide) dX6_leave_19 (hPl.z j (by omega)) ?_
    refine g_istore_n (L' := [some (vr (30, 0)), some (vi (nI j)), some (vi (pl j))]) cx dX6_leave_20 (by decide) rfl rfl ?_
    refine g_iload_n cx dX6_leave_21 rfl ?_
    refine g_iconst (v := (-1)) cx dX6_leave_22 (by decide) ?_
    refine g_icmp_eq (tgt := 35) cx dX6_leave_23 (by decide) (fun h_23 => ?_) (fun h_23 => ?_)
    · skip
      refine g_bipush (v := (-4)) cx dX6_leave_35 (by decide) ?_
      exact g_fret cx rq rfl (rfl) dX6_leave_37 (by simp [leaveS, leaveOk, eq_true h_5, hjx, eq_true h_23]) (by simp [leaveOk, eq_true h_5, hjx, eq_true h_23])
    · skip
      obtain ⟨rr, hrr, he⟩ : ∃ rr, rr < n ∧ pl j = nI rr := (hPo j hj).resolve_left h_23
      have hrx : (nI rr).toNatClampNeg = rr := nI_clamp (by omega)
      refine g_loc (L' := [some (vr (30, 0)), some (vi (nI j)), some (vi (nI rr))]) (by rw [he]) ?_
      refine g_aload_n cx dX6_leave_26 rfl ?_
      refine g_iconst (v := nI 0) cx dX6_leave_27 (by decide) ?_
      refine g_iload_n cx dX6_leave_28 rfl ?_
      refine g_fcallV (As := [vi (nI 0), vi (nI rr)]) (rest := []) cx knX6_isOpen (m_isOpen hP hA (by omega) (i := rr) (by omega)) a30_0 rfl rfl lmX6_186 niX6_isOpen seX6_isOpen rfl (by decide) (Nat.le_of_ble_eq_true rfl) rfl dX6_leave_29 ?_
      refine g_if_neB (tgt := 38) cx dX6_leave_32 (by decide) (fun h_32 => ?_) (fun h_32 => ?_)
      · skip
        refine g_aload_n cx dX6_leave_38 rfl ?_
        refine g_getR (i := (30, 0)) (ci := 6) (k := 0) (j := (31, 0)) cx a30_0 rfl rfl rfl (by decide) inX6 lfX6_7 dX6_leave_39 ?_
        refine g_bipush (v := nI 8) cx dX6_leave_42 (by decide) ?_
        refine g_iload_n cx dX6_leave_44 rfl ?_
        refine g_iaddN cx dX6_leave_45 ?_
        refine g_iconst (v := (-1)) cx dX6_leave_46 (by decide) ?_
        refine g_iast (i := (31, 0)) (j := 8 + j) cx a31_0 rfl (rfl) (by omega) (by decide) dX6_leave_47 ?_
        refine g_iload_n cx dX6_leave_48 rfl ?_
        exact g_fret cx rq rfl (rfl) dX6_leave_49 (by rw [he] at h_23; simp [leaveS, leaveOk, eq_true h_5, hjx, he, hrx, eq_true h_32, eq_false h_23]) (by rw [he] at h_23; simp [leaveOk, eq_true h_5, hjx, he, hrx, eq_true h_32, eq_false h_23])
      · skip
        refine g_bipush (v := (-4)) cx dX6_leave_35 (by decide) ?_
        exact g_fret cx rq rfl (rfl) dX6_leave_37 (by simp [leaveS, leaveOk, eq_true h_5, hjx, he, hrx, eq_false h_32]) (by simp [leaveOk, eq_true h_5, hjx, he, hrx, eq_false h_32])
  · skip
    refine g_bipush (v := (-2)) cx dX6_leave_8 (by decide) ?_
    exact g_fret cx rq rfl (rfl) dX6_leave_10 (by simp [leaveS, eq_false h_5]) (by simp [leaveOk, eq_false h_5])

set_option maxRecDepth 100000 in
set_option maxHeartbeats 4000000 in
theorem m_bits {D : Wd} {v : Nat} (hv : v < 256) : Fok mX6_bits idsA 0 [vi (nI v)] D (some (vi (nI (cntN (fun p => v.testBit p) 8)))) D := by
  refine Mok.of (L := [some (vi (nI v)), none, none]) rfl (fun _ => Nat.le_of_ble_eq_true rfl) (fun _ => rfl) (fun X cx rq => ?_)
  refine g_iconst (v := nI 0) cx dX6_bits_0 (by decide) ?_
  refine g_istore_n (L' := [some (vi (nI v)), some (vi (nI 0)), none]) cx dX6_bits_1 (by decide) rfl rfl ?_
  refine g_iconst (v := nI 0) cx dX6_bits_2 (by decide) ?_
  refine g_istore_n (L' := [some (vi (nI v)), some (vi (nI 0)), some (vi (nI 0))]) cx dX6_bits_3 (by decide) rfl rfl ?_
  have lp : ∀ (fu : Nat) (q : Nat), 8 - q < fu → (q ≤ 8) → Gk X mX6_bits idsA 4 [some (vi (nI v)), some (vi (nI (cntN (fun p => v.testBit p) q))), some (vi (nI q))] [] D := by
    intro fu
    induction fu with
    | zero => intro q hfu; exact absurd hfu (Nat.not_lt_zero _)
    | succ fu ih =>
      intro q hfu hq
      refine g_iload_n cx dX6_bits_4 rfl ?_
      refine g_bipush (v := nI 8) cx dX6_bits_5 (by decide) ?_
      refine g_icmp_geN (tgt := 24) cx dX6_bits_7 (by decide) (by omega) (by omega) (fun h_7 => ?_) (fun h_7 => ?_)
      · skip
        have e : q = 8 := by omega
        subst e
        refine g_iload_n cx dX6_bits_24 rfl ?_
        exact g_fret cx rq rfl (rfl) dX6_bits_25 (rfl) (rfl)
      · skip
        refine g_iload_n cx dX6_bits_10 rfl ?_
        refine g_iload_n cx dX6_bits_11 rfl ?_
        refine g_iload_n cx dX6_bits_12 rfl ?_
        refine g_ishr cx dX6_bits_13 ?_
        refine g_iconst (v := nI 1) cx dX6_bits_14 (by decide) ?_
        refine g_iand cx dX6_bits_15 ?_
        refine g_top (nI_bit v hv q (by omega)) ?_
        refine g_iaddN cx dX6_bits_16 ?_
        refine g_top (y := nI (cntN (fun p => v.testBit p) (q + 1))) (by rw [cnt_bit]) ?_
        refine g_istore_n (L' := [some (vi (nI v)), some (vi (nI (cntN (fun p => v.testBit p) (q + 1)))), some (vi (nI q))]) cx dX6_bits_17 (by decide) rfl rfl ?_
        refine g_iincN (L' := [some (vi (nI v)), some (vi (nI (cntN (fun p => v.testBit p) (q + 1)))), some (vi (nI (q + 1)))]) cx dX6_bits_18 rfl (by decide) rfl rfl ?_
        refine g_goto (tgt := 4) cx dX6_bits_21 (by decide) ?_
        exact ih (q + 1) (by omega) (by omega)
  exact lp 9 0 (by omega) (by omega)

set_option maxRecDepth 100000 in
set_option maxHeartbeats 4000000 in
theorem m_copy {D : Wd} {fr to : Nat} (h1 : fr + 14 ≤ 70) (h2 : to + 14 ≤ 70) (h3 : fr + 14 ≤ to ∨ to + 14 ≤ fr) : Fok mX6_copy idsA 0 [vr (30, 0), vi (nI fr), vi (nI to)] D none (upA D (31, 0) (cpR (D (31, 0)) fr to 14)) := by
  refine Mok.of (L := [some (vr (30, 0)), some (vi (nI fr)), some (vi (nI to)), none]) rfl (fun _ => Nat.le_of_ble_eq_true rfl) (fun _ => rfl) (fun X cx rq => ?_)
  refine g_iconst (v := nI 0) cx dX6_copy_0 (by decide) ?_
  refine g_istore_n (L' := [some (vr (30, 0)), some (vi (nI fr)), some (vi (nI to)), some (vi (nI 0))]) cx dX6_copy_1 (by decide) rfl rfl ?_
  have lp : ∀ (fu : Nat) (q : Nat), 14 - q < fu → (q ≤ 14) → Gk X mX6_copy idsA 2 [some (vr (30, 0)), some (vi (nI fr)), some (vi (nI to)), some (vi (nI q))] [] (upA D (31, 0) (cpR (D (31, 0)) fr to q)) := by
    intro fu
    induction fu with
    | zero => intro q hfu; exact absurd hfu (Nat.not_lt_zero _)
    | succ fu ih =>
      intro q hfu hq
      refine g_iload_n cx dX6_copy_2 rfl ?_
      refine g_bipush (v := nI 14) cx dX6_copy_3 (by decide) ?_
      refine g_icmp_geN (tgt := 30) cx dX6_copy_5 (by decide) (by omega) (by omega) (fun h_5 => ?_) (fun h_5 => ?_)
      · skip
        have e : q = 14 := by omega
        subst e
        exact g_fvret cx rq rfl dX6_copy_30 rfl (rfl)
      · skip
        refine g_aload_n cx dX6_copy_8 rfl ?_
        refine g_getR (i := (30, 0)) (ci := 6) (k := 0) (j := (31, 0)) cx a30_0 rfl rfl rfl (by decide) inX6 lfX6_7 dX6_copy_9 ?_
        refine g_iload_n cx dX6_copy_12 rfl ?_
        refine g_iload_n cx dX6_copy_13 rfl ?_
        refine g_iaddN cx dX6_copy_14 ?_
        refine g_aload_n cx dX6_copy_15 rfl ?_
        refine g_getR (i := (30, 0)) (ci := 6) (k := 0) (j := (31, 0)) cx a30_0 rfl rfl rfl (by decide) inX6 lfX6_7 dX6_copy_16 ?_
        refine g_iload_n cx dX6_copy_19 rfl ?_
        refine g_iload_n cx dX6_copy_20 rfl ?_
        refine g_iaddN cx dX6_copy_21 ?_
        refine g_iald (i := (31, 0)) (j := fr + q) cx a31_0 rfl (rfl) (by omega) (by decide) dX6_copy_22 ?_
        refine g_iast (i := (31, 0)) (j := to + q) cx a31_0 rfl (rfl) (by omega) (by decide) dX6_copy_23 ?_
        refine g_iincN (L' := [some (vr (30, 0)), some (vi (nI fr)), some (vi (nI to)), some (vi (nI (q + 1)))]) cx dX6_copy_24 rfl (by decide) rfl rfl ?_
        refine g_goto (tgt := 2) cx dX6_copy_27 (by decide) ?_
        refine g_wd (D' := upA D (31, 0) (cpR (D (31, 0)) fr to (q + 1))) (cp_step D h3 (by omega)) ?_
        exact ih (q + 1) (by omega) (by omega)
  refine g_wd (D' := upA D (31, 0) (cpR (D (31, 0)) fr to 0)) (by rw [cpR_0, upA_self]) ?_
  exact lp 15 0 (by omega) (by omega)

set_option maxRecDepth 100000 in
set_option maxHeartbeats 4000000 in
theorem m_enter {D : Wd} {n : Nat} {k f : Nat → Nat} {dn : Nat} {dr : Nat → Nat} {pn : Nat} (hP : PM D n k f dn dr pn) {a : Nat → Nat} (hA : AM D 0 n a) {pl : Nat → Int32} (hPl : PLM D 0 pn pl) (hPo : PLok n pn pl) (x y : Int32) : Fok mX6_enter idsA 3 [vr (30, 0), vi x, vi y] D (some (vi (enterS n a dn dr pn pl x y))) (if enterOk n a dn dr pn pl x y then upA D (31, 0) (upd (D (31, 0)) (8 + ix x) y) else D) := by
  obtain ⟨hn3, hn8, hN, hK, hF, hd3, hDn, hDr, hp5, hPn⟩ := id hP
  refine Mok.of (L := [some (vr (30, 0)), some (vi x), some (vi y)]) rfl (fun _ => Nat.le_of_ble_eq_true rfl) (fun _ => rfl) (fun X cx rq => ?_)
  refine g_aload_n cx dX6_enter_0 rfl ?_
  refine g_iload_n cx dX6_enter_1 rfl ?_
  refine g_fcallV (As := [vi x]) (rest := []) cx knX6_isPerson (m_isPerson hP x) a30_0 rfl rfl lmX6_204 niX6_isPerson seX6_isPerson rfl (by decide) (Nat.le_of_ble_eq_true rfl) rfl dX6_enter_2 ?_
  refine g_if_eqB (tgt := 16) cx dX6_enter_5 (by decide) (fun h_5 => ?_) (fun h_5 => ?_)
  · skip
    refine g_bipush (v := (-2)) cx dX6_enter_16 (by decide) ?_
    exact g_fret cx rq rfl (rfl) dX6_enter_18 (by simp [enterS, eq_false h_5]) (by simp [enterOk, eq_false h_5])
  · skip
    obtain ⟨j, hj, rfl⟩ := lt0_nI h_5
    have hjx : (nI j).toNatClampNeg = j := nI_clamp (by omega)
    refine g_aload_n cx dX6_enter_8 rfl ?_
    refine g_iload_n cx dX6_enter_9 rfl ?_
    refine g_fcallV (As := [vi y]) (rest := []) cx knX6_isLeaf (m_isLeaf hP y) a30_0 rfl rfl lmX6_183 niX6_isLeaf seX6_isLeaf rfl (by decide) (Nat.le_of_ble_eq_true rfl) rfl dX6_enter_10 ?_
    refine g_if_neB (tgt := 19) cx dX6_enter_13 (by decide) (fun h_13 => ?_) (fun h_13 => ?_)
    · skip
      obtain ⟨t, ht, rfl⟩ := lt0_nI h_13
      have htx : (nI t).toNatClampNeg = t := nI_clamp (by omega)
      refine g_aload_n cx dX6_enter_19 rfl ?_
      refine g_getR (i := (30, 0)) (ci := 6) (k := 0) (j := (31, 0)) cx a30_0 rfl rfl rfl (by decide) inX6 lfX6_7 dX6_enter_20 ?_
      refine g_bipush (v := nI 8) cx dX6_enter_23 (by decide) ?_
      refine g_iload_n cx dX6_enter_25 rfl ?_
      refine g_iaddN cx dX6_enter_26 ?_
      refine g_ialdN (i := (31, 0)) (j := 8 + j) (v := (pl j)) cx a31_0 rfl (rfl) (by omega) (by decide) dX6_enter_27 (hPl.z j (by omega)) ?_
      refine g_iconst (v := (-1)) cx dX6_enter_28 (by decide) ?_
      refine g_icmp_ne (tgt := 41) cx dX6_enter_29 (by decide) (fun h_29 => ?_) (fun h_29 => ?_)
      · skip
        refine g_bipush (v := (-4)) cx dX6_enter_41 (by decide) ?_
        exact g_fret cx rq rfl (rfl) dX6_enter_43 (by simp [enterS, enterOk, eq_true h_5, eq_true h_13, hjx, htx, eq_false h_29]) (by simp [enterOk, eq_true h_5, eq_true h_13, hjx, htx, eq_false h_29])
      · skip
        refine g_aload_n cx dX6_enter_32 rfl ?_
        refine g_iconst (v := nI 0) cx dX6_enter_33 (by decide) ?_
        refine g_iload_n cx dX6_enter_34 rfl ?_
        refine g_fcallV (As := [vi (nI 0), vi (nI t)]) (rest := []) cx knX6_isOpen (m_isOpen hP hA (by omega) (i := t) (by omega)) a30_0 rfl rfl lmX6_186 niX6_isOpen seX6_isOpen rfl (by decide) (Nat.le_of_ble_eq_true rfl) rfl dX6_enter_35 ?_
        refine g_if_neB (tgt := 44) cx dX6_enter_38 (by decide) (fun h_38 => ?_) (fun h_38 => ?_)
        · skip
          refine g_aload_n cx dX6_enter_44 rfl ?_
          refine g_getR (i := (30, 0)) (ci := 6) (k := 0) (j := (31, 0)) cx a30_0 rfl rfl rfl (by decide) inX6 lfX6_7 dX6_enter_45 ?_
          refine g_bipush (v := nI 8) cx dX6_enter_48 (by decide) ?_
          refine g_iload_n cx dX6_enter_50 rfl ?_
          refine g_iaddN cx dX6_enter_51 ?_
          refine g_iload_n cx dX6_enter_52 rfl ?_
          refine g_iast (i := (31, 0)) (j := 8 + j) cx a31_0 rfl (rfl) (by omega) (by decide) dX6_enter_53 ?_
          refine g_aload_n cx dX6_enter_54 rfl ?_
          refine g_iconst (v := nI 0) cx dX6_enter_55 (by decide) ?_
          refine g_iload_n cx dX6_enter_56 rfl ?_
          refine g_fcallV (As := [vi (nI 0), vi (nI t)]) (rest := []) cx knX6_inRoom (m_inRoom (PM.up hP) (bs := 0) (PLM.upd hPl) (by omega) (nI t)) a30_0 rfl rfl lmX6_189 niX6_inRoom seX6_inRoom rfl (by decide) (Nat.le_of_ble_eq_true rfl) rfl dX6_enter_57 ?_
          refine g_fcallS (As := [vi (nI (ppl pn (upd pl j (nI t)) (nI t)))]) (rest := []) cx knX6_bits (m_bits (v := ppl pn (upd pl j (nI t)) (nI t)) (Nat.lt_of_lt_of_le (bitsN_lt _ pn) (Nat.pow_le_pow_right (by decide) (by omega : pn ≤ 8)))) lmX6_224 nsX6_bits rfl (by decide) (Nat.le_of_ble_eq_true rfl) rfl dX6_enter_60 ?_
          exact g_fret cx rq rfl (rfl) dX6_enter_63 (by simp [enterS, enterOk, eq_true h_5, eq_true h_13, hjx, htx, eq_true h_29, eq_true h_38]) (by simp [enterOk, eq_true h_5, eq_true h_13, hjx, htx, eq_true h_29, eq_true h_38])
        · skip
          refine g_bipush (v := (-4)) cx dX6_enter_41 (by decide) ?_
          exact g_fret cx rq rfl (rfl) dX6_enter_43 (by simp [enterS, enterOk, eq_true h_5, eq_true h_13, hjx, htx, eq_true h_29, eq_false h_38]) (by simp [enterOk, eq_true h_5, eq_true h_13, hjx, htx, eq_true h_29, eq_false h_38])
    · skip
      refine g_bipush (v := (-2)) cx dX6_enter_16 (by decide) ?_
      exact g_fret cx rq rfl (rfl) dX6_enter_18 (by simp [enterS, eq_false h_13]) (by simp [enterOk, eq_false h_13])
end
section
set_option maxRecDepth 100000 in
set_option maxHeartbeats 4000000 in
theorem m_keep {D : Wd} {hr : Nat} (hHr : D (31, 0) 13 = nI hr) (hr9 : hr ≤ 9999) (x : Int32) : Fok mX6_keep idsA 1 [vr (30, 0), vi x] D (some (vi (if lt0 x 2 then nI hr else -2))) (if lt0 x 2 then upA (upA D (31, 0) (cpR (D (31, 0)) 0 (14 * (1 + ix x)) 14)) (32, 0) (upd (D (32, 0)) (ix x) (nI 1)) else D) := by
  refine Mok.of (L := [some (vr (30, 0)), some (vi x)]) rfl (fun _ => Nat.le_of_ble_eq_true rfl) (fun _ => rfl) (fun X cx rq => ?_)
  refine g_iload_n cx dX6_keep_0 rfl ?_
  refine g_i2l cx dX6_keep_1 ?_
  refine g_lconst (v := 0) cx dX6_keep_2 (by decide) ?_
  refine g_lconst (v := 1) cx dX6_keep_3 (by decide) ?_
  refine g_fcallS (As := [vl x.toInt64, vl 0, vl 1]) (rest := []) cx knX6_in (m_in x.toInt64 0 1) lmX6_60 nsX6_in rfl (by decide) (Nat.le_of_ble_eq_true rfl) rfl dX6_keep_4 ?_
  refine g_top (bi_iff (in_iff0 (n := 2) (by decide) (by decide) (by decide))) ?_
  refine g_if_neB (tgt := 13) cx dX6_keep_7 (by decide) (fun h_7 => ?_) (fun h_7 => ?_)
  · skip
    obtain ⟨j, hj, rfl⟩ := lt0_nI h_7
    have hjx : (nI j).toNatClampNeg = j := nI_clamp (by omega)
    refine g_aload_n cx dX6_keep_13 rfl ?_
    refine g_iconst (v := nI 0) cx dX6_keep_14 (by decide) ?_
    refine g_bipush (v := nI 14) cx dX6_keep_15 (by decide) ?_
    refine g_iconst (v := nI 1) cx dX6_keep_17 (by decide) ?_
    refine g_iload_n cx dX6_keep_18 rfl ?_
    refine g_iaddN cx dX6_keep_19 ?_
    refine g_imulN cx dX6_keep_20 ?_
    refine g_fcallVv (As := [vi (nI 0), vi (nI (14 * (1 + j)))]) (rest := []) cx knX6_copy (m_copy (fr := 0) (to := 14 * (1 + j)) (by omega) (by omega) (by omega)) a30_0 rfl rfl lmX6_170 niX6_copy seX6_copy rfl (by decide) (Nat.le_of_ble_eq_true rfl) rfl dX6_keep_21 ?_
    refine g_aload_n cx dX6_keep_24 rfl ?_
    refine g_getR (i := (30, 0)) (ci := 6) (k := 1) (j := (32, 0)) cx a30_0 rfl rfl rfl (by decide) inX6 lfX6_13 dX6_keep_25 ?_
    refine g_iload_n cx dX6_keep_28 rfl ?_
    refine g_iconst (v := nI 1) cx dX6_keep_29 (by decide) ?_
    refine g_zast (i := (32, 0)) (j := j) (v' := nI 1) cx a32_0 rfl (rfl) (by omega) (by decide) rfl dX6_keep_30 ?_
    refine g_aload_n cx dX6_keep_31 rfl ?_
    refine g_getR (i := (30, 0)) (ci := 6) (k := 0) (j := (31, 0)) cx a30_0 rfl rfl rfl (by decide) inX6 lfX6_7 dX6_keep_32 ?_
    refine g_bipush (v := nI 13) cx dX6_keep_35 (by decide) ?_
    refine g_ialdN (i := (31, 0)) (j := 13) (v := nI hr) cx a31_0 rfl (rfl) (by omega) (by decide) dX6_keep_37 (by rw [upA_n _ _ (by decide), upA_s, cpR_out (by omega)]; exact hHr) ?_
    exact g_fret cx rq rfl (rfl) dX6_keep_38 (by simp [eq_true h_7]) (by simp [eq_true h_7, hjx, upA_n])
  · skip
    refine g_bipush (v := (-2)) cx dX6_keep_10 (by decide) ?_
    exact g_fret cx rq rfl (rfl) dX6_keep_12 (by simp [eq_false h_7]) (by simp [eq_false h_7])

set_option maxRecDepth 100000 in
set_option maxHeartbeats 4000000 in
theorem m_back {D : Wd} {kp : Nat → Nat} (hKf : ∀ q, q < 2 → D (32, 0) q = nI (kp q) ∧ kp q < 2) (x : Int32) : Fok mX6_back idsA 1 [vr (30, 0), vi x] D (some (vi (if lt0 x 2 then (if kp (ix x) = 0 then -4 else D (31, 0) (14 * (1 + ix x) + 13)) else -2))) (if lt0 x 2 && decide (kp (ix x) ≠ 0) then upA D (31, 0) (cpR (D (31, 0)) (14 * (1 + ix x)) 0 14) else D) := by
  refine Mok.of (L := [some (vr (30, 0)), some (vi x)]) rfl (fun _ => Nat.le_of_ble_eq_true rfl) (fun _ => rfl) (fun X cx rq => ?_)
  refine g_iload_n cx dX6_back_0 rfl ?_
  refine g_i2l cx dX6_back_1 ?_
  refine g_lconst (v := 0) cx dX6_back_2 (by decide) ?_
  refine g_lconst (v := 1) cx dX6_back_3 (by decide) ?_
  refine g_fcallS (As := [vl x.toInt64, vl 0, vl 1]) (rest := []) cx knX6_in (m_in x.toInt64 0 1) lmX6_60 nsX6_in rfl (by decide) (Nat.le_of_ble_eq_true rfl) rfl dX6_back_4 ?_
  refine g_top (bi_iff (in_iff0 (n := 2) (by decide) (by decide) (by decide))) ?_
  refine g_if_neB (tgt := 13) cx dX6_back_7 (by decide) (fun h_7 => ?_) (fun h_7 => ?_)
  · skip
    obtain ⟨j, hj, rfl⟩ := lt0_nI h_7
    have hjx : (nI j).toNatClampNeg = j := nI_clamp (by omega)
    refine g_aload_n cx dX6_back_13 rfl ?_
    refine g_getR (i := (30, 0)) (ci := 6) (k := 1) (j := (32, 0)) cx a30_0 rfl rfl rfl (by decide) inX6 lfX6_13 dX6_back_14 ?_
    refine g_iload_n cx dX6_back_17 rfl ?_
    refine g_zald (i := (32, 0)) (j := j) cx a32_0 rfl (rfl) (by omega) (by decide) dX6_back_18 ?_
    refine g_top (y := nI (kp j)) ((hKf j (by omega)).1) ?_
    have hkj := (hKf j (by omega)).2
    refine g_if_neN (tgt := 25) cx dX6_back_19 (by decide) (by omega) (fun h_19 => ?_) (fun h_19 => ?_)
    · skip
      refine g_aload_n cx dX6_back_25 rfl ?_
      refine g_bipush (v := nI 14) cx dX6_back_26 (by decide) ?_
      refine g_iconst (v := nI 1) cx dX6_back_28 (by decide) ?_
      refine g_iload_n cx dX6_back_29 rfl ?_
      refine g_iaddN cx dX6_back_30 ?_
      refine g_imulN cx dX6_back_31 ?_
      refine g_iconst (v := nI 0) cx dX6_back_32 (by decide) ?_
      refine g_fcallVv (As := [vi (nI (14 * (1 + j))), vi (nI 0)]) (rest := []) cx knX6_copy (m_copy (fr := 14 * (1 + j)) (to := 0) (by omega) (by omega) (by omega)) a30_0 rfl rfl lmX6_170 niX6_copy seX6_copy rfl (by decide) (Nat.le_of_ble_eq_true rfl) rfl dX6_back_33 ?_
      refine g_aload_n cx dX6_back_36 rfl ?_
      refine g_getR (i := (30, 0)) (ci := 6) (k := 0) (j := (31, 0)) cx a30_0 rfl rfl rfl (by decide) inX6 lfX6_7 dX6_back_37 ?_
      refine g_bipush (v := nI 13) cx dX6_back_40 (by decide) ?_
      refine g_ialdN (i := (31, 0)) (j := 13) (v := (D (31, 0) (14 * (1 + j) + 13))) cx a31_0 rfl (rfl) (by omega) (by decide) dX6_back_42 (by rw [upA_s]; exact cpR_in (to := 0) (q := 13) (by decide)) ?_
      exact g_fret cx rq rfl (rfl) dX6_back_43 (by simp [eq_true h_7, hjx, h_19]) (by simp [eq_true h_7, hjx, h_19])
    · skip
      refine g_bipush (v := (-4)) cx dX6_back_22 (by decide) ?_
      exact g_fret cx rq rfl (rfl) dX6_back_24 (by simp [eq_true h_7, hjx, h_19]) (by simp [hjx, h_19])
  · skip
    refine g_bipush (v := (-2)) cx dX6_back_10 (by decide) ?_
    exact g_fret cx rq rfl (rfl) dX6_back_12 (by simp [eq_false h_7]) (by simp [eq_false h_7])

set_option maxRecDepth 100000 in
set_option maxHeartbeats 4000000 in
theorem m_slam {D : Wd} {n : Nat} {k f : Nat → Nat} {dn : Nat} {dr : Nat → Nat} {pn : Nat} (hP : PM D n k f dn dr pn) {a : Nat → Nat} (hA : AM D 0 n a) (hW : ∀ r, r < n → f r + 1 ≤ wid n a r) (x s w : Int32) : Fok mX6_slam idsA 2 [vr (30, 0), vi x, vi s, vi w] D (some (vi (slamS n k f a x s w))) D := by
  obtain ⟨hn3, hn8, hN, hK, hF, hd3, hDn, hDr, hp5, hPn⟩ := id hP
  refine Mok.of (L := [some (vr (30, 0)), some (vi x), some (vi s), some (vi w), none]) rfl (fun _ => Nat.le_of_ble_eq_true rfl) (fun _ => rfl) (fun X cx rq => ?_)
  refine g_aload_n cx dX6_slam_0 rfl ?_
  refine g_iload_n cx dX6_slam_1 rfl ?_
  refine g_fcallV (As := [vi x]) (rest := []) cx knX6_isLeaf (m_isLeaf hP x) a30_0 rfl rfl lmX6_183 niX6_isLeaf seX6_isLeaf rfl (by decide) (Nat.le_of_ble_eq_true rfl) rfl dX6_slam_2 ?_
  refine g_if_neB (tgt := 11) cx dX6_slam_5 (by decide) (fun h_5 => ?_) (fun h_5 => ?_)
  · skip
    obtain ⟨j, hj, rfl⟩ := lt0_nI h_5
    have hjx : (nI j).toNatClampNeg = j := nI_clamp (by omega)
    have hkj := (hK j hj).2
    refine g_iload_n cx dX6_slam_11 rfl ?_
    refine g_fcallS (As := [vi s]) (rest := []) cx knX6_isSide (m_isSide s) lmX6_210 nsX6_isSide rfl (by decide) (Nat.le_of_ble_eq_true rfl) rfl dX6_slam_12 ?_
    refine g_if_eqB (tgt := 28) cx dX6_slam_15 (by decide) (fun h_15 => ?_) (fun h_15 => ?_)
    · skip
      refine g_bipush (v := (-3)) cx dX6_slam_28 (by decide) ?_
      exact g_fret cx rq rfl (rfl) dX6_slam_30 (by simp [slamS, eq_true h_5, eq_false h_15]) (rfl)
    · skip
      obtain ⟨t, ht, rfl⟩ := lt0_nI h_15
      have htx : (nI t).toNatClampNeg = t := nI_clamp (by omega)
      refine g_iload_n cx dX6_slam_18 rfl ?_
      refine g_i2l cx dX6_slam_19 ?_
      refine g_lconst (v := 0) cx dX6_slam_20 (by decide) ?_
      refine g_lconst (v := 1) cx dX6_slam_21 (by decide) ?_
      refine g_fcallS (As := [vl w.toInt64, vl 0, vl 1]) (rest := []) cx knX6_in (m_in w.toInt64 0 1) lmX6_60 nsX6_in rfl (by decide) (Nat.le_of_ble_eq_true rfl) rfl dX6_slam_22 ?_
      refine g_top (bi_iff (in_iff0 (n := 2) (by decide) (by decide) (by decide))) ?_
      refine g_if_neB (tgt := 31) cx dX6_slam_25 (by decide) (fun h_25 => ?_) (fun h_25 => ?_)
      · skip
        refine g_aload_n cx dX6_slam_31 rfl ?_
        refine g_getR (i := (30, 0)) (ci := 6) (k := 7) (j := (35, 0)) cx a30_0 rfl rfl rfl (by decide) inX6 lfX6_27 dX6_slam_32 ?_
        refine g_iload_n cx dX6_slam_35 rfl ?_
        refine g_ialdN (i := (35, 0)) (j := j) (v := nI (k j)) cx a35_0 rfl (rfl) (by omega) (by decide) dX6_slam_36 ((hK j (by omega)).1) ?_
        refine g_iconst (v := nI 3) cx dX6_slam_37 (by decide) ?_
        refine g_icmp_neN (tgt := 44) cx dX6_slam_38 (by decide) (by omega) (by omega) (fun h_38 => ?_) (fun h_38 => ?_)
        · skip
          have jn : Gk X mX6_slam idsA 59 [some (vr (30, 0)), some (vi (nI j)), some (vi (nI t)), some (vi w), some (vi (nI (rmB n j t)))] [] D := by
            have hrm := rmB_lt (s := t) hj
            have hwd := hW _ hrm
            have hw2 := wid_lt hrm (fun j hj => (hA j hj).2)
            refine g_iload_n cx dX6_slam_59 rfl ?_
            refine g_if_ne (tgt := 83) cx dX6_slam_60 (by decide) (fun h_60 => ?_) (fun h_60 => ?_)
            · skip
              refine g_iload_n cx dX6_slam_83 rfl ?_
              refine g_if_neN (tgt := 95) cx dX6_slam_84 (by decide) (by omega) (fun h_84 => ?_) (fun h_84 => ?_)
              · skip
                refine g_aload_n cx dX6_slam_95 rfl ?_
                refine g_iload_n cx dX6_slam_96 rfl ?_
                refine g_fcallV (As := [vi (nI j)]) (rest := []) cx knX6_ahead (m_ahead hP (i := j) (by omega)) a30_0 rfl rfl lmX6_192 niX6_ahead seX6_ahead rfl (by decide) (Nat.le_of_ble_eq_true rfl) rfl dX6_slam_97 ?_
                exact g_fret cx rq rfl (rfl) dX6_slam_100 (by simp [slamS, eq_true h_5, eq_true h_15, eq_true h_25, hjx, htx, h_38, eq_false h_60, lfB, eq_false h_84]) (rfl)
              · skip
                refine g_aload_n cx dX6_slam_87 rfl ?_
                refine g_iload_n cx dX6_slam_88 rfl ?_
                refine g_fcallV (As := [vi (nI j)]) (rest := []) cx knX6_next (m_next hP (i := j) (by omega)) a30_0 rfl rfl lmX6_177 niX6_next seX6_next rfl (by decide) (Nat.le_of_ble_eq_true rfl) rfl dX6_slam_89 ?_
                refine g_goto (tgt := 100) cx dX6_slam_92 (by decide) ?_
                exact g_fret cx rq rfl (rfl) dX6_slam_100 (by simp [slamS, eq_true h_5, eq_true h_15, eq_true h_25, hjx, htx, h_38, eq_false h_60, lfB, eq_true h_84]) (rfl)
            · skip
              refine g_aload_n cx dX6_slam_63 rfl ?_
              refine g_iconst (v := nI 0) cx dX6_slam_64 (by decide) ?_
              refine g_iload cx dX6_slam_65 rfl ?_
              refine g_fcallV (As := [vi (nI 0), vi (nI (rmB n j t))]) (rest := []) cx knX6_width (m_width hP hA (by omega) (i := rmB n j t) (by omega)) a30_0 rfl rfl lmX6_180 niX6_width seX6_width rfl (by decide) (Nat.le_of_ble_eq_true rfl) rfl dX6_slam_67 ?_
              refine g_aload_n cx dX6_slam_70 rfl ?_
              refine g_getR (i := (30, 0)) (ci := 6) (k := 8) (j := (36, 0)) cx a30_0 rfl rfl rfl (by decide) inX6 lfX6_30 dX6_slam_71 ?_
              refine g_iload cx dX6_slam_74 rfl ?_
              refine g_ialdN (i := (36, 0)) (j := rmB n j t) (v := nI (f (rmB n j t))) cx a36_0 rfl (rfl) (by omega) (by decide) dX6_slam_76 ((hF (rmB n j t) (by omega)).1) ?_
              refine g_isubN cx dX6_slam_77 (by omega) ?_
              refine g_iconst (v := nI 1) cx dX6_slam_78 (by decide) ?_
              refine g_isubN cx dX6_slam_79 (by omega) ?_
              refine g_goto (tgt := 100) cx dX6_slam_80 (by decide) ?_
              exact g_fret cx rq rfl (rfl) dX6_slam_100 (by simp [slamS, eq_true h_5, eq_true h_15, eq_true h_25, hjx, htx, h_38, eq_true h_60]) (rfl)
          refine g_iload_n cx dX6_slam_44 rfl ?_
          refine g_if_neN (tgt := 52) cx dX6_slam_45 (by decide) (by omega) (fun h_45 => ?_) (fun h_45 => ?_)
          · skip
            refine g_aload_n cx dX6_slam_52 rfl ?_
            refine g_iload_n cx dX6_slam_53 rfl ?_
            refine g_fcallV (As := [vi (nI j)]) (rest := []) cx knX6_ahead (m_ahead hP (i := j) (by omega)) a30_0 rfl rfl lmX6_192 niX6_ahead seX6_ahead rfl (by decide) (Nat.le_of_ble_eq_true rfl) rfl dX6_slam_54 ?_
            refine g_top (y := nI (rmB n j t)) (by unfold rmB; rw [if_neg h_45]) ?_
            have hrm := rmB_lt (s := t) hj
            have hwd := hW _ hrm
            refine g_istore (L' := [some (vr (30, 0)), some (vi (nI j)), some (vi (nI t)), some (vi w), some (vi (nI (rmB n j t)))]) cx dX6_slam_57 (by decide) rfl rfl ?_
            exact jn
          · skip
            refine g_iload_n cx dX6_slam_48 rfl ?_
            refine g_goto (tgt := 57) cx dX6_slam_49 (by decide) ?_
            refine g_top (y := nI (rmB n j t)) (by unfold rmB; rw [if_pos h_45]) ?_
            have hrm := rmB_lt (s := t) hj
            have hwd := hW _ hrm
            refine g_istore (L' := [some (vr (30, 0)), some (vi (nI j)), some (vi (nI t)), some (vi w), some (vi (nI (rmB n j t)))]) cx dX6_slam_57 (by decide) rfl rfl ?_
            exact jn
        · skip
          refine g_bipush (v := (-4)) cx dX6_slam_41 (by decide) ?_
          exact g_fret cx rq rfl (rfl) dX6_slam_43 (by simp [slamS, eq_true h_5, eq_true h_15, eq_true h_25, hjx, h_38]) (rfl)
      · skip
        refine g_bipush (v := (-3)) cx dX6_slam_28 (by decide) ?_
        exact g_fret cx rq rfl (rfl) dX6_slam_30 (by simp [slamS, eq_true h_5, eq_true h_15, eq_false h_25]) (rfl)
  · skip
    refine g_bipush (v := (-2)) cx dX6_slam_8 (by decide) ?_
    exact g_fret cx rq rfl (rfl) dX6_slam_10 (by simp [slamS, eq_false h_5]) (rfl)

set_option maxRecDepth 100000 in
set_option maxHeartbeats 4000000 in
theorem m_further {D : Wd} {n : Nat} {k f : Nat → Nat} {dn : Nat} {dr : Nat → Nat} {pn : Nat} (hP : PM D n k f dn dr pn) {a : Nat → Nat} (hA : AM D 0 n a) (w : Int32) : Fok mX6_further idsA 2 [vr (30, 0), vi w] D (some (vi (furS n a w))) D := by
  obtain ⟨hn3, hn8, hN, hK, hF, hd3, hDn, hDr, hp5, hPn⟩ := id hP
  refine Mok.of (L := [some (vr (30, 0)), some (vi w), none, none]) rfl (fun _ => Nat.le_of_ble_eq_true rfl) (fun _ => rfl) (fun X cx rq => ?_)
  refine g_iload_n cx dX6_further_0 rfl ?_
  refine g_i2l cx dX6_further_1 ?_
  refine g_lconst (v := 0) cx dX6_further_2 (by decide) ?_
  refine g_lconst (v := 1) cx dX6_further_3 (by decide) ?_
  refine g_fcallS (As := [vl w.toInt64, vl 0, vl 1]) (rest := []) cx knX6_in (m_in w.toInt64 0 1) lmX6_60 nsX6_in rfl (by decide) (Nat.le_of_ble_eq_true rfl) rfl dX6_further_4 ?_
  refine g_top (bi_iff (in_iff0 (n := 2) (by decide) (by decide) (by decide))) ?_
  refine g_if_neB (tgt := 13) cx dX6_further_7 (by decide) (fun h_7 => ?_) (fun h_7 => ?_)
  · skip
    refine g_iconst (v := nI 0) cx dX6_further_13 (by decide) ?_
    refine g_istore_n (L' := [some (vr (30, 0)), some (vi w), some (vi (nI 0)), none]) cx dX6_further_14 (by decide) rfl rfl ?_
    refine g_iconst (v := nI 1) cx dX6_further_15 (by decide) ?_
    refine g_istore_n (L' := [some (vr (30, 0)), some (vi w), some (vi (nI 0)), some (vi (nI 1))]) cx dX6_further_16 (by decide) rfl rfl ?_
    refine g_loc (L' := [some (vr (30, 0)), some (vi w), some (vi (nI (furG n a 1))), some (vi (nI 1))]) (by rw [show furG n a 1 = 0 from by simp [furG]]) ?_
    have lp : ∀ (fu : Nat) (q : Nat), n - q < fu → (q ≤ n) → (1 ≤ q) → Gk X mX6_further idsA 17 [some (vr (30, 0)), some (vi w), some (vi (nI (furG n a q))), some (vi (nI q))] [] D := by
      intro fu
      induction fu with
      | zero => intro q hfu; exact absurd hfu (Nat.not_lt_zero _)
      | succ fu ih =>
        intro q hfu hq hq1
        have hfl := furG_le (a := a) hq (by omega)
        have hfw := wid_lt hfl (fun j hj => (hA j hj).2)
        refine g_iload_n cx dX6_further_17 rfl ?_
        refine g_aload_n cx dX6_further_18 rfl ?_
        refine g_getIN (i := (30, 0)) (ci := 6) (k := 6) (v := nI n) cx a30_0 rfl rfl rfl (by decide) inX6 lfX6_23 dX6_further_19 (hN) ?_
        refine g_icmp_geN (tgt := 56) cx dX6_further_22 (by decide) (by omega) (by omega) (fun h_22 => ?_) (fun h_22 => ?_)
        · skip
          have e : q = n := by omega
          refine g_iload_n cx dX6_further_56 rfl ?_
          refine g_if_ne (tgt := 64) cx dX6_further_57 (by decide) (fun h_57 => ?_) (fun h_57 => ?_)
          · skip
            refine g_aload_n cx dX6_further_64 rfl ?_
            refine g_iconst (v := nI 0) cx dX6_further_65 (by decide) ?_
            refine g_iload_n cx dX6_further_66 rfl ?_
            refine g_fcallV (As := [vi (nI 0), vi (nI (furG n a q))]) (rest := []) cx knX6_width (m_width hP hA (by omega) (i := furG n a q) (by omega)) a30_0 rfl rfl lmX6_180 niX6_width seX6_width rfl (by decide) (Nat.le_of_ble_eq_true rfl) rfl dX6_further_67 ?_
            refine g_iconst (v := nI 2) cx dX6_further_70 (by decide) ?_
            refine g_idivN cx dX6_further_71 (by omega) (by omega) (by omega) ?_
            exact g_fret cx rq rfl (rfl) dX6_further_72 (by simp [furS, eq_true h_7, eq_false h_57, e]) (rfl)
          · skip
            refine g_iload_n cx dX6_further_60 rfl ?_
            refine g_goto (tgt := 72) cx dX6_further_61 (by decide) ?_
            exact g_fret cx rq rfl (rfl) dX6_further_72 (by simp [furS, eq_true h_7, eq_true h_57, e]) (rfl)
        · skip
          have hqw := wid_lt h_22 (fun j hj => (hA j hj).2)
          refine g_aload_n cx dX6_further_25 rfl ?_
          refine g_iconst (v := nI 0) cx dX6_further_26 (by decide) ?_
          refine g_iload_n cx dX6_further_27 rfl ?_
          refine g_fcallV (As := [vi (nI 0), vi (nI q)]) (rest := []) cx knX6_width (m_width hP hA (by omega) (i := q) (by omega)) a30_0 rfl rfl lmX6_180 niX6_width seX6_width rfl (by decide) (Nat.le_of_ble_eq_true rfl) rfl dX6_further_28 ?_
          refine g_iconst (v := nI 2) cx dX6_further_31 (by decide) ?_
          refine g_idivN cx dX6_further_32 (by omega) (by omega) (by omega) ?_
          refine g_aload_n cx dX6_further_33 rfl ?_
          refine g_iconst (v := nI 0) cx dX6_further_34 (by decide) ?_
          refine g_iload_n cx dX6_further_35 rfl ?_
          refine g_fcallV (As := [vi (nI 0), vi (nI (furG n a q))]) (rest := [vi (nI ((wid n a q) / 2))]) cx knX6_width (m_width hP hA (by omega) (i := furG n a q) (by omega)) a30_0 rfl rfl lmX6_180 niX6_width seX6_width rfl (by decide) (Nat.le_of_ble_eq_true rfl) rfl dX6_further_36 ?_
          refine g_iconst (v := nI 2) cx dX6_further_39 (by decide) ?_
          refine g_idivN cx dX6_further_40 (by omega) (by omega) (by omega) ?_
          refine g_icmp_leN (tgt := 48) cx dX6_further_41 (by decide) (by omega) (by omega) (fun h_41 => ?_) (fun h_41 => ?_)
          · skip
            refine g_iload_n cx dX6_further_48 rfl ?_
            refine g_top (y := nI (furG n a (q + 1))) (by rw [furG, if_neg (by omega)]) ?_
            refine g_istore_n (L' := [some (vr (30, 0)), some (vi w), some (vi (nI (furG n a (q + 1)))), some (vi (nI q))]) cx dX6_further_49 (by decide) rfl rfl ?_
            refine g_iincN (L' := [some (vr (30, 0)), some (vi w), some (vi (nI (furG n a (q + 1)))), some (vi (nI (q + 1)))]) cx dX6_further_50 rfl (by decide) rfl rfl ?_
            refine g_goto (tgt := 17) cx dX6_further_53 (by decide) ?_
            exact ih (q + 1) (by omega) (by omega) (by omega)
          · skip
            refine g_iload_n cx dX6_further_44 rfl ?_
            refine g_goto (tgt := 49) cx dX6_further_45 (by decide) ?_
            refine g_top (y := nI (furG n a (q + 1))) (by rw [furG, if_pos h_41]) ?_
            refine g_istore_n (L' := [some (vr (30, 0)), some (vi w), some (vi (nI (furG n a (q + 1)))), some (vi (nI q))]) cx dX6_further_49 (by decide) rfl rfl ?_
            refine g_iincN (L' := [some (vr (30, 0)), some (vi w), some (vi (nI (furG n a (q + 1)))), some (vi (nI (q + 1)))]) cx dX6_further_50 rfl (by decide) rfl rfl ?_
            refine g_goto (tgt := 17) cx dX6_further_53 (by decide) ?_
            exact ih (q + 1) (by omega) (by omega) (by omega)
    exact lp (n + 1) 1 (by omega) (by omega) (by omega)
  · skip
    refine g_bipush (v := (-3)) cx dX6_further_10 (by decide) ?_
    exact g_fret cx rq rfl (rfl) dX6_further_12 (by simp [furS, eq_false h_7]) (rfl)

set_option maxRecDepth 100000 in
set_option maxHeartbeats 4000000 in
theorem m_share {D : Wd} {n : Nat} {k f : Nat → Nat} {dn : Nat} {dr : Nat → Nat} {pn : Nat} (hP : PM D n k f dn dr pn) {a : Nat → Nat} (hA : AM D 0 n a) (x w : Int32) : Fok mX6_share idsA 2 [vr (30, 0), vi x, vi w] D (some (vi (shareS n a x w))) D := by
  obtain ⟨hn3, hn8, hN, hK, hF, hd3, hDn, hDr, hp5, hPn⟩ := id hP
  refine Mok.of (L := [some (vr (30, 0)), some (vi x), some (vi w), none, none, none]) rfl (fun _ => Nat.le_of_ble_eq_true rfl) (fun _ => rfl) (fun X cx rq => ?_)
  refine g_aload_n cx dX6_share_0 rfl ?_
  refine g_iload_n cx dX6_share_1 rfl ?_
  refine g_fcallV (As := [vi x]) (rest := []) cx knX6_isLeaf (m_isLeaf hP x) a30_0 rfl rfl lmX6_183 niX6_isLeaf seX6_isLeaf rfl (by decide) (Nat.le_of_ble_eq_true rfl) rfl dX6_share_2 ?_
  refine g_if_neB (tgt := 11) cx dX6_share_5 (by decide) (fun h_5 => ?_) (fun h_5 => ?_)
  · skip
    obtain ⟨j, hj, rfl⟩ := lt0_nI h_5
    have hjx : (nI j).toNatClampNeg = j := nI_clamp (by omega)
    have hw7 := wid_lt hj (fun j hj => (hA j hj).2)
    refine g_iload_n cx dX6_share_11 rfl ?_
    refine g_i2l cx dX6_share_12 ?_
    refine g_lconst (v := 0) cx dX6_share_13 (by decide) ?_
    refine g_lconst (v := 1) cx dX6_share_14 (by decide) ?_
    refine g_fcallS (As := [vl w.toInt64, vl 0, vl 1]) (rest := []) cx knX6_in (m_in w.toInt64 0 1) lmX6_60 nsX6_in rfl (by decide) (Nat.le_of_ble_eq_true rfl) rfl dX6_share_15 ?_
    refine g_top (bi_iff (in_iff0 (n := 2) (by decide) (by decide) (by decide))) ?_
    refine g_if_neB (tgt := 24) cx dX6_share_18 (by decide) (fun h_18 => ?_) (fun h_18 => ?_)
    · skip
      refine g_aload_n cx dX6_share_24 rfl ?_
      refine g_iconst (v := nI 0) cx dX6_share_25 (by decide) ?_
      refine g_iload_n cx dX6_share_26 rfl ?_
      refine g_fcallV (As := [vi (nI 0), vi (nI j)]) (rest := []) cx knX6_width (m_width hP hA (by omega) (i := j) (by omega)) a30_0 rfl rfl lmX6_180 niX6_width seX6_width rfl (by decide) (Nat.le_of_ble_eq_true rfl) rfl dX6_share_27 ?_
      refine g_istore_n (L' := [some (vr (30, 0)), some (vi (nI j)), some (vi w), some (vi (nI (wid n a j))), none, none]) cx dX6_share_30 (by decide) rfl rfl ?_
      refine g_bipush (v := nI 72) cx dX6_share_31 (by decide) ?_
      refine g_istore (L' := [some (vr (30, 0)), some (vi (nI j)), some (vi w), some (vi (nI (wid n a j))), some (vi (nI 72)), none]) cx dX6_share_33 (by decide) rfl rfl ?_
      have lp : ∀ (fu : Nat) (u : Nat) (v : Nat), v < fu → (u < 100) → (v < 100) → (Nat.gcd u v = Nat.gcd (wid n a j) 72) → Gk X mX6_share idsA 35 [some (vr (30, 0)), some (vi (nI j)), some (vi w), some (vi (nI u)), some (vi (nI v)), none] [] D := by
        intro fu
        induction fu with
        | zero => intro u v hfu; exact absurd hfu (Nat.not_lt_zero _)
        | succ fu ih =>
          intro u v hfu hu hv hg
          refine g_iload cx dX6_share_35 rfl ?_
          refine g_if_eqN (tgt := 56) cx dX6_share_37 (by decide) (by omega) (fun h_37 => ?_) (fun h_37 => ?_)
          · skip
            subst h_37
            rw [Nat.gcd_zero_right] at hg
            have hu0 : 0 < u := by
              rcases Nat.eq_zero_or_pos u with e | e
              · rw [e] at hg; exact absurd hg (Nat.ne_of_lt (Nat.gcd_pos_of_pos_right _ (by decide)))
              · exact e
            refine g_iload_n cx dX6_share_56 rfl ?_
            refine g_if_ne (tgt := 71) cx dX6_share_57 (by decide) (fun h_57 => ?_) (fun h_57 => ?_)
            · skip
              refine g_bipush (v := nI 72) cx dX6_share_71 (by decide) ?_
              refine g_iload_n cx dX6_share_73 rfl ?_
              refine g_idivN cx dX6_share_74 (by omega) (by omega) (by omega) ?_
              exact g_fret cx rq rfl (rfl) dX6_share_75 (by simp [shareS, eq_true h_5, eq_true h_18, hjx, eq_false h_57, ← hg]) (rfl)
            · skip
              refine g_aload_n cx dX6_share_60 rfl ?_
              refine g_iconst (v := nI 0) cx dX6_share_61 (by decide) ?_
              refine g_iload_n cx dX6_share_62 rfl ?_
              refine g_fcallV (As := [vi (nI 0), vi (nI j)]) (rest := []) cx knX6_width (m_width hP hA (by omega) (i := j) (by omega)) a30_0 rfl rfl lmX6_180 niX6_width seX6_width rfl (by decide) (Nat.le_of_ble_eq_true rfl) rfl dX6_share_63 ?_
              refine g_iload_n cx dX6_share_66 rfl ?_
              refine g_idivN cx dX6_share_67 (by omega) (by omega) (by omega) ?_
              refine g_goto (tgt := 75) cx dX6_share_68 (by decide) ?_
              exact g_fret cx rq rfl (rfl) dX6_share_75 (by simp [shareS, eq_true h_5, eq_true h_18, hjx, eq_true h_57, ← hg]) (rfl)
          · skip
            refine g_iload_n cx dX6_share_40 rfl ?_
            refine g_iload cx dX6_share_41 rfl ?_
            refine g_iremN cx dX6_share_43 (by omega) (by omega) (by omega) ?_
            refine g_istore (L' := [some (vr (30, 0)), some (vi (nI j)), some (vi w), some (vi (nI u)), some (vi (nI v)), some (vi (nI (u % v)))]) cx dX6_share_44 (by decide) rfl rfl ?_
            refine g_iload cx dX6_share_46 rfl ?_
            refine g_istore_n (L' := [some (vr (30, 0)), some (vi (nI j)), some (vi w), some (vi (nI v)), some (vi (nI v)), some (vi (nI (u % v)))]) cx dX6_share_48 (by decide) rfl rfl ?_
            refine g_iload cx dX6_share_49 rfl ?_
            refine g_istore (L' := [some (vr (30, 0)), some (vi (nI j)), some (vi w), some (vi (nI v)), some (vi (nI (u % v))), some (vi (nI (u % v)))]) cx dX6_share_51 (by decide) rfl rfl ?_
            refine g_goto (tgt := 35) cx dX6_share_53 (by decide) ?_
            refine g_drop 5 (L' := [some (vr (30, 0)), some (vi (nI j)), some (vi w), some (vi (nI v)), some (vi (nI (u % v))), none]) rfl ?_
            exact ih v (u % v) (by have := Nat.mod_lt u (show 0 < v by omega); omega) (by omega) (by have := Nat.mod_lt u (show 0 < v by omega); omega) (by rw [← hg, Nat.gcd_comm v, ← Nat.gcd_rec, Nat.gcd_comm])
      exact lp 73 (wid n a j) 72 (by omega) (by omega) (by omega) rfl
    · skip
      refine g_bipush (v := (-3)) cx dX6_share_21 (by decide) ?_
      exact g_fret cx rq rfl (rfl) dX6_share_23 (by simp [shareS, eq_true h_5, eq_false h_18]) (rfl)
  · skip
    refine g_bipush (v := (-2)) cx dX6_share_8 (by decide) ?_
    exact g_fret cx rq rfl (rfl) dX6_share_10 (by simp [shareS, eq_false h_5]) (rfl)
end
section
/-! trials: the fourth row of the reference is scratch -/
def TR (D E : Wd) : Prop := (∀ i : Id2, i ≠ (31, 0) → E i = D i) ∧ ∀ q, (q < 42 ∨ 56 ≤ q) → E (31, 0) q = D (31, 0) q
theorem TR.refl (D : Wd) : TR D D := ⟨fun _ _ => rfl, fun _ _ => rfl⟩
theorem TR.trans {D E F : Wd} (h1 : TR D E) (h2 : TR E F) : TR D F := ⟨fun i hi => (h2.1 i hi).trans (h1.1 i hi), fun q hq => (h2.2 q hq).trans (h1.2 q hq)⟩
theorem TR.P {D E : Wd} {n : Nat} {k f : Nat → Nat} {dn : Nat} {dr : Nat → Nat} {pn : Nat} (t : TR D E) (h : PM D n k f dn dr pn) : PM E n k f dn dr pn := by
  obtain ⟨h1, h2, h3, h4, h5, h6, h7, h8, h9, h10⟩ := h
  exact ⟨h1, h2, by rw [t.1 _ (by decide)]; exact h3, by rw [t.1 _ (by decide)]; exact h4, by rw [t.1 _ (by decide)]; exact h5, h6, by rw [t.1 _ (by decide)]; exact h7, by rw [t.1 _ (by decide)]; exact h8, h9, by rw [t.1 _ (by decide)]; exact h10⟩
theorem TR.A {D E : Wd} {n : Nat} {a : Nat → Nat} (t : TR D E) (hn : n ≤ 8) (h : AM D 0 n a) : AM E 0 n a := by
  intro j hj
  rw [t.2 _ (by omega)]; exact h j hj
theorem TR.Rw {D E : Wd} {n : Nat} {a : Nat → Nat} (hn : n ≤ 8) (t : TR D E) : TR D (Rw E 42 n a) := by
  refine ⟨fun i hi => ?_, fun q hq => ?_⟩
  · rw [Rw.at hi]; exact t.1 i hi
  · show upA E (31, 0) (putA (E (31, 0)) 42 n a) (31, 0) q = _
    rw [upA_s, putA_out (by omega)]; exact t.2 q hq
theorem TR.cp (D : Wd) : TR D (upA D (31, 0) (cpR (D (31, 0)) 0 42 14)) := by
  refine ⟨fun i hi => upA_n D _ hi, fun q hq => ?_⟩
  rw [upA_s, cpR_out (by omega)]
theorem cp_A {D : Wd} {n : Nat} {a : Nat → Nat} (hn : n ≤ 8) (h : AM D 0 n a) : AM (upA D (31, 0) (cpR (D (31, 0)) 0 42 14)) 42 n a := by
  intro j hj
  rw [upA_s, cpR_in (by omega)]; exact h j hj
theorem cp_Pl {D : Wd} {pn : Nat} {pl : Nat → Int32} (hn : pn ≤ 5) (h : PLM D 0 pn pl) : PLM (upA D (31, 0) (cpR (D (31, 0)) 0 42 14)) 42 pn pl := by
  intro p hp
  rw [upA_s, Nat.add_assoc, cpR_in (by omega), ← Nat.add_assoc]; exact h p hp
/-- a push till a room is open, as the reference does it: the steps, and where all stands -/
def tmG (n : Nat) (k f : Nat → Nat) (dn : Nat) (dr : Nat → Nat) (i s r : Nat) : Nat → Nat → (Nat → Nat) → Nat × (Nat → Nat)
  | 0, c, a => (c, a)
  | fu + 1, c, a => if opn n a dn dr r then (c, a) else if mov n a k f i s = 0 then (c, a) else tmG n k f dn dr i s r fu (c + 1) (stp n a k f i s)
def trn (n : Nat) (k f : Nat → Nat) (dn : Nat) (dr : Nat → Nat) (i s r : Nat) (a : Nat → Nat) : Int32 := if opn n (tmG n k f dn dr i s r 72 0 a).2 dn dr r then nI (tmG n k f dn dr i s r 72 0 a).1 else -1
theorem tmG_le (n : Nat) (k f : Nat → Nat) (dn : Nat) (dr : Nat → Nat) (i s r : Nat) : ∀ fu c a, (tmG n k f dn dr i s r fu c a).1 ≤ fu + c
  | 0, c, a => by simp [tmG]
  | fu + 1, c, a => by
    rw [tmG]; split
    · simp only; omega
    · split
      · simp only; omega
      · have := tmG_le n k f dn dr i s r fu (c + 1) (stp n a k f i s); omega
theorem tmG_lt {n : Nat} {k f : Nat → Nat} {dn : Nat} {dr : Nat → Nat} {i s r : Nat} : ∀ fu c a, (∀ j, j < n → a j < 72) → ∀ j, j < n → (tmG n k f dn dr i s r fu c a).2 j < 72
  | 0, c, a, h => h
  | fu + 1, c, a, h => by
    rw [tmG]; split
    · exact h
    · split
      · exact h
      · exact tmG_lt fu (c + 1) _ (fun j hj => stp_lt (h j hj))
def turnS (n : Nat) (k f : Nat → Nat) (dn : Nat) (dr : Nat → Nat) (a : Nat → Nat) (x s r : Int32) : Int32 := if lt0 x n && lt0 r n then (if lt0 s 2 then trn n k f dn dr (ix x) (ix s) (ix r) a else -3) else -2
/-- of the first m of the leaves' sides, 2 i + side, the first with the least turn: its number and the turn, (none, 99) if none -/
def bsG (n : Nat) (k f : Nat → Nat) (dn : Nat) (dr : Nat → Nat) (r : Nat) (a : Nat → Nat) : Nat → Option Nat × Nat
  | 0 => (none, 99)
  | m + 1 => if trn n k f dn dr (m / 2) (m % 2) r a ≠ -1 ∧ ix (trn n k f dn dr (m / 2) (m % 2) r a) < (bsG n k f dn dr r a m).2 then (some m, ix (trn n k f dn dr (m / 2) (m % 2) r a)) else bsG n k f dn dr r a m
def bestS (n : Nat) (k f : Nat → Nat) (dn : Nat) (dr : Nat → Nat) (a : Nat → Nat) (x w : Int32) : Int32 := if lt0 x n then (if lt0 w 3 then (match (bsG n k f dn dr (ix x) a (2 * n)).1 with
  | none => -1
  | some v => if w = 0 then nI (bsG n k f dn dr (ix x) a (2 * n)).2 else if w = nI 1 then nI (v / 2) else nI (v % 2)) else -3) else -2
def opI (v : Option Nat) : Int32 := match v with
  | none => -1
  | some q => nI q
theorem trn_cases (n : Nat) (k f : Nat → Nat) (dn : Nat) (dr : Nat → Nat) (i s r : Nat) (a : Nat → Nat) : trn n k f dn dr i s r a = -1 ∨ ∃ t, t ≤ 72 ∧ trn n k f dn dr i s r a = nI t := by
  unfold trn; split
  · exact Or.inr ⟨_, by have := tmG_le n k f dn dr i s r 72 0 a; omega, rfl⟩
  · exact Or.inl rfl
theorem m1_ne {t : Nat} (h : t < 2 ^ 31) : nI t ≠ -1 := by
  intro e
  have h1 := nI_toInt h
  rw [e] at h1
  have h2 : (-1 : Int32).toInt = -1 := by decide
  rw [h2] at h1; omega
theorem bsG_ok {n : Nat} {k f : Nat → Nat} {dn : Nat} {dr : Nat → Nat} {r : Nat} {a : Nat → Nat} : ∀ m, (bsG n k f dn dr r a m).2 ≤ 99 ∧ ∀ v, (bsG n k f dn dr r a m).1 = some v → v < m
  | 0 => ⟨by simp [bsG], fun v h => by simp [bsG] at h⟩
  | m + 1 => by
    obtain ⟨h1, h2⟩ := bsG_ok (n := n) (k := k) (f := f) (dn := dn) (dr := dr) (r := r) (a := a) m
    rw [bsG]; split
    · rename_i h
      exact ⟨by simp only; omega, fun v hv => by simp only [Option.some.injEq] at hv; omega⟩
    · exact ⟨h1, fun v hv => Nat.lt_succ_of_lt (h2 v hv)⟩
def countS (n : Nat) (a : Nat → Nat) (dn : Nat) (dr : Nat → Nat) (pn : Nat) (pl : Nat → Int32) (hr sm len : Nat) (w : Int32) : Int32 := if lt0 w 8 then (if ix w = 0 then nI n else if ix w = 1 then nI dn else if ix w = 2 then nI pn else if ix w = 3 then nI hr else if ix w = 4 then nI (bitsN (opn n a dn dr) n) else if ix w = 5 then nI (ppl pn pl (-1)) else if ix w = 6 then nI sm else nI len) else -3
theorem bitsN_s (p : Nat → Bool) (q : Nat) {x : Int32} (hx : x = if p q then nI (2 ^ q) else nI 0) : nI (bitsN p q) ||| x = nI (bitsN p (q + 1)) := by
  subst hx
  rw [bitsN]
  by_cases h : p q = true
  · rw [if_pos h, if_pos h, nI_or]
    congr 1
    have hl := bitsN_lt p q
    rw [Nat.or_comm, Nat.add_comm]
    have h9 := Nat.two_pow_add_eq_or_of_lt hl 1
    rw [Nat.mul_one] at h9
    exact h9.symm
  · rw [if_neg h, if_neg h, nI_or]; simp
end
section
theorem lt0_out {x : Int32} {m : Nat} (h : ¬ lt0 x (m + 1) = true) : x.toInt < 0 ∨ (m : Int) < x.toInt := by
  rw [lt0_iff] at h; omega
set_option maxRecDepth 100000 in
set_option maxHeartbeats 4000000 in
theorem m_shorter {D : Wd} {a c : Nat} (ha : a < 72) (hc : c < 72) : Fok mX6_shorter idsA 1 [vi (nI a), vi (nI c)] D (some (vi (nI (shw a c)))) D := by
  have hon := onN_lt ha hc
  refine Mok.of (L := [some (vi (nI a)), some (vi (nI c)), none]) rfl (fun _ => Nat.le_of_ble_eq_true rfl) (fun _ => rfl) (fun X cx rq => ?_)
  refine g_iload_n cx dX6_shorter_0 rfl ?_
  refine g_iload_n cx dX6_shorter_1 rfl ?_
  refine g_fcallS (As := [vi (nI a), vi (nI c)]) (rest := []) cx knX6_on (m_on ha hc) lmX6_54 nsX6_on rfl (by decide) (Nat.le_of_ble_eq_true rfl) rfl dX6_shorter_2 ?_
  refine g_istore_n (L' := [some (vi (nI a)), some (vi (nI c)), some (vi (nI (onN a c)))]) cx dX6_shorter_5 (by decide) rfl rfl ?_
  refine g_iload_n cx dX6_shorter_6 rfl ?_
  refine g_bipush (v := nI 72) cx dX6_shorter_7 (by decide) ?_
  refine g_iload_n cx dX6_shorter_9 rfl ?_
  refine g_isubN cx dX6_shorter_10 (by omega) ?_
  refine g_icmp_geN (tgt := 18) cx dX6_shorter_11 (by decide) (by omega) (by omega) (fun h_11 => ?_) (fun h_11 => ?_)
  · skip
    refine g_bipush (v := nI 72) cx dX6_shorter_18 (by decide) ?_
    refine g_iload_n cx dX6_shorter_20 rfl ?_
    refine g_isubN cx dX6_shorter_21 (by omega) ?_
    exact g_fret cx rq rfl (rfl) dX6_shorter_22 (by rw [shw, if_neg (by omega)]) (rfl)
  · skip
    refine g_iload_n cx dX6_shorter_14 rfl ?_
    refine g_goto (tgt := 22) cx dX6_shorter_15 (by decide) ?_
    exact g_fret cx rq rfl (rfl) dX6_shorter_22 (by rw [shw, if_pos h_11]) (rfl)

set_option maxRecDepth 100000 in
set_option maxHeartbeats 4000000 in
theorem m_seen {D : Wd} {n : Nat} {k f : Nat → Nat} {dn : Nat} {dr : Nat → Nat} {pn : Nat} (hP : PM D n k f dn dr pn) {sm : Nat} (hSm : D (30, 0) 25 = nI sm) (hs8 : sm ≤ 8) (x w : Int32) : Fok mX6_seen idsA 2 [vr (30, 0), vi x, vi w] D (some (vi (if lt0 x n then (if lt0 w 72 then (if sm = 8 then -5 else nI (sm + 1)) else -3) else -2))) (if (lt0 x n && lt0 w 72) && decide (sm ≠ 8) then upA (upA D (43, 0) (upd (upd (D (43, 0)) (2 * sm) x) (2 * sm + 1) w)) (30, 0) (upd (D (30, 0)) 25 (nI (sm + 1))) else D) := by
  obtain ⟨hn3, hn8, hN, hK, hF, hd3, hDn, hDr, hp5, hPn⟩ := id hP
  refine Mok.of (L := [some (vr (30, 0)), some (vi x), some (vi w)]) rfl (fun _ => Nat.le_of_ble_eq_true rfl) (fun _ => rfl) (fun X cx rq => ?_)
  refine g_aload_n cx dX6_seen_0 rfl ?_
  refine g_iload_n cx dX6_seen_1 rfl ?_
  refine g_fcallV (As := [vi x]) (rest := []) cx knX6_isLeaf (m_isLeaf hP x) a30_0 rfl rfl lmX6_183 niX6_isLeaf seX6_isLeaf rfl (by decide) (Nat.le_of_ble_eq_true rfl) rfl dX6_seen_2 ?_
  refine g_if_neB (tgt := 11) cx dX6_seen_5 (by decide) (fun h_5 => ?_) (fun h_5 => ?_)
  · skip
    refine g_iload_n cx dX6_seen_11 rfl ?_
    refine g_i2l cx dX6_seen_12 ?_
    refine g_lconst (v := 0) cx dX6_seen_13 (by decide) ?_
    refine g_ldc2 (v := 71) cx lcX6_114 dX6_seen_14 ?_
    refine g_fcallS (As := [vl w.toInt64, vl 0, vl 71]) (rest := []) cx knX6_in (m_in w.toInt64 0 71) lmX6_60 nsX6_in rfl (by decide) (Nat.le_of_ble_eq_true rfl) rfl dX6_seen_17 ?_
    refine g_top (bi_iff (in_iff0 (n := 72) (by decide) (by decide) (by decide))) ?_
    refine g_if_neB (tgt := 26) cx dX6_seen_20 (by decide) (fun h_20 => ?_) (fun h_20 => ?_)
    · skip
      refine g_aload_n cx dX6_seen_26 rfl ?_
      refine g_getIN (i := (30, 0)) (ci := 6) (k := 25) (v := nI sm) cx a30_0 rfl rfl rfl (by decide) inX6 lfX6_174 dX6_seen_27 (hSm) ?_
      refine g_bipush (v := nI 8) cx dX6_seen_30 (by decide) ?_
      refine g_icmp_neN (tgt := 38) cx dX6_seen_32 (by decide) (by omega) (by omega) (fun h_32 => ?_) (fun h_32 => ?_)
      · skip
        refine g_aload_n cx dX6_seen_38 rfl ?_
        refine g_getR (i := (30, 0)) (ci := 6) (k := 24) (j := (43, 0)) cx a30_0 rfl rfl rfl (by decide) inX6 lfX6_51 dX6_seen_39 ?_
        refine g_iconst (v := nI 2) cx dX6_seen_42 (by decide) ?_
        refine g_aload_n cx dX6_seen_43 rfl ?_
        refine g_getIN (i := (30, 0)) (ci := 6) (k := 25) (v := nI sm) cx a30_0 rfl rfl rfl (by decide) inX6 lfX6_174 dX6_seen_44 (hSm) ?_
        refine g_imulN cx dX6_seen_47 ?_
        refine g_iload_n cx dX6_seen_48 rfl ?_
        refine g_iast (i := (43, 0)) (j := 2 * sm) cx a43_0 rfl (rfl) (by omega) (by decide) dX6_seen_49 ?_
        refine g_aload_n cx dX6_seen_50 rfl ?_
        refine g_getR (i := (30, 0)) (ci := 6) (k := 24) (j := (43, 0)) cx a30_0 rfl rfl rfl (by decide) inX6 lfX6_51 dX6_seen_51 ?_
        refine g_iconst (v := nI 2) cx dX6_seen_54 (by decide) ?_
        refine g_aload_n cx dX6_seen_55 rfl ?_
        refine g_getIN (i := (30, 0)) (ci := 6) (k := 25) (v := nI sm) cx a30_0 rfl rfl rfl (by decide) inX6 lfX6_174 dX6_seen_56 (by simp [upA, hSm]) ?_
        refine g_imulN cx dX6_seen_59 ?_
        refine g_iconst (v := nI 1) cx dX6_seen_60 (by decide) ?_
        refine g_iaddN cx dX6_seen_61 ?_
        refine g_iload_n cx dX6_seen_62 rfl ?_
        refine g_iast (i := (43, 0)) (j := (2 * sm) + 1) cx a43_0 rfl (rfl) (by omega) (by decide) dX6_seen_63 ?_
        refine g_aload_n cx dX6_seen_64 rfl ?_
        refine g_dup cx dX6_seen_65 rfl ?_
        refine g_getIN (i := (30, 0)) (ci := 6) (k := 25) (v := nI sm) cx a30_0 rfl rfl rfl (by decide) inX6 lfX6_174 dX6_seen_66 (by simp [upA, hSm]) ?_
        refine g_iconst (v := nI 1) cx dX6_seen_69 (by decide) ?_
        refine g_iaddN cx dX6_seen_70 ?_
        refine g_putI (i := (30, 0)) (ci := 6) (k := 25) cx a30_0 rfl rfl rfl (by decide) inX6 tyX6_ok nmX6 rfl rfl lfX6_174 dX6_seen_71 ?_
        refine g_aload_n cx dX6_seen_74 rfl ?_
        refine g_getIN (i := (30, 0)) (ci := 6) (k := 25) (v := nI (sm + 1)) cx a30_0 rfl rfl rfl (by decide) inX6 lfX6_174 dX6_seen_75 (by rw [upA_s]; rfl) ?_
        exact g_fret cx rq rfl (rfl) dX6_seen_78 (by simp [eq_true h_5, eq_true h_20, h_32]) (by simp [eq_true h_5, eq_true h_20, h_32, upA_s, upA_n, upA_up])
      · skip
        refine g_bipush (v := (-5)) cx dX6_seen_35 (by decide) ?_
        exact g_fret cx rq rfl (rfl) dX6_seen_37 (by simp [eq_true h_5, eq_true h_20, h_32]) (by simp [h_32])
    · skip
      refine g_bipush (v := (-3)) cx dX6_seen_23 (by decide) ?_
      exact g_fret cx rq rfl (rfl) dX6_seen_25 (by simp [eq_true h_5, eq_false h_20]) (by simp [eq_false h_20])
  · skip
    refine g_bipush (v := (-2)) cx dX6_seen_8 (by decide) ?_
    exact g_fret cx rq rfl (rfl) dX6_seen_10 (by simp [eq_false h_5]) (by simp [eq_false h_5])

set_option maxRecDepth 100000 in
set_option maxHeartbeats 4000000 in
theorem m_least {D : Wd} {n : Nat} {k f : Nat → Nat} {dn : Nat} {dr : Nat → Nat} {pn : Nat} (hP : PM D n k f dn dr pn) {a : Nat → Nat} (hA : AM D 0 n a) {hm : Nat → Nat} (hH : AM D 56 n hm) {sm : Nat} (hSm : D (30, 0) 25 = nI sm) (hs8 : sm ≤ 8) {lf an : Nat → Nat} (hSg : ∀ q, q < sm → D (43, 0) (2 * q) = nI (lf q) ∧ D (43, 0) (2 * q + 1) = nI (an q) ∧ an q < 72) (hlf : ∀ q, q < sm → lf q < 100) (x : Int32) : Fok mX6_least idsA 2 [vr (30, 0), vi x] D (some (vi (leastS n a hm sm lf an x))) D := by
  obtain ⟨hn3, hn8, hN, hK, hF, hd3, hDn, hDr, hp5, hPn⟩ := id hP
  refine Mok.of (L := [some (vr (30, 0)), some (vi x), none, none, none]) rfl (fun _ => Nat.le_of_ble_eq_true rfl) (fun _ => rfl) (fun X cx rq => ?_)
  refine g_aload_n cx dX6_least_0 rfl ?_
  refine g_iload_n cx dX6_least_1 rfl ?_
  refine g_fcallV (As := [vi x]) (rest := []) cx knX6_isLeaf (m_isLeaf hP x) a30_0 rfl rfl lmX6_183 niX6_isLeaf seX6_isLeaf rfl (by decide) (Nat.le_of_ble_eq_true rfl) rfl dX6_least_2 ?_
  refine g_if_neB (tgt := 11) cx dX6_least_5 (by decide) (fun h_5 => ?_) (fun h_5 => ?_)
  · skip
    obtain ⟨j, hj, rfl⟩ := lt0_nI h_5
    have hjx : (nI j).toNatClampNeg = j := nI_clamp (by omega)
    refine g_aload_n cx dX6_least_11 rfl ?_
    refine g_getR (i := (30, 0)) (ci := 6) (k := 0) (j := (31, 0)) cx a30_0 rfl rfl rfl (by decide) inX6 lfX6_7 dX6_least_12 ?_
    refine g_bipush (v := nI 56) cx dX6_least_15 (by decide) ?_
    refine g_iload_n cx dX6_least_17 rfl ?_
    refine g_iaddN cx dX6_least_18 ?_
    refine g_ialdN (i := (31, 0)) (j := 56 + j) (v := nI (hm j)) cx a31_0 rfl (rfl) (by omega) (by decide) dX6_least_19 ((hH j (by omega)).1) ?_
    refine g_istore_n (L' := [some (vr (30, 0)), some (vi (nI j)), some (vi (nI (hm j))), none, none]) cx dX6_least_20 (by decide) rfl rfl ?_
    refine g_iconst (v := nI 0) cx dX6_least_21 (by decide) ?_
    refine g_istore_n (L' := [some (vr (30, 0)), some (vi (nI j)), some (vi (nI (hm j))), some (vi (nI 0)), none]) cx dX6_least_22 (by decide) rfl rfl ?_
    refine g_iconst (v := nI 0) cx dX6_least_23 (by decide) ?_
    refine g_istore (L' := [some (vr (30, 0)), some (vi (nI j)), some (vi (nI (hm j))), some (vi (nI 0)), some (vi (nI 0))]) cx dX6_least_24 (by decide) rfl rfl ?_
    refine g_loc (L' := [some (vr (30, 0)), some (vi (nI j)), some (vi (nI ((lsG lf an j (hm j) 0).2))), some (vi (nI 0)), some (vi (nI 0))]) (rfl) ?_
    refine g_loc (L' := [some (vr (30, 0)), some (vi (nI j)), some (vi (nI ((lsG lf an j (hm j) 0).2))), some (vi (nI ((lsG lf an j (hm j) 0).1))), some (vi (nI 0))]) (rfl) ?_
    have lp : ∀ (fu : Nat) (q : Nat), sm - q < fu → (q ≤ sm) → Gk X mX6_least idsA 26 [some (vr (30, 0)), some (vi (nI j)), some (vi (nI ((lsG lf an j (hm j) q).2))), some (vi (nI ((lsG lf an j (hm j) q).1))), some (vi (nI q))] [] D := by
      intro fu
      induction fu with
      | zero => intro q hfu; exact absurd hfu (Nat.not_lt_zero _)
      | succ fu ih =>
        intro q hfu hq
        have hls := lsG_ok (lf := lf) (an := an) (i := j) (h := hm j) (m := q) ((hH j (by omega)).2) (fun p hp => (hSg p (by omega)).2.2)
        refine g_iload cx dX6_least_26 rfl ?_
        refine g_aload_n cx dX6_least_28 rfl ?_
        refine g_getIN (i := (30, 0)) (ci := 6) (k := 25) (v := nI sm) cx a30_0 rfl rfl rfl (by decide) inX6 lfX6_174 dX6_least_29 (hSm) ?_
        refine g_icmp_geN (tgt := 84) cx dX6_least_32 (by decide) (by omega) (by omega) (fun h_32 => ?_) (fun h_32 => ?_)
        · skip
          have e9 : q = sm := by omega
          refine g_iload_n cx dX6_least_84 rfl ?_
          refine g_iload_n cx dX6_least_85 rfl ?_
          refine g_aload_n cx dX6_least_86 rfl ?_
          refine g_getR (i := (30, 0)) (ci := 6) (k := 0) (j := (31, 0)) cx a30_0 rfl rfl rfl (by decide) inX6 lfX6_7 dX6_least_87 ?_
          refine g_iload_n cx dX6_least_90 rfl ?_
          refine g_ialdN (i := (31, 0)) (j := j) (v := nI (a j)) cx a31_0 rfl (rfl) (by omega) (by decide) dX6_least_91 ((hA.z j (by omega)).1) ?_
          refine g_fcallS (As := [vi (nI ((lsG lf an j (hm j) q).2)), vi (nI (a j))]) (rest := [vi (nI ((lsG lf an j (hm j) q).1))]) cx knX6_shorter (m_shorter (a := (lsG lf an j (hm j) q).2) (c := a j) hls.2 ((hA.z _ (by omega)).2)) lmX6_258 nsX6_shorter rfl (by decide) (Nat.le_of_ble_eq_true rfl) rfl dX6_least_92 ?_
          refine g_iaddN cx dX6_least_95 ?_
          exact g_fret cx rq rfl (rfl) dX6_least_96 (by simp [leastS, eq_true h_5, hjx, e9]) (rfl)
        · skip
          refine g_aload_n cx dX6_least_35 rfl ?_
          refine g_getR (i := (30, 0)) (ci := 6) (k := 24) (j := (43, 0)) cx a30_0 rfl rfl rfl (by decide) inX6 lfX6_51 dX6_least_36 ?_
          refine g_iconst (v := nI 2) cx dX6_least_39 (by decide) ?_
          refine g_iload cx dX6_least_40 rfl ?_
          refine g_imulN cx dX6_least_42 ?_
          refine g_ialdN (i := (43, 0)) (j := 2 * q) (v := nI (lf q)) cx a43_0 rfl (rfl) (by omega) (by decide) dX6_least_43 ((hSg q (by omega)).1) ?_
          refine g_iload_n cx dX6_least_44 rfl ?_
          have hl9 := hlf q (by omega)
          refine g_icmp_neN (tgt := 78) cx dX6_least_45 (by decide) (by omega) (by omega) (fun h_45 => ?_) (fun h_45 => ?_)
          · skip
            refine g_loc (L' := [some (vr (30, 0)), some (vi (nI j)), some (vi (nI ((lsG lf an j (hm j) (q + 1)).2))), some (vi (nI ((lsG lf an j (hm j) (q + 1)).1))), some (vi (nI q))]) (by rw [lsG, if_neg h_45]) ?_
            refine g_iincN (L' := [some (vr (30, 0)), some (vi (nI j)), some (vi (nI ((lsG lf an j (hm j) (q + 1)).2))), some (vi (nI ((lsG lf an j (hm j) (q + 1)).1))), some (vi (nI (q + 1)))]) cx dX6_least_78 rfl (by decide) rfl rfl ?_
            refine g_goto (tgt := 26) cx dX6_least_81 (by decide) ?_
            exact ih (q + 1) (by omega) (by omega)
          · skip
            refine g_iload_n cx dX6_least_48 rfl ?_
            refine g_iload_n cx dX6_least_49 rfl ?_
            refine g_aload_n cx dX6_least_50 rfl ?_
            refine g_getR (i := (30, 0)) (ci := 6) (k := 24) (j := (43, 0)) cx a30_0 rfl rfl rfl (by decide) inX6 lfX6_51 dX6_least_51 ?_
            refine g_iconst (v := nI 2) cx dX6_least_54 (by decide) ?_
            refine g_iload cx dX6_least_55 rfl ?_
            refine g_imulN cx dX6_least_57 ?_
            refine g_iconst (v := nI 1) cx dX6_least_58 (by decide) ?_
            refine g_iaddN cx dX6_least_59 ?_
            refine g_ialdN (i := (43, 0)) (j := (2 * q) + 1) (v := nI (an q)) cx a43_0 rfl (rfl) (by omega) (by decide) dX6_least_60 ((hSg q (by omega)).2.1) ?_
            refine g_fcallS (As := [vi (nI ((lsG lf an j (hm j) q).2)), vi (nI (an q))]) (rest := [vi (nI ((lsG lf an j (hm j) q).1))]) cx knX6_shorter (m_shorter (a := (lsG lf an j (hm j) q).2) (c := an q) hls.2 ((hSg _ (by omega)).2.2)) lmX6_258 nsX6_shorter rfl (by decide) (Nat.le_of_ble_eq_true rfl) rfl dX6_least_61 ?_
            refine g_iaddN cx dX6_least_64 ?_
            refine g_istore_n (L' := [some (vr (30, 0)), some (vi (nI j)), some (vi (nI ((lsG lf an j (hm j) q).2))), some (vi (nI (((lsG lf an j (hm j) q).1) + (shw ((lsG lf an j (hm j) q).2) (an q))))), some (vi (nI q))]) cx dX6_least_65 (by decide) rfl rfl ?_
            refine g_aload_n cx dX6_least_66 rfl ?_
            refine g_getR (i := (30, 0)) (ci := 6) (k := 24) (j := (43, 0)) cx a30_0 rfl rfl rfl (by decide) inX6 lfX6_51 dX6_least_67 ?_
            refine g_iconst (v := nI 2) cx dX6_least_70 (by decide) ?_
            refine g_iload cx dX6_least_71 rfl ?_
            refine g_imulN cx dX6_least_73 ?_
            refine g_iconst (v := nI 1) cx dX6_least_74 (by decide) ?_
            refine g_iaddN cx dX6_least_75 ?_
            refine g_ialdN (i := (43, 0)) (j := (2 * q) + 1) (v := nI (an q)) cx a43_0 rfl (rfl) (by omega) (by decide) dX6_least_76 ((hSg q (by omega)).2.1) ?_
            refine g_istore_n (L' := [some (vr (30, 0)), some (vi (nI j)), some (vi (nI (an q))), some (vi (nI (((lsG lf an j (hm j) q).1) + (shw ((lsG lf an j (hm j) q).2) (an q))))), some (vi (nI q))]) cx dX6_least_77 (by decide) rfl rfl ?_
            refine g_loc (L' := [some (vr (30, 0)), some (vi (nI j)), some (vi (nI ((lsG lf an j (hm j) (q + 1)).2))), some (vi (nI ((lsG lf an j (hm j) (q + 1)).1))), some (vi (nI q))]) (by rw [lsG, if_pos h_45]) ?_
            refine g_iincN (L' := [some (vr (30, 0)), some (vi (nI j)), some (vi (nI ((lsG lf an j (hm j) (q + 1)).2))), some (vi (nI ((lsG lf an j (hm j) (q + 1)).1))), some (vi (nI (q + 1)))]) cx dX6_least_78 rfl (by decide) rfl rfl ?_
            refine g_goto (tgt := 26) cx dX6_least_81 (by decide) ?_
            exact ih (q + 1) (by omega) (by omega)
    exact lp (sm + 1) 0 (by omega) (by omega)
  · skip
    refine g_bipush (v := (-2)) cx dX6_least_8 (by decide) ?_
    exact g_fret cx rq rfl (rfl) dX6_least_10 (by simp [leastS, eq_false h_5]) (rfl)

set_option maxRecDepth 100000 in
set_option maxHeartbeats 4000000 in
theorem m_count {D : Wd} {n : Nat} {k f : Nat → Nat} {dn : Nat} {dr : Nat → Nat} {pn : Nat} (hP : PM D n k f dn dr pn) {a : Nat → Nat} (hA : AM D 0 n a) {pl : Nat → Int32} (hPl : PLM D 0 pn pl) (hPo : PLok n pn pl) {hr : Nat} (hHr : D (31, 0) 13 = nI hr) (hr9 : hr ≤ 9999) {sm len : Nat} (hSm : D (30, 0) 25 = nI sm) (hLen : D (30, 0) 3 = nI len) (w : Int32) : Fok mX6_count idsA 3 [vr (30, 0), vi w] D (some (vi (countS n a dn dr pn pl hr sm len w))) D := by
  obtain ⟨hn3, hn8, hN, hK, hF, hd3, hDn, hDr, hp5, hPn⟩ := id hP
  refine Mok.of (L := [some (vr (30, 0)), some (vi w), none, none, none]) rfl (fun _ => Nat.le_of_ble_eq_true rfl) (fun _ => rfl) (fun X cx rq => ?_)
  refine g_iconst (v := nI 0) cx dX6_count_0 (by decide) ?_
  refine g_istore_n (L' := [some (vr (30, 0)), some (vi w), some (vi (nI 0)), none, none]) cx dX6_count_1 (by decide) rfl rfl ?_
  refine g_iconst (v := nI 0) cx dX6_count_2 (by decide) ?_
  refine g_istore_n (L' := [some (vr (30, 0)), some (vi w), some (vi (nI 0)), some (vi (nI 0)), none]) cx dX6_count_3 (by decide) rfl rfl ?_
  refine g_iconst (v := nI 0) cx dX6_count_4 (by decide) ?_
  refine g_istore (L' := [some (vr (30, 0)), some (vi w), some (vi (nI 0)), some (vi (nI 0)), some (vi (nI 0))]) cx dX6_count_5 (by decide) rfl rfl ?_
  have lp1 : ∀ (fu : Nat) (q : Nat), n - q < fu → (q ≤ n) → Gk X mX6_count idsA 7 [some (vr (30, 0)), some (vi w), some (vi (nI (bitsN (opn n a dn dr) q))), some (vi (nI 0)), some (vi (nI q))] [] D := by
    intro fu
    induction fu with
    | zero => intro q hfu; exact absurd hfu (Nat.not_lt_zero _)
    | succ fu ih =>
      intro q hfu hq
      refine g_iload cx dX6_count_7 rfl ?_
      refine g_aload_n cx dX6_count_9 rfl ?_
      refine g_getIN (i := (30, 0)) (ci := 6) (k := 6) (v := nI n) cx a30_0 rfl rfl rfl (by decide) inX6 lfX6_23 dX6_count_10 (hN) ?_
      refine g_icmp_geN (tgt := 43) cx dX6_count_13 (by decide) (by omega) (by omega) (fun h_13 => ?_) (fun h_13 => ?_)
      · skip
        have e9 : q = n := by omega
        refine g_loc (L' := [some (vr (30, 0)), some (vi w), some (vi (nI (bitsN (opn n a dn dr) n))), some (vi (nI 0)), some (vi (nI q))]) (by rw [e9]) ?_
        refine g_iconst (v := nI 0) cx dX6_count_43 (by decide) ?_
        refine g_istore (L' := [some (vr (30, 0)), some (vi w), some (vi (nI (bitsN (opn n a dn dr) n))), some (vi (nI 0)), some (vi (nI 0))]) cx dX6_count_44 (by decide) rfl rfl ?_
        have lp2 : ∀ (fu : Nat) (q : Nat), pn - q < fu → (q ≤ pn) → Gk X mX6_count idsA 46 [some (vr (30, 0)), some (vi w), some (vi (nI (bitsN (opn n a dn dr) n))), some (vi (nI (bitsN (fun p => decide (pl p = -1)) q))), some (vi (nI q))] [] D := by
          intro fu
          induction fu with
          | zero => intro q hfu; exact absurd hfu (Nat.not_lt_zero _)
          | succ fu ih =>
            intro q hfu hq
            refine g_iload cx dX6_count_46 rfl ?_
            refine g_aload_n cx dX6_count_48 rfl ?_
            refine g_getIN (i := (30, 0)) (ci := 6) (k := 11) (v := nI pn) cx a30_0 rfl rfl rfl (by decide) inX6 lfX6_153 dX6_count_49 (hPn) ?_
            refine g_icmp_geN (tgt := 86) cx dX6_count_52 (by decide) (by omega) (by omega) (fun h_52 => ?_) (fun h_52 => ?_)
            · skip
              have e8 : q = pn := by omega
              refine g_loc (L' := [some (vr (30, 0)), some (vi w), some (vi (nI (bitsN (opn n a dn dr) n))), some (vi (nI (bitsN (fun p => decide (pl p = -1)) pn))), some (vi (nI q))]) (by rw [e8]) ?_
              refine g_iload_n cx dX6_count_86 rfl ?_
              by_cases hin : lt0 w 8 = true
              · obtain ⟨j, hj, rfl⟩ := lt0_nI hin
                have hcs : j = 0 ∨ j = 1 ∨ j = 2 ∨ j = 3 ∨ j = 4 ∨ j = 5 ∨ j = 6 ∨ j = 7 := by omega
                rcases hcs with rfl | rfl | rfl | rfl | rfl | rfl | rfl | rfl
                · skip
                  refine g_tabIn (off := 45) (tgt := 132) cx dX6_count_87 (by decide) (by decide) (by decide) (by decide) ?_
                  refine g_aload_n cx dX6_count_132 rfl ?_
                  refine g_getIN (i := (30, 0)) (ci := 6) (k := 6) (v := nI n) cx a30_0 rfl rfl rfl (by decide) inX6 lfX6_23 dX6_count_133 (hN) ?_
                  exact g_fret cx rq rfl (rfl) dX6_count_136 (by first | (rw [countS, if_neg hin]; done) | (simp [countS, ppl, hin]; done) | (rw [countS, if_pos hin]; rfl)) (rfl)
                · skip
                  refine g_tabIn (off := 50) (tgt := 137) cx dX6_count_87 (by decide) (by decide) (by decide) (by decide) ?_
                  refine g_aload_n cx dX6_count_137 rfl ?_
                  refine g_getIN (i := (30, 0)) (ci := 6) (k := 10) (v := nI dn) cx a30_0 rfl rfl rfl (by decide) inX6 lfX6_150 dX6_count_138 (hDn) ?_
                  exact g_fret cx rq rfl (rfl) dX6_count_141 (by first | (rw [countS, if_neg hin]; done) | (simp [countS, ppl, hin]; done) | (rw [countS, if_pos hin]; rfl)) (rfl)
                · skip
                  refine g_tabIn (off := 55) (tgt := 142) cx dX6_count_87 (by decide) (by decide) (by decide) (by decide) ?_
                  refine g_aload_n cx dX6_count_142 rfl ?_
                  refine g_getIN (i := (30, 0)) (ci := 6) (k := 11) (v := nI pn) cx a30_0 rfl rfl rfl (by decide) inX6 lfX6_153 dX6_count_143 (hPn) ?_
                  exact g_fret cx rq rfl (rfl) dX6_count_146 (by first | (rw [countS, if_neg hin]; done) | (simp [countS, ppl, hin]; done) | (rw [countS, if_pos hin]; rfl)) (rfl)
                · skip
                  refine g_tabIn (off := 60) (tgt := 147) cx dX6_count_87 (by decide) (by decide) (by decide) (by decide) ?_
                  refine g_aload_n cx dX6_count_147 rfl ?_
                  refine g_getR (i := (30, 0)) (ci := 6) (k := 0) (j := (31, 0)) cx a30_0 rfl rfl rfl (by decide) inX6 lfX6_7 dX6_count_148 ?_
                  refine g_bipush (v := nI 13) cx dX6_count_151 (by decide) ?_
                  refine g_ialdN (i := (31, 0)) (j := 13) (v := nI hr) cx a31_0 rfl (rfl) (by omega) (by decide) dX6_count_153 (hHr) ?_
                  exact g_fret cx rq rfl (rfl) dX6_count_154 (by first | (rw [countS, if_neg hin]; done) | (simp [countS, ppl, hin]; done) | (rw [countS, if_pos hin]; rfl)) (rfl)
                · skip
                  refine g_tabIn (off := 68) (tgt := 155) cx dX6_count_87 (by decide) (by decide) (by decide) (by decide) ?_
                  refine g_iload_n cx dX6_count_155 rfl ?_
                  exact g_fret cx rq rfl (rfl) dX6_count_156 (by first | (rw [countS, if_neg hin]; done) | (simp [countS, ppl, hin]; done) | (rw [countS, if_pos hin]; rfl)) (rfl)
                · skip
                  refine g_tabIn (off := 70) (tgt := 157) cx dX6_count_87 (by decide) (by decide) (by decide) (by decide) ?_
                  refine g_iload_n cx dX6_count_157 rfl ?_
                  exact g_fret cx rq rfl (rfl) dX6_count_158 (by first | (rw [countS, if_neg hin]; done) | (simp [countS, ppl, hin]; done) | (rw [countS, if_pos hin]; rfl)) (rfl)
                · skip
                  refine g_tabIn (off := 72) (tgt := 159) cx dX6_count_87 (by decide) (by decide) (by decide) (by decide) ?_
                  refine g_aload_n cx dX6_count_159 rfl ?_
                  refine g_getIN (i := (30, 0)) (ci := 6) (k := 25) (v := nI sm) cx a30_0 rfl rfl rfl (by decide) inX6 lfX6_174 dX6_count_160 (hSm) ?_
                  exact g_fret cx rq rfl (rfl) dX6_count_163 (by first | (rw [countS, if_neg hin]; done) | (simp [countS, ppl, hin]; done) | (rw [countS, if_pos hin]; rfl)) (rfl)
                · skip
                  refine g_tabIn (off := 77) (tgt := 164) cx dX6_count_87 (by decide) (by decide) (by decide) (by decide) ?_
                  refine g_aload_n cx dX6_count_164 rfl ?_
                  refine g_getIN (i := (30, 0)) (ci := 6) (k := 3) (v := nI len) cx a30_0 rfl rfl rfl (by decide) inX6 lfX6_64 dX6_count_165 (hLen) ?_
                  exact g_fret cx rq rfl (rfl) dX6_count_168 (by first | (rw [countS, if_neg hin]; done) | (simp [countS, ppl, hin]; done) | (rw [countS, if_pos hin]; rfl)) (rfl)
              · skip
                refine g_tabOut (tgt := 169) cx dX6_count_87 (lt0_out hin) (by decide) ?_
                refine g_bipush (v := (-3)) cx dX6_count_169 (by decide) ?_
                exact g_fret cx rq rfl (rfl) dX6_count_171 (by first | (rw [countS, if_neg hin]; done) | (simp [countS, ppl, hin]; done) | (rw [countS, if_pos hin]; rfl)) (rfl)
            · skip
              refine g_iload_n cx dX6_count_55 rfl ?_
              refine g_aload_n cx dX6_count_56 rfl ?_
              refine g_getR (i := (30, 0)) (ci := 6) (k := 0) (j := (31, 0)) cx a30_0 rfl rfl rfl (by decide) inX6 lfX6_7 dX6_count_57 ?_
              refine g_bipush (v := nI 8) cx dX6_count_60 (by decide) ?_
              refine g_iload cx dX6_count_62 rfl ?_
              refine g_iaddN cx dX6_count_64 ?_
              refine g_ialdN (i := (31, 0)) (j := 8 + q) (v := (pl q)) cx a31_0 rfl (rfl) (by omega) (by decide) dX6_count_65 (hPl.z q (by omega)) ?_
              refine g_iconst (v := (-1)) cx dX6_count_66 (by decide) ?_
              refine g_icmp_ne (tgt := 77) cx dX6_count_67 (by decide) (fun h_67 => ?_) (fun h_67 => ?_)
              · skip
                refine g_iconst (v := nI 0) cx dX6_count_77 (by decide) ?_
                refine g_top (y := if decide (pl q = -1) then nI (2 ^ q) else nI 0) (by rw [if_neg (by simpa using h_67)]) ?_
                refine g_ior cx dX6_count_78 ?_
                refine g_top (bitsN_s (fun p => decide (pl p = -1)) q rfl) ?_
                refine g_istore_n (L' := [some (vr (30, 0)), some (vi w), some (vi (nI (bitsN (opn n a dn dr) n))), some (vi (nI (bitsN (fun p => decide (pl p = -1)) (q + 1)))), some (vi (nI q))]) cx dX6_count_79 (by decide) rfl rfl ?_
                refine g_iincN (L' := [some (vr (30, 0)), some (vi w), some (vi (nI (bitsN (opn n a dn dr) n))), some (vi (nI (bitsN (fun p => decide (pl p = -1)) (q + 1)))), some (vi (nI (q + 1)))]) cx dX6_count_80 rfl (by decide) rfl rfl ?_
                refine g_goto (tgt := 46) cx dX6_count_83 (by decide) ?_
                exact ih (q + 1) (by omega) (by omega)
              · skip
                refine g_iconst (v := nI 1) cx dX6_count_70 (by decide) ?_
                refine g_iload cx dX6_count_71 rfl ?_
                refine g_ishl cx dX6_count_73 ?_
                refine g_goto (tgt := 78) cx dX6_count_74 (by decide) ?_
                refine g_top (y := if decide (pl q = -1) then nI (2 ^ q) else nI 0) (by rw [if_pos (decide_eq_true h_67)]; exact nI_shl q (by omega)) ?_
                refine g_ior cx dX6_count_78 ?_
                refine g_top (bitsN_s (fun p => decide (pl p = -1)) q rfl) ?_
                refine g_istore_n (L' := [some (vr (30, 0)), some (vi w), some (vi (nI (bitsN (opn n a dn dr) n))), some (vi (nI (bitsN (fun p => decide (pl p = -1)) (q + 1)))), some (vi (nI q))]) cx dX6_count_79 (by decide) rfl rfl ?_
                refine g_iincN (L' := [some (vr (30, 0)), some (vi w), some (vi (nI (bitsN (opn n a dn dr) n))), some (vi (nI (bitsN (fun p => decide (pl p = -1)) (q + 1)))), some (vi (nI (q + 1)))]) cx dX6_count_80 rfl (by decide) rfl rfl ?_
                refine g_goto (tgt := 46) cx dX6_count_83 (by decide) ?_
                exact ih (q + 1) (by omega) (by omega)
        exact lp2 (pn + 1) 0 (by omega) (by omega)
      · skip
        refine g_iload_n cx dX6_count_16 rfl ?_
        refine g_aload_n cx dX6_count_17 rfl ?_
        refine g_iconst (v := nI 0) cx dX6_count_18 (by decide) ?_
        refine g_iload cx dX6_count_19 rfl ?_
        refine g_fcallV (As := [vi (nI 0), vi (nI q)]) (rest := [vi (nI (bitsN (opn n a dn dr) q))]) cx knX6_isOpen (m_isOpen hP hA (by omega) (i := q) (by omega)) a30_0 rfl rfl lmX6_186 niX6_isOpen seX6_isOpen rfl (by decide) (Nat.le_of_ble_eq_true rfl) rfl dX6_count_21 ?_
        refine g_if_eqB (tgt := 34) cx dX6_count_24 (by decide) (fun h_24 => ?_) (fun h_24 => ?_)
        · skip
          refine g_iconst (v := nI 0) cx dX6_count_34 (by decide) ?_
          refine g_top (y := if opn n a dn dr q then nI (2 ^ q) else nI 0) (by rw [if_neg h_24]) ?_
          refine g_ior cx dX6_count_35 ?_
          refine g_top (bitsN_s (opn n a dn dr) q rfl) ?_
          refine g_istore_n (L' := [some (vr (30, 0)), some (vi w), some (vi (nI (bitsN (opn n a dn dr) (q + 1)))), some (vi (nI 0)), some (vi (nI q))]) cx dX6_count_36 (by decide) rfl rfl ?_
          refine g_iincN (L' := [some (vr (30, 0)), some (vi w), some (vi (nI (bitsN (opn n a dn dr) (q + 1)))), some (vi (nI 0)), some (vi (nI (q + 1)))]) cx dX6_count_37 rfl (by decide) rfl rfl ?_
          refine g_goto (tgt := 7) cx dX6_count_40 (by decide) ?_
          exact ih (q + 1) (by omega) (by omega)
        · skip
          refine g_iconst (v := nI 1) cx dX6_count_27 (by decide) ?_
          refine g_iload cx dX6_count_28 rfl ?_
          refine g_ishl cx dX6_count_30 ?_
          refine g_goto (tgt := 35) cx dX6_count_31 (by decide) ?_
          refine g_top (y := if opn n a dn dr q then nI (2 ^ q) else nI 0) (by rw [if_pos h_24]; exact nI_shl q (by omega)) ?_
          refine g_ior cx dX6_count_35 ?_
          refine g_top (bitsN_s (opn n a dn dr) q rfl) ?_
          refine g_istore_n (L' := [some (vr (30, 0)), some (vi w), some (vi (nI (bitsN (opn n a dn dr) (q + 1)))), some (vi (nI 0)), some (vi (nI q))]) cx dX6_count_36 (by decide) rfl rfl ?_
          refine g_iincN (L' := [some (vr (30, 0)), some (vi w), some (vi (nI (bitsN (opn n a dn dr) (q + 1)))), some (vi (nI 0)), some (vi (nI (q + 1)))]) cx dX6_count_37 rfl (by decide) rfl rfl ?_
          refine g_goto (tgt := 7) cx dX6_count_40 (by decide) ?_
          exact ih (q + 1) (by omega) (by omega)
  exact lp1 (n + 1) 0 (by omega) (by omega)

set_option maxRecDepth 100000 in
set_option maxHeartbeats 4000000 in
theorem m_turnOn {D : Wd} {n : Nat} {k f : Nat → Nat} {dn : Nat} {dr : Nat → Nat} {pn : Nat} (hP : PM D n k f dn dr pn) {a : Nat → Nat} (hA : AM D 42 n a) {i s r : Nat} (hi : i < n) (hs : s < 2) (hr : r < n) : Fok mX6_turnOn idsA 5 [vr (30, 0), vi (nI i), vi (nI s), vi (nI r)] D (some (vi (trn n k f dn dr i s r a))) (Rw D 42 n (tmG n k f dn dr i s r 72 0 a).2) := by
  obtain ⟨hn3, hn8, hN, hK, hF, hd3, hDn, hDr, hp5, hPn⟩ := id hP
  refine Mok.of (L := [some (vr (30, 0)), some (vi (nI i)), some (vi (nI s)), some (vi (nI r)), none]) rfl (fun _ => Nat.le_of_ble_eq_true rfl) (fun _ => rfl) (fun X cx rq => ?_)
  refine g_iconst (v := nI 0) cx dX6_turnOn_0 (by decide) ?_
  refine g_istore (L' := [some (vr (30, 0)), some (vi (nI i)), some (vi (nI s)), some (vi (nI r)), some (vi (nI 0))]) cx dX6_turnOn_1 (by decide) rfl rfl ?_
  have lp : ∀ (fu : Nat) (c : Nat) (ac : Nat → Nat), 72 - c < fu → (c ≤ 72) → (∀ j, j < n → ac j < 72) → (tmG n k f dn dr i s r (72 - c) c ac = tmG n k f dn dr i s r 72 0 a) → Gk X mX6_turnOn idsA 3 [some (vr (30, 0)), some (vi (nI i)), some (vi (nI s)), some (vi (nI r)), some (vi (nI c))] [] (Rw D 42 n ac) := by
    intro fu
    induction fu with
    | zero => intro c ac hfu; exact absurd hfu (Nat.not_lt_zero _)
    | succ fu ih =>
      intro c ac hfu hc hac hm
      refine g_iload cx dX6_turnOn_3 rfl ?_
      refine g_bipush (v := nI 72) cx dX6_turnOn_5 (by decide) ?_
      refine g_icmp_geN (tgt := 37) cx dX6_turnOn_7 (by decide) (by omega) (by omega) (fun h_7 => ?_) (fun h_7 => ?_)
      · skip
        have e9 : 72 - c = 0 := by omega
        rw [e9] at hm
        have hm3 : (c, ac) = tmG n k f dn dr i s r 72 0 a := hm
        refine g_aload_n cx dX6_turnOn_37 rfl ?_
        refine g_bipush (v := nI 42) cx dX6_turnOn_38 (by decide) ?_
        refine g_iload_n cx dX6_turnOn_40 rfl ?_
        refine g_fcallV (As := [vi (nI 42), vi (nI r)]) (rest := []) cx knX6_isOpen (m_isOpen (Rw.P hP) (Rw.A hac) (by omega) (i := r) (by omega)) a30_0 rfl rfl lmX6_186 niX6_isOpen seX6_isOpen rfl (by decide) (Nat.le_of_ble_eq_true rfl) rfl dX6_turnOn_41 ?_
        refine g_if_eqB (tgt := 52) cx dX6_turnOn_44 (by decide) (fun h_44 => ?_) (fun h_44 => ?_)
        · skip
          refine g_iconst (v := (-1)) cx dX6_turnOn_52 (by decide) ?_
          exact g_fret cx rq rfl (rfl) dX6_turnOn_53 (by rw [trn, ← hm3, if_neg h_44]) (by rw [← hm3])
        · skip
          refine g_iload cx dX6_turnOn_47 rfl ?_
          refine g_goto (tgt := 53) cx dX6_turnOn_49 (by decide) ?_
          exact g_fret cx rq rfl (rfl) dX6_turnOn_53 (by rw [trn, ← hm3, if_pos h_44]) (by rw [← hm3])
      · skip
        obtain ⟨z, hz⟩ : ∃ z, 72 - c = z + 1 := ⟨72 - c - 1, by omega⟩
        rw [hz, tmG] at hm
        refine g_aload_n cx dX6_turnOn_10 rfl ?_
        refine g_bipush (v := nI 42) cx dX6_turnOn_11 (by decide) ?_
        refine g_iload_n cx dX6_turnOn_13 rfl ?_
        refine g_fcallV (As := [vi (nI 42), vi (nI r)]) (rest := []) cx knX6_isOpen (m_isOpen (Rw.P hP) (Rw.A hac) (by omega) (i := r) (by omega)) a30_0 rfl rfl lmX6_186 niX6_isOpen seX6_isOpen rfl (by decide) (Nat.le_of_ble_eq_true rfl) rfl dX6_turnOn_14 ?_
        refine g_if_neB (tgt := 37) cx dX6_turnOn_17 (by decide) (fun h_17 => ?_) (fun h_17 => ?_)
        · skip
          rw [if_pos h_17] at hm
          have hm3 : (c, ac) = tmG n k f dn dr i s r 72 0 a := hm
          refine g_aload_n cx dX6_turnOn_37 rfl ?_
          refine g_bipush (v := nI 42) cx dX6_turnOn_38 (by decide) ?_
          refine g_iload_n cx dX6_turnOn_40 rfl ?_
          refine g_fcallV (As := [vi (nI 42), vi (nI r)]) (rest := []) cx knX6_isOpen (m_isOpen (Rw.P hP) (Rw.A hac) (by omega) (i := r) (by omega)) a30_0 rfl rfl lmX6_186 niX6_isOpen seX6_isOpen rfl (by decide) (Nat.le_of_ble_eq_true rfl) rfl dX6_turnOn_41 ?_
          refine g_if_eqB (tgt := 52) cx dX6_turnOn_44 (by decide) (fun h_44 => ?_) (fun h_44 => ?_)
          · skip
            refine g_iconst (v := (-1)) cx dX6_turnOn_52 (by decide) ?_
            exact g_fret cx rq rfl (rfl) dX6_turnOn_53 (by rw [trn, ← hm3, if_neg h_44]) (by rw [← hm3])
          · skip
            refine g_iload cx dX6_turnOn_47 rfl ?_
            refine g_goto (tgt := 53) cx dX6_turnOn_49 (by decide) ?_
            exact g_fret cx rq rfl (rfl) dX6_turnOn_53 (by rw [trn, ← hm3, if_pos h_44]) (by rw [← hm3])
        · skip
          rw [if_neg h_17] at hm
          refine g_aload_n cx dX6_turnOn_20 rfl ?_
          refine g_bipush (v := nI 42) cx dX6_turnOn_21 (by decide) ?_
          refine g_iload_n cx dX6_turnOn_23 rfl ?_
          refine g_iload_n cx dX6_turnOn_24 rfl ?_
          refine g_fcallV (As := [vi (nI 42), vi (nI i), vi (nI s)]) (rest := []) cx knX6_step (m_step (Rw.P hP) (Rw.A hac) (by omega) (i := i) (s := s) (by omega) (by omega)) a30_0 rfl rfl lmX6_207 niX6_step seX6_step rfl (by decide) (Nat.le_of_ble_eq_true rfl) rfl dX6_turnOn_25 ?_
          refine g_wd (D' := Rw D 42 n (stp n ac k f i s)) (Rw.twice _ _ _ _ _) ?_
          refine g_if_eqB (tgt := 37) cx dX6_turnOn_28 (by decide) (fun h_28 => ?_) (fun h_28 => ?_)
          · skip
            have h0 : mov n ac k f i s = 0 := by omega
            rw [if_pos h0] at hm
            have hm3 : (c, ac) = tmG n k f dn dr i s r 72 0 a := hm
            refine g_wd (D' := Rw D 42 n ac) (by rw [stp_0 h0]) ?_
            refine g_aload_n cx dX6_turnOn_37 rfl ?_
            refine g_bipush (v := nI 42) cx dX6_turnOn_38 (by decide) ?_
            refine g_iload_n cx dX6_turnOn_40 rfl ?_
            refine g_fcallV (As := [vi (nI 42), vi (nI r)]) (rest := []) cx knX6_isOpen (m_isOpen (Rw.P hP) (Rw.A hac) (by omega) (i := r) (by omega)) a30_0 rfl rfl lmX6_186 niX6_isOpen seX6_isOpen rfl (by decide) (Nat.le_of_ble_eq_true rfl) rfl dX6_turnOn_41 ?_
            refine g_if_eqB (tgt := 52) cx dX6_turnOn_44 (by decide) (fun h_44 => ?_) (fun h_44 => ?_)
            · skip
              refine g_iconst (v := (-1)) cx dX6_turnOn_52 (by decide) ?_
              exact g_fret cx rq rfl (rfl) dX6_turnOn_53 (by rw [trn, ← hm3, if_neg h_44]) (by rw [← hm3])
            · skip
              refine g_iload cx dX6_turnOn_47 rfl ?_
              refine g_goto (tgt := 53) cx dX6_turnOn_49 (by decide) ?_
              exact g_fret cx rq rfl (rfl) dX6_turnOn_53 (by rw [trn, ← hm3, if_pos h_44]) (by rw [← hm3])
          · skip
            rw [if_neg (by omega)] at hm
            have hm2 : tmG n k f dn dr i s r (72 - (c + 1)) (c + 1) (stp n ac k f i s) = tmG n k f dn dr i s r 72 0 a := by
              have e9 : 72 - (c + 1) = z := by omega
              rw [e9]; exact hm
            refine g_iincN (L' := [some (vr (30, 0)), some (vi (nI i)), some (vi (nI s)), some (vi (nI r)), some (vi (nI (c + 1)))]) cx dX6_turnOn_31 rfl (by decide) rfl rfl ?_
            refine g_goto (tgt := 3) cx dX6_turnOn_34 (by decide) ?_
            exact ih (c + 1) (stp n ac k f i s) (by omega) (by omega) (fun j hj => stp_lt (hac j hj)) hm2
  refine g_wd (D' := Rw D 42 n a) ((Rw.self hA).symm) ?_
  exact lp 73 0 a (by omega) (by omega) (fun j hj => (hA j hj).2) rfl

set_option maxRecDepth 100000 in
set_option maxHeartbeats 4000000 in
theorem m_turnOf {D : Wd} {n : Nat} {k f : Nat → Nat} {dn : Nat} {dr : Nat → Nat} {pn : Nat} (hP : PM D n k f dn dr pn) {a : Nat → Nat} (hA : AM D 0 n a) {i s r : Nat} (hi : i < n) (hs : s < 2) (hr : r < n) : Mok mX6_turnOf idsA 6 [vr (30, 0), vi (nI i), vi (nI s), vi (nI r)] D (fun r' E' => r' = (some (vi (trn n k f dn dr i s r a))) ∧ TR D E') := by
  obtain ⟨hn3, hn8, hN, hK, hF, hd3, hDn, hDr, hp5, hPn⟩ := id hP
  refine Mok.of (L := [some (vr (30, 0)), some (vi (nI i)), some (vi (nI s)), some (vi (nI r))]) rfl (fun _ => Nat.le_of_ble_eq_true rfl) (fun _ => rfl) (fun X cx rq => ?_)
  refine g_aload_n cx dX6_turnOf_0 rfl ?_
  refine g_iconst (v := nI 0) cx dX6_turnOf_1 (by decide) ?_
  refine g_bipush (v := nI 42) cx dX6_turnOf_2 (by decide) ?_
  refine g_fcallVv (As := [vi (nI 0), vi (nI 42)]) (rest := []) cx knX6_copy (m_copy (fr := 0) (to := 42) (by omega) (by omega) (by omega)) a30_0 rfl rfl lmX6_170 niX6_copy seX6_copy rfl (by decide) (Nat.le_of_ble_eq_true rfl) rfl dX6_turnOf_4 ?_
  refine g_aload_n cx dX6_turnOf_7 rfl ?_
  refine g_iload_n cx dX6_turnOf_8 rfl ?_
  refine g_iload_n cx dX6_turnOf_9 rfl ?_
  refine g_iload_n cx dX6_turnOf_10 rfl ?_
  refine g_fcallV (As := [vi (nI i), vi (nI s), vi (nI r)]) (rest := []) cx knX6_turnOn (m_turnOn (TR.P (TR.cp D) hP) (cp_A hn8 hA) hi hs hr) a30_0 rfl rfl lmX6_227 niX6_turnOn seX6_turnOn rfl (by decide) (Nat.le_of_ble_eq_true rfl) rfl dX6_turnOf_11 ?_
  exact g_ret cx rq rfl (rfl) dX6_turnOf_14 ⟨rfl, TR.Rw hn8 (TR.cp D)⟩

set_option maxRecDepth 100000 in
set_option maxHeartbeats 4000000 in
theorem m_turn {D : Wd} {n : Nat} {k f : Nat → Nat} {dn : Nat} {dr : Nat → Nat} {pn : Nat} (hP : PM D n k f dn dr pn) {a : Nat → Nat} (hA : AM D 0 n a) (x s y : Int32) : Mok mX6_turn idsA 7 [vr (30, 0), vi x, vi s, vi y] D (fun r' E' => r' = (some (vi (turnS n k f dn dr a x s y))) ∧ TR D E') := by
  obtain ⟨hn3, hn8, hN, hK, hF, hd3, hDn, hDr, hp5, hPn⟩ := id hP
  refine Mok.of (L := [some (vr (30, 0)), some (vi x), some (vi s), some (vi y)]) rfl (fun _ => Nat.le_of_ble_eq_true rfl) (fun _ => rfl) (fun X cx rq => ?_)
  refine g_aload_n cx dX6_turn_0 rfl ?_
  refine g_iload_n cx dX6_turn_1 rfl ?_
  refine g_fcallV (As := [vi x]) (rest := []) cx knX6_isLeaf (m_isLeaf hP x) a30_0 rfl rfl lmX6_183 niX6_isLeaf seX6_isLeaf rfl (by decide) (Nat.le_of_ble_eq_true rfl) rfl dX6_turn_2 ?_
  refine g_if_eqB (tgt := 16) cx dX6_turn_5 (by decide) (fun h_5 => ?_) (fun h_5 => ?_)
  · skip
    refine g_bipush (v := (-2)) cx dX6_turn_16 (by decide) ?_
    exact g_ret cx rq rfl (rfl) dX6_turn_18 ⟨by simp [turnS, eq_false h_5], TR.refl D⟩
  · skip
    obtain ⟨j, hj, rfl⟩ := lt0_nI h_5
    have hjx : (nI j).toNatClampNeg = j := nI_clamp (by omega)
    refine g_aload_n cx dX6_turn_8 rfl ?_
    refine g_iload_n cx dX6_turn_9 rfl ?_
    refine g_fcallV (As := [vi y]) (rest := []) cx knX6_isLeaf (m_isLeaf hP y) a30_0 rfl rfl lmX6_183 niX6_isLeaf seX6_isLeaf rfl (by decide) (Nat.le_of_ble_eq_true rfl) rfl dX6_turn_10 ?_
    refine g_if_neB (tgt := 19) cx dX6_turn_13 (by decide) (fun h_13 => ?_) (fun h_13 => ?_)
    · skip
      obtain ⟨t, ht, rfl⟩ := lt0_nI h_13
      have htx : (nI t).toNatClampNeg = t := nI_clamp (by omega)
      refine g_iload_n cx dX6_turn_19 rfl ?_
      refine g_fcallS (As := [vi s]) (rest := []) cx knX6_isSide (m_isSide s) lmX6_210 nsX6_isSide rfl (by decide) (Nat.le_of_ble_eq_true rfl) rfl dX6_turn_20 ?_
      refine g_if_eqB (tgt := 36) cx dX6_turn_23 (by decide) (fun h_23 => ?_) (fun h_23 => ?_)
      · skip
        refine g_bipush (v := (-3)) cx dX6_turn_36 (by decide) ?_
        exact g_ret cx rq rfl (rfl) dX6_turn_38 ⟨by simp [turnS, eq_true h_5, eq_true h_13, eq_false h_23], TR.refl D⟩
      · skip
        obtain ⟨u, hu, rfl⟩ := lt0_nI h_23
        have hux : (nI u).toNatClampNeg = u := nI_clamp (by omega)
        refine g_aload_n cx dX6_turn_26 rfl ?_
        refine g_iload_n cx dX6_turn_27 rfl ?_
        refine g_iload_n cx dX6_turn_28 rfl ?_
        refine g_iload_n cx dX6_turn_29 rfl ?_
        refine g_callV (As := [vi (nI j), vi (nI u), vi (nI t)]) (rest := []) cx knX6_turnOf (m_turnOf hP hA (i := j) (s := u) (r := t) (by omega) (by omega) (by omega)) a30_0 rfl rfl lmX6_230 niX6_turnOf seX6_turnOf rfl (by decide) (Nat.le_of_ble_eq_true rfl) rfl dX6_turn_30 (fun r0 E2 hp0 => ?_)
        obtain ⟨rfl, hT2⟩ := hp0
        show Gk X mX6_turn idsA 33 [some (vr (30, 0)), some (vi (nI j)), some (vi (nI u)), some (vi (nI t))] [vi (trn n k f dn dr j u t a)] E2
        refine g_goto (tgt := 38) cx dX6_turn_33 (by decide) ?_
        exact g_ret cx rq rfl (rfl) dX6_turn_38 ⟨by simp [turnS, eq_true h_5, eq_true h_13, eq_true h_23, hjx, htx, hux], hT2⟩
    · skip
      refine g_bipush (v := (-2)) cx dX6_turn_16 (by decide) ?_
      exact g_ret cx rq rfl (rfl) dX6_turn_18 ⟨by simp [turnS, eq_false h_13], TR.refl D⟩
end
