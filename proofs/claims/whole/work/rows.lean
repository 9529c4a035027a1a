section
-- ===== PART A: goes FIRST, ahead of the names: the tables' words, and 'selects' of the private methods out of them =====
/-- a private method of a class that the tables say can be made, by its rows of tables_1 -/
def lw_okq (q : MethodName × Nat) : Prop := (q.1.cls ≠ "java/lang/invoke/MethodHandle" ∧ q.1.cls ≠ "java/lang/invoke/VarHandle") ∧ Cond.instantiable q.1.cls q.2 ∈ tables_1 ∧ Cond.privateMethod q.1 ∈ tables_1 ∧ Cond.instanceMethod q.1 ∈ tables_1
theorem lw_p0 : lw_okq (⟨"OneHinge$Text", "readLine", "()Z"⟩, 7) := ⟨⟨by decide +kernel, by decide +kernel⟩, List.mem_of_getElem? (i := 78) (by decide +kernel), List.mem_of_getElem? (i := 245) (by decide +kernel), List.mem_of_getElem? (i := 246) (by decide +kernel)⟩
theorem lw_p1 : lw_okq (⟨"OneHinge$Text", "nextToken", "()V"⟩, 7) := ⟨⟨by decide +kernel, by decide +kernel⟩, List.mem_of_getElem? (i := 78) (by decide +kernel), List.mem_of_getElem? (i := 249) (by decide +kernel), List.mem_of_getElem? (i := 250) (by decide +kernel)⟩
theorem lw_p2 : lw_okq (⟨"OneHinge$Text", "isLetter", "(I)Z"⟩, 7) := ⟨⟨by decide +kernel, by decide +kernel⟩, List.mem_of_getElem? (i := 78) (by decide +kernel), List.mem_of_getElem? (i := 253) (by decide +kernel), List.mem_of_getElem? (i := 254) (by decide +kernel)⟩
theorem lw_p3 : lw_okq (⟨"OneHinge$Text", "isDigit", "(I)Z"⟩, 7) := ⟨⟨by decide +kernel, by decide +kernel⟩, List.mem_of_getElem? (i := 78) (by decide +kernel), List.mem_of_getElem? (i := 257) (by decide +kernel), List.mem_of_getElem? (i := 258) (by decide +kernel)⟩
theorem lw_p4 : lw_okq (⟨"OneHinge$Text", "wordHere", "()I"⟩, 7) := ⟨⟨by decide +kernel, by decide +kernel⟩, List.mem_of_getElem? (i := 78) (by decide +kernel), List.mem_of_getElem? (i := 261) (by decide +kernel), List.mem_of_getElem? (i := 262) (by decide +kernel)⟩
theorem lw_p5 : lw_okq (⟨"OneHinge$Text", "isHere", "(Ljava/lang/String;)Z"⟩, 7) := ⟨⟨by decide +kernel, by decide +kernel⟩, List.mem_of_getElem? (i := 78) (by decide +kernel), List.mem_of_getElem? (i := 278) (by decide +kernel), List.mem_of_getElem? (i := 279) (by decide +kernel)⟩
theorem lw_p6 : lw_okq (⟨"OneHinge$Text", "readHouse", "()Z"⟩, 7) := ⟨⟨by decide +kernel, by decide +kernel⟩, List.mem_of_getElem? (i := 78) (by decide +kernel), List.mem_of_getElem? (i := 330) (by decide +kernel), List.mem_of_getElem? (i := 331) (by decide +kernel)⟩
theorem lw_p7 : lw_okq (⟨"OneHinge$Text", "readNumber", "(II)Z"⟩, 7) := ⟨⟨by decide +kernel, by decide +kernel⟩, List.mem_of_getElem? (i := 78) (by decide +kernel), List.mem_of_getElem? (i := 334) (by decide +kernel), List.mem_of_getElem? (i := 335) (by decide +kernel)⟩
theorem lw_p8 : lw_okq (⟨"OneHinge$Text", "numberHere", "()I"⟩, 7) := ⟨⟨by decide +kernel, by decide +kernel⟩, List.mem_of_getElem? (i := 78) (by decide +kernel), List.mem_of_getElem? (i := 338) (by decide +kernel), List.mem_of_getElem? (i := 339) (by decide +kernel)⟩
theorem lw_p9 : lw_okq (⟨"OneHinge$Text", "readLeaf", "()Z"⟩, 7) := ⟨⟨by decide +kernel, by decide +kernel⟩, List.mem_of_getElem? (i := 78) (by decide +kernel), List.mem_of_getElem? (i := 343) (by decide +kernel), List.mem_of_getElem? (i := 344) (by decide +kernel)⟩
theorem lw_p10 : lw_okq (⟨"OneHinge$Text", "readPut", "()Z"⟩, 7) := ⟨⟨by decide +kernel, by decide +kernel⟩, List.mem_of_getElem? (i := 78) (by decide +kernel), List.mem_of_getElem? (i := 370) (by decide +kernel), List.mem_of_getElem? (i := 371) (by decide +kernel)⟩
theorem lw_p11 : lw_okq (⟨"OneHinge$Text", "readDoor", "()Z"⟩, 7) := ⟨⟨by decide +kernel, by decide +kernel⟩, List.mem_of_getElem? (i := 78) (by decide +kernel), List.mem_of_getElem? (i := 375) (by decide +kernel), List.mem_of_getElem? (i := 376) (by decide +kernel)⟩
theorem lw_p12 : lw_okq (⟨"OneHinge$Text", "readPerson", "()Z"⟩, 7) := ⟨⟨by decide +kernel, by decide +kernel⟩, List.mem_of_getElem? (i := 78) (by decide +kernel), List.mem_of_getElem? (i := 383) (by decide +kernel), List.mem_of_getElem? (i := 384) (by decide +kernel)⟩
theorem lw_p13 : lw_okq (⟨"OneHinge$Text", "readKind", "(I)Z"⟩, 7) := ⟨⟨by decide +kernel, by decide +kernel⟩, List.mem_of_getElem? (i := 78) (by decide +kernel), List.mem_of_getElem? (i := 387) (by decide +kernel), List.mem_of_getElem? (i := 388) (by decide +kernel)⟩
theorem lw_p14 : lw_okq (⟨"OneHinge", "isPerson", "(I)Z"⟩, 8) := ⟨⟨by decide +kernel, by decide +kernel⟩, List.mem_of_getElem? (i := 16) (by decide +kernel), List.mem_of_getElem? (i := 451) (by decide +kernel), List.mem_of_getElem? (i := 452) (by decide +kernel)⟩
theorem lw_p15 : lw_okq (⟨"OneHinge$Round", "visit", "(III)V"⟩, 7) := ⟨⟨by decide +kernel, by decide +kernel⟩, List.mem_of_getElem? (i := 136) (by decide +kernel), List.mem_of_getElem? (i := 547) (by decide +kernel), List.mem_of_getElem? (i := 548) (by decide +kernel)⟩
def lw_privs_1 : List (MethodName × Nat) := [(⟨"OneHinge$Text", "readLine", "()Z"⟩, 7), (⟨"OneHinge$Text", "nextToken", "()V"⟩, 7), (⟨"OneHinge$Text", "isLetter", "(I)Z"⟩, 7), (⟨"OneHinge$Text", "isDigit", "(I)Z"⟩, 7), (⟨"OneHinge$Text", "wordHere", "()I"⟩, 7), (⟨"OneHinge$Text", "isHere", "(Ljava/lang/String;)Z"⟩, 7), (⟨"OneHinge$Text", "readHouse", "()Z"⟩, 7), (⟨"OneHinge$Text", "readNumber", "(II)Z"⟩, 7), (⟨"OneHinge$Text", "numberHere", "()I"⟩, 7), (⟨"OneHinge$Text", "readLeaf", "()Z"⟩, 7), (⟨"OneHinge$Text", "readPut", "()Z"⟩, 7), (⟨"OneHinge$Text", "readDoor", "()Z"⟩, 7), (⟨"OneHinge$Text", "readPerson", "()Z"⟩, 7), (⟨"OneHinge$Text", "readKind", "(I)Z"⟩, 7), (⟨"OneHinge", "isPerson", "(I)Z"⟩, 8), (⟨"OneHinge$Round", "visit", "(III)V"⟩, 7)]
theorem lw_r1 : ∀ q ∈ lw_privs_1, lw_okq q := List.forall_mem_cons.mpr ⟨lw_p0, List.forall_mem_cons.mpr ⟨lw_p1, List.forall_mem_cons.mpr ⟨lw_p2, List.forall_mem_cons.mpr ⟨lw_p3, List.forall_mem_cons.mpr ⟨lw_p4, List.forall_mem_cons.mpr ⟨lw_p5, List.forall_mem_cons.mpr ⟨lw_p6, List.forall_mem_cons.mpr ⟨lw_p7, List.forall_mem_cons.mpr ⟨lw_p8, List.forall_mem_cons.mpr ⟨lw_p9, List.forall_mem_cons.mpr ⟨lw_p10, List.forall_mem_cons.mpr ⟨lw_p11, List.forall_mem_cons.mpr ⟨lw_p12, List.forall_mem_cons.mpr ⟨lw_p13, List.forall_mem_cons.mpr ⟨lw_p14, List.forall_mem_cons.mpr ⟨lw_p15, fun _ h => absurd h List.not_mem_nil⟩⟩⟩⟩⟩⟩⟩⟩⟩⟩⟩⟩⟩⟩⟩⟩
theorem lw_p16 : lw_okq (⟨"OneHinge$Round", "goTo", "(III)I"⟩, 7) := ⟨⟨by decide +kernel, by decide +kernel⟩, List.mem_of_getElem? (i := 136) (by decide +kernel), List.mem_of_getElem? (i := 552) (by decide +kernel), List.mem_of_getElem? (i := 553) (by decide +kernel)⟩
theorem lw_p17 : lw_okq (⟨"OneHinge$House", "letFirstOut", "(I)V"⟩, 4) := ⟨⟨by decide +kernel, by decide +kernel⟩, List.mem_of_getElem? (i := 113) (by decide +kernel), List.mem_of_getElem? (i := 580) (by decide +kernel), List.mem_of_getElem? (i := 581) (by decide +kernel)⟩
theorem lw_p18 : lw_okq (⟨"OneHingeModel", "token", "()V"⟩, 26) := ⟨⟨by decide +kernel, by decide +kernel⟩, List.mem_of_getElem? (i := 613) (by decide +kernel), List.mem_of_getElem? (i := 715) (by decide +kernel), List.mem_of_getElem? (i := 716) (by decide +kernel)⟩
theorem lw_p19 : lw_okq (⟨"OneHingeModel", "readsLine", "()Z"⟩, 26) := ⟨⟨by decide +kernel, by decide +kernel⟩, List.mem_of_getElem? (i := 613) (by decide +kernel), List.mem_of_getElem? (i := 722) (by decide +kernel), List.mem_of_getElem? (i := 723) (by decide +kernel)⟩
theorem lw_p20 : lw_okq (⟨"OneHingeModel", "wordOf", "()I"⟩, 26) := ⟨⟨by decide +kernel, by decide +kernel⟩, List.mem_of_getElem? (i := 613) (by decide +kernel), List.mem_of_getElem? (i := 726) (by decide +kernel), List.mem_of_getElem? (i := 727) (by decide +kernel)⟩
theorem lw_p21 : lw_okq (⟨"OneHingeModel", "leafWord", "()I"⟩, 26) := ⟨⟨by decide +kernel, by decide +kernel⟩, List.mem_of_getElem? (i := 613) (by decide +kernel), List.mem_of_getElem? (i := 730) (by decide +kernel), List.mem_of_getElem? (i := 731) (by decide +kernel)⟩
theorem lw_p22 : lw_okq (⟨"OneHingeModel", "isWord", "(II)Z"⟩, 26) := ⟨⟨by decide +kernel, by decide +kernel⟩, List.mem_of_getElem? (i := 613) (by decide +kernel), List.mem_of_getElem? (i := 735) (by decide +kernel), List.mem_of_getElem? (i := 736) (by decide +kernel)⟩
theorem lw_p23 : lw_okq (⟨"OneHingeModel", "readsRest", "(I)Z"⟩, 26) := ⟨⟨by decide +kernel, by decide +kernel⟩, List.mem_of_getElem? (i := 613) (by decide +kernel), List.mem_of_getElem? (i := 747) (by decide +kernel), List.mem_of_getElem? (i := 748) (by decide +kernel)⟩
theorem lw_p24 : lw_okq (⟨"OneHingeModel", "reads", "(III)Z"⟩, 26) := ⟨⟨by decide +kernel, by decide +kernel⟩, List.mem_of_getElem? (i := 613) (by decide +kernel), List.mem_of_getElem? (i := 751) (by decide +kernel), List.mem_of_getElem? (i := 752) (by decide +kernel)⟩
theorem lw_p25 : lw_okq (⟨"OneHingeModel", "numberHere", "()I"⟩, 26) := ⟨⟨by decide +kernel, by decide +kernel⟩, List.mem_of_getElem? (i := 613) (by decide +kernel), List.mem_of_getElem? (i := 755) (by decide +kernel), List.mem_of_getElem? (i := 756) (by decide +kernel)⟩
theorem lw_p26 : lw_okq (⟨"OneHingeModel", "readsLeaf", "()Z"⟩, 26) := ⟨⟨by decide +kernel, by decide +kernel⟩, List.mem_of_getElem? (i := 613) (by decide +kernel), List.mem_of_getElem? (i := 759) (by decide +kernel), List.mem_of_getElem? (i := 760) (by decide +kernel)⟩
theorem lw_p27 : lw_okq (⟨"OneHingeModel", "fitsAngle", "(II)Z"⟩, 26) := ⟨⟨by decide +kernel, by decide +kernel⟩, List.mem_of_getElem? (i := 613) (by decide +kernel), List.mem_of_getElem? (i := 764) (by decide +kernel), List.mem_of_getElem? (i := 765) (by decide +kernel)⟩
theorem lw_p28 : lw_okq (⟨"OneHingeModel", "readNext", "(I)I"⟩, 26) := ⟨⟨by decide +kernel, by decide +kernel⟩, List.mem_of_getElem? (i := 613) (by decide +kernel), List.mem_of_getElem? (i := 768) (by decide +kernel), List.mem_of_getElem? (i := 769) (by decide +kernel)⟩
theorem lw_p29 : lw_okq (⟨"OneHingeModel", "readsPut", "()Z"⟩, 26) := ⟨⟨by decide +kernel, by decide +kernel⟩, List.mem_of_getElem? (i := 613) (by decide +kernel), List.mem_of_getElem? (i := 775) (by decide +kernel), List.mem_of_getElem? (i := 776) (by decide +kernel)⟩
theorem lw_p30 : lw_okq (⟨"OneHingeModel", "isNewDoor", "(I)Z"⟩, 26) := ⟨⟨by decide +kernel, by decide +kernel⟩, List.mem_of_getElem? (i := 613) (by decide +kernel), List.mem_of_getElem? (i := 779) (by decide +kernel), List.mem_of_getElem? (i := 780) (by decide +kernel)⟩
theorem lw_p31 : lw_okq (⟨"OneHingeModel", "goOn", "(III)V"⟩, 26) := ⟨⟨by decide +kernel, by decide +kernel⟩, List.mem_of_getElem? (i := 613) (by decide +kernel), List.mem_of_getElem? (i := 783) (by decide +kernel), List.mem_of_getElem? (i := 784) (by decide +kernel)⟩
def lw_privs_2 : List (MethodName × Nat) := [(⟨"OneHinge$Round", "goTo", "(III)I"⟩, 7), (⟨"OneHinge$House", "letFirstOut", "(I)V"⟩, 4), (⟨"OneHingeModel", "token", "()V"⟩, 26), (⟨"OneHingeModel", "readsLine", "()Z"⟩, 26), (⟨"OneHingeModel", "wordOf", "()I"⟩, 26), (⟨"OneHingeModel", "leafWord", "()I"⟩, 26), (⟨"OneHingeModel", "isWord", "(II)Z"⟩, 26), (⟨"OneHingeModel", "readsRest", "(I)Z"⟩, 26), (⟨"OneHingeModel", "reads", "(III)Z"⟩, 26), (⟨"OneHingeModel", "numberHere", "()I"⟩, 26), (⟨"OneHingeModel", "readsLeaf", "()Z"⟩, 26), (⟨"OneHingeModel", "fitsAngle", "(II)Z"⟩, 26), (⟨"OneHingeModel", "readNext", "(I)I"⟩, 26), (⟨"OneHingeModel", "readsPut", "()Z"⟩, 26), (⟨"OneHingeModel", "isNewDoor", "(I)Z"⟩, 26), (⟨"OneHingeModel", "goOn", "(III)V"⟩, 26)]
theorem lw_r2 : ∀ q ∈ lw_privs_2, lw_okq q := List.forall_mem_cons.mpr ⟨lw_p16, List.forall_mem_cons.mpr ⟨lw_p17, List.forall_mem_cons.mpr ⟨lw_p18, List.forall_mem_cons.mpr ⟨lw_p19, List.forall_mem_cons.mpr ⟨lw_p20, List.forall_mem_cons.mpr ⟨lw_p21, List.forall_mem_cons.mpr ⟨lw_p22, List.forall_mem_cons.mpr ⟨lw_p23, List.forall_mem_cons.mpr ⟨lw_p24, List.forall_mem_cons.mpr ⟨lw_p25, List.forall_mem_cons.mpr ⟨lw_p26, List.forall_mem_cons.mpr ⟨lw_p27, List.forall_mem_cons.mpr ⟨lw_p28, List.forall_mem_cons.mpr ⟨lw_p29, List.forall_mem_cons.mpr ⟨lw_p30, List.forall_mem_cons.mpr ⟨lw_p31, fun _ h => absurd h List.not_mem_nil⟩⟩⟩⟩⟩⟩⟩⟩⟩⟩⟩⟩⟩⟩⟩⟩
theorem lw_p32 : lw_okq (⟨"OneHingeModel", "tell", "(I)V"⟩, 26) := ⟨⟨by decide +kernel, by decide +kernel⟩, List.mem_of_getElem? (i := 613) (by decide +kernel), List.mem_of_getElem? (i := 792) (by decide +kernel), List.mem_of_getElem? (i := 793) (by decide +kernel)⟩
theorem lw_p33 : lw_okq (⟨"OneHingeModel", "copy", "(II)V"⟩, 26) := ⟨⟨by decide +kernel, by decide +kernel⟩, List.mem_of_getElem? (i := 613) (by decide +kernel), List.mem_of_getElem? (i := 798) (by decide +kernel), List.mem_of_getElem? (i := 799) (by decide +kernel)⟩
theorem lw_p34 : lw_okq (⟨"OneHingeModel", "isLeaf", "(I)Z"⟩, 26) := ⟨⟨by decide +kernel, by decide +kernel⟩, List.mem_of_getElem? (i := 613) (by decide +kernel), List.mem_of_getElem? (i := 806) (by decide +kernel), List.mem_of_getElem? (i := 807) (by decide +kernel)⟩
theorem lw_p35 : lw_okq (⟨"OneHingeModel", "width", "(II)I"⟩, 26) := ⟨⟨by decide +kernel, by decide +kernel⟩, List.mem_of_getElem? (i := 613) (by decide +kernel), List.mem_of_getElem? (i := 814) (by decide +kernel), List.mem_of_getElem? (i := 815) (by decide +kernel)⟩
theorem lw_p36 : lw_okq (⟨"OneHingeModel", "next", "(I)I"⟩, 26) := ⟨⟨by decide +kernel, by decide +kernel⟩, List.mem_of_getElem? (i := 613) (by decide +kernel), List.mem_of_getElem? (i := 818) (by decide +kernel), List.mem_of_getElem? (i := 819) (by decide +kernel)⟩
theorem lw_p37 : lw_okq (⟨"OneHingeModel", "isOpen", "(II)Z"⟩, 26) := ⟨⟨by decide +kernel, by decide +kernel⟩, List.mem_of_getElem? (i := 613) (by decide +kernel), List.mem_of_getElem? (i := 822) (by decide +kernel), List.mem_of_getElem? (i := 823) (by decide +kernel)⟩
theorem lw_p38 : lw_okq (⟨"OneHingeModel", "inRoom", "(II)I"⟩, 26) := ⟨⟨by decide +kernel, by decide +kernel⟩, List.mem_of_getElem? (i := 613) (by decide +kernel), List.mem_of_getElem? (i := 826) (by decide +kernel), List.mem_of_getElem? (i := 827) (by decide +kernel)⟩
theorem lw_p39 : lw_okq (⟨"OneHingeModel", "chain", "(III)I"⟩, 26) := ⟨⟨by decide +kernel, by decide +kernel⟩, List.mem_of_getElem? (i := 613) (by decide +kernel), List.mem_of_getElem? (i := 835) (by decide +kernel), List.mem_of_getElem? (i := 836) (by decide +kernel)⟩
theorem lw_p40 : lw_okq (⟨"OneHingeModel", "ahead", "(I)I"⟩, 26) := ⟨⟨by decide +kernel, by decide +kernel⟩, List.mem_of_getElem? (i := 613) (by decide +kernel), List.mem_of_getElem? (i := 839) (by decide +kernel), List.mem_of_getElem? (i := 840) (by decide +kernel)⟩
theorem lw_p41 : lw_okq (⟨"OneHingeModel", "isPerson", "(I)Z"⟩, 26) := ⟨⟨by decide +kernel, by decide +kernel⟩, List.mem_of_getElem? (i := 613) (by decide +kernel), List.mem_of_getElem? (i := 847) (by decide +kernel), List.mem_of_getElem? (i := 848) (by decide +kernel)⟩
theorem lw_p42 : lw_okq (⟨"OneHingeModel", "pushBy", "(IIII)I"⟩, 26) := ⟨⟨by decide +kernel, by decide +kernel⟩, List.mem_of_getElem? (i := 613) (by decide +kernel), List.mem_of_getElem? (i := 859) (by decide +kernel), List.mem_of_getElem? (i := 860) (by decide +kernel)⟩
theorem lw_p43 : lw_okq (⟨"OneHingeModel", "step", "(III)Z"⟩, 26) := ⟨⟨by decide +kernel, by decide +kernel⟩, List.mem_of_getElem? (i := 613) (by decide +kernel), List.mem_of_getElem? (i := 863) (by decide +kernel), List.mem_of_getElem? (i := 864) (by decide +kernel)⟩
theorem lw_p44 : lw_okq (⟨"OneHingeModel", "hour", "()V"⟩, 26) := ⟨⟨by decide +kernel, by decide +kernel⟩, List.mem_of_getElem? (i := 613) (by decide +kernel), List.mem_of_getElem? (i := 875) (by decide +kernel), List.mem_of_getElem? (i := 876) (by decide +kernel)⟩
theorem lw_p45 : lw_okq (⟨"OneHingeModel", "turnOf", "(III)I"⟩, 26) := ⟨⟨by decide +kernel, by decide +kernel⟩, List.mem_of_getElem? (i := 613) (by decide +kernel), List.mem_of_getElem? (i := 902) (by decide +kernel), List.mem_of_getElem? (i := 903) (by decide +kernel)⟩
theorem lw_p46 : lw_okq (⟨"OneHingeModel", "turnOn", "(III)I"⟩, 26) := ⟨⟨by decide +kernel, by decide +kernel⟩, List.mem_of_getElem? (i := 613) (by decide +kernel), List.mem_of_getElem? (i := 906) (by decide +kernel), List.mem_of_getElem? (i := 907) (by decide +kernel)⟩
theorem lw_p47 : lw_okq (⟨"OneHingeModel", "stepsBy", "(II)I"⟩, 26) := ⟨⟨by decide +kernel, by decide +kernel⟩, List.mem_of_getElem? (i := 613) (by decide +kernel), List.mem_of_getElem? (i := 931) (by decide +kernel), List.mem_of_getElem? (i := 932) (by decide +kernel)⟩
def lw_privs_3 : List (MethodName × Nat) := [(⟨"OneHingeModel", "tell", "(I)V"⟩, 26), (⟨"OneHingeModel", "copy", "(II)V"⟩, 26), (⟨"OneHingeModel", "isLeaf", "(I)Z"⟩, 26), (⟨"OneHingeModel", "width", "(II)I"⟩, 26), (⟨"OneHingeModel", "next", "(I)I"⟩, 26), (⟨"OneHingeModel", "isOpen", "(II)Z"⟩, 26), (⟨"OneHingeModel", "inRoom", "(II)I"⟩, 26), (⟨"OneHingeModel", "chain", "(III)I"⟩, 26), (⟨"OneHingeModel", "ahead", "(I)I"⟩, 26), (⟨"OneHingeModel", "isPerson", "(I)Z"⟩, 26), (⟨"OneHingeModel", "pushBy", "(IIII)I"⟩, 26), (⟨"OneHingeModel", "step", "(III)Z"⟩, 26), (⟨"OneHingeModel", "hour", "()V"⟩, 26), (⟨"OneHingeModel", "turnOf", "(III)I"⟩, 26), (⟨"OneHingeModel", "turnOn", "(III)I"⟩, 26), (⟨"OneHingeModel", "stepsBy", "(II)I"⟩, 26)]
theorem lw_r3 : ∀ q ∈ lw_privs_3, lw_okq q := List.forall_mem_cons.mpr ⟨lw_p32, List.forall_mem_cons.mpr ⟨lw_p33, List.forall_mem_cons.mpr ⟨lw_p34, List.forall_mem_cons.mpr ⟨lw_p35, List.forall_mem_cons.mpr ⟨lw_p36, List.forall_mem_cons.mpr ⟨lw_p37, List.forall_mem_cons.mpr ⟨lw_p38, List.forall_mem_cons.mpr ⟨lw_p39, List.forall_mem_cons.mpr ⟨lw_p40, List.forall_mem_cons.mpr ⟨lw_p41, List.forall_mem_cons.mpr ⟨lw_p42, List.forall_mem_cons.mpr ⟨lw_p43, List.forall_mem_cons.mpr ⟨lw_p44, List.forall_mem_cons.mpr ⟨lw_p45, List.forall_mem_cons.mpr ⟨lw_p46, List.forall_mem_cons.mpr ⟨lw_p47, fun _ h => absurd h List.not_mem_nil⟩⟩⟩⟩⟩⟩⟩⟩⟩⟩⟩⟩⟩⟩⟩⟩
theorem lw_p48 : lw_okq (⟨"OneHingeModel", "rowOf", "(II)I"⟩, 26) := ⟨⟨by decide +kernel, by decide +kernel⟩, List.mem_of_getElem? (i := 613) (by decide +kernel), List.mem_of_getElem? (i := 935) (by decide +kernel), List.mem_of_getElem? (i := 936) (by decide +kernel)⟩
theorem lw_p49 : lw_okq (⟨"OneHingeModel", "errandTo", "(II)I"⟩, 26) := ⟨⟨by decide +kernel, by decide +kernel⟩, List.mem_of_getElem? (i := 613) (by decide +kernel), List.mem_of_getElem? (i := 939) (by decide +kernel), List.mem_of_getElem? (i := 940) (by decide +kernel)⟩
theorem lw_p50 : lw_okq (⟨"OneHingeModel", "setAside", "()V"⟩, 26) := ⟨⟨by decide +kernel, by decide +kernel⟩, List.mem_of_getElem? (i := 613) (by decide +kernel), List.mem_of_getElem? (i := 943) (by decide +kernel), List.mem_of_getElem? (i := 944) (by decide +kernel)⟩
theorem lw_p51 : lw_okq (⟨"OneHingeModel", "putBack", "()V"⟩, 26) := ⟨⟨by decide +kernel, by decide +kernel⟩, List.mem_of_getElem? (i := 613) (by decide +kernel), List.mem_of_getElem? (i := 947) (by decide +kernel), List.mem_of_getElem? (i := 948) (by decide +kernel)⟩
theorem lw_p52 : lw_okq (⟨"OneHingeModel", "areOut", "()Z"⟩, 26) := ⟨⟨by decide +kernel, by decide +kernel⟩, List.mem_of_getElem? (i := 613) (by decide +kernel), List.mem_of_getElem? (i := 959) (by decide +kernel), List.mem_of_getElem? (i := 960) (by decide +kernel)⟩
theorem lw_p53 : lw_okq (⟨"OneHingeModel", "saveFirst", "()V"⟩, 26) := ⟨⟨by decide +kernel, by decide +kernel⟩, List.mem_of_getElem? (i := 613) (by decide +kernel), List.mem_of_getElem? (i := 963) (by decide +kernel), List.mem_of_getElem? (i := 964) (by decide +kernel)⟩
def lw_privs_4 : List (MethodName × Nat) := [(⟨"OneHingeModel", "rowOf", "(II)I"⟩, 26), (⟨"OneHingeModel", "errandTo", "(II)I"⟩, 26), (⟨"OneHingeModel", "setAside", "()V"⟩, 26), (⟨"OneHingeModel", "putBack", "()V"⟩, 26), (⟨"OneHingeModel", "areOut", "()Z"⟩, 26), (⟨"OneHingeModel", "saveFirst", "()V"⟩, 26)]
theorem lw_r4 : ∀ q ∈ lw_privs_4, lw_okq q := List.forall_mem_cons.mpr ⟨lw_p48, List.forall_mem_cons.mpr ⟨lw_p49, List.forall_mem_cons.mpr ⟨lw_p50, List.forall_mem_cons.mpr ⟨lw_p51, List.forall_mem_cons.mpr ⟨lw_p52, List.forall_mem_cons.mpr ⟨lw_p53, fun _ h => absurd h List.not_mem_nil⟩⟩⟩⟩⟩⟩
def lw_privs : List (MethodName × Nat) := lw_privs_1 ++ (lw_privs_2 ++ (lw_privs_3 ++ (lw_privs_4)))
def lw_tbl : List Cond := k2_sels lw_privs ++ tables_1
theorem lw_privs_ok : ∀ q ∈ lw_privs, lw_okq q := by
  show ∀ q ∈ lw_privs_1 ++ (lw_privs_2 ++ (lw_privs_3 ++ (lw_privs_4))), lw_okq q
  exact List.forall_mem_append.mpr ⟨lw_r1, List.forall_mem_append.mpr ⟨lw_r2, List.forall_mem_append.mpr ⟨lw_r3, lw_r4⟩⟩⟩
end
section
-- names: classes, fields, methods (by the command of CHECK.md, out of the program)
def RX0 : String := "OneHinge$House"
def TX0 : u_T := fun k => match k with
  | 0 => ("OneHinge$House", "plan", "LOneHinge$Plan;", true)
  | 1 => ("OneHinge$House", "angle", "[I", true)
  | 2 => ("OneHinge$House", "place", "[I", true)
  | _ => ("OneHinge$House", "hour", "I", false)
def tyX0 : Nat → FieldType := fun k => match k with
  | 0 => .object "OneHinge$Plan"
  | 1 => .array .int
  | 2 => .array .int
  | _ => .int
abbrev wsX00 : List Cond := u_ws RX0 TX0 4
theorem nmX0 : ∀ a, a < 4 → ∀ b, b < 4 → a ≠ b → (TX0 a).2.1 ≠ (TX0 b).2.1 := by decide +kernel
theorem tyX0_ok : ∀ k, k < 4 → parseFieldDescriptor (TX0 k).2.2.1 = some (tyX0 k) := by decide +kernel
abbrev cX0_init : ByteArray := prog_2_method_1_code
def yX0_init : MethodName := ⟨RX0, "<init>", "(LOneHinge$Plan;)V"⟩
abbrev cX0_begin : ByteArray := prog_2_method_2_code
def yX0_begin : MethodName := ⟨RX0, "begin", "()V"⟩
abbrev cX0_copy : ByteArray := prog_2_method_3_code
def yX0_copy : MethodName := ⟨RX0, "copy", "(LOneHinge$House;)V"⟩
abbrev cX0_width : ByteArray := prog_2_method_4_code
def yX0_width : MethodName := ⟨RX0, "width", "(I)I"⟩
abbrev cX0_slack : ByteArray := prog_2_method_5_code
def yX0_slack : MethodName := ⟨RX0, "slack", "(I)I"⟩
abbrev cX0_isOpen : ByteArray := prog_2_method_6_code
def yX0_isOpen : MethodName := ⟨RX0, "isOpen", "(I)Z"⟩
abbrev cX0_openRooms : ByteArray := prog_2_method_7_code
def yX0_openRooms : MethodName := ⟨RX0, "openRooms", "()I"⟩
abbrev cX0_peopleAt : ByteArray := prog_2_method_8_code
def yX0_peopleAt : MethodName := ⟨RX0, "peopleAt", "(I)I"⟩
abbrev cX0_areAllOut : ByteArray := prog_2_method_9_code
def yX0_areAllOut : MethodName := ⟨RX0, "areAllOut", "()Z"⟩
abbrev cX0_letOut : ByteArray := prog_2_method_10_code
def yX0_letOut : MethodName := ⟨RX0, "letOut", "()V"⟩
abbrev cX0_letFirstOut : ByteArray := prog_2_method_11_code
def yX0_letFirstOut : MethodName := ⟨RX0, "letFirstOut", "(I)V"⟩
abbrev cX0_movers : ByteArray := prog_2_method_12_code
def yX0_movers : MethodName := ⟨RX0, "movers", "(II)I"⟩
abbrev cX0_step : ByteArray := prog_2_method_13_code
def yX0_step : MethodName := ⟨RX0, "step", "(II)Z"⟩
abbrev cX0_stepped : ByteArray := prog_2_method_14_code
def yX0_stepped : MethodName := ⟨RX0, "stepped", "(II)I"⟩
abbrev cX0_goTillOpen : ByteArray := prog_2_method_15_code
def yX0_goTillOpen : MethodName := ⟨RX0, "goTillOpen", "(IIII)I"⟩
abbrev cX0_passHour : ByteArray := prog_2_method_16_code
def yX0_passHour : MethodName := ⟨RX0, "passHour", "()V"⟩
abbrev cX0_stretched : ByteArray := prog_2_method_17_code
def yX0_stretched : MethodName := ⟨RX0, "stretched", "(I)I"⟩
def RX1 : String := "OneHinge$Plan"
def TX1 : u_T := fun k => match k with
  | 0 => ("OneHinge$Plan", "leaves", "I", false)
  | 1 => ("OneHinge$Plan", "home", "[I", true)
  | 2 => ("OneHinge$Plan", "kind", "[I", true)
  | 3 => ("OneHinge$Plan", "furniture", "[I", true)
  | 4 => ("OneHinge$Plan", "doors", "I", false)
  | 5 => ("OneHinge$Plan", "door", "[I", true)
  | 6 => ("OneHinge$Plan", "people", "I", false)
  | _ => ("OneHinge$Plan", "place", "[I", true)
def tyX1 : Nat → FieldType := fun k => match k with
  | 0 => .int
  | 1 => .array .int
  | 2 => .array .int
  | 3 => .array .int
  | 4 => .int
  | 5 => .array .int
  | 6 => .int
  | _ => .array .int
abbrev wsX10 : List Cond := u_ws RX1 TX1 8
theorem nmX1 : ∀ a, a < 8 → ∀ b, b < 8 → a ≠ b → (TX1 a).2.1 ≠ (TX1 b).2.1 := by decide +kernel
theorem tyX1_ok : ∀ k, k < 8 → parseFieldDescriptor (TX1 k).2.2.1 = some (tyX1 k) := by decide +kernel
abbrev cX1_init : ByteArray := prog_3_method_1_code
def yX1_init : MethodName := ⟨RX1, "<init>", "()V"⟩
abbrev cX1_begin : ByteArray := prog_3_method_2_code
def yX1_begin : MethodName := ⟨RX1, "begin", "(I)V"⟩
abbrev cX1_copy : ByteArray := prog_3_method_3_code
def yX1_copy : MethodName := ⟨RX1, "copy", "(LOneHinge$Plan;)V"⟩
abbrev cX1_has : ByteArray := prog_3_method_4_code
def yX1_has : MethodName := ⟨RX1, "has", "(I)Z"⟩
abbrev cX1_next : ByteArray := prog_3_method_5_code
def yX1_next : MethodName := ⟨RX1, "next", "(I)I"⟩
abbrev cX1_before : ByteArray := prog_3_method_6_code
def yX1_before : MethodName := ⟨RX1, "before", "(I)I"⟩
abbrev cX1_leafBeside : ByteArray := prog_3_method_7_code
def yX1_leafBeside : MethodName := ⟨RX1, "leafBeside", "(II)I"⟩
abbrev cX1_roomBeside : ByteArray := prog_3_method_8_code
def yX1_roomBeside : MethodName := ⟨RX1, "roomBeside", "(II)I"⟩
abbrev cX1_need : ByteArray := prog_3_method_9_code
def yX1_need : MethodName := ⟨RX1, "need", "(I)I"⟩
abbrev cX1_isTakenAs : ByteArray := prog_3_method_10_code
def yX1_isTakenAs : MethodName := ⟨RX1, "isTakenAs", "(II)Z"⟩
abbrev cX1_toldWidth : ByteArray := prog_3_method_11_code
def yX1_toldWidth : MethodName := ⟨RX1, "toldWidth", "(I)I"⟩
abbrev cX1_canStandAt : ByteArray := prog_3_method_12_code
def yX1_canStandAt : MethodName := ⟨RX1, "canStandAt", "(II)Z"⟩
abbrev cX1_hasDoorAt : ByteArray := prog_3_method_13_code
def yX1_hasDoorAt : MethodName := ⟨RX1, "hasDoorAt", "(I)Z"⟩
def RX2 : String := "OneHinge$Round"
def TX2 : u_T := fun k => match k with
  | 0 => ("OneHinge$Round", "plan", "LOneHinge$Plan;", true)
  | 1 => ("OneHinge$Round", "behind", "[LOneHinge$House;", true)
  | 2 => ("OneHinge$Round", "pushedBack", "LOneHinge$House;", true)
  | 3 => ("OneHinge$Round", "order", "[I", true)
  | 4 => ("OneHinge$Round", "bestOrder", "[I", true)
  | 5 => ("OneHinge$Round", "leaf", "I", false)
  | _ => ("OneHinge$Round", "fewest", "I", false)
def tyX2 : Nat → FieldType := fun k => match k with
  | 0 => .object "OneHinge$Plan"
  | 1 => .array (.object "OneHinge$House")
  | 2 => .object "OneHinge$House"
  | 3 => .array .int
  | 4 => .array .int
  | 5 => .int
  | _ => .int
abbrev wsX20 : List Cond := u_ws RX2 TX2 7
theorem nmX2 : ∀ a, a < 7 → ∀ b, b < 7 → a ≠ b → (TX2 a).2.1 ≠ (TX2 b).2.1 := by decide +kernel
theorem tyX2_ok : ∀ k, k < 7 → parseFieldDescriptor (TX2 k).2.2.1 = some (tyX2 k) := by decide +kernel
abbrev cX2_init : ByteArray := prog_4_method_1_code
def yX2_init : MethodName := ⟨RX2, "<init>", "(LOneHinge$Plan;)V"⟩
abbrev cX2_begin : ByteArray := prog_4_method_2_code
def yX2_begin : MethodName := ⟨RX2, "begin", "(LOneHinge$House;I)V"⟩
abbrev cX2_visit : ByteArray := prog_4_method_3_code
def yX2_visit : MethodName := ⟨RX2, "visit", "(III)V"⟩
abbrev cX2_goTo : ByteArray := prog_4_method_4_code
def yX2_goTo : MethodName := ⟨RX2, "goTo", "(III)I"⟩
def RX3 : String := "OneHinge$Scrapes"
def TX3 : u_T := fun k => match k with
  | 0 => ("OneHinge$Scrapes", "leafOf", "[I", true)
  | 1 => ("OneHinge$Scrapes", "angleOf", "[I", true)
  | _ => ("OneHinge$Scrapes", "many", "I", false)
def tyX3 : Nat → FieldType := fun k => match k with
  | 0 => .array .int
  | 1 => .array .int
  | _ => .int
abbrev wsX30 : List Cond := u_ws RX3 TX3 3
theorem nmX3 : ∀ a, a < 3 → ∀ b, b < 3 → a ≠ b → (TX3 a).2.1 ≠ (TX3 b).2.1 := by decide +kernel
theorem tyX3_ok : ∀ k, k < 3 → parseFieldDescriptor (TX3 k).2.2.1 = some (tyX3 k) := by decide +kernel
abbrev cX3_init : ByteArray := prog_5_method_1_code
def yX3_init : MethodName := ⟨RX3, "<init>", "()V"⟩
abbrev cX3_way : ByteArray := prog_5_method_2_code
def yX3_way : MethodName := ⟨RX3, "way", "(III)I"⟩
abbrev cX3_shorter : ByteArray := prog_5_method_3_code
def yX3_shorter : MethodName := ⟨RX3, "shorter", "(II)I"⟩
def RX4 : String := "OneHinge$Text"
def TX4 : u_T := fun k => match k with
  | 0 => ("OneHinge$Text", "bytes", "[B", true)
  | 1 => ("OneHinge$Text", "length", "I", false)
  | 2 => ("OneHinge$Text", "draft", "LOneHinge$Plan;", true)
  | 3 => ("OneHinge$Text", "lines", "I", false)
  | 4 => ("OneHinge$Text", "start", "I", false)
  | 5 => ("OneHinge$Text", "end", "I", false)
  | _ => ("OneHinge$Text", "number", "I", false)
def tyX4 : Nat → FieldType := fun k => match k with
  | 0 => .array .byte
  | 1 => .int
  | 2 => .object "OneHinge$Plan"
  | 3 => .int
  | 4 => .int
  | 5 => .int
  | _ => .int
abbrev wsX40 : List Cond := u_ws RX4 TX4 7
theorem nmX4 : ∀ a, a < 7 → ∀ b, b < 7 → a ≠ b → (TX4 a).2.1 ≠ (TX4 b).2.1 := by decide +kernel
theorem tyX4_ok : ∀ k, k < 7 → parseFieldDescriptor (TX4 k).2.2.1 = some (tyX4 k) := by decide +kernel
abbrev cX4_init : ByteArray := prog_6_method_1_code
def yX4_init : MethodName := ⟨RX4, "<init>", "()V"⟩
abbrev cX4_read : ByteArray := prog_6_method_2_code
def yX4_read : MethodName := ⟨RX4, "read", "(LOneHinge$Plan;)I"⟩
abbrev cX4_readLine : ByteArray := prog_6_method_3_code
def yX4_readLine : MethodName := ⟨RX4, "readLine", "()Z"⟩
abbrev cX4_readHouse : ByteArray := prog_6_method_4_code
def yX4_readHouse : MethodName := ⟨RX4, "readHouse", "()Z"⟩
abbrev cX4_readLeaf : ByteArray := prog_6_method_5_code
def yX4_readLeaf : MethodName := ⟨RX4, "readLeaf", "()Z"⟩
abbrev cX4_readKind : ByteArray := prog_6_method_6_code
def yX4_readKind : MethodName := ⟨RX4, "readKind", "(I)Z"⟩
abbrev cX4_readPut : ByteArray := prog_6_method_7_code
def yX4_readPut : MethodName := ⟨RX4, "readPut", "()Z"⟩
abbrev cX4_readDoor : ByteArray := prog_6_method_8_code
def yX4_readDoor : MethodName := ⟨RX4, "readDoor", "()Z"⟩
abbrev cX4_readPerson : ByteArray := prog_6_method_9_code
def yX4_readPerson : MethodName := ⟨RX4, "readPerson", "()Z"⟩
abbrev cX4_readNumber : ByteArray := prog_6_method_10_code
def yX4_readNumber : MethodName := ⟨RX4, "readNumber", "(II)Z"⟩
abbrev cX4_nextToken : ByteArray := prog_6_method_11_code
def yX4_nextToken : MethodName := ⟨RX4, "nextToken", "()V"⟩
abbrev cX4_isLetter : ByteArray := prog_6_method_12_code
def yX4_isLetter : MethodName := ⟨RX4, "isLetter", "(I)Z"⟩
abbrev cX4_isDigit : ByteArray := prog_6_method_13_code
def yX4_isDigit : MethodName := ⟨RX4, "isDigit", "(I)Z"⟩
abbrev cX4_numberHere : ByteArray := prog_6_method_14_code
def yX4_numberHere : MethodName := ⟨RX4, "numberHere", "()I"⟩
abbrev cX4_wordHere : ByteArray := prog_6_method_15_code
def yX4_wordHere : MethodName := ⟨RX4, "wordHere", "()I"⟩
abbrev cX4_isHere : ByteArray := prog_6_method_16_code
def yX4_isHere : MethodName := ⟨RX4, "isHere", "(Ljava/lang/String;)Z"⟩
abbrev cX4_spelling : ByteArray := prog_6_method_17_code
def yX4_spelling : MethodName := ⟨RX4, "spelling", "(I)Ljava/lang/String;"⟩
def RX5 : String := "OneHinge"
def TX5 : u_T := fun k => match k with
  | 0 => ("OneHinge", "told", "LOneHinge$Plan;", true)
  | 1 => ("OneHinge", "text", "LOneHinge$Text;", true)
  | 2 => ("OneHinge", "now", "LOneHinge$House;", true)
  | 3 => ("OneHinge", "trial", "LOneHinge$House;", true)
  | 4 => ("OneHinge", "kept", "[LOneHinge$House;", true)
  | 5 => ("OneHinge", "isKept", "[Z", true)
  | 6 => ("OneHinge", "round", "LOneHinge$Round;", true)
  | _ => ("OneHinge", "scrapes", "LOneHinge$Scrapes;", true)
def tyX5 : Nat → FieldType := fun k => match k with
  | 0 => .object "OneHinge$Plan"
  | 1 => .object "OneHinge$Text"
  | 2 => .object "OneHinge$House"
  | 3 => .object "OneHinge$House"
  | 4 => .array (.object "OneHinge$House")
  | 5 => .array .boolean
  | 6 => .object "OneHinge$Round"
  | _ => .object "OneHinge$Scrapes"
abbrev wsX50 : List Cond := u_ws RX5 TX5 8
theorem nmX5 : ∀ a, a < 8 → ∀ b, b < 8 → a ≠ b → (TX5 a).2.1 ≠ (TX5 b).2.1 := by decide +kernel
theorem tyX5_ok : ∀ k, k < 8 → parseFieldDescriptor (TX5 k).2.2.1 = some (tyX5 k) := by decide +kernel
abbrev cX5_init : ByteArray := prog_1_method_1_code
def yX5_init : MethodName := ⟨RX5, "<init>", "()V"⟩
abbrev cX5_write : ByteArray := prog_1_method_2_code
def yX5_write : MethodName := ⟨RX5, "write", "(JI)I"⟩
abbrev cX5_erase : ByteArray := prog_1_method_3_code
def yX5_erase : MethodName := ⟨RX5, "erase", "()I"⟩
abbrev cX5_fault : ByteArray := prog_1_method_4_code
def yX5_fault : MethodName := ⟨RX5, "fault", "()I"⟩
abbrev cX5_house : ByteArray := prog_1_method_5_code
def yX5_house : MethodName := ⟨RX5, "house", "()I"⟩
abbrev cX5_leaf : ByteArray := prog_1_method_6_code
def yX5_leaf : MethodName := ⟨RX5, "leaf", "(II)I"⟩
abbrev cX5_room : ByteArray := prog_1_method_7_code
def yX5_room : MethodName := ⟨RX5, "room", "(II)I"⟩
abbrev cX5_as : ByteArray := prog_1_method_8_code
def yX5_as : MethodName := ⟨RX5, "as", "(II)I"⟩
abbrev cX5_person : ByteArray := prog_1_method_9_code
def yX5_person : MethodName := ⟨RX5, "person", "(I)I"⟩
abbrev cX5_push : ByteArray := prog_1_method_10_code
def yX5_push : MethodName := ⟨RX5, "push", "(III)I"⟩
abbrev cX5_hours : ByteArray := prog_1_method_11_code
def yX5_hours : MethodName := ⟨RX5, "hours", "(I)I"⟩
abbrev cX5_leave : ByteArray := prog_1_method_12_code
def yX5_leave : MethodName := ⟨RX5, "leave", "(I)I"⟩
abbrev cX5_enter : ByteArray := prog_1_method_13_code
def yX5_enter : MethodName := ⟨RX5, "enter", "(II)I"⟩
abbrev cX5_keep : ByteArray := prog_1_method_14_code
def yX5_keep : MethodName := ⟨RX5, "keep", "(I)I"⟩
abbrev cX5_back : ByteArray := prog_1_method_15_code
def yX5_back : MethodName := ⟨RX5, "back", "(I)I"⟩
abbrev cX5_turn : ByteArray := prog_1_method_16_code
def yX5_turn : MethodName := ⟨RX5, "turn", "(III)I"⟩
abbrev cX5_best : ByteArray := prog_1_method_17_code
def yX5_best : MethodName := ⟨RX5, "best", "(II)I"⟩
abbrev cX5_widest : ByteArray := prog_1_method_18_code
def yX5_widest : MethodName := ⟨RX5, "widest", "(I)I"⟩
abbrev cX5_further : ByteArray := prog_1_method_19_code
def yX5_further : MethodName := ⟨RX5, "further", "(I)I"⟩
abbrev cX5_share : ByteArray := prog_1_method_20_code
def yX5_share : MethodName := ⟨RX5, "share", "(II)I"⟩
abbrev cX5_errands : ByteArray := prog_1_method_21_code
def yX5_errands : MethodName := ⟨RX5, "errands", "(III)I"⟩
abbrev cX5_slam : ByteArray := prog_1_method_22_code
def yX5_slam : MethodName := ⟨RX5, "slam", "(III)I"⟩
abbrev cX5_fire : ByteArray := prog_1_method_23_code
def yX5_fire : MethodName := ⟨RX5, "fire", "(II)I"⟩
abbrev cX5_seen : ByteArray := prog_1_method_24_code
def yX5_seen : MethodName := ⟨RX5, "seen", "(II)I"⟩
abbrev cX5_forget : ByteArray := prog_1_method_25_code
def yX5_forget : MethodName := ⟨RX5, "forget", "()I"⟩
abbrev cX5_least : ByteArray := prog_1_method_26_code
def yX5_least : MethodName := ⟨RX5, "least", "(I)I"⟩
abbrev cX5_count : ByteArray := prog_1_method_27_code
def yX5_count : MethodName := ⟨RX5, "count", "(I)I"⟩
abbrev cX5_isPerson : ByteArray := prog_1_method_28_code
def yX5_isPerson : MethodName := ⟨RX5, "isPerson", "(I)Z"⟩
abbrev cX5_isSide : ByteArray := prog_1_method_29_code
def yX5_isSide : MethodName := ⟨RX5, "isSide", "(I)Z"⟩
abbrev cX5_between : ByteArray := prog_1_method_30_code
def yX5_between : MethodName := ⟨RX5, "between", "(II)I"⟩
def RX6 : String := "OneHingeModel"
def TX6 : u_T := fun k => match k with
  | 0 => ("OneHingeModel", "row", "[I", true)
  | 1 => ("OneHingeModel", "isKept", "[Z", true)
  | 2 => ("OneHingeModel", "text", "[I", true)
  | 3 => ("OneHingeModel", "length", "I", false)
  | 4 => ("OneHingeModel", "read", "[I", true)
  | 5 => ("OneHingeModel", "readMany", "I", false)
  | 6 => ("OneHingeModel", "leaves", "I", false)
  | 7 => ("OneHingeModel", "kinds", "[I", true)
  | 8 => ("OneHingeModel", "stuff", "[I", true)
  | 9 => ("OneHingeModel", "doors", "[I", true)
  | 10 => ("OneHingeModel", "doorMany", "I", false)
  | 11 => ("OneHingeModel", "people", "I", false)
  | 12 => ("OneHingeModel", "at", "I", false)
  | 13 => ("OneHingeModel", "place", "I", false)
  | 14 => ("OneHingeModel", "end", "I", false)
  | 15 => ("OneHingeModel", "readLeaves", "I", false)
  | 16 => ("OneHingeModel", "readAngles", "[I", true)
  | 17 => ("OneHingeModel", "readStuff", "[I", true)
  | 18 => ("OneHingeModel", "readDoors", "[I", true)
  | 19 => ("OneHingeModel", "readDoorMany", "I", false)
  | 20 => ("OneHingeModel", "readPeople", "I", false)
  | 21 => ("OneHingeModel", "chosen", "[I", true)
  | 22 => ("OneHingeModel", "chosenMany", "I", false)
  | 23 => ("OneHingeModel", "aside", "[I", true)
  | 24 => ("OneHingeModel", "sights", "[I", true)
  | _ => ("OneHingeModel", "seenMany", "I", false)
def tyX6 : Nat → FieldType := fun k => match k with
  | 0 => .array .int
  | 1 => .array .boolean
  | 2 => .array .int
  | 3 => .int
  | 4 => .array .int
  | 5 => .int
  | 6 => .int
  | 7 => .array .int
  | 8 => .array .int
  | 9 => .array .int
  | 10 => .int
  | 11 => .int
  | 12 => .int
  | 13 => .int
  | 14 => .int
  | 15 => .int
  | 16 => .array .int
  | 17 => .array .int
  | 18 => .array .int
  | 19 => .int
  | 20 => .int
  | 21 => .array .int
  | 22 => .int
  | 23 => .array .int
  | 24 => .array .int
  | _ => .int
abbrev wsX60 : List Cond := u_ws RX6 TX6 26
theorem nmX6 : ∀ a, a < 26 → ∀ b, b < 26 → a ≠ b → (TX6 a).2.1 ≠ (TX6 b).2.1 := by decide +kernel
theorem tyX6_ok : ∀ k, k < 26 → parseFieldDescriptor (TX6 k).2.2.1 = some (tyX6 k) := by decide +kernel
abbrev cX6_init : ByteArray := prog_8_method_1_code
def yX6_init : MethodName := ⟨RX6, "<init>", "()V"⟩
abbrev cX6_in : ByteArray := prog_8_method_2_code
def yX6_in : MethodName := ⟨RX6, "in", "(JJJ)Z"⟩
abbrev cX6_has : ByteArray := prog_8_method_3_code
def yX6_has : MethodName := ⟨RX6, "has", "(II)Z"⟩
abbrev cX6_copy : ByteArray := prog_8_method_4_code
def yX6_copy : MethodName := ⟨RX6, "copy", "(II)V"⟩
abbrev cX6_on : ByteArray := prog_8_method_5_code
def yX6_on : MethodName := ⟨RX6, "on", "(II)I"⟩
abbrev cX6_shorter : ByteArray := prog_8_method_6_code
def yX6_shorter : MethodName := ⟨RX6, "shorter", "(II)I"⟩
abbrev cX6_write : ByteArray := prog_8_method_7_code
def yX6_write : MethodName := ⟨RX6, "write", "(JI)I"⟩
abbrev cX6_erase : ByteArray := prog_8_method_8_code
def yX6_erase : MethodName := ⟨RX6, "erase", "()I"⟩
abbrev cX6_sort : ByteArray := prog_8_method_9_code
def yX6_sort : MethodName := ⟨RX6, "sort", "(I)I"⟩
abbrev cX6_token : ByteArray := prog_8_method_10_code
def yX6_token : MethodName := ⟨RX6, "token", "()V"⟩
abbrev cX6_isWord : ByteArray := prog_8_method_11_code
def yX6_isWord : MethodName := ⟨RX6, "isWord", "(II)Z"⟩
abbrev cX6_leafWord : ByteArray := prog_8_method_12_code
def yX6_leafWord : MethodName := ⟨RX6, "leafWord", "()I"⟩
abbrev cX6_wordOf : ByteArray := prog_8_method_13_code
def yX6_wordOf : MethodName := ⟨RX6, "wordOf", "()I"⟩
abbrev cX6_numberHere : ByteArray := prog_8_method_14_code
def yX6_numberHere : MethodName := ⟨RX6, "numberHere", "()I"⟩
abbrev cX6_reads : ByteArray := prog_8_method_15_code
def yX6_reads : MethodName := ⟨RX6, "reads", "(III)Z"⟩
abbrev cX6_readNext : ByteArray := prog_8_method_16_code
def yX6_readNext : MethodName := ⟨RX6, "readNext", "(I)I"⟩
abbrev cX6_fitsAngle : ByteArray := prog_8_method_17_code
def yX6_fitsAngle : MethodName := ⟨RX6, "fitsAngle", "(II)Z"⟩
abbrev cX6_isNewDoor : ByteArray := prog_8_method_18_code
def yX6_isNewDoor : MethodName := ⟨RX6, "isNewDoor", "(I)Z"⟩
abbrev cX6_readsLeaf : ByteArray := prog_8_method_19_code
def yX6_readsLeaf : MethodName := ⟨RX6, "readsLeaf", "()Z"⟩
abbrev cX6_readsPut : ByteArray := prog_8_method_20_code
def yX6_readsPut : MethodName := ⟨RX6, "readsPut", "()Z"⟩
abbrev cX6_readsRest : ByteArray := prog_8_method_21_code
def yX6_readsRest : MethodName := ⟨RX6, "readsRest", "(I)Z"⟩
abbrev cX6_goOn : ByteArray := prog_8_method_22_code
def yX6_goOn : MethodName := ⟨RX6, "goOn", "(III)V"⟩
abbrev cX6_readsLine : ByteArray := prog_8_method_23_code
def yX6_readsLine : MethodName := ⟨RX6, "readsLine", "()Z"⟩
abbrev cX6_fault : ByteArray := prog_8_method_24_code
def yX6_fault : MethodName := ⟨RX6, "fault", "()I"⟩
abbrev cX6_tell : ByteArray := prog_8_method_25_code
def yX6_tell : MethodName := ⟨RX6, "tell", "(I)V"⟩
abbrev cX6_house : ByteArray := prog_8_method_26_code
def yX6_house : MethodName := ⟨RX6, "house", "()I"⟩
abbrev cX6_isLeaf : ByteArray := prog_8_method_27_code
def yX6_isLeaf : MethodName := ⟨RX6, "isLeaf", "(I)Z"⟩
abbrev cX6_isPerson : ByteArray := prog_8_method_28_code
def yX6_isPerson : MethodName := ⟨RX6, "isPerson", "(I)Z"⟩
abbrev cX6_isSide : ByteArray := prog_8_method_29_code
def yX6_isSide : MethodName := ⟨RX6, "isSide", "(I)Z"⟩
abbrev cX6_next : ByteArray := prog_8_method_30_code
def yX6_next : MethodName := ⟨RX6, "next", "(I)I"⟩
abbrev cX6_ahead : ByteArray := prog_8_method_31_code
def yX6_ahead : MethodName := ⟨RX6, "ahead", "(I)I"⟩
abbrev cX6_width : ByteArray := prog_8_method_32_code
def yX6_width : MethodName := ⟨RX6, "width", "(II)I"⟩
abbrev cX6_isOpen : ByteArray := prog_8_method_33_code
def yX6_isOpen : MethodName := ⟨RX6, "isOpen", "(II)Z"⟩
abbrev cX6_leaf : ByteArray := prog_8_method_34_code
def yX6_leaf : MethodName := ⟨RX6, "leaf", "(II)I"⟩
abbrev cX6_inRoom : ByteArray := prog_8_method_35_code
def yX6_inRoom : MethodName := ⟨RX6, "inRoom", "(II)I"⟩
abbrev cX6_room : ByteArray := prog_8_method_36_code
def yX6_room : MethodName := ⟨RX6, "room", "(II)I"⟩
abbrev cX6_chain : ByteArray := prog_8_method_37_code
def yX6_chain : MethodName := ⟨RX6, "chain", "(III)I"⟩
abbrev cX6_step : ByteArray := prog_8_method_38_code
def yX6_step : MethodName := ⟨RX6, "step", "(III)Z"⟩
abbrev cX6_as : ByteArray := prog_8_method_39_code
def yX6_as : MethodName := ⟨RX6, "as", "(II)I"⟩
abbrev cX6_person : ByteArray := prog_8_method_40_code
def yX6_person : MethodName := ⟨RX6, "person", "(I)I"⟩
abbrev cX6_pushBy : ByteArray := prog_8_method_41_code
def yX6_pushBy : MethodName := ⟨RX6, "pushBy", "(IIII)I"⟩
abbrev cX6_push : ByteArray := prog_8_method_42_code
def yX6_push : MethodName := ⟨RX6, "push", "(III)I"⟩
abbrev cX6_hour : ByteArray := prog_8_method_43_code
def yX6_hour : MethodName := ⟨RX6, "hour", "()V"⟩
abbrev cX6_hours : ByteArray := prog_8_method_44_code
def yX6_hours : MethodName := ⟨RX6, "hours", "(I)I"⟩
abbrev cX6_leave : ByteArray := prog_8_method_45_code
def yX6_leave : MethodName := ⟨RX6, "leave", "(I)I"⟩
abbrev cX6_bits : ByteArray := prog_8_method_46_code
def yX6_bits : MethodName := ⟨RX6, "bits", "(I)I"⟩
abbrev cX6_enter : ByteArray := prog_8_method_47_code
def yX6_enter : MethodName := ⟨RX6, "enter", "(II)I"⟩
abbrev cX6_keep : ByteArray := prog_8_method_48_code
def yX6_keep : MethodName := ⟨RX6, "keep", "(I)I"⟩
abbrev cX6_back : ByteArray := prog_8_method_49_code
def yX6_back : MethodName := ⟨RX6, "back", "(I)I"⟩
abbrev cX6_turnOn : ByteArray := prog_8_method_50_code
def yX6_turnOn : MethodName := ⟨RX6, "turnOn", "(III)I"⟩
abbrev cX6_turnOf : ByteArray := prog_8_method_51_code
def yX6_turnOf : MethodName := ⟨RX6, "turnOf", "(III)I"⟩
abbrev cX6_turn : ByteArray := prog_8_method_52_code
def yX6_turn : MethodName := ⟨RX6, "turn", "(III)I"⟩
abbrev cX6_best : ByteArray := prog_8_method_53_code
def yX6_best : MethodName := ⟨RX6, "best", "(II)I"⟩
abbrev cX6_widest : ByteArray := prog_8_method_54_code
def yX6_widest : MethodName := ⟨RX6, "widest", "(I)I"⟩
abbrev cX6_further : ByteArray := prog_8_method_55_code
def yX6_further : MethodName := ⟨RX6, "further", "(I)I"⟩
abbrev cX6_share : ByteArray := prog_8_method_56_code
def yX6_share : MethodName := ⟨RX6, "share", "(II)I"⟩
abbrev cX6_rowOf : ByteArray := prog_8_method_57_code
def yX6_rowOf : MethodName := ⟨RX6, "rowOf", "(II)I"⟩
abbrev cX6_setAside : ByteArray := prog_8_method_58_code
def yX6_setAside : MethodName := ⟨RX6, "setAside", "()V"⟩
abbrev cX6_putBack : ByteArray := prog_8_method_59_code
def yX6_putBack : MethodName := ⟨RX6, "putBack", "()V"⟩
abbrev cX6_errandTo : ByteArray := prog_8_method_60_code
def yX6_errandTo : MethodName := ⟨RX6, "errandTo", "(II)I"⟩
abbrev cX6_stepsBy : ByteArray := prog_8_method_61_code
def yX6_stepsBy : MethodName := ⟨RX6, "stepsBy", "(II)I"⟩
abbrev cX6_errands : ByteArray := prog_8_method_62_code
def yX6_errands : MethodName := ⟨RX6, "errands", "(III)I"⟩
abbrev cX6_slam : ByteArray := prog_8_method_63_code
def yX6_slam : MethodName := ⟨RX6, "slam", "(III)I"⟩
abbrev cX6_saveFirst : ByteArray := prog_8_method_64_code
def yX6_saveFirst : MethodName := ⟨RX6, "saveFirst", "()V"⟩
abbrev cX6_areOut : ByteArray := prog_8_method_65_code
def yX6_areOut : MethodName := ⟨RX6, "areOut", "()Z"⟩
abbrev cX6_fire : ByteArray := prog_8_method_66_code
def yX6_fire : MethodName := ⟨RX6, "fire", "(II)I"⟩
abbrev cX6_seen : ByteArray := prog_8_method_67_code
def yX6_seen : MethodName := ⟨RX6, "seen", "(II)I"⟩
abbrev cX6_forget : ByteArray := prog_8_method_68_code
def yX6_forget : MethodName := ⟨RX6, "forget", "()I"⟩
abbrev cX6_least : ByteArray := prog_8_method_69_code
def yX6_least : MethodName := ⟨RX6, "least", "(I)I"⟩
abbrev cX6_count : ByteArray := prog_8_method_70_code
def yX6_count : MethodName := ⟨RX6, "count", "(I)I"⟩
def RJ6 : String := "java/lang/Integer"
def TJ6 : u_T := fun k => match k with
  | _ => ("", "", "", false)
def tyJ6 : Nat → FieldType := fun k => match k with
  | _ => .int
abbrev wsJ60 : List Cond := u_ws RJ6 TJ6 0
theorem nmJ6 : ∀ a, a < 0 → ∀ b, b < 0 → a ≠ b → (TJ6 a).2.1 ≠ (TJ6 b).2.1 := by decide +kernel
theorem tyJ6_ok : ∀ k, k < 0 → parseFieldDescriptor (TJ6 k).2.2.1 = some (tyJ6 k) := by decide +kernel
abbrev cJ6_bitCount_0f7a4 : ByteArray := prog_9_method_49_code
def yJ6_bitCount_0f7a4 : MethodName := ⟨RJ6, "bitCount", "(I)I"⟩
def RJ9 : String := "java/lang/Math"
def TJ9 : u_T := fun k => match k with
  | _ => ("", "", "", false)
def tyJ9 : Nat → FieldType := fun k => match k with
  | _ => .int
abbrev wsJ90 : List Cond := u_ws RJ9 TJ9 0
theorem nmJ9 : ∀ a, a < 0 → ∀ b, b < 0 → a ≠ b → (TJ9 a).2.1 ≠ (TJ9 b).2.1 := by decide +kernel
theorem tyJ9_ok : ∀ k, k < 0 → parseFieldDescriptor (TJ9 k).2.2.1 = some (tyJ9 k) := by decide +kernel
abbrev cJ9_min_7cf53 : ByteArray := prog_10_method_69_code
def yJ9_min_7cf53 : MethodName := ⟨RJ9, "min", "(II)I"⟩
def RJ0 : String := "java/lang/String"
def TJ0 : u_T := fun k => match k with
  | _ => ("", "", "", false)
def tyJ0 : Nat → FieldType := fun k => match k with
  | _ => .int
abbrev wsJ00 : List Cond := u_ws RJ0 TJ0 0
theorem nmJ0 : ∀ a, a < 0 → ∀ b, b < 0 → a ≠ b → (TJ0 a).2.1 ≠ (TJ0 b).2.1 := by decide +kernel
theorem tyJ0_ok : ∀ k, k < 0 → parseFieldDescriptor (TJ0 k).2.2.1 = some (tyJ0 k) := by decide +kernel
abbrev cJ0_length_8abf5 : ByteArray := prog_11_method_54_code
def yJ0_length_8abf5 : MethodName := ⟨RJ0, "length", "()I"⟩
abbrev cJ0_charAt_5068e : ByteArray := prog_11_method_56_code
def yJ0_charAt_5068e : MethodName := ⟨RJ0, "charAt", "(I)C"⟩
abbrev cJ0_coder_7d493 : ByteArray := prog_11_method_152_code
def yJ0_coder_7d493 : MethodName := ⟨RJ0, "coder", "()B"⟩
abbrev cJ0_isLatin1_aae02 : ByteArray := prog_11_method_154_code
def yJ0_isLatin1_aae02 : MethodName := ⟨RJ0, "isLatin1", "()Z"⟩
abbrev cJ0_checkIndex_df160 : ByteArray := prog_11_method_155_code
def yJ0_checkIndex_df160 : MethodName := ⟨RJ0, "checkIndex", "(II)V"⟩
def RJ1 : String := "java/lang/StringLatin1"
def TJ1 : u_T := fun k => match k with
  | _ => ("", "", "", false)
def tyJ1 : Nat → FieldType := fun k => match k with
  | _ => .int
abbrev wsJ10 : List Cond := u_ws RJ1 TJ1 0
theorem nmJ1 : ∀ a, a < 0 → ∀ b, b < 0 → a ≠ b → (TJ1 a).2.1 ≠ (TJ1 b).2.1 := by decide +kernel
theorem tyJ1_ok : ∀ k, k < 0 → parseFieldDescriptor (TJ1 k).2.2.1 = some (tyJ1 k) := by decide +kernel
abbrev cJ1_charAt_3b067 : ByteArray := prog_12_method_2_code
def yJ1_charAt_3b067 : MethodName := ⟨RJ1, "charAt", "([BI)C"⟩
def RJ2 : String := "java/lang/StringUTF16"
def TJ2 : u_T := fun k => match k with
  | _ => ("", "", "", false)
def tyJ2 : Nat → FieldType := fun k => match k with
  | _ => .int
abbrev wsJ20 : List Cond := u_ws RJ2 TJ2 0
theorem nmJ2 : ∀ a, a < 0 → ∀ b, b < 0 → a ≠ b → (TJ2 a).2.1 ≠ (TJ2 b).2.1 := by decide +kernel
theorem tyJ2_ok : ∀ k, k < 0 → parseFieldDescriptor (TJ2 k).2.2.1 = some (tyJ2 k) := by decide +kernel
abbrev cJ2_getChar_3b067 : ByteArray := prog_13_method_5_code
def yJ2_getChar_3b067 : MethodName := ⟨RJ2, "getChar", "([BI)C"⟩
abbrev cJ2_length_9d52b : ByteArray := prog_13_method_6_code
def yJ2_length_9d52b : MethodName := ⟨RJ2, "length", "([B)I"⟩
abbrev cJ2_charAt_3b067 : ByteArray := prog_13_method_83_code
def yJ2_charAt_3b067 : MethodName := ⟨RJ2, "charAt", "([BI)C"⟩
abbrev cJ2_checkIndex_2214a : ByteArray := prog_13_method_91_code
def yJ2_checkIndex_2214a : MethodName := ⟨RJ2, "checkIndex", "(I[B)V"⟩
def RJ10 : String := "java/lang/System"
def TJ10 : u_T := fun k => match k with
  | _ => ("", "", "", false)
def tyJ10 : Nat → FieldType := fun k => match k with
  | _ => .int
abbrev wsJ100 : List Cond := u_ws RJ10 TJ10 0
theorem nmJ10 : ∀ a, a < 0 → ∀ b, b < 0 → a ≠ b → (TJ10 a).2.1 ≠ (TJ10 b).2.1 := by decide +kernel
theorem tyJ10_ok : ∀ k, k < 0 → parseFieldDescriptor (TJ10 k).2.2.1 = some (tyJ10 k) := by decide +kernel
def RJ3 : String := "jdk/internal/util/Preconditions"
def TJ3 : u_T := fun k => match k with
  | _ => ("", "", "", false)
def tyJ3 : Nat → FieldType := fun k => match k with
  | _ => .int
abbrev wsJ30 : List Cond := u_ws RJ3 TJ3 0
theorem nmJ3 : ∀ a, a < 0 → ∀ b, b < 0 → a ≠ b → (TJ3 a).2.1 ≠ (TJ3 b).2.1 := by decide +kernel
theorem tyJ3_ok : ∀ k, k < 0 → parseFieldDescriptor (TJ3 k).2.2.1 = some (tyJ3 k) := by decide +kernel
abbrev cJ3_checkIndex_8e157 : ByteArray := prog_15_method_11_code
def yJ3_checkIndex_8e157 : MethodName := ⟨RJ3, "checkIndex", "(IILjava/util/function/BiFunction;)I"⟩
def RL : String := "OneHingeLaw"
abbrev cL_law : ByteArray := code
def yL_law : MethodName := ⟨RL, "law", "([I)Z"⟩
abbrev vwCl : List vw_C := [(RX0, TX0, 4), (RX1, TX1, 8), (RX2, TX2, 7), (RX3, TX3, 3), (RX4, TX4, 7), (RX5, TX5, 8), (RX6, TX6, 26)]
end
section
/-! THE CORE: a small machine over one flat world. A reference is a pair (kind, which); the world D gives each cell's ints; what a cell is (its class, which fields are references and to what) never changes once all is made, and is told by 'sh'. -/
abbrev Id2 : Type := Nat × Nat
abbrev AV : Type := Int32 ⊕ (Int64 ⊕ (Nat × Nat))
abbrev Wd : Type := Nat × Nat → Nat → Int32
/-- a method: its name, its code, its locals, what it returns -/
abbrev Mt : Type := MethodName × ByteArray × Nat × Option FieldType
abbrev vi (x : Int32) : AV := Sum.inl x
abbrev vl (x : Int64) : AV := Sum.inr (Sum.inl x)
abbrev vr (i : Id2) : AV := Sum.inr (Sum.inr i)
def cv (ad : Id2 → Nat) (v : AV) : Value := match v with
  | .inl x => .int x
  | .inr (.inl x) => .long x
  | .inr (.inr i) => .ref (ad i)
def isL (v : AV) : Bool := match v with
  | .inr (.inl _) => true
  | _ => false
theorem cv_cat (ad : Id2 → Nat) (v : AV) : (cv ad v).category = if isL v then 2 else 1 := by
  rcases v with x | x | x <;> rfl
def upA (D : Wd) (i : Id2) (f : Nat → Int32) : Wd := fun j => if j = i then f else D j
theorem upA_s (D : Wd) (i : Id2) (f : Nat → Int32) : upA D i f i = f := by simp [upA]
theorem upA_n (D : Wd) {i j : Id2} (f : Nat → Int32) (h : j ≠ i) : upA D i f j = D j := by simp [upA, h]
/-- an object: its class's number, its fields (none: an int; some j: the cell j); an array: its type's number, its length, what it refers to (none: ints) -/
abbrev Sh : Type := (Nat × List (Option Id2)) ⊕ (Nat × Nat × Option (Nat → Id2))
def sh (i : Id2) : Sh := match i.1 with
  | 0 => .inl (5, [some (1, 0), some (7, 0), some (9, 0), some (9, 1), some (12, 0), some (13, 0), some (14, 0), some (18, 0)])
  | 1 => .inl (1, [none, some (2, i.2), some (3, i.2), some (4, i.2), none, some (5, i.2), none, some (6, i.2)])
  | 2 => .inr (0, 8, none)
  | 3 => .inr (0, 8, none)
  | 4 => .inr (0, 8, none)
  | 5 => .inr (0, 3, none)
  | 6 => .inr (0, 5, none)
  | 7 => .inl (4, [some (8, 0), none, some (1, 1), none, none, none, none])
  | 8 => .inr (1, 200, none)
  | 9 => .inl (0, [some (1, 0), some (10, i.2), some (11, i.2), none])
  | 10 => .inr (0, 8, none)
  | 11 => .inr (0, 5, none)
  | 12 => .inr (3, 2, some (fun q => (9, q + 2)))
  | 13 => .inr (2, 2, none)
  | 14 => .inl (2, [some (1, 0), some (15, 0), some (9, 4), some (16, 0), some (17, 0), none, none])
  | 15 => .inr (3, 6, some (fun q => (9, q + 5)))
  | 16 => .inr (0, 5, none)
  | 17 => .inr (0, 5, none)
  | 18 => .inl (3, [some (19, 0), some (20, 0), none])
  | 19 => .inr (0, 8, none)
  | 20 => .inr (0, 8, none)
  | 30 => .inl (6, [some (31, 0), some (32, 0), some (33, 0), none, some (34, 0), none, none, some (35, 0), some (36, 0), some (37, 0), none, none, none, none, none, none, some (38, 0), some (39, 0), some (40, 0), none, none, some (41, 0), none, some (42, 0), some (43, 0), none])
  | 31 => .inr (0, 70, none)
  | 32 => .inr (2, 2, none)
  | 33 => .inr (0, 200, none)
  | 34 => .inr (0, 36, none)
  | 35 => .inr (0, 8, none)
  | 36 => .inr (0, 8, none)
  | 37 => .inr (0, 3, none)
  | 38 => .inr (0, 8, none)
  | 39 => .inr (0, 8, none)
  | 40 => .inr (0, 3, none)
  | 41 => .inr (0, 5, none)
  | 42 => .inr (0, 8, none)
  | 43 => .inr (0, 16, none)
  | _ => .inr (0, 0, none)
abbrev idsX : List Id2 := [(0, 0), (1, 0), (2, 0), (3, 0), (4, 0), (5, 0), (6, 0), (7, 0), (8, 0), (1, 1), (2, 1), (3, 1), (4, 1), (5, 1), (6, 1), (9, 0), (10, 0), (11, 0), (9, 1), (10, 1), (11, 1), (12, 0), (13, 0), (14, 0), (15, 0), (16, 0), (17, 0), (9, 4), (10, 4), (11, 4), (9, 5), (10, 5), (11, 5), (9, 6), (10, 6), (11, 6), (9, 7), (10, 7), (11, 7), (9, 8), (10, 8), (11, 8), (9, 9), (10, 9), (11, 9), (9, 10), (10, 10), (11, 10), (18, 0), (19, 0), (20, 0), (9, 2), (10, 2), (11, 2), (9, 3), (10, 3), (11, 3)]
abbrev idsM : List Id2 := [(30, 0), (31, 0), (32, 0), (33, 0), (34, 0), (35, 0), (36, 0), (37, 0), (38, 0), (39, 0), (40, 0), (41, 0), (42, 0), (43, 0)]
def fv (ad : Id2 → Nat) (w : Nat → Int32) (k : Nat) (f : Option Id2) : Value := match f with
  | none => .int (w k)
  | some j => .ref (ad j)
def ce (ad : Id2 → Nat) (dT : Nat → ClassId) (w : Nat → Int32) (i : Id2) : va_E := match sh i with
  | .inl (ci, fs) => .inr (ci, fs.mapIdx (fv ad w))
  | .inr (t, n, none) => .inl (dT t, n, .inl w)
  | .inr (t, n, some g) => .inl (dT t, n, .inr (.inr (.inr (.inr (fun q => some (ad (g q)))))))
def cw (ad : Id2 → Nat) (dT : Nat → ClassId) (ids : List Id2) (D : Wd) : va_W := ids.map (fun i => (ad i, ce ad dT (D i) i))
def aA (ad : Id2 → Nat) (ids : List Id2) : Nat → Prop := fun q => ∃ i ∈ ids, ad i = q
abbrev tyL (dT : Nat → ClassId) : List (ClassId × FieldType) := [(dT 0, .int), (dT 1, .byte), (dT 2, .boolean), (dT 3, .object "OneHinge$House")]
theorem cw_at {ad : Id2 → Nat} {dT : Nat → ClassId} {ids : List Id2} {D : Wd} {q : Nat} {i : Id2} (h : ids[q]? = some i) : (cw ad dT ids D)[q]? = some (ad i, ce ad dT (D i) i) := by
  simp [cw, h]
theorem cw_in {ids : List Id2} {i : Id2} (h : i ∈ ids) : ∃ q : Nat, ids[q]? = some i := List.getElem?_of_mem h
theorem cw_one {ad : Id2 → Nat} {dT : Nat → ClassId} {ids : List Id2} {D : Wd} {A : Nat → Prop} (hD : va_D A (cw ad dT ids D)) {q r : Nat} {i : Id2} (hq : ids[q]? = some i) (hr : ids[r]? = some i) : r = q :=
  hD.1 r q _ _ (cw_at hr) (cw_at hq) rfl
theorem cw_set {ad : Id2 → Nat} {dT : Nat → ClassId} {ids : List Id2} {D : Wd} {A : Nat → Prop} (hD : va_D A (cw ad dT ids D)) {q : Nat} {i : Id2} (hq : ids[q]? = some i) (f : Nat → Int32) : (cw ad dT ids D).set q (ad i, ce ad dT f i) = cw ad dT ids (upA D i f) := by
  apply List.ext_getElem?
  intro r
  by_cases h : q = r
  · subst h
    have hl : q < (cw ad dT ids D).length := (List.getElem?_eq_some_iff.mp (cw_at (ad := ad) (dT := dT) (D := D) hq)).1
    rw [List.getElem?_set_self hl, cw_at hq, upA_s]
  · rw [List.getElem?_set_ne h]
    cases hr : ids[r]? with
    | none => simp [cw, hr]
    | some j =>
      have hj : j ≠ i := fun e => h (cw_one hD (e ▸ hr) hq)
      rw [cw_at hr, cw_at hr, upA_n D f hj]
theorem cf_set {ad : Id2 → Nat} {w : Nat → Int32} {fs : List (Option Id2)} {k : Nat} (x : Int32) (h : fs[k]? = some none) : (fs.mapIdx (fv ad w)).set k (.int x) = fs.mapIdx (fv ad (upd w k x)) := by
  apply List.ext_getElem?
  intro r
  have hl : k < (fs.mapIdx (fv ad w)).length := by
    rw [List.length_mapIdx]; exact (List.getElem?_eq_some_iff.mp h).1
  by_cases e : k = r
  · subst e
    rw [List.getElem?_set_self hl, List.getElem?_mapIdx, h]
    simp [fv, upd]
  · rw [List.getElem?_set_ne e, List.getElem?_mapIdx, List.getElem?_mapIdx]
    cases hr : fs[r]? with
    | none => rfl
    | some f =>
      cases f with
      | none => simp [fv, upd, Ne.symm e]
      | some j => rfl
theorem cw_D {ad : Id2 → Nat} {dT : Nat → ClassId} {ids : List Id2} {D D2 : Wd} {A : Nat → Prop} (h : va_D A (cw ad dT ids D)) : va_D A (cw ad dT ids D2) := by
  have key : ∀ (k : Nat) (q : Nat × va_E), (cw ad dT ids D2)[k]? = some q → ∃ q0, (cw ad dT ids D)[k]? = some q0 ∧ q0.1 = q.1 := by
    intro k q hk
    cases hr : ids[k]? with
    | none => simp [cw, hr] at hk
    | some j =>
      rw [cw_at hr] at hk
      cases hk
      exact ⟨_, cw_at hr, rfl⟩
  refine ⟨fun i j x y hi hj hxy => ?_, fun k q hk => ?_⟩
  · obtain ⟨x0, h1, h2⟩ := key i x hi
    obtain ⟨y0, h3, h4⟩ := key j y hj
    exact h.1 i j x0 y0 h1 h3 (h2.trans (hxy.trans h4.symm))
  · obtain ⟨q0, h1, h2⟩ := key k q hk
    rw [← h2]
    exact h.2 k q0 h1
/-! what lies outside the world, and is only read: the table of kinds, the ten words -/
def tkF (j : Nat) : Int32 := match j with
  | 0 => 3
  | 1 => 7
  | 2 => 9
  | _ => 25
abbrev sIx : List Nat := [140, 142, 144, 146, 148, 150, 152, 154, 155, 157]
abbrev sTx : List String := ["house", "leaf", "plain", "sprung", "heavy", "fixed", "put", "door", "person", "empty"]
abbrev sLn : List Nat := [5, 4, 5, 6, 5, 5, 3, 4, 6, 5]
abbrev sBy : List (List Int32) := [[104, 111, 117, 115, 101], [108, 101, 97, 102], [112, 108, 97, 105, 110], [115, 112, 114, 117, 110, 103], [104, 101, 97, 118, 121], [102, 105, 120, 101, 100], [112, 117, 116], [100, 111, 111, 114], [112, 101, 114, 115, 111, 110], [101, 109, 112, 116, 121]]
/-- links to private members of nest mates (they stay, but by another law than the tables' other words) -/
abbrev nwM : List (String × Nat × MethodName × String) := [(RX1, 53, yX5_between, RX5), (RX0, 42, yX5_between, RX5), (RX5, 161, yX2_visit, RX5), (RX3, 26, yX5_between, RX5)]
abbrev nwF : List (String × Nat × String × String × String × String) := [(RX1, 50, RX5, "TAKEN_AS", "[I", RX5)]
def Nst (U : State) : Prop := (∀ q ∈ nwM, va_Nw (.methodLinkNest q.1 q.2.1 q.2.2.1 q.2.2.2) U) ∧ ∀ q ∈ nwF, va_Nw (.fieldLinkNest q.1 q.2.1 q.2.2.1 q.2.2.2.1 q.2.2.2.2.1 q.2.2.2.2.2) U
theorem Nst.warm {s U : State} (hW : s.WarmedH U.vm) (h : Nst s) : Nst U := ⟨fun q hq => (h.1 q hq).warmM hW, fun q hq => (h.2 q hq).warmF hW⟩
theorem Nst.same {s U : State} (hv : s.vm = U.vm) (h : Nst s) : Nst U := ⟨fun q hq => (h.1 q hq).same rfl hv, fun q hq => (h.2 q hq).same rfl hv⟩
def Ext (ad : Id2 → Nat) (A : Nat → Prop) (U : State) (H : Heap) : Prop :=
  va_Z "OneHinge" "TAKEN_AS" "[I" (.ref (ad (91, 0))) A U H ∧ va_T .int (ad (91, 0)) 4 (fun j => .int (tkF j)) A U H ∧ va_Z "java/lang/String" "COMPACT_STRINGS" "Z" (.int 1) A U H ∧
  vk_S 10 sLn sBy (fun i => ad (90, i)) (fun i => ad (92, i)) A U H ∧ (∀ i : Nat, i < 10 → vk_R "OneHinge$Text" (sIx.getD i 0) (sTx.getD i "") (ad (90, i)) U) ∧ Nst U
theorem Ext.warm {ad : Id2 → Nat} {A : Nat → Prop} {s U : State} {H : Heap} (hW : s.WarmedH U.vm) (hq : ∀ a : Nat, a < s.heap.size → ¬ A a → H[a]? = s.heap[a]?) (h : Ext ad A s s.heap) : Ext ad A U H :=
  ⟨(h.1.kept hq).moved hW.alike, (h.2.1.kept hq).moved hW.alike, (h.2.2.1.kept hq).moved hW.alike, (h.2.2.2.1.kept hq).moved hW.alike, fun i hi => (h.2.2.2.2.1 i hi).warm hW, h.2.2.2.2.2.warm hW⟩
theorem Ext.calling {ad : Id2 → Nat} {A : Nat → Prop} {U : State} {g : JFrame} {mk : MethodId} {a : Array Value} (h : Ext ad A U U.heap) : Ext ad A (U.calling g mk a) (U.calling g mk a).heap :=
  ⟨h.1.moved (u := U) (Vm.Alike.refl U.vm), h.2.1.moved (u := U) (Vm.Alike.refl U.vm), h.2.2.1.moved (u := U) (Vm.Alike.refl U.vm), h.2.2.2.1.moved (u := U) (Vm.Alike.refl U.vm), fun i hi => (h.2.2.2.2.1 i hi).same (u := U) rfl, h.2.2.2.2.2.same rfl⟩
/-! locals, by their places -/
abbrev Lc : Type := List (Option AV)
def lvO (ad : Id2 → Nat) : Nat → Lc → List (Nat × Value)
  | _, [] => []
  | k, none :: r => lvO ad (k + 1) r
  | k, some v :: r => (k, cv ad v) :: lvO ad (k + 1) r
theorem lvO_mem (ad : Id2 → Nat) : ∀ (L : Lc) (k : Nat) (q : Nat × Value), q ∈ lvO ad k L ↔ ∃ (j : Nat) (v : AV), L[j]? = some (some v) ∧ q = (k + j, cv ad v)
  | [], k, q => by simp [lvO]
  | none :: r, k, q => by
    rw [lvO, lvO_mem ad r (k + 1) q]
    constructor
    · rintro ⟨j, v, h1, h2⟩
      exact ⟨j + 1, v, by simpa using h1, by rw [h2]; congr 1; omega⟩
    · rintro ⟨j, v, h1, h2⟩
      cases j with
      | zero => simp at h1
      | succ j => exact ⟨j, v, by simpa using h1, by rw [h2]; congr 1; omega⟩
  | some v :: r, k, q => by
    rw [lvO, List.mem_cons, lvO_mem ad r (k + 1) q]
    constructor
    · rintro (h | ⟨j, v', h1, h2⟩)
      · exact ⟨0, v, rfl, by rw [h]; rfl⟩
      · exact ⟨j + 1, v', by simpa using h1, by rw [h2]; congr 1; omega⟩
    · rintro ⟨j, v', h1, h2⟩
      cases j with
      | zero =>
        have e : v = v' := by simpa using h1
        subst e
        exact Or.inl h2
      | succ j => exact Or.inr ⟨j, v', by simpa using h1, by rw [h2]; congr 1; omega⟩
def Lr (ad : Id2 → Nat) (ls : Array Slot) (nL : Nat) (L : Lc) : Prop := ls.size = nL ∧ lv_wf ls ∧ ∀ (i : Nat) (v : AV), L[i]? = some (some v) → ls[i]? = some (.val (cv ad v))
theorem Lr.has {ad : Id2 → Nat} {ls : Array Slot} {nL : Nat} {L : Lc} (h : Lr ad ls nL L) : lv_has ls nL (lvO ad 0 L) := by
  refine ⟨h.1, h.2.1, fun q hq => ?_⟩
  obtain ⟨j, v, h1, rfl⟩ := (lvO_mem ad L 0 q).mp hq
  simpa using h.2.2 j v h1
theorem Lr.of {ad : Id2 → Nat} {ls : Array Slot} {nL : Nat} {L : Lc} (h : lv_has ls nL (lvO ad 0 L)) : Lr ad ls nL L :=
  ⟨h.1, h.2.1, fun i v hv => h.2.2 (i, cv ad v) ((lvO_mem ad L 0 _).mpr ⟨i, v, hv, by simp⟩)⟩
/-- no long stands just ahead of the place -/
def nlb (L : Lc) (i : Nat) : Bool := match i with
  | 0 => true
  | k + 1 => match L[k]? with
    | some (some v) => !isL v
    | _ => true
theorem Lr.set {ad : Id2 → Nat} {ls' : Array Slot} {nL i : Nat} {L : Lc} {v : AV} (hn : nlb L i = true) (h : lv_has ls' nL ((i, cv ad v) :: (lvO ad 0 L).filter (fun q => !(q.1 == i) && !(q.1 + 1 == i && q.2.category == 2)))) : Lr ad ls' nL (L.set i (some v)) := by
  refine ⟨h.1, h.2.1, fun j u hj => ?_⟩
  by_cases e : i = j
  · subst e
    have hu : u = v := by
      by_cases hl : i < L.length
      · rw [List.getElem?_set_self hl] at hj
        exact (Option.some.inj (Option.some.inj hj)).symm
      · rw [List.getElem?_eq_none (by simp; omega)] at hj
        cases hj
    subst hu
    exact h.2.2 _ List.mem_cons_self
  · rw [List.getElem?_set_ne e] at hj
    refine h.2.2 (j, cv ad u) (List.mem_cons_of_mem _ (List.mem_filter.mpr ⟨(lvO_mem ad L 0 _).mpr ⟨j, u, hj, by simp⟩, ?_⟩))
    have h1 : ¬ j = i := fun z => e z.symm
    by_cases h2 : j + 1 = i
    · subst h2
      have h3 : isL u = false := by
        simp only [nlb, hj] at hn
        simpa using hn
      simp [cv_cat, h3]
    · simp [h1, h2]
/-! the tables' words that stay -/
def TB : List Cond := lw_tbl.filter goodWord
theorem TB_good : ∀ w ∈ TB, goodWord w = true := fun w h => (List.mem_filter.mp h).2
theorem TB_in : ∀ w ∈ TB, w ∈ lw_tbl := fun w h => (List.mem_filter.mp h).1
theorem tb_of {w : Cond} (i : Nat) (h : tables_1[i]? = some w) (hg : goodWord w = true) : w ∈ TB := List.mem_filter.mpr ⟨List.mem_append_right _ (List.mem_of_getElem? h), hg⟩
theorem tb_sel {w : Cond} (i : Nat) (h : (k2_sels lw_privs)[i]? = some w) (hg : goodWord w = true) : w ∈ TB := List.mem_filter.mpr ⟨List.mem_append_left _ (List.mem_of_getElem? h), hg⟩
/-- the words with which a method is begun -/
def wM (M : Mt) : List Cond := .code M.1 M.2.1 M.2.2.1 M.2.2.2 :: TB
theorem wM_good {M : Mt} (h : Cond.code M.1 M.2.1 M.2.2.1 M.2.2.2 ∈ TB) : GoodIn TB (wM M) := by
  intro w hw
  rcases List.mem_cons.mp hw with rfl | hw
  · exact ⟨h, good_of_word (TB_good _ h)⟩
  · exact ⟨hw, good_of_word (TB_good _ hw)⟩
def rmD (d : Nat) : Room := { frames := d, cells := 0, slots := 0, locals := 40 * d }
def Px (G : va_G) (dT : Nat → ClassId) (ad : Id2 → Nat) (ids : List Id2) (D : Wd) (U : State) : Prop :=
  va_P G vwCl (cw ad dT ids D) U.heap ∧ va_D (aA ad ids) (cw ad dT ids D) ∧ va_K G vwCl (tyL dT) U ∧ Ext ad (aA ad ids) U U.heap
def Qx (G : va_G) (dT : Nat → ClassId) (ad : Id2 → Nat) (ids : List Id2) (post : Option AV → Wd → Prop) : Array Value → State → Outcome → State → Prop := fun _ st oc t =>
  (∃ (r : Option AV) (D : Wd), oc = .returned (r.map (cv ad)) ∧ post r D ∧ va_P G vwCl (cw ad dT ids D) t.heap) ∧ va_F (aA ad ids) st t
/-- THE CONTRACT of a method: with these arguments, on this world, it returns, and what it answers and the world then are as 'post' says; at most d frames deep -/
def Mok (M : Mt) (ids : List Id2) (d : Nat) (av : List AV) (D : Wd) (post : Option AV → Wd → Prop) : Prop :=
  ∀ (l : Launch) (G : va_G) (dT : Nat → ClassId) (ad : Id2 → Nat), Met l M.1 (wM M) (rmD d) (va_Pc (av.map (cv ad)) (Px G dT ad ids D)) (Qx G dT ad ids post) 0 0 (aA ad ids)
theorem Mok.imp {M : Mt} {ids : List Id2} {d : Nat} {av : List AV} {D : Wd} {post post' : Option AV → Wd → Prop} (h : Mok M ids d av D post) (hp : ∀ r D', post r D' → post' r D') : Mok M ids d av D post' := by
  intro l G dT ad p e a b c s m args below f1 f2 f3 f4
  obtain ⟨n, o, x1, x2, x3, ⟨⟨r, D', q1, q2, q3⟩, y2⟩, z⟩ := h l G dT ad p e a b c s m args below f1 f2 f3 f4
  exact ⟨n, o, x1, x2, x3, ⟨⟨r, D', q1, hp _ _ q2, q3⟩, y2⟩, z⟩
end
section
/-! THE ROWS: one for each kind of instruction, over the small machine -/
/-- all of a walk that doesn't move: worlds' tables, addresses, program, launch, .. , room, state at the entry, .. , cells and slots so far, the end that is sought -/
abbrev Cxt : Type := va_G × (Nat → ClassId) × (Id2 → Nat) × Program × Launch × Env × Room × State × MethodId × Array Value × List Frame × Method × Code × Nat × Nat × (State → Prop)
abbrev xG (X : Cxt) : va_G := X.1
abbrev xT (X : Cxt) : Nat → ClassId := X.2.1
abbrev xa (X : Cxt) : Id2 → Nat := X.2.2.1
abbrev xp (X : Cxt) : Program := X.2.2.2.1
abbrev xl (X : Cxt) : Launch := X.2.2.2.2.1
abbrev xe (X : Cxt) : Env := X.2.2.2.2.2.1
abbrev xR (X : Cxt) : Room := X.2.2.2.2.2.2.1
abbrev xs (X : Cxt) : State := X.2.2.2.2.2.2.2.1
abbrev xm (X : Cxt) : MethodId := X.2.2.2.2.2.2.2.2.1
abbrev xv (X : Cxt) : Array Value := X.2.2.2.2.2.2.2.2.2.1
abbrev xb (X : Cxt) : List Frame := X.2.2.2.2.2.2.2.2.2.2.1
abbrev xh (X : Cxt) : Method := X.2.2.2.2.2.2.2.2.2.2.2.1
abbrev xc (X : Cxt) : Code := X.2.2.2.2.2.2.2.2.2.2.2.2.1
abbrev xk (X : Cxt) : Nat := X.2.2.2.2.2.2.2.2.2.2.2.2.2.1
abbrev xn (X : Cxt) : Nat := X.2.2.2.2.2.2.2.2.2.2.2.2.2.2.1
abbrev xQ (X : Cxt) : State → Prop := X.2.2.2.2.2.2.2.2.2.2.2.2.2.2.2
def Cx (X : Cxt) (M : Mt) (ids : List Id2) (d : Nat) : Prop :=
  (xp X).tables.exec = Jvm.exec ∧ (xc X).code = M.2.1 ∧ (xc X).maxLocals = M.2.2.1 ∧ (xh X).sig.returnType = M.2.2.2 ∧ (xh X).locks = false ∧ (xs X).vm.findClass M.1.cls = some (xm X).cls ∧ (∀ w ∈ TB, w.before (xv X) (xs X) = true) ∧ va_K (xG X) vwCl (tyL (xT X)) (xs X) ∧ Ext (xa X) (aA (xa X) ids) (xs X) (xs X).heap ∧ d ≤ (xR X).frames ∧ 40 * d ≤ (xR X).locals ∧ xk X ≤ (xR X).cells ∧ xn X ≤ (xR X).slots
def Hx (X : Cxt) (ids : List Id2) (H : Heap) (locs : List Loc) (D : Wd) : Prop :=
  va_P (xG X) vwCl (cw (xa X) (xT X) ids D) H ∧ va_D (aA (xa X) ids) (cw (xa X) (xT X) ids D) ∧ va_S (aA (xa X) ids) (xs X).heap H locs
/-- from this place of the method, with these locals, this stack and this world, the walk comes to its end -/
def Gk (X : Cxt) (M : Mt) (ids : List Id2) (pc : Nat) (L : Lc) (st : List AV) (D : Wd) : Prop :=
  ∀ (H : Heap) (locs : List Loc) (ls : Array Slot), Hx X ids H locs D → Lr (xa X) ls M.2.2.1 L →
    W (xp X) (xl X) (xe X) (xR X) (xs X) (xm X) (xv X) (xb X) (xh X) (xc X) H locs (xk X) (xn X) (xQ X) (F0 (xm X) pc ls (st.map (cv (xa X))))
/-- the end that a contract seeks -/
def Rq (X : Cxt) (ids : List Id2) (post : Option AV → Wd → Prop) : Prop :=
  xk X = 0 ∧ xn X = 0 ∧ xQ X = MQ (xb X) (Qx (xG X) (xT X) (xa X) ids post) (xv X) (xs X) 0 0 (aA (xa X) ids)
section ROWS
variable {X : Cxt} {M : Mt} {ids : List Id2} {d pc : Nat} {L : Lc} {st : List AV} {D : Wd}
theorem Gk.eq {pc' : Nat} {L' : Lc} {st' : List AV} {D' : Wd} (k : Gk X M ids pc' L' st' D') (h1 : pc = pc') (h2 : L = L') (h3 : st = st') (h4 : D = D') : Gk X M ids pc L st D := by subst h1 h2 h3 h4; exact k
theorem g_iconst {n : Int} {v : Int32} (cx : Cx X M ids d) (hd : decode M.2.1 pc = .ok (.iconst n, 1)) (hv : Int32.ofInt n = v) (k : Gk X M ids (pc + 1) L (vi v :: st) D) : Gk X M ids pc L st D :=
  fun H locs ls hH hL => lv_iconst cx.1 cx.2.1 hd hv (k H locs ls hH hL)
theorem g_bipush {n : Int} {v : Int32} (cx : Cx X M ids d) (hd : decode M.2.1 pc = .ok (.bipush n, 2)) (hv : (Int8.ofInt n).toInt32 = v) (k : Gk X M ids (pc + 2) L (vi v :: st) D) : Gk X M ids pc L st D :=
  fun H locs ls hH hL => lv_bipush cx.1 cx.2.1 hd hv (k H locs ls hH hL)
theorem g_sipush {n : Int} {v : Int32} (cx : Cx X M ids d) (hd : decode M.2.1 pc = .ok (.sipush n, 3)) (hv : (Int16.ofInt n).toInt32 = v) (k : Gk X M ids (pc + 3) L (vi v :: st) D) : Gk X M ids pc L st D :=
  fun H locs ls hH hL => lv_sipush cx.1 cx.2.1 hd hv (k H locs ls hH hL)
theorem g_lconst {n : Fin 2} {v : Int64} (cx : Cx X M ids d) (hd : decode M.2.1 pc = .ok (.lconst n, 1)) (hv : Int64.ofNat (n : Nat) = v) (k : Gk X M ids (pc + 1) L (vl v :: st) D) : Gk X M ids pc L st D :=
  fun H locs ls hH hL => lv_lconst cx.1 cx.2.1 hd hv (k H locs ls hH hL)
theorem g_ldc {ix : Nat} {v : Int32} (cx : Cx X M ids d) (hw : Cond.constant M.1.cls ix v ∈ TB) (hd : decode M.2.1 pc = .ok (.ldc ix, 2)) (k : Gk X M ids (pc + 2) L (vi v :: st) D) : Gk X M ids pc L st D :=
  fun H locs ls hH hL => lv_ldc cx.1 cx.2.1 cx.2.2.2.2.2.1 (cx.2.2.2.2.2.2.1 _ hw) hd (k H locs ls hH hL)
theorem g_ldcw {ix : Nat} {v : Int32} (cx : Cx X M ids d) (hw : Cond.constant M.1.cls ix v ∈ TB) (hd : decode M.2.1 pc = .ok (.ldc_w ix, 3)) (k : Gk X M ids (pc + 3) L (vi v :: st) D) : Gk X M ids pc L st D :=
  fun H locs ls hH hL => lv_ldcw cx.1 cx.2.1 cx.2.2.2.2.2.1 (cx.2.2.2.2.2.2.1 _ hw) hd (k H locs ls hH hL)
theorem g_ldc2 {ix : Nat} {v : Int64} (cx : Cx X M ids d) (hw : Cond.constantLong M.1.cls ix v ∈ TB) (hd : decode M.2.1 pc = .ok (.ldc2_w ix, 3)) (k : Gk X M ids (pc + 3) L (vl v :: st) D) : Gk X M ids pc L st D :=
  fun H locs ls hH hL => lv_ldc2 cx.1 cx.2.1 cx.2.2.2.2.2.1 (cx.2.2.2.2.2.2.1 _ hw) hd (k H locs ls hH hL)
theorem g_ldcS {ix i : Nat} {v : Id2} (cx : Cx X M ids d) (hM : M.1.cls = "OneHinge$Text") (hi : i < 10) (hx : sIx.getD i 0 = ix) (hv : (90, i) = v) (hd : decode M.2.1 pc = .ok (.ldc ix, 2)) (k : Gk X M ids (pc + 2) L (vr v :: st) D) : Gk X M ids pc L st D := by
  subst hx hv
  exact fun H locs ls hH hL => va_ldcS cx.1 cx.2.1 (hM ▸ cx.2.2.2.2.2.1) (cx.2.2.2.2.2.2.2.2.1.2.2.2.2.1 i hi) hd (k H locs ls hH hL)
theorem g_iload_n {n : Fin 4} {x : Int32} (cx : Cx X M ids d) (hd : decode M.2.1 pc = .ok (.iload_n n, 1)) (hl : L[(n : Nat)]? = some (some (vi x))) (k : Gk X M ids (pc + 1) L (vi x :: st) D) : Gk X M ids pc L st D :=
  fun H locs ls hH hL => lv_iload_n cx.1 cx.2.1 hd rfl (hL.2.2 _ _ hl) (k H locs ls hH hL)
theorem g_iload {i : Nat} {x : Int32} (cx : Cx X M ids d) (hd : decode M.2.1 pc = .ok (.iload i, 2)) (hl : L[i]? = some (some (vi x))) (k : Gk X M ids (pc + 2) L (vi x :: st) D) : Gk X M ids pc L st D :=
  fun H locs ls hH hL => lv_iload cx.1 cx.2.1 hd (hL.2.2 _ _ hl) (k H locs ls hH hL)
theorem g_lload_n {n : Fin 4} {x : Int64} (cx : Cx X M ids d) (hd : decode M.2.1 pc = .ok (.lload_n n, 1)) (hl : L[(n : Nat)]? = some (some (vl x))) (k : Gk X M ids (pc + 1) L (vl x :: st) D) : Gk X M ids pc L st D :=
  fun H locs ls hH hL => lv_lload_n cx.1 cx.2.1 hd rfl (hL.2.2 _ _ hl) (k H locs ls hH hL)
theorem g_lload {i : Nat} {x : Int64} (cx : Cx X M ids d) (hd : decode M.2.1 pc = .ok (.lload i, 2)) (hl : L[i]? = some (some (vl x))) (k : Gk X M ids (pc + 2) L (vl x :: st) D) : Gk X M ids pc L st D :=
  fun H locs ls hH hL => lv_lload cx.1 cx.2.1 hd (hL.2.2 _ _ hl) (k H locs ls hH hL)
theorem g_aload_n {n : Fin 4} {x : Id2} (cx : Cx X M ids d) (hd : decode M.2.1 pc = .ok (.aload_n n, 1)) (hl : L[(n : Nat)]? = some (some (vr x))) (k : Gk X M ids (pc + 1) L (vr x :: st) D) : Gk X M ids pc L st D :=
  fun H locs ls hH hL => lv_aload_n cx.1 cx.2.1 hd rfl (hL.2.2 _ _ hl) (k H locs ls hH hL)
theorem g_aload {i : Nat} {x : Id2} (cx : Cx X M ids d) (hd : decode M.2.1 pc = .ok (.aload i, 2)) (hl : L[i]? = some (some (vr x))) (k : Gk X M ids (pc + 2) L (vr x :: st) D) : Gk X M ids pc L st D :=
  fun H locs ls hH hL => lv_aload cx.1 cx.2.1 hd (hL.2.2 _ _ hl) (k H locs ls hH hL)
theorem g_istore_n {n : Fin 4} {x : Int32} {L' : Lc} (cx : Cx X M ids d) (hd : decode M.2.1 pc = .ok (.istore_n n, 1)) (hn : (n : Nat) < M.2.2.1) (hb : nlb L (n : Nat) = true) (hl : L.set (n : Nat) (some (vi x)) = L') (k : Gk X M ids (pc + 1) L' st D) : Gk X M ids pc L (vi x :: st) D := by
  subst hl
  exact fun H locs ls hH hL => lv_istore_n cx.1 cx.2.1 hd rfl hL.has hn rfl (fun ls' h => k H locs ls' hH (Lr.set (v := vi x) hb h))
theorem g_istore {i : Nat} {x : Int32} {L' : Lc} (cx : Cx X M ids d) (hd : decode M.2.1 pc = .ok (.istore i, 2)) (hn : i < M.2.2.1) (hb : nlb L i = true) (hl : L.set i (some (vi x)) = L') (k : Gk X M ids (pc + 2) L' st D) : Gk X M ids pc L (vi x :: st) D := by
  subst hl
  exact fun H locs ls hH hL => lv_istore cx.1 cx.2.1 hd hL.has hn rfl (fun ls' h => k H locs ls' hH (Lr.set (v := vi x) hb h))
theorem g_astore_n {n : Fin 4} {x : Id2} {L' : Lc} (cx : Cx X M ids d) (hd : decode M.2.1 pc = .ok (.astore_n n, 1)) (hn : (n : Nat) < M.2.2.1) (hb : nlb L (n : Nat) = true) (hl : L.set (n : Nat) (some (vr x)) = L') (k : Gk X M ids (pc + 1) L' st D) : Gk X M ids pc L (vr x :: st) D := by
  subst hl
  exact fun H locs ls hH hL => lv_astore_n cx.1 cx.2.1 hd rfl hL.has hn rfl (fun ls' h => k H locs ls' hH (Lr.set (v := vr x) hb h))
theorem g_astore {i : Nat} {x : Id2} {L' : Lc} (cx : Cx X M ids d) (hd : decode M.2.1 pc = .ok (.astore i, 2)) (hn : i < M.2.2.1) (hb : nlb L i = true) (hl : L.set i (some (vr x)) = L') (k : Gk X M ids (pc + 2) L' st D) : Gk X M ids pc L (vr x :: st) D := by
  subst hl
  exact fun H locs ls hH hL => lv_astore cx.1 cx.2.1 hd hL.has hn rfl (fun ls' h => k H locs ls' hH (Lr.set (v := vr x) hb h))
theorem g_iinc {i : Nat} {n : Int} {x v : Int32} {L' : Lc} (cx : Cx X M ids d) (hd : decode M.2.1 pc = .ok (.iinc i n, 3)) (hi : L[i]? = some (some (vi x))) (hv : x + Int32.ofInt n = v) (hn : i < M.2.2.1) (hb : nlb L i = true) (hl : L.set i (some (vi v)) = L') (k : Gk X M ids (pc + 3) L' st D) : Gk X M ids pc L st D := by
  subst hl
  intro H locs ls hH hL
  obtain ⟨q, hq⟩ := List.getElem?_of_mem ((lvO_mem (xa X) L 0 (i, cv (xa X) (vi x))).mpr ⟨i, vi x, hi, by simp⟩)
  exact lv_iinc cx.1 cx.2.1 hd hL.has (k := q) hq hv hn rfl (fun ls' h => k H locs ls' hH (Lr.set (v := vi v) hb h))
theorem g_iadd {x y : Int32} (cx : Cx X M ids d) (hd : decode M.2.1 pc = .ok (.iadd, 1)) (k : Gk X M ids (pc + 1) L (vi (x + y) :: st) D) : Gk X M ids pc L (vi y :: vi x :: st) D :=
  fun H locs ls hH hL => lv_iadd cx.1 cx.2.1 hd (k H locs ls hH hL)
theorem g_isub {x y : Int32} (cx : Cx X M ids d) (hd : decode M.2.1 pc = .ok (.isub, 1)) (k : Gk X M ids (pc + 1) L (vi (x - y) :: st) D) : Gk X M ids pc L (vi y :: vi x :: st) D :=
  fun H locs ls hH hL => lv_isub cx.1 cx.2.1 hd (k H locs ls hH hL)
theorem g_imul {x y : Int32} (cx : Cx X M ids d) (hd : decode M.2.1 pc = .ok (.imul, 1)) (k : Gk X M ids (pc + 1) L (vi (x * y) :: st) D) : Gk X M ids pc L (vi y :: vi x :: st) D :=
  fun H locs ls hH hL => lv_imul cx.1 cx.2.1 hd (k H locs ls hH hL)
theorem g_iand {x y : Int32} (cx : Cx X M ids d) (hd : decode M.2.1 pc = .ok (.iand, 1)) (k : Gk X M ids (pc + 1) L (vi (x &&& y) :: st) D) : Gk X M ids pc L (vi y :: vi x :: st) D :=
  fun H locs ls hH hL => lv_iand cx.1 cx.2.1 hd (k H locs ls hH hL)
theorem g_ior {x y : Int32} (cx : Cx X M ids d) (hd : decode M.2.1 pc = .ok (.ior, 1)) (k : Gk X M ids (pc + 1) L (vi (x ||| y) :: st) D) : Gk X M ids pc L (vi y :: vi x :: st) D :=
  fun H locs ls hH hL => lv_ior cx.1 cx.2.1 hd (k H locs ls hH hL)
theorem g_ixor {x y : Int32} (cx : Cx X M ids d) (hd : decode M.2.1 pc = .ok (.ixor, 1)) (k : Gk X M ids (pc + 1) L (vi (x ^^^ y) :: st) D) : Gk X M ids pc L (vi y :: vi x :: st) D :=
  fun H locs ls hH hL => lv_ixor cx.1 cx.2.1 hd (k H locs ls hH hL)
theorem g_ishl {x y : Int32} (cx : Cx X M ids d) (hd : decode M.2.1 pc = .ok (.ishl, 1)) (k : Gk X M ids (pc + 1) L (vi (x <<< (y &&& 31)) :: st) D) : Gk X M ids pc L (vi y :: vi x :: st) D :=
  fun H locs ls hH hL => lv_ishl cx.1 cx.2.1 hd (k H locs ls hH hL)
theorem g_ishr {x y : Int32} (cx : Cx X M ids d) (hd : decode M.2.1 pc = .ok (.ishr, 1)) (k : Gk X M ids (pc + 1) L (vi (x >>> (y &&& 31)) :: st) D) : Gk X M ids pc L (vi y :: vi x :: st) D :=
  fun H locs ls hH hL => lv_ishr cx.1 cx.2.1 hd (k H locs ls hH hL)
theorem g_idiv {x y : Int32} (cx : Cx X M ids d) (hd : decode M.2.1 pc = .ok (.idiv, 1)) (hne : ¬ y = 0) (k : Gk X M ids (pc + 1) L (vi (x / y) :: st) D) : Gk X M ids pc L (vi y :: vi x :: st) D :=
  fun H locs ls hH hL => lv_idiv cx.1 cx.2.1 hd hne (k H locs ls hH hL)
theorem g_irem {x y : Int32} (cx : Cx X M ids d) (hd : decode M.2.1 pc = .ok (.irem, 1)) (hne : ¬ y = 0) (k : Gk X M ids (pc + 1) L (vi (x - x / y * y) :: st) D) : Gk X M ids pc L (vi y :: vi x :: st) D :=
  fun H locs ls hH hL => lv_irem cx.1 cx.2.1 hd hne (k H locs ls hH hL)
theorem g_iushr {x y : Int32} (cx : Cx X M ids d) (hd : decode M.2.1 pc = .ok (.iushr, 1)) (k : Gk X M ids (pc + 1) L (vi ((x.toUInt32 >>> (y.toUInt32 &&& Int32.toUInt32 31)).toInt32) :: st) D) : Gk X M ids pc L (vi y :: vi x :: st) D :=
  fun H locs ls hH hL => lv_iushr cx.1 cx.2.1 hd rfl (k H locs ls hH hL)
theorem g_i2b {x : Int32} (cx : Cx X M ids d) (hd : decode M.2.1 pc = .ok (.i2b, 1)) (k : Gk X M ids (pc + 1) L (vi (x.toInt8.toInt32) :: st) D) : Gk X M ids pc L (vi x :: st) D :=
  fun H locs ls hH hL => lv_i2b cx.1 cx.2.1 hd rfl (k H locs ls hH hL)
theorem g_i2c {x : Int32} (cx : Cx X M ids d) (hd : decode M.2.1 pc = .ok (.i2c, 1)) (k : Gk X M ids (pc + 1) L (vi ((x.toUInt32 % 65536).toInt32) :: st) D) : Gk X M ids pc L (vi x :: st) D :=
  fun H locs ls hH hL => lv_i2c cx.1 cx.2.1 hd rfl (k H locs ls hH hL)
theorem g_i2l {x : Int32} (cx : Cx X M ids d) (hd : decode M.2.1 pc = .ok (.i2l, 1)) (k : Gk X M ids (pc + 1) L (vl (x.toInt64) :: st) D) : Gk X M ids pc L (vi x :: st) D :=
  fun H locs ls hH hL => lv_i2l cx.1 cx.2.1 hd rfl (k H locs ls hH hL)
theorem g_l2i {x : Int64} (cx : Cx X M ids d) (hd : decode M.2.1 pc = .ok (.l2i, 1)) (k : Gk X M ids (pc + 1) L (vi x.toInt32 :: st) D) : Gk X M ids pc L (vl x :: st) D :=
  fun H locs ls hH hL => lv_l2i cx.1 cx.2.1 hd rfl (k H locs ls hH hL)
theorem g_land {x y : Int64} (cx : Cx X M ids d) (hd : decode M.2.1 pc = .ok (.land, 1)) (k : Gk X M ids (pc + 1) L (vl (x &&& y) :: st) D) : Gk X M ids pc L (vl y :: vl x :: st) D :=
  fun H locs ls hH hL => lv_land cx.1 cx.2.1 hd (k H locs ls hH hL)
theorem g_lshr {x : Int64} {y : Int32} (cx : Cx X M ids d) (hd : decode M.2.1 pc = .ok (.lshr, 1)) (k : Gk X M ids (pc + 1) L (vl (x >>> (y.toInt64 &&& 63)) :: st) D) : Gk X M ids pc L (vi y :: vl x :: st) D :=
  fun H locs ls hH hL => lv_lshr cx.1 cx.2.1 hd rfl (k H locs ls hH hL)
theorem g_lcmp {x y : Int64} (cx : Cx X M ids d) (hd : decode M.2.1 pc = .ok (.lcmp, 1)) (k : Gk X M ids (pc + 1) L (vi (lg_cmp x y) :: st) D) : Gk X M ids pc L (vl y :: vl x :: st) D :=
  fun H locs ls hH hL => W.lcmp cx.1 cx.2.1 hd (k H locs ls hH hL)
theorem g_dup {a : AV} (cx : Cx X M ids d) (hd : decode M.2.1 pc = .ok (.dup, 1)) (ha : isL a = false) (k : Gk X M ids (pc + 1) L (a :: a :: st) D) : Gk X M ids pc L (a :: st) D :=
  fun H locs ls hH hL => lv_dup cx.1 cx.2.1 hd (by rw [cv_cat, ha]; rfl) (k H locs ls hH hL)
theorem g_pop {a : AV} (cx : Cx X M ids d) (hd : decode M.2.1 pc = .ok (.pop, 1)) (ha : isL a = false) (k : Gk X M ids (pc + 1) L st D) : Gk X M ids pc L (a :: st) D :=
  fun H locs ls hH hL => lv_pop cx.1 cx.2.1 hd (by rw [cv_cat, ha]; rfl) (k H locs ls hH hL)
theorem g_dup2 {a b : AV} (cx : Cx X M ids d) (hd : decode M.2.1 pc = .ok (.dup2, 1)) (ha : isL a = false) (hb : isL b = false) (k : Gk X M ids (pc + 1) L (a :: b :: a :: b :: st) D) : Gk X M ids pc L (a :: b :: st) D :=
  fun H locs ls hH hL => lv_dup2_11 cx.1 cx.2.1 hd (by rw [cv_cat, ha]; rfl) (by rw [cv_cat, hb]; rfl) (k H locs ls hH hL)
theorem g_if_eq {x : Int32} {off : Int} {tgt : Nat} (cx : Cx X M ids d) (hd : decode M.2.1 pc = .ok (.ifCond .eq off, 3)) (ht : (pc : Int) + off = (tgt : Int)) (kt : x = 0 → Gk X M ids tgt L st D) (kf : ¬ x = 0 → Gk X M ids (pc + 3) L st D) : Gk X M ids pc L (vi x :: st) D :=
  fun H locs ls hH hL => lv_if_eq cx.1 cx.2.1 hd ht (fun q => kt q H locs ls hH hL) (fun q => kf q H locs ls hH hL)
theorem g_icmp_eq {x y : Int32} {off : Int} {tgt : Nat} (cx : Cx X M ids d) (hd : decode M.2.1 pc = .ok (.if_icmp .eq off, 3)) (ht : (pc : Int) + off = (tgt : Int)) (kt : x = y → Gk X M ids tgt L st D) (kf : ¬ x = y → Gk X M ids (pc + 3) L st D) : Gk X M ids pc L (vi y :: vi x :: st) D :=
  fun H locs ls hH hL => lv_icmp_eq cx.1 cx.2.1 hd ht (fun q => kt q H locs ls hH hL) (fun q => kf q H locs ls hH hL)
theorem g_if_ne {x : Int32} {off : Int} {tgt : Nat} (cx : Cx X M ids d) (hd : decode M.2.1 pc = .ok (.ifCond .ne off, 3)) (ht : (pc : Int) + off = (tgt : Int)) (kt : ¬ x = 0 → Gk X M ids tgt L st D) (kf : x = 0 → Gk X M ids (pc + 3) L st D) : Gk X M ids pc L (vi x :: st) D :=
  fun H locs ls hH hL => lv_if_ne cx.1 cx.2.1 hd ht (fun q => kt q H locs ls hH hL) (fun q => kf q H locs ls hH hL)
theorem g_icmp_ne {x y : Int32} {off : Int} {tgt : Nat} (cx : Cx X M ids d) (hd : decode M.2.1 pc = .ok (.if_icmp .ne off, 3)) (ht : (pc : Int) + off = (tgt : Int)) (kt : ¬ x = y → Gk X M ids tgt L st D) (kf : x = y → Gk X M ids (pc + 3) L st D) : Gk X M ids pc L (vi y :: vi x :: st) D :=
  fun H locs ls hH hL => lv_icmp_ne cx.1 cx.2.1 hd ht (fun q => kt q H locs ls hH hL) (fun q => kf q H locs ls hH hL)
theorem g_if_lt {x : Int32} {off : Int} {tgt : Nat} (cx : Cx X M ids d) (hd : decode M.2.1 pc = .ok (.ifCond .lt off, 3)) (ht : (pc : Int) + off = (tgt : Int)) (kt : x < 0 → Gk X M ids tgt L st D) (kf : ¬ x < 0 → Gk X M ids (pc + 3) L st D) : Gk X M ids pc L (vi x :: st) D :=
  fun H locs ls hH hL => lv_if_lt cx.1 cx.2.1 hd ht (fun q => kt q H locs ls hH hL) (fun q => kf q H locs ls hH hL)
theorem g_icmp_lt {x y : Int32} {off : Int} {tgt : Nat} (cx : Cx X M ids d) (hd : decode M.2.1 pc = .ok (.if_icmp .lt off, 3)) (ht : (pc : Int) + off = (tgt : Int)) (kt : x < y → Gk X M ids tgt L st D) (kf : ¬ x < y → Gk X M ids (pc + 3) L st D) : Gk X M ids pc L (vi y :: vi x :: st) D :=
  fun H locs ls hH hL => lv_icmp_lt cx.1 cx.2.1 hd ht (fun q => kt q H locs ls hH hL) (fun q => kf q H locs ls hH hL)
theorem g_if_ge {x : Int32} {off : Int} {tgt : Nat} (cx : Cx X M ids d) (hd : decode M.2.1 pc = .ok (.ifCond .ge off, 3)) (ht : (pc : Int) + off = (tgt : Int)) (kt : 0 ≤ x → Gk X M ids tgt L st D) (kf : ¬ 0 ≤ x → Gk X M ids (pc + 3) L st D) : Gk X M ids pc L (vi x :: st) D :=
  fun H locs ls hH hL => lv_if_ge cx.1 cx.2.1 hd ht (fun q => kt q H locs ls hH hL) (fun q => kf q H locs ls hH hL)
theorem g_icmp_ge {x y : Int32} {off : Int} {tgt : Nat} (cx : Cx X M ids d) (hd : decode M.2.1 pc = .ok (.if_icmp .ge off, 3)) (ht : (pc : Int) + off = (tgt : Int)) (kt : y ≤ x → Gk X M ids tgt L st D) (kf : ¬ y ≤ x → Gk X M ids (pc + 3) L st D) : Gk X M ids pc L (vi y :: vi x :: st) D :=
  fun H locs ls hH hL => lv_icmp_ge cx.1 cx.2.1 hd ht (fun q => kt q H locs ls hH hL) (fun q => kf q H locs ls hH hL)
theorem g_if_gt {x : Int32} {off : Int} {tgt : Nat} (cx : Cx X M ids d) (hd : decode M.2.1 pc = .ok (.ifCond .gt off, 3)) (ht : (pc : Int) + off = (tgt : Int)) (kt : 0 < x → Gk X M ids tgt L st D) (kf : ¬ 0 < x → Gk X M ids (pc + 3) L st D) : Gk X M ids pc L (vi x :: st) D :=
  fun H locs ls hH hL => lv_if_gt cx.1 cx.2.1 hd ht (fun q => kt q H locs ls hH hL) (fun q => kf q H locs ls hH hL)
theorem g_icmp_gt {x y : Int32} {off : Int} {tgt : Nat} (cx : Cx X M ids d) (hd : decode M.2.1 pc = .ok (.if_icmp .gt off, 3)) (ht : (pc : Int) + off = (tgt : Int)) (kt : y < x → Gk X M ids tgt L st D) (kf : ¬ y < x → Gk X M ids (pc + 3) L st D) : Gk X M ids pc L (vi y :: vi x :: st) D :=
  fun H locs ls hH hL => lv_icmp_gt cx.1 cx.2.1 hd ht (fun q => kt q H locs ls hH hL) (fun q => kf q H locs ls hH hL)
theorem g_if_le {x : Int32} {off : Int} {tgt : Nat} (cx : Cx X M ids d) (hd : decode M.2.1 pc = .ok (.ifCond .le off, 3)) (ht : (pc : Int) + off = (tgt : Int)) (kt : x ≤ 0 → Gk X M ids tgt L st D) (kf : ¬ x ≤ 0 → Gk X M ids (pc + 3) L st D) : Gk X M ids pc L (vi x :: st) D :=
  fun H locs ls hH hL => lv_if_le cx.1 cx.2.1 hd ht (fun q => kt q H locs ls hH hL) (fun q => kf q H locs ls hH hL)
theorem g_icmp_le {x y : Int32} {off : Int} {tgt : Nat} (cx : Cx X M ids d) (hd : decode M.2.1 pc = .ok (.if_icmp .le off, 3)) (ht : (pc : Int) + off = (tgt : Int)) (kt : x ≤ y → Gk X M ids tgt L st D) (kf : ¬ x ≤ y → Gk X M ids (pc + 3) L st D) : Gk X M ids pc L (vi y :: vi x :: st) D :=
  fun H locs ls hH hL => lv_icmp_le cx.1 cx.2.1 hd ht (fun q => kt q H locs ls hH hL) (fun q => kf q H locs ls hH hL)
theorem g_goto {off : Int} {tgt : Nat} (cx : Cx X M ids d) (hd : decode M.2.1 pc = .ok (.goto off, 3)) (ht : (pc : Int) + off = (tgt : Int)) (k : Gk X M ids tgt L st D) : Gk X M ids pc L st D :=
  fun H locs ls hH hL => lv_goto cx.1 cx.2.1 hd ht (k H locs ls hH hL)
theorem g_tabOut {dflt lo hi : Int} {offs : Array Int} {len tgt : Nat} {x : Int32} (cx : Cx X M ids d) (hd : decode M.2.1 pc = .ok (.tableswitch dflt lo hi offs, len)) (h : x.toInt < lo ∨ hi < x.toInt) (ht : (pc : Int) + dflt = (tgt : Int)) (k : Gk X M ids tgt L st D) : Gk X M ids pc L (vi x :: st) D :=
  fun H locs ls hH hL => lv_tableOut cx.1 cx.2.1 hd h ht (k H locs ls hH hL)
theorem g_tabIn {dflt lo hi off : Int} {offs : Array Int} {len tgt : Nat} {x : Int32} (cx : Cx X M ids d) (hd : decode M.2.1 pc = .ok (.tableswitch dflt lo hi offs, len)) (h1 : ¬ x.toInt < lo) (h2 : ¬ hi < x.toInt) (ho : offs[(x.toInt - lo).toNat]? = some off) (ht : (pc : Int) + off = (tgt : Int)) (k : Gk X M ids tgt L st D) : Gk X M ids pc L (vi x :: st) D :=
  fun H locs ls hH hL => lv_tableIn cx.1 cx.2.1 hd h1 h2 ho ht (k H locs ls hH hL)
end ROWS
end
section
/-! THE ROWS for fields, arrays, calls and returns -/
section CELLS
variable {X : Cxt} {M : Mt} {ids : List Id2} {d pc : Nat} {L : Lc} {st : List AV} {D : Wd}
theorem ce_obj {ad : Id2 → Nat} {dT : Nat → ClassId} {w : Nat → Int32} {i : Id2} {ci : Nat} {fs : List (Option Id2)} (h : sh i = .inl (ci, fs)) : ce ad dT w i = .inr (ci, fs.mapIdx (fv ad w)) := by
  simp only [ce, h]
theorem ce_arr {ad : Id2 → Nat} {dT : Nat → ClassId} {w : Nat → Int32} {i : Id2} {t n : Nat} (h : sh i = .inr (t, n, none)) : ce ad dT w i = .inl (dT t, n, .inl w) := by
  simp only [ce, h]
theorem ce_ref {ad : Id2 → Nat} {dT : Nat → ClassId} {w : Nat → Int32} {i : Id2} {t n : Nat} {g : Nat → Id2} (h : sh i = .inr (t, n, some g)) : ce ad dT w i = .inl (dT t, n, .inr (.inr (.inr (.inr (fun q => some (ad (g q))))))) := by
  simp only [ce, h]
theorem fv_get {ad : Id2 → Nat} {w : Nat → Int32} {fs : List (Option Id2)} {k : Nat} {f : Option Id2} (h : fs[k]? = some f) : (fs.mapIdx (fv ad w))[k]? = some (fv ad w k f) := by
  rw [List.getElem?_mapIdx, h]; rfl
theorem g_getI {i : Id2} {ci k N ix : Nat} {fs : List (Option Id2)} {C : String} {T : u_T} (cx : Cx X M ids d) (hi : i ∈ ids) (hs : sh i = .inl (ci, fs)) (hf : fs[k]? = some none) (hc : vwCl[ci]? = some (C, T, N)) (hk : k < N) (hin : ∀ w ∈ u_ws C T N, w ∈ TB) (hw : Cond.fieldLink M.1.cls ix (T k).1 (T k).2.1 (T k).2.2.1 ∈ TB) (hd : decode M.2.1 pc = .ok (.getfield ix, 3)) (kk : Gk X M ids (pc + 3) L (vi (D i k) :: st) D) : Gk X M ids pc L (vr i :: st) D := by
  intro H locs ls hH hL
  obtain ⟨q, hq⟩ := cw_in hi
  have he := cw_at (ad := xa X) (dT := xT X) (D := D) hq
  rw [ce_obj hs] at he
  exact va_get cx.1 cx.2.1 cx.2.2.2.2.2.2.1 hin cx.2.2.2.2.2.1 cx.2.2.2.2.2.2.2.1 hH.1 q he hc k hk (cx.2.2.2.2.2.2.1 _ hw) (fun _ h => h) (fv_get hf) hd (kk H locs ls hH hL)
theorem g_getR {i j : Id2} {ci k N ix : Nat} {fs : List (Option Id2)} {C : String} {T : u_T} (cx : Cx X M ids d) (hi : i ∈ ids) (hs : sh i = .inl (ci, fs)) (hf : fs[k]? = some (some j)) (hc : vwCl[ci]? = some (C, T, N)) (hk : k < N) (hin : ∀ w ∈ u_ws C T N, w ∈ TB) (hw : Cond.fieldLink M.1.cls ix (T k).1 (T k).2.1 (T k).2.2.1 ∈ TB) (hd : decode M.2.1 pc = .ok (.getfield ix, 3)) (kk : Gk X M ids (pc + 3) L (vr j :: st) D) : Gk X M ids pc L (vr i :: st) D := by
  intro H locs ls hH hL
  obtain ⟨q, hq⟩ := cw_in hi
  have he := cw_at (ad := xa X) (dT := xT X) (D := D) hq
  rw [ce_obj hs] at he
  exact va_get cx.1 cx.2.1 cx.2.2.2.2.2.2.1 hin cx.2.2.2.2.2.1 cx.2.2.2.2.2.2.2.1 hH.1 q he hc k hk (cx.2.2.2.2.2.2.1 _ hw) (fun _ h => h) (fv_get hf) hd (kk H locs ls hH hL)
theorem g_putI {i : Id2} {ci k N ix : Nat} {fs : List (Option Id2)} {C : String} {T : u_T} {ty0 : Nat → FieldType} {x : Int32} (cx : Cx X M ids d) (hi : i ∈ ids) (hs : sh i = .inl (ci, fs)) (hf : fs[k]? = some none) (hc : vwCl[ci]? = some (C, T, N)) (hk : k < N) (hin : ∀ w ∈ u_ws C T N, w ∈ TB) (hty : ∀ k, k < N → parseFieldDescriptor (T k).2.2.1 = some (ty0 k)) (hnm : ∀ a, a < N → ∀ b, b < N → a ≠ b → (T a).2.1 ≠ (T b).2.1) (hfin : (T k).2.2.2 = false) (hI : ty0 k = .int) (hw : Cond.fieldLink M.1.cls ix (T k).1 (T k).2.1 (T k).2.2.1 ∈ TB) (hd : decode M.2.1 pc = .ok (.putfield ix, 3)) (kk : Gk X M ids (pc + 3) L st (upA D i (upd (D i) k x))) : Gk X M ids pc L (vi x :: vr i :: st) D := by
  intro H locs ls hH hL
  obtain ⟨q, hq⟩ := cw_in hi
  have he := cw_at (ad := xa X) (dT := xT X) (D := D) hq
  rw [ce_obj hs] at he
  have hlen : k < (fs.mapIdx (fv (xa X) (D i))).length := by
    rw [List.length_mapIdx]; exact (List.getElem?_eq_some_iff.mp hf).1
  refine va_put cx.1 cx.2.1 cx.2.2.2.2.2.2.1 hin ty0 hty hnm cx.2.2.2.2.2.1 cx.2.2.2.2.2.2.2.1 hH.1 hH.2.1 hH.2.2 q he hc k hk (cx.2.2.2.2.2.2.1 _ hw) (fun _ h => h) hfin (ty := .int) (v := .int x) (by rw [hty k hk, hI]) rfl rfl hlen hd (fun H1 locs1 hP hD hS => ?_)
  have e : (cw (xa X) (xT X) ids D).set q (xa X i, .inr (ci, (fs.mapIdx (fv (xa X) (D i))).set k (.int x))) = cw (xa X) (xT X) ids (upA D i (upd (D i) k x)) := by
    rw [cf_set x hf, ← ce_obj (dT := xT X) hs]; exact cw_set hH.2.1 hq _
  rw [e] at hP hD
  exact kk H1 locs1 ls ⟨hP, hD, hS⟩ hL
theorem g_iald {i : Id2} {n j : Nat} {x : Int32} (cx : Cx X M ids d) (hi : i ∈ ids) (hs : sh i = .inr (0, n, none)) (hx : x = nI j) (hj : j < n) (hn : n < 2 ^ 31) (hd : decode M.2.1 pc = .ok (.iaload, 1)) (kk : Gk X M ids (pc + 1) L (vi (D i j) :: st) D) : Gk X M ids pc L (vi x :: vr i :: st) D := by
  subst hx
  intro H locs ls hH hL
  obtain ⟨q, hq⟩ := cw_in hi
  have he := cw_at (ad := xa X) (dT := xT X) (D := D) hq
  rw [ce_arr hs] at he
  refine va_iald cx.1 cx.2.1 cx.2.2.2.2.2.2.2.1 hH.1 q 0 he rfl (vp_in_nI hj hn) hd ?_
  rw [nI_clamp (by omega)]
  exact kk H locs ls hH hL
theorem g_bald {i : Id2} {n j : Nat} {x : Int32} (cx : Cx X M ids d) (hi : i ∈ ids) (hs : sh i = .inr (1, n, none)) (hx : x = nI j) (hj : j < n) (hn : n < 2 ^ 31) (hd : decode M.2.1 pc = .ok (.baload, 1)) (kk : Gk X M ids (pc + 1) L (vi (D i j) :: st) D) : Gk X M ids pc L (vi x :: vr i :: st) D := by
  subst hx
  intro H locs ls hH hL
  obtain ⟨q, hq⟩ := cw_in hi
  have he := cw_at (ad := xa X) (dT := xT X) (D := D) hq
  rw [ce_arr hs] at he
  refine va_bald cx.1 cx.2.1 cx.2.2.2.2.2.2.2.1 hH.1 q 1 he rfl (vp_in_nI hj hn) hd ?_
  rw [nI_clamp (by omega)]
  exact kk H locs ls hH hL
theorem g_zald {i : Id2} {n j : Nat} {x : Int32} (cx : Cx X M ids d) (hi : i ∈ ids) (hs : sh i = .inr (2, n, none)) (hx : x = nI j) (hj : j < n) (hn : n < 2 ^ 31) (hd : decode M.2.1 pc = .ok (.baload, 1)) (kk : Gk X M ids (pc + 1) L (vi (D i j) :: st) D) : Gk X M ids pc L (vi x :: vr i :: st) D := by
  subst hx
  intro H locs ls hH hL
  obtain ⟨q, hq⟩ := cw_in hi
  have he := cw_at (ad := xa X) (dT := xT X) (D := D) hq
  rw [ce_arr hs] at he
  refine va_zald cx.1 cx.2.1 cx.2.2.2.2.2.2.2.1 hH.1 q 2 he rfl (vp_in_nI hj hn) hd ?_
  rw [nI_clamp (by omega)]
  exact kk H locs ls hH hL
theorem g_aald {i : Id2} {n j : Nat} {g : Nat → Id2} {x : Int32} (cx : Cx X M ids d) (hi : i ∈ ids) (hs : sh i = .inr (3, n, some g)) (hx : x = nI j) (hj : j < n) (hn : n < 2 ^ 31) (hd : decode M.2.1 pc = .ok (.aaload, 1)) (kk : Gk X M ids (pc + 1) L (vr (g j) :: st) D) : Gk X M ids pc L (vi x :: vr i :: st) D := by
  subst hx
  intro H locs ls hH hL
  obtain ⟨q, hq⟩ := cw_in hi
  have he := cw_at (ad := xa X) (dT := xT X) (D := D) hq
  rw [ce_ref hs] at he
  refine va_aldq cx.1 cx.2.1 cx.2.2.2.2.2.2.2.1 hH.1 q 3 he rfl (vp_in_nI hj hn) hd ?_
  rw [nI_clamp (by omega)]
  exact kk H locs ls hH hL
theorem g_iast {i : Id2} {n j : Nat} {x v : Int32} (cx : Cx X M ids d) (hi : i ∈ ids) (hs : sh i = .inr (0, n, none)) (hx : x = nI j) (hj : j < n) (hn : n < 2 ^ 31) (hd : decode M.2.1 pc = .ok (.iastore, 1)) (kk : Gk X M ids (pc + 1) L st (upA D i (upd (D i) j v))) : Gk X M ids pc L (vi v :: vi x :: vr i :: st) D := by
  subst hx
  intro H locs ls hH hL
  obtain ⟨q, hq⟩ := cw_in hi
  have he := cw_at (ad := xa X) (dT := xT X) (D := D) hq
  rw [ce_arr hs] at he
  refine va_iast cx.1 cx.2.1 cx.2.2.2.2.2.2.2.1 hH.1 hH.2.1 hH.2.2 q 0 he rfl (vp_in_nI hj hn) hd (fun H1 locs1 hP hD hS => ?_)
  rw [nI_clamp (by omega), ← ce_arr (ad := xa X) hs, cw_set hH.2.1 hq] at hP hD
  exact kk H1 locs1 ls ⟨hP, hD, hS⟩ hL
theorem g_bast {i : Id2} {n j : Nat} {x v : Int32} (cx : Cx X M ids d) (hi : i ∈ ids) (hs : sh i = .inr (1, n, none)) (hx : x = nI j) (hj : j < n) (hn : n < 2 ^ 31) (hd : decode M.2.1 pc = .ok (.bastore, 1)) (kk : Gk X M ids (pc + 1) L st (upA D i (upd (D i) j (v.toInt8.toInt32)))) : Gk X M ids pc L (vi v :: vi x :: vr i :: st) D := by
  subst hx
  intro H locs ls hH hL
  obtain ⟨q, hq⟩ := cw_in hi
  have he := cw_at (ad := xa X) (dT := xT X) (D := D) hq
  rw [ce_arr hs] at he
  refine va_bast cx.1 cx.2.1 cx.2.2.2.2.2.2.2.1 hH.1 hH.2.1 hH.2.2 q 1 he rfl (vp_in_nI hj hn) hd (fun H1 locs1 hP hD hS => ?_)
  rw [nI_clamp (by omega), ← ce_arr (ad := xa X) hs, cw_set hH.2.1 hq, vp_nar_byte] at hP hD
  exact kk H1 locs1 ls ⟨hP, hD, hS⟩ hL
theorem g_zast {i : Id2} {n j : Nat} {x v v' : Int32} (cx : Cx X M ids d) (hi : i ∈ ids) (hs : sh i = .inr (2, n, none)) (hx : x = nI j) (hj : j < n) (hn : n < 2 ^ 31) (hv : vp_nar .boolean v = v') (hd : decode M.2.1 pc = .ok (.bastore, 1)) (kk : Gk X M ids (pc + 1) L st (upA D i (upd (D i) j v'))) : Gk X M ids pc L (vi v :: vi x :: vr i :: st) D := by
  subst hx
  intro H locs ls hH hL
  obtain ⟨q, hq⟩ := cw_in hi
  have he := cw_at (ad := xa X) (dT := xT X) (D := D) hq
  rw [ce_arr hs] at he
  refine va_zast cx.1 cx.2.1 cx.2.2.2.2.2.2.2.1 hH.1 hH.2.1 hH.2.2 q 2 he rfl (vp_in_nI hj hn) hd (fun H1 locs1 hP hD hS => ?_)
  rw [nI_clamp (by omega), ← ce_arr (ad := xa X) hs, cw_set hH.2.1 hq, hv] at hP hD
  exact kk H1 locs1 ls ⟨hP, hD, hS⟩ hL
/-- the table of kinds: its reference, and what it holds -/
theorem g_tak {ix : Nat} (cx : Cx X M ids d) (hw : Cond.fieldLink M.1.cls ix "OneHinge" "TAKEN_AS" "[I" ∈ TB) (hd : decode M.2.1 pc = .ok (.getstatic ix, 3)) (kk : Gk X M ids (pc + 3) L (vr (91, 0) :: st) D) : Gk X M ids pc L st D :=
  fun H locs ls hH hL => va_gets cx.1 cx.2.1 cx.2.2.2.2.2.2.2.2.1.1 hH.2.2 cx.2.2.2.2.2.1 (cx.2.2.2.2.2.2.1 _ hw) (fun _ h => h) hd (kk H locs ls hH hL)
theorem g_takN {ix : Nat} {host : String} (cx : Cx X M ids d) (hw : (M.1.cls, ix, "OneHinge", "TAKEN_AS", "[I", host) ∈ nwF) (hd : decode M.2.1 pc = .ok (.getstatic ix, 3)) (kk : Gk X M ids (pc + 3) L (vr (91, 0) :: st) D) : Gk X M ids pc L st D :=
  fun H locs ls hH hL => va_getsN cx.1 cx.2.1 cx.2.2.2.2.2.2.2.2.1.1 hH.2.2 cx.2.2.2.2.2.1 ((cx.2.2.2.2.2.2.2.2.1.2.2.2.2.2.2 _ hw).use rfl) (fun _ h => h) hd (kk H locs ls hH hL)
theorem g_taki {j : Nat} {x : Int32} (cx : Cx X M ids d) (hx : x = nI j) (hj : j < 4) (hd : decode M.2.1 pc = .ok (.iaload, 1)) (kk : Gk X M ids (pc + 1) L (vi (tkF j) :: st) D) : Gk X M ids pc L (vi x :: vr (91, 0) :: st) D := by
  subst hx
  exact fun H locs ls hH hL => va_ti cx.1 cx.2.1 cx.2.2.2.2.2.2.2.2.1.2.1 hH.2.2 (vp_in_nI hj (by omega)) (by rw [nI_clamp (by omega)]; rfl) hd (kk H locs ls hH hL)
theorem g_compact {ix : Nat} (cx : Cx X M ids d) (hw : Cond.fieldLink M.1.cls ix "java/lang/String" "COMPACT_STRINGS" "Z" ∈ TB) (hd : decode M.2.1 pc = .ok (.getstatic ix, 3)) (kk : Gk X M ids (pc + 3) L (vi 1 :: st) D) : Gk X M ids pc L st D :=
  fun H locs ls hH hL => va_gets cx.1 cx.2.1 cx.2.2.2.2.2.2.2.2.1.2.2.1 hH.2.2 cx.2.2.2.2.2.1 (cx.2.2.2.2.2.2.1 _ hw) (fun _ h => h) hd (kk H locs ls hH hL)
/-! returns -/
theorem g_ret {post : Option AV → Wd → Prop} {x : Int32} {ty : FieldType} (cx : Cx X M ids d) (rq : Rq X ids post) (hr : M.2.2.2 = some ty) (hn : narrow ty (.int x) = .int x) (hd : decode M.2.1 pc = .ok (.ireturn, 1)) (hp : post (some (vi x)) D) : Gk X M ids pc L [vi x] D := by
  intro H locs ls hH hL
  obtain ⟨h1, h2, h3⟩ := rq
  rw [h1, h2, h3]
  exact W.zret (ty := ty) cx.1 cx.2.1 (by rw [cx.2.2.2.1, hr]) hn (fun t ht hW => ⟨⟨some (vi x), D, rfl, hp, by rw [ht]; exact hH.1⟩, hH.2.2.F ht⟩) hH.2.2.2.2 hd cx.2.2.2.2.1
theorem g_vret {post : Option AV → Wd → Prop} (cx : Cx X M ids d) (rq : Rq X ids post) (hr : M.2.2.2 = none) (hd : decode M.2.1 pc = .ok (.return_, 1)) (hp : post none D) : Gk X M ids pc L [] D := by
  intro H locs ls hH hL
  obtain ⟨h1, h2, h3⟩ := rq
  rw [h1, h2, h3]
  exact W.vret cx.1 cx.2.1 (by rw [cx.2.2.2.1, hr]) (fun t ht hW => ⟨⟨none, D, rfl, hp, by rw [ht]; exact hH.1⟩, hH.2.2.F ht⟩) hH.2.2.2.2 hd cx.2.2.2.2.1
theorem g_aret {post : Option AV → Wd → Prop} {i : Id2} {rt : FieldType} (cx : Cx X M ids d) (rq : Rq X ids post) (hr : M.2.2.2 = some rt) (hrt : (∃ n, rt = .object n) ∨ ∃ t, rt = .array t) (hd : decode M.2.1 pc = .ok (.areturn, 1)) (hp : post (some (vr i)) D) : Gk X M ids pc L [vr i] D := by
  intro H locs ls hH hL
  obtain ⟨h1, h2, h3⟩ := rq
  rw [h1, h2, h3]
  exact W.aret (v := .ref (xa X i)) cx.1 cx.2.1 (by rw [cx.2.2.2.1, hr]) hrt (Or.inr ⟨_, rfl⟩) (fun t ht hW => ⟨⟨some (vr i), D, rfl, hp, by rw [ht]; exact hH.1⟩, hH.2.2.F ht⟩) hH.2.2.2.2 hd cx.2.2.2.2.1
/-! a method's begin -/
theorem Mok.of {av : List AV} {post : Option AV → Wd → Prop} (hy : plainName M.1.cls = true) (hlen : (∀ ad, (lg_sl (av.map (cv ad))).length ≤ M.2.2.1)) (hL : ∀ ad, lvO ad 0 L = lv_args 0 (av.map (cv ad))) (k : ∀ X : Cxt, Cx X M ids d → Rq X ids post → Gk X M ids 0 L [] D) : Mok M ids d av D post := by
  intro l G dT ad
  refine Met.ofW (cc := M.2.1) (maxL := M.2.2.1) (ret := M.2.2.2) hy rfl ?_
  intro p e s m args below meth c s₁ B hml hv
  obtain ⟨rfl, hP, hD, hK, hE⟩ := hv
  have hts := atoms_spec (ws := wM M) B.pre
  have hown : s.vm.findClass M.1.cls = some m.cls := findClass_of_methodNamed B.named
  have hl := lv_entry (av.map (cv ad)) (n := M.2.2.1) (hlen ad)
  rw [lg_entry_eq]
  generalize (lg_sl (av.map (cv ad)) ++ List.replicate (M.2.2.1 - (lg_sl (av.map (cv ad))).length) Slot.unset).toArray = ls at hl ⊢
  rw [← hL ad] at hl
  exact k (G, dT, ad, p, l, e, rmD d, s, m, (av.map (cv ad)).toArray, below, meth, c, 0, 0, MQ below (Qx G dT ad ids post) (av.map (cv ad)).toArray s 0 0 (aA ad ids)) ⟨B.exec, B.bytes, hml, B.returns, B.notSynchronized, hown, fun w h => hts w (List.mem_cons_of_mem _ h), hK, hE, Nat.le_refl _, Nat.le_refl _, Nat.le_refl _, Nat.le_refl _⟩ ⟨rfl, rfl, rfl⟩ s.heap [] ls ⟨hP, hD, va_S.rf⟩ (Lr.of hl)
/-! calls -/
theorem Px.blind {G : va_G} {dT : Nat → ClassId} {ad : Id2 → Nat} {av : List Value} : FrameBlind (va_Pc av (Px G dT ad ids D)) := by
  intro a U g mk h
  obtain ⟨q0, qP, qD, qK, qE⟩ := h
  exact ⟨q0, qP, qD, va_K.moved (u := U) (U := U.calling g mk a) (Vm.Alike.refl U.vm) qK, qE.calling⟩
theorem Px.go {H : Heap} {locs : List Loc} {av : List AV} (cx : Cx X M ids d) (hH : Hx X ids H locs D) : ∀ U : State, U.heap = H → (xs X).WarmedH U.vm → va_Pc (av.map (cv (xa X))) (Px (xG X) (xT X) (xa X) ids D) (av.map (cv (xa X))).toArray U := by
  intro U hU hW
  exact ⟨rfl, by rw [hU]; exact hH.1, hH.2.1, va_K.moved hW.alike cx.2.2.2.2.2.2.2.1, by rw [hU]; exact Ext.warm hW hH.2.2.2.1 cx.2.2.2.2.2.2.2.2.1⟩
theorem g_back {rest : List AV} {st0 : List Value} {post' : Option AV → Wd → Prop} {H : Heap} {locs : List Loc} {ls : Array Slot} {vs : Array Value} (hH : Hx X ids H locs D) (hL : Lr (xa X) ls M.2.2.1 L)
    (hr : va_Run (xp X) (xl X) (xe X) (xR X) (xs X) (xm X) (xv X) (xb X) (xh X) (xc X) H locs (xk X) (xn X) 0 0 (F0 (xm X) pc ls st0) (rest.map (cv (xa X))) (Qx (xG X) (xT X) (xa X) ids post' vs) (aA (xa X) ids))
    (kk : ∀ r D', post' r D' → Gk X M ids (pc + 3) L (r.toList ++ rest) D') : W (xp X) (xl X) (xe X) (xR X) (xs X) (xm X) (xv X) (xb X) (xh X) (xc X) H locs (xk X) (xn X) (xQ X) (F0 (xm X) pc ls st0) := by
  intro T hT Y
  obtain ⟨v, st₀, t, T', Lo, h0, Y', hLo, e1, e2, ⟨⟨r, D', hv, hp, hP⟩, hz, hk⟩, stp⟩ := hr T hT Y
  cases hv
  rw [h0] at hz hk
  have hS : va_S (aA (xa X) ids) (xs X).heap T'.heap (locs ++ Lo) := ⟨Nat.le_trans hH.2.2.1 (by rw [e1]; exact hz), fun q h1 h2 => by rw [e1, hk q (Nat.lt_of_lt_of_le h1 hH.2.2.1) h2]; exact hH.2.2.2.1 q h1 h2, fun q hq => by
    rcases List.mem_append.mp hq with h | h
    · exact hH.2.2.2.2 q h
    · exact hLo q h⟩
  obtain ⟨t2, a1, b1⟩ := kk r D' hp T'.heap (locs ++ Lo) ls ⟨by rw [e1]; exact hP, cw_D hH.2.1, hS⟩ hL T' rfl Y'
  refine ⟨t2, stp t2 ?_, b1⟩
  have e : ((r.toList ++ rest).map (cv (xa X))) = (r.map (cv (xa X))).toList ++ rest.map (cv (xa X)) := by cases r <;> simp
  rw [e] at a1
  exact a1
/-- what must be known of a method that is called -/
def Kn (N : Mt) (n : Nat) : Prop := Cond.code N.1 N.2.1 N.2.2.1 N.2.2.2 ∈ TB ∧ Cond.initialized N.1.cls ∈ TB ∧ N.1.cls ≠ "java/lang/invoke/MethodHandle" ∧ N.1.cls ≠ "java/lang/invoke/VarHandle" ∧ (parseMethodDescriptor N.1.desc).map (fun d => d.parameters.length) = some n ∧ N.2.2.1 ≤ 21
def rcat (st : List AV) : Nat := (st.map (fun v => if isL v then 2 else 1)).sum
theorem rcat_eq (ad : Id2 → Nat) (st : List AV) : ((st.map (cv ad)).map fun v => v.category).sum = rcat st := by
  induction st with
  | nil => rfl
  | cons a r ih => simp only [List.map_cons, List.sum_cons, ih, rcat, cv_cat]
theorem rcat_room {rest : List AV} {ls : Array Slot} {st0 : List Value} (h : rcat rest ≤ 8) : 2 * (F0 (xm X) pc ls st0).monitorRoom + (((rest.map (cv (xa X))).map fun v => v.category)).sum ≤ 8 := by
  rw [rcat_eq]
  show 2 * 0 + rcat rest ≤ 8
  omega
/-- a virtual call of a method of a class of the world -/
theorem g_callV {N : Mt} {ix n d' ci nf : Nat} {i : Id2} {As rest : List AV} {fs : List (Option Id2)} {T : u_T} {post' : Option AV → Wd → Prop} (cx : Cx X M ids d) (hN : Kn N n) (hM : Mok N ids d' (vr i :: As) D post') (hi : i ∈ ids) (hs : sh i = .inl (ci, fs)) (hc : vwCl[ci]? = some (N.1.cls, T, nf)) (hw : Cond.methodLink M.1.cls ix N.1 ∈ TB) (hin : Cond.instanceMethod N.1 ∈ TB) (hse : Cond.selects N.1.cls N.1 N.1 ∈ TB) (hn : As.length = n) (hdd : d' + 1 ≤ d) (hr : rcat rest ≤ 8) (hst : st = As.reverse ++ vr i :: rest) (hd : decode M.2.1 pc = .ok (.invokevirtual ix, 3)) (kk : ∀ r D', post' r D' → Gk X M ids (pc + 3) L (r.toList ++ rest) D') : Gk X M ids pc L st D := by
  subst hst
  intro H locs ls hH hL
  obtain ⟨q, hq⟩ := cw_in hi
  have he := cw_at (ad := xa X) (dT := xT X) (D := D) hq
  rw [ce_obj hs] at he
  obtain ⟨k1, k2, k3, k4, k5, k6⟩ := hN
  have ht := cx.2.2.2.2.2.2.1
  have cw : CallW (xR X) (xs X) (xv X) M.1.cls N.1.cls ix N.1 N.2.1 N.2.2.1 N.2.2.2 (wM N) (rmD d') 0 0 n :=
    ⟨callB_of n ht (wM_good k1) rfl rfl rfl (ht _ k2) (ht _ hw) ⟨k3, k4, k5⟩ ⟨Nat.le_trans hdd cx.2.2.2.2.2.2.2.2.2.1, by have := cx.2.2.2.2.2.2.2.2.2.2.1; show 8 + (N.2.2.1 + 11) + 40 * d' ≤ _; omega⟩, ht _ hin, ht _ hse⟩
  refine g_back hH hL (va_runV (As := As.map (cv (xa X))) (b := xa X i) (rest := rest.map (cv (xa X))) ⟨cx.1, cx.2.1, cx.2.2.1, cx.2.2.2.2.2.1, ht⟩ (hM (xl X) (xG X) (xT X) (xa X)) cw ⟨Px.blind, va_recv cx.2.2.2.2.2.2.2.1 hH.1 hc he, Px.go cx hH⟩ rfl (by rw [List.length_map, hn]) hL.1 (by simp [cv]) (rcat_room hr) hd ⟨cx.2.2.2.2.2.2.2.2.2.2.2.1, cx.2.2.2.2.2.2.2.2.2.2.2.2⟩) kk
/-- a static call of a method of the own class -/
theorem g_callS {N : Mt} {ix n d' : Nat} {As rest : List AV} {post' : Option AV → Wd → Prop} (cx : Cx X M ids d) (hN : Kn N n) (hM : Mok N ids d' As D post') (hw : Cond.methodLink M.1.cls ix N.1 ∈ TB) (hstt : Cond.static N.1 ∈ TB) (hn : As.length = n) (hdd : d' + 1 ≤ d) (hr : rcat rest ≤ 8) (hst : st = As.reverse ++ rest) (hd : decode M.2.1 pc = .ok (.invokestatic ix, 3)) (kk : ∀ r D', post' r D' → Gk X M ids (pc + 3) L (r.toList ++ rest) D') : Gk X M ids pc L st D := by
  subst hst
  intro H locs ls hH hL
  obtain ⟨k1, k2, k3, k4, k5, k6⟩ := hN
  have ht := cx.2.2.2.2.2.2.1
  have cb : CallB (xR X) (xs X) (xv X) M.1.cls ix N.1 N.2.1 N.2.2.1 N.2.2.2 (wM N) (rmD d') 0 0 n :=
    callB_of n ht (wM_good k1) rfl rfl rfl (ht _ k2) (ht _ hw) ⟨k3, k4, k5⟩ ⟨Nat.le_trans hdd cx.2.2.2.2.2.2.2.2.2.1, by have := cx.2.2.2.2.2.2.2.2.2.2.1; show 8 + (N.2.2.1 + 11) + 40 * d' ≤ _; omega⟩
  refine g_back hH hL (va_runS (As := As.map (cv (xa X))) (rest := rest.map (cv (xa X))) ⟨cx.1, cx.2.1, cx.2.2.1, cx.2.2.2.2.2.1, ht⟩ (hM (xl X) (xG X) (xT X) (xa X)) ⟨cb, ht _ hstt⟩ ⟨Px.blind, Px.go cx hH⟩ rfl (by rw [List.length_map, hn]) hL.1 (by simp) (rcat_room hr) hd ⟨cx.2.2.2.2.2.2.2.2.2.2.2.1, cx.2.2.2.2.2.2.2.2.2.2.2.2⟩) kk
/-- a static call of a private method of a nest mate -/
theorem g_callSN {N : Mt} {ix n d' : Nat} {host : String} {As rest : List AV} {post' : Option AV → Wd → Prop} (cx : Cx X M ids d) (hN : Kn N n) (hM : Mok N ids d' As D post') (hw : (M.1.cls, ix, N.1, host) ∈ nwM) (hstt : Cond.static N.1 ∈ TB) (hn : As.length = n) (hdd : d' + 1 ≤ d) (hr : rcat rest ≤ 8) (hst : st = As.reverse ++ rest) (hd : decode M.2.1 pc = .ok (.invokestatic ix, 3)) (kk : ∀ r D', post' r D' → Gk X M ids (pc + 3) L (r.toList ++ rest) D') : Gk X M ids pc L st D := by
  subst hst
  intro H locs ls hH hL
  obtain ⟨k1, k2, k3, k4, k5, k6⟩ := hN
  have ht := cx.2.2.2.2.2.2.1
  have cb : va_CN (xR X) (xs X) (xv X) M.1.cls ix N.1 host N.2.1 N.2.2.1 N.2.2.2 (wM N) (rmD d') 0 0 n :=
    va_cnB n ht (wM_good k1) rfl rfl rfl (cx.2.2.2.2.2.2.2.2.1.2.2.2.2.2.1 _ hw) (ht _ k2) ⟨k3, k4, k5⟩ ⟨Nat.le_trans hdd cx.2.2.2.2.2.2.2.2.2.1, by have := cx.2.2.2.2.2.2.2.2.2.2.1; show 8 + (N.2.2.1 + 11) + 40 * d' ≤ _; omega⟩
  refine g_back hH hL (va_runSN (As := As.map (cv (xa X))) (rest := rest.map (cv (xa X))) ⟨cx.1, cx.2.1, cx.2.2.1, cx.2.2.2.2.2.1, ht⟩ (hM (xl X) (xG X) (xT X) (xa X)) ⟨cb, ht _ hstt, trivial⟩ ⟨Px.blind, Px.go cx hH⟩ rfl (by rw [List.length_map, hn]) hL.1 (by simp) (rcat_room hr) hd ⟨cx.2.2.2.2.2.2.2.2.2.2.2.1, cx.2.2.2.2.2.2.2.2.2.2.2.2⟩) kk
/-- a virtual call of a private method of a nest mate -/
theorem g_callVN {N : Mt} {ix n d' ci nf : Nat} {host : String} {i : Id2} {As rest : List AV} {fs : List (Option Id2)} {T : u_T} {post' : Option AV → Wd → Prop} (cx : Cx X M ids d) (hN : Kn N n) (hM : Mok N ids d' (vr i :: As) D post') (hi : i ∈ ids) (hs : sh i = .inl (ci, fs)) (hc : vwCl[ci]? = some (N.1.cls, T, nf)) (hw : (M.1.cls, ix, N.1, host) ∈ nwM) (hin : Cond.instanceMethod N.1 ∈ TB) (hse : Cond.selects N.1.cls N.1 N.1 ∈ TB) (hn : As.length = n) (hdd : d' + 1 ≤ d) (hr : rcat rest ≤ 8) (hst : st = As.reverse ++ vr i :: rest) (hd : decode M.2.1 pc = .ok (.invokevirtual ix, 3)) (kk : ∀ r D', post' r D' → Gk X M ids (pc + 3) L (r.toList ++ rest) D') : Gk X M ids pc L st D := by
  subst hst
  intro H locs ls hH hL
  obtain ⟨q, hq⟩ := cw_in hi
  have he := cw_at (ad := xa X) (dT := xT X) (D := D) hq
  rw [ce_obj hs] at he
  obtain ⟨k1, k2, k3, k4, k5, k6⟩ := hN
  have ht := cx.2.2.2.2.2.2.1
  have cb : va_CN (xR X) (xs X) (xv X) M.1.cls ix N.1 host N.2.1 N.2.2.1 N.2.2.2 (wM N) (rmD d') 0 0 n :=
    va_cnB n ht (wM_good k1) rfl rfl rfl (cx.2.2.2.2.2.2.2.2.1.2.2.2.2.2.1 _ hw) (ht _ k2) ⟨k3, k4, k5⟩ ⟨Nat.le_trans hdd cx.2.2.2.2.2.2.2.2.2.1, by have := cx.2.2.2.2.2.2.2.2.2.2.1; show 8 + (N.2.2.1 + 11) + 40 * d' ≤ _; omega⟩
  refine g_back hH hL (va_runVN (C := N.1.cls) (As := As.map (cv (xa X))) (b := xa X i) (rest := rest.map (cv (xa X))) ⟨cx.1, cx.2.1, cx.2.2.1, cx.2.2.2.2.2.1, ht⟩ (hM (xl X) (xG X) (xT X) (xa X)) ⟨cb, ht _ hin, ht _ hse⟩ ⟨Px.blind, va_recv cx.2.2.2.2.2.2.2.1 hH.1 hc he, Px.go cx hH⟩ rfl (by rw [List.length_map, hn]) hL.1 (by simp [cv]) (rcat_room hr) hd ⟨cx.2.2.2.2.2.2.2.2.2.2.2.1, cx.2.2.2.2.2.2.2.2.2.2.2.2⟩) kk
/-- System.arraycopy from one int array to another -/
theorem g_copy {ix n n0 n1 : Nat} {i j : Id2} {N sp dp : Int32} {rest : List AV} (cx : Cx X M ids d) (hi : i ∈ ids) (hj : j ∈ ids) (hsi : sh i = .inr (0, n0, none)) (hsj : sh j = .inr (0, n1, none)) (hN : N = nI n) (h0 : sp = 0) (h1 : dp = 0) (hn0 : n ≤ n0) (hn1 : n ≤ n1) (hlt : n < 2 ^ 31) (hw : Cond.methodLink M.1.cls ix arraycopyName ∈ TB) (hnat : Cond.native arraycopyName ∈ TB) (hstt : Cond.static arraycopyName ∈ TB) (hini : Cond.initialized "java/lang/System" ∈ TB) (hr : rcat st ≤ 8) (hdd : 1 ≤ d) (hd : decode M.2.1 pc = .ok (.invokestatic ix, 3)) (kk : Gk X M ids (pc + 3) L st (upA D j (va_cpy (D i) (D j) 0 0 n))) : Gk X M ids pc L (vi N :: vi dp :: vr j :: vi sp :: vr i :: st) D := by
  subst hN h0 h1
  intro H locs ls hH hL
  obtain ⟨q, hq⟩ := cw_in hi
  obtain ⟨q1, hq1⟩ := cw_in hj
  have he := cw_at (ad := xa X) (dT := xT X) (D := D) hq
  have he1 := cw_at (ad := xa X) (dT := xT X) (D := D) hq1
  rw [ce_arr hsi] at he
  rw [ce_arr hsj] at he1
  have ht := cx.2.2.2.2.2.2.1
  have hc0 : (0 : Int32).toNatClampNeg = 0 := by decide
  refine va_copyi (ty := .int) cx.1 cx.2.1 (by rw [cx.2.2.1, hL.1]) cx.2.2.2.2.2.1 (ht _ hw) (ht _ hnat) (ht _ hstt) (ht _ hini) cx.2.2.2.2.2.2.2.1 hH.1 hH.2.1 hH.2.2 q q1 0 0 he he1 rfl rfl rfl (by decide) (by decide) (nI_pos hlt) (by rw [hc0, nI_clamp hlt]; omega) (by rw [hc0, nI_clamp hlt]; omega) (fun _ _ => rfl) (by have := cx.2.2.2.2.2.2.2.2.2.1; omega) ?_ hd (fun H1 locs1 hP hD hS => ?_)
  · rw [rcat_eq]
    have := cx.2.2.2.2.2.2.2.2.2.2.1
    have e : nativeFrameWords "java/lang/System" "arraycopy" 5 + 11 ≤ 30 := by decide
    omega
  · rw [hc0, nI_clamp hlt, ← ce_arr (ad := xa X) hsj, cw_set hH.2.1 hq1] at hP hD
    exact kk H1 locs1 ls ⟨hP, hD, hS⟩ hL
/-- Math.min -/
theorem g_min {ix : Nat} {x y : Int32} (cx : Cx X M ids d) (hw : Cond.methodLink M.1.cls ix Lib.Math.min.name ∈ TB) (hstt : Cond.static Lib.Math.min.name ∈ TB) (hini : Cond.initialized "java/lang/Math" ∈ TB) (hcode : Cond.code Lib.Math.min.name Lib.Math.min.code 2 (some .int) ∈ TB) (hr : rcat st ≤ 8) (hdd : 1 ≤ d) (hd : decode M.2.1 pc = .ok (.invokestatic ix, 3)) (kk : Gk X M ids (pc + 3) L (vi (if y < x then y else x) :: st) D) : Gk X M ids pc L (vi y :: vi x :: st) D := by
  intro H locs ls hH hL
  have ht := cx.2.2.2.2.2.2.1
  refine va_mmin cx.1 cx.2.1 (by rw [cx.2.2.1, hL.1]) cx.2.2.2.2.2.1 (ht _ hw) (ht _ hstt) (ht _ hini) (ht _ hcode) (by have := cx.2.2.2.2.2.2.2.2.2.1; omega) ?_ cx.2.2.2.2.2.2.2.2.2.2.2.1 cx.2.2.2.2.2.2.2.2.2.2.2.2 hd (kk H locs ls hH hL)
  rw [rcat_eq]
  have := cx.2.2.2.2.2.2.2.2.2.2.1
  omega
end CELLS
end
