-- ===== PART A: goes FIRST, ahead of the names: the tables' words, and 'selects' of the private methods out of them =====
/-- a private method of a class that the tables say can be made, by its rows of tables_1 -/
def lw_okq (q : MethodName × Nat) : Prop := (q.1.cls ≠ "java/lang/invoke/MethodHandle" ∧ q.1.cls ≠ "java/lang/invoke/VarHandle") ∧ Cond.instantiable q.1.cls q.2 ∈ tables_1 ∧ Cond.privateMethod q.1 ∈ tables_1 ∧ Cond.instanceMethod q.1 ∈ tables_1
theorem lw_p0 : lw_okq (⟨"TimingLights", "recorded", "(I)I"⟩, 7) := ⟨⟨by decide +kernel, by decide +kernel⟩, List.mem_of_getElem? (i := 17) (by decide +kernel), List.mem_of_getElem? (i := 155) (by decide +kernel), List.mem_of_getElem? (i := 156) (by decide +kernel)⟩
theorem lw_p1 : lw_okq (⟨"TimingLights$Pad", "write", "(C)V"⟩, 8) := ⟨⟨by decide +kernel, by decide +kernel⟩, List.mem_of_getElem? (i := 41) (by decide +kernel), List.mem_of_getElem? (i := 476) (by decide +kernel), List.mem_of_getElem? (i := 477) (by decide +kernel)⟩
theorem lw_p2 : lw_okq (⟨"TimingLights$Pad", "readSign", "(C)Z"⟩, 8) := ⟨⟨by decide +kernel, by decide +kernel⟩, List.mem_of_getElem? (i := 41) (by decide +kernel), List.mem_of_getElem? (i := 504) (by decide +kernel), List.mem_of_getElem? (i := 505) (by decide +kernel)⟩
theorem lw_p3 : lw_okq (⟨"TimingLights$Pad", "here", "()I"⟩, 8) := ⟨⟨by decide +kernel, by decide +kernel⟩, List.mem_of_getElem? (i := 41) (by decide +kernel), List.mem_of_getElem? (i := 508) (by decide +kernel), List.mem_of_getElem? (i := 509) (by decide +kernel)⟩
theorem lw_p4 : lw_okq (⟨"TimingLights$Pad", "readPart", "(C)Z"⟩, 8) := ⟨⟨by decide +kernel, by decide +kernel⟩, List.mem_of_getElem? (i := 41) (by decide +kernel), List.mem_of_getElem? (i := 572) (by decide +kernel), List.mem_of_getElem? (i := 573) (by decide +kernel)⟩
theorem lw_p5 : lw_okq (⟨"TimingLights$Pad", "readNumber", "()Z"⟩, 8) := ⟨⟨by decide +kernel, by decide +kernel⟩, List.mem_of_getElem? (i := 41) (by decide +kernel), List.mem_of_getElem? (i := 576) (by decide +kernel), List.mem_of_getElem? (i := 577) (by decide +kernel)⟩
theorem lw_p6 : lw_okq (⟨"TimingLights$Pad", "isDigitHere", "()Z"⟩, 8) := ⟨⟨by decide +kernel, by decide +kernel⟩, List.mem_of_getElem? (i := 41) (by decide +kernel), List.mem_of_getElem? (i := 580) (by decide +kernel), List.mem_of_getElem? (i := 581) (by decide +kernel)⟩
theorem lw_p7 : lw_okq (⟨"TimingLights$Pad", "readColour", "()Z"⟩, 8) := ⟨⟨by decide +kernel, by decide +kernel⟩, List.mem_of_getElem? (i := 41) (by decide +kernel), List.mem_of_getElem? (i := 584) (by decide +kernel), List.mem_of_getElem? (i := 585) (by decide +kernel)⟩
theorem lw_p8 : lw_okq (⟨"TimingLights", "carryOutOrder", "()I"⟩, 7) := ⟨⟨by decide +kernel, by decide +kernel⟩, List.mem_of_getElem? (i := 17) (by decide +kernel), List.mem_of_getElem? (i := 599) (by decide +kernel), List.mem_of_getElem? (i := 600) (by decide +kernel)⟩
theorem lw_p9 : lw_okq (⟨"TimingLightsModel", "putAside", "()V"⟩, 11) := ⟨⟨by decide +kernel, by decide +kernel⟩, List.mem_of_getElem? (i := 648) (by decide +kernel), List.mem_of_getElem? (i := 706) (by decide +kernel), List.mem_of_getElem? (i := 707) (by decide +kernel)⟩
theorem lw_p10 : lw_okq (⟨"TimingLightsModel", "push", "()V"⟩, 11) := ⟨⟨by decide +kernel, by decide +kernel⟩, List.mem_of_getElem? (i := 648) (by decide +kernel), List.mem_of_getElem? (i := 710) (by decide +kernel), List.mem_of_getElem? (i := 711) (by decide +kernel)⟩
theorem lw_p11 : lw_okq (⟨"TimingLightsModel", "recorded", "(I)I"⟩, 11) := ⟨⟨by decide +kernel, by decide +kernel⟩, List.mem_of_getElem? (i := 648) (by decide +kernel), List.mem_of_getElem? (i := 721) (by decide +kernel), List.mem_of_getElem? (i := 722) (by decide +kernel)⟩
theorem lw_p12 : lw_okq (⟨"TimingLightsModel", "comes", "(IIIII)I"⟩, 11) := ⟨⟨by decide +kernel, by decide +kernel⟩, List.mem_of_getElem? (i := 648) (by decide +kernel), List.mem_of_getElem? (i := 729) (by decide +kernel), List.mem_of_getElem? (i := 730) (by decide +kernel)⟩
theorem lw_p13 : lw_okq (⟨"TimingLightsModel", "open", "(I)V"⟩, 11) := ⟨⟨by decide +kernel, by decide +kernel⟩, List.mem_of_getElem? (i := 648) (by decide +kernel), List.mem_of_getElem? (i := 736) (by decide +kernel), List.mem_of_getElem? (i := 737) (by decide +kernel)⟩
theorem lw_p14 : lw_okq (⟨"TimingLightsModel", "setOf", "(III)V"⟩, 11) := ⟨⟨by decide +kernel, by decide +kernel⟩, List.mem_of_getElem? (i := 648) (by decide +kernel), List.mem_of_getElem? (i := 740) (by decide +kernel), List.mem_of_getElem? (i := 741) (by decide +kernel)⟩
theorem lw_p15 : lw_okq (⟨"TimingLightsModel", "takeAnswer", "(I)V"⟩, 11) := ⟨⟨by decide +kernel, by decide +kernel⟩, List.mem_of_getElem? (i := 648) (by decide +kernel), List.mem_of_getElem? (i := 744) (by decide +kernel), List.mem_of_getElem? (i := 745) (by decide +kernel)⟩
def lw_privs_1 : List (MethodName × Nat) := [(⟨"TimingLights", "recorded", "(I)I"⟩, 7), (⟨"TimingLights$Pad", "write", "(C)V"⟩, 8), (⟨"TimingLights$Pad", "readSign", "(C)Z"⟩, 8), (⟨"TimingLights$Pad", "here", "()I"⟩, 8), (⟨"TimingLights$Pad", "readPart", "(C)Z"⟩, 8), (⟨"TimingLights$Pad", "readNumber", "()Z"⟩, 8), (⟨"TimingLights$Pad", "isDigitHere", "()Z"⟩, 8), (⟨"TimingLights$Pad", "readColour", "()Z"⟩, 8), (⟨"TimingLights", "carryOutOrder", "()I"⟩, 7), (⟨"TimingLightsModel", "putAside", "()V"⟩, 11), (⟨"TimingLightsModel", "push", "()V"⟩, 11), (⟨"TimingLightsModel", "recorded", "(I)I"⟩, 11), (⟨"TimingLightsModel", "comes", "(IIIII)I"⟩, 11), (⟨"TimingLightsModel", "open", "(I)V"⟩, 11), (⟨"TimingLightsModel", "setOf", "(III)V"⟩, 11), (⟨"TimingLightsModel", "takeAnswer", "(I)V"⟩, 11)]
theorem lw_r1 : ∀ q ∈ lw_privs_1, lw_okq q := List.forall_mem_cons.mpr ⟨lw_p0, List.forall_mem_cons.mpr ⟨lw_p1, List.forall_mem_cons.mpr ⟨lw_p2, List.forall_mem_cons.mpr ⟨lw_p3, List.forall_mem_cons.mpr ⟨lw_p4, List.forall_mem_cons.mpr ⟨lw_p5, List.forall_mem_cons.mpr ⟨lw_p6, List.forall_mem_cons.mpr ⟨lw_p7, List.forall_mem_cons.mpr ⟨lw_p8, List.forall_mem_cons.mpr ⟨lw_p9, List.forall_mem_cons.mpr ⟨lw_p10, List.forall_mem_cons.mpr ⟨lw_p11, List.forall_mem_cons.mpr ⟨lw_p12, List.forall_mem_cons.mpr ⟨lw_p13, List.forall_mem_cons.mpr ⟨lw_p14, List.forall_mem_cons.mpr ⟨lw_p15, fun _ h => absurd h List.not_mem_nil⟩⟩⟩⟩⟩⟩⟩⟩⟩⟩⟩⟩⟩⟩⟩⟩
theorem lw_p16 : lw_okq (⟨"TimingLightsModel", "isShot", "(I)Z"⟩, 11) := ⟨⟨by decide +kernel, by decide +kernel⟩, List.mem_of_getElem? (i := 648) (by decide +kernel), List.mem_of_getElem? (i := 752) (by decide +kernel), List.mem_of_getElem? (i := 753) (by decide +kernel)⟩
theorem lw_p17 : lw_okq (⟨"TimingLightsModel", "shut", "(I)V"⟩, 11) := ⟨⟨by decide +kernel, by decide +kernel⟩, List.mem_of_getElem? (i := 648) (by decide +kernel), List.mem_of_getElem? (i := 756) (by decide +kernel), List.mem_of_getElem? (i := 757) (by decide +kernel)⟩
theorem lw_p18 : lw_okq (⟨"TimingLightsModel", "lights", "(III)I"⟩, 11) := ⟨⟨by decide +kernel, by decide +kernel⟩, List.mem_of_getElem? (i := 648) (by decide +kernel), List.mem_of_getElem? (i := 764) (by decide +kernel), List.mem_of_getElem? (i := 765) (by decide +kernel)⟩
theorem lw_p19 : lw_okq (⟨"TimingLightsModel", "of14", "(II)I"⟩, 11) := ⟨⟨by decide +kernel, by decide +kernel⟩, List.mem_of_getElem? (i := 648) (by decide +kernel), List.mem_of_getElem? (i := 771) (by decide +kernel), List.mem_of_getElem? (i := 772) (by decide +kernel)⟩
theorem lw_p20 : lw_okq (⟨"TimingLightsModel", "wishes", "(III)I"⟩, 11) := ⟨⟨by decide +kernel, by decide +kernel⟩, List.mem_of_getElem? (i := 648) (by decide +kernel), List.mem_of_getElem? (i := 779) (by decide +kernel), List.mem_of_getElem? (i := 780) (by decide +kernel)⟩
theorem lw_p21 : lw_okq (⟨"TimingLightsModel", "moves", "(II)I"⟩, 11) := ⟨⟨by decide +kernel, by decide +kernel⟩, List.mem_of_getElem? (i := 648) (by decide +kernel), List.mem_of_getElem? (i := 787) (by decide +kernel), List.mem_of_getElem? (i := 788) (by decide +kernel)⟩
theorem lw_p22 : lw_okq (⟨"TimingLightsModel", "exchange", "(II)V"⟩, 11) := ⟨⟨by decide +kernel, by decide +kernel⟩, List.mem_of_getElem? (i := 648) (by decide +kernel), List.mem_of_getElem? (i := 791) (by decide +kernel), List.mem_of_getElem? (i := 792) (by decide +kernel)⟩
theorem lw_p23 : lw_okq (⟨"TimingLightsModel", "splits", "(II)I"⟩, 11) := ⟨⟨by decide +kernel, by decide +kernel⟩, List.mem_of_getElem? (i := 648) (by decide +kernel), List.mem_of_getElem? (i := 802) (by decide +kernel), List.mem_of_getElem? (i := 803) (by decide +kernel)⟩
theorem lw_p24 : lw_okq (⟨"TimingLightsModel", "joins", "(I)I"⟩, 11) := ⟨⟨by decide +kernel, by decide +kernel⟩, List.mem_of_getElem? (i := 648) (by decide +kernel), List.mem_of_getElem? (i := 810) (by decide +kernel), List.mem_of_getElem? (i := 811) (by decide +kernel)⟩
theorem lw_p25 : lw_okq (⟨"TimingLightsModel", "areAlike", "(I)Z"⟩, 11) := ⟨⟨by decide +kernel, by decide +kernel⟩, List.mem_of_getElem? (i := 648) (by decide +kernel), List.mem_of_getElem? (i := 814) (by decide +kernel), List.mem_of_getElem? (i := 815) (by decide +kernel)⟩
theorem lw_p26 : lw_okq (⟨"TimingLightsModel", "makesPrint", "()I"⟩, 11) := ⟨⟨by decide +kernel, by decide +kernel⟩, List.mem_of_getElem? (i := 648) (by decide +kernel), List.mem_of_getElem? (i := 822) (by decide +kernel), List.mem_of_getElem? (i := 823) (by decide +kernel)⟩
theorem lw_p27 : lw_okq (⟨"TimingLightsModel", "oldest", "()I"⟩, 11) := ⟨⟨by decide +kernel, by decide +kernel⟩, List.mem_of_getElem? (i := 648) (by decide +kernel), List.mem_of_getElem? (i := 826) (by decide +kernel), List.mem_of_getElem? (i := 827) (by decide +kernel)⟩
theorem lw_p28 : lw_okq (⟨"TimingLightsModel", "hours", "()I"⟩, 11) := ⟨⟨by decide +kernel, by decide +kernel⟩, List.mem_of_getElem? (i := 648) (by decide +kernel), List.mem_of_getElem? (i := 830) (by decide +kernel), List.mem_of_getElem? (i := 831) (by decide +kernel)⟩
theorem lw_p29 : lw_okq (⟨"TimingLightsModel", "feetTo", "(I)I"⟩, 11) := ⟨⟨by decide +kernel, by decide +kernel⟩, List.mem_of_getElem? (i := 648) (by decide +kernel), List.mem_of_getElem? (i := 834) (by decide +kernel), List.mem_of_getElem? (i := 835) (by decide +kernel)⟩
theorem lw_p30 : lw_okq (⟨"TimingLightsModel", "makePrint", "()V"⟩, 11) := ⟨⟨by decide +kernel, by decide +kernel⟩, List.mem_of_getElem? (i := 648) (by decide +kernel), List.mem_of_getElem? (i := 838) (by decide +kernel), List.mem_of_getElem? (i := 839) (by decide +kernel)⟩
theorem lw_p31 : lw_okq (⟨"TimingLightsModel", "off", "(II)I"⟩, 11) := ⟨⟨by decide +kernel, by decide +kernel⟩, List.mem_of_getElem? (i := 648) (by decide +kernel), List.mem_of_getElem? (i := 842) (by decide +kernel), List.mem_of_getElem? (i := 843) (by decide +kernel)⟩
def lw_privs_2 : List (MethodName × Nat) := [(⟨"TimingLightsModel", "isShot", "(I)Z"⟩, 11), (⟨"TimingLightsModel", "shut", "(I)V"⟩, 11), (⟨"TimingLightsModel", "lights", "(III)I"⟩, 11), (⟨"TimingLightsModel", "of14", "(II)I"⟩, 11), (⟨"TimingLightsModel", "wishes", "(III)I"⟩, 11), (⟨"TimingLightsModel", "moves", "(II)I"⟩, 11), (⟨"TimingLightsModel", "exchange", "(II)V"⟩, 11), (⟨"TimingLightsModel", "splits", "(II)I"⟩, 11), (⟨"TimingLightsModel", "joins", "(I)I"⟩, 11), (⟨"TimingLightsModel", "areAlike", "(I)Z"⟩, 11), (⟨"TimingLightsModel", "makesPrint", "()I"⟩, 11), (⟨"TimingLightsModel", "oldest", "()I"⟩, 11), (⟨"TimingLightsModel", "hours", "()I"⟩, 11), (⟨"TimingLightsModel", "feetTo", "(I)I"⟩, 11), (⟨"TimingLightsModel", "makePrint", "()V"⟩, 11), (⟨"TimingLightsModel", "off", "(II)I"⟩, 11)]
theorem lw_r2 : ∀ q ∈ lw_privs_2, lw_okq q := List.forall_mem_cons.mpr ⟨lw_p16, List.forall_mem_cons.mpr ⟨lw_p17, List.forall_mem_cons.mpr ⟨lw_p18, List.forall_mem_cons.mpr ⟨lw_p19, List.forall_mem_cons.mpr ⟨lw_p20, List.forall_mem_cons.mpr ⟨lw_p21, List.forall_mem_cons.mpr ⟨lw_p22, List.forall_mem_cons.mpr ⟨lw_p23, List.forall_mem_cons.mpr ⟨lw_p24, List.forall_mem_cons.mpr ⟨lw_p25, List.forall_mem_cons.mpr ⟨lw_p26, List.forall_mem_cons.mpr ⟨lw_p27, List.forall_mem_cons.mpr ⟨lw_p28, List.forall_mem_cons.mpr ⟨lw_p29, List.forall_mem_cons.mpr ⟨lw_p30, List.forall_mem_cons.mpr ⟨lw_p31, fun _ h => absurd h List.not_mem_nil⟩⟩⟩⟩⟩⟩⟩⟩⟩⟩⟩⟩⟩⟩⟩⟩
theorem lw_p32 : lw_okq (⟨"TimingLightsModel", "prints", "(II)I"⟩, 11) := ⟨⟨by decide +kernel, by decide +kernel⟩, List.mem_of_getElem? (i := 648) (by decide +kernel), List.mem_of_getElem? (i := 846) (by decide +kernel), List.mem_of_getElem? (i := 847) (by decide +kernel)⟩
theorem lw_p33 : lw_okq (⟨"TimingLightsModel", "printed", "(III)I"⟩, 11) := ⟨⟨by decide +kernel, by decide +kernel⟩, List.mem_of_getElem? (i := 648) (by decide +kernel), List.mem_of_getElem? (i := 850) (by decide +kernel), List.mem_of_getElem? (i := 851) (by decide +kernel)⟩
theorem lw_p34 : lw_okq (⟨"TimingLightsModel", "lost", "(I)I"⟩, 11) := ⟨⟨by decide +kernel, by decide +kernel⟩, List.mem_of_getElem? (i := 648) (by decide +kernel), List.mem_of_getElem? (i := 854) (by decide +kernel), List.mem_of_getElem? (i := 855) (by decide +kernel)⟩
theorem lw_p35 : lw_okq (⟨"TimingLightsModel", "badOnes", "()I"⟩, 11) := ⟨⟨by decide +kernel, by decide +kernel⟩, List.mem_of_getElem? (i := 648) (by decide +kernel), List.mem_of_getElem? (i := 861) (by decide +kernel), List.mem_of_getElem? (i := 862) (by decide +kernel)⟩
theorem lw_p36 : lw_okq (⟨"TimingLightsModel", "isBad", "(I)Z"⟩, 11) := ⟨⟨by decide +kernel, by decide +kernel⟩, List.mem_of_getElem? (i := 648) (by decide +kernel), List.mem_of_getElem? (i := 865) (by decide +kernel), List.mem_of_getElem? (i := 866) (by decide +kernel)⟩
theorem lw_p37 : lw_okq (⟨"TimingLightsModel", "corrects", "(I)I"⟩, 11) := ⟨⟨by decide +kernel, by decide +kernel⟩, List.mem_of_getElem? (i := 648) (by decide +kernel), List.mem_of_getElem? (i := 876) (by decide +kernel), List.mem_of_getElem? (i := 877) (by decide +kernel)⟩
theorem lw_p38 : lw_okq (⟨"TimingLightsModel", "correctOne", "(I)I"⟩, 11) := ⟨⟨by decide +kernel, by decide +kernel⟩, List.mem_of_getElem? (i := 648) (by decide +kernel), List.mem_of_getElem? (i := 880) (by decide +kernel), List.mem_of_getElem? (i := 881) (by decide +kernel)⟩
theorem lw_p39 : lw_okq (⟨"TimingLightsModel", "correctsAll", "()I"⟩, 11) := ⟨⟨by decide +kernel, by decide +kernel⟩, List.mem_of_getElem? (i := 648) (by decide +kernel), List.mem_of_getElem? (i := 888) (by decide +kernel), List.mem_of_getElem? (i := 889) (by decide +kernel)⟩
theorem lw_p40 : lw_okq (⟨"TimingLightsModel", "cards", "()I"⟩, 11) := ⟨⟨by decide +kernel, by decide +kernel⟩, List.mem_of_getElem? (i := 648) (by decide +kernel), List.mem_of_getElem? (i := 896) (by decide +kernel), List.mem_of_getElem? (i := 897) (by decide +kernel)⟩
theorem lw_p41 : lw_okq (⟨"TimingLightsModel", "isJump", "(I)Z"⟩, 11) := ⟨⟨by decide +kernel, by decide +kernel⟩, List.mem_of_getElem? (i := 648) (by decide +kernel), List.mem_of_getElem? (i := 912) (by decide +kernel), List.mem_of_getElem? (i := 913) (by decide +kernel)⟩
theorem lw_p42 : lw_okq (⟨"TimingLightsModel", "answer", "(II)I"⟩, 11) := ⟨⟨by decide +kernel, by decide +kernel⟩, List.mem_of_getElem? (i := 648) (by decide +kernel), List.mem_of_getElem? (i := 920) (by decide +kernel), List.mem_of_getElem? (i := 921) (by decide +kernel)⟩
theorem lw_p43 : lw_okq (⟨"TimingLightsModel", "those", "(I)I"⟩, 11) := ⟨⟨by decide +kernel, by decide +kernel⟩, List.mem_of_getElem? (i := 648) (by decide +kernel), List.mem_of_getElem? (i := 932) (by decide +kernel), List.mem_of_getElem? (i := 933) (by decide +kernel)⟩
theorem lw_p44 : lw_okq (⟨"TimingLightsModel", "isOff", "(I)Z"⟩, 11) := ⟨⟨by decide +kernel, by decide +kernel⟩, List.mem_of_getElem? (i := 648) (by decide +kernel), List.mem_of_getElem? (i := 936) (by decide +kernel), List.mem_of_getElem? (i := 937) (by decide +kernel)⟩
theorem lw_p45 : lw_okq (⟨"TimingLightsModel", "needed", "(II)I"⟩, 11) := ⟨⟨by decide +kernel, by decide +kernel⟩, List.mem_of_getElem? (i := 648) (by decide +kernel), List.mem_of_getElem? (i := 944) (by decide +kernel), List.mem_of_getElem? (i := 945) (by decide +kernel)⟩
theorem lw_p46 : lw_okq (⟨"TimingLightsModel", "isTooWeak", "(I)Z"⟩, 11) := ⟨⟨by decide +kernel, by decide +kernel⟩, List.mem_of_getElem? (i := 648) (by decide +kernel), List.mem_of_getElem? (i := 956) (by decide +kernel), List.mem_of_getElem? (i := 957) (by decide +kernel)⟩
theorem lw_p47 : lw_okq (⟨"TimingLightsModel", "allOff", "(I)I"⟩, 11) := ⟨⟨by decide +kernel, by decide +kernel⟩, List.mem_of_getElem? (i := 648) (by decide +kernel), List.mem_of_getElem? (i := 964) (by decide +kernel), List.mem_of_getElem? (i := 965) (by decide +kernel)⟩
def lw_privs_3 : List (MethodName × Nat) := [(⟨"TimingLightsModel", "prints", "(II)I"⟩, 11), (⟨"TimingLightsModel", "printed", "(III)I"⟩, 11), (⟨"TimingLightsModel", "lost", "(I)I"⟩, 11), (⟨"TimingLightsModel", "badOnes", "()I"⟩, 11), (⟨"TimingLightsModel", "isBad", "(I)Z"⟩, 11), (⟨"TimingLightsModel", "corrects", "(I)I"⟩, 11), (⟨"TimingLightsModel", "correctOne", "(I)I"⟩, 11), (⟨"TimingLightsModel", "correctsAll", "()I"⟩, 11), (⟨"TimingLightsModel", "cards", "()I"⟩, 11), (⟨"TimingLightsModel", "isJump", "(I)Z"⟩, 11), (⟨"TimingLightsModel", "answer", "(II)I"⟩, 11), (⟨"TimingLightsModel", "those", "(I)I"⟩, 11), (⟨"TimingLightsModel", "isOff", "(I)Z"⟩, 11), (⟨"TimingLightsModel", "needed", "(II)I"⟩, 11), (⟨"TimingLightsModel", "isTooWeak", "(I)Z"⟩, 11), (⟨"TimingLightsModel", "allOff", "(I)I"⟩, 11)]
theorem lw_r3 : ∀ q ∈ lw_privs_3, lw_okq q := List.forall_mem_cons.mpr ⟨lw_p32, List.forall_mem_cons.mpr ⟨lw_p33, List.forall_mem_cons.mpr ⟨lw_p34, List.forall_mem_cons.mpr ⟨lw_p35, List.forall_mem_cons.mpr ⟨lw_p36, List.forall_mem_cons.mpr ⟨lw_p37, List.forall_mem_cons.mpr ⟨lw_p38, List.forall_mem_cons.mpr ⟨lw_p39, List.forall_mem_cons.mpr ⟨lw_p40, List.forall_mem_cons.mpr ⟨lw_p41, List.forall_mem_cons.mpr ⟨lw_p42, List.forall_mem_cons.mpr ⟨lw_p43, List.forall_mem_cons.mpr ⟨lw_p44, List.forall_mem_cons.mpr ⟨lw_p45, List.forall_mem_cons.mpr ⟨lw_p46, List.forall_mem_cons.mpr ⟨lw_p47, fun _ h => absurd h List.not_mem_nil⟩⟩⟩⟩⟩⟩⟩⟩⟩⟩⟩⟩⟩⟩⟩⟩
theorem lw_p48 : lw_okq (⟨"TimingLightsModel", "takeBack", "()V"⟩, 11) := ⟨⟨by decide +kernel, by decide +kernel⟩, List.mem_of_getElem? (i := 648) (by decide +kernel), List.mem_of_getElem? (i := 972) (by decide +kernel), List.mem_of_getElem? (i := 973) (by decide +kernel)⟩
theorem lw_p49 : lw_okq (⟨"TimingLightsModel", "findFault", "()I"⟩, 11) := ⟨⟨by decide +kernel, by decide +kernel⟩, List.mem_of_getElem? (i := 648) (by decide +kernel), List.mem_of_getElem? (i := 995) (by decide +kernel), List.mem_of_getElem? (i := 996) (by decide +kernel)⟩
theorem lw_p50 : lw_okq (⟨"TimingLightsModel", "readsOrder", "()Z"⟩, 11) := ⟨⟨by decide +kernel, by decide +kernel⟩, List.mem_of_getElem? (i := 648) (by decide +kernel), List.mem_of_getElem? (i := 999) (by decide +kernel), List.mem_of_getElem? (i := 1000) (by decide +kernel)⟩
theorem lw_p51 : lw_okq (⟨"TimingLightsModel", "code", "()I"⟩, 11) := ⟨⟨by decide +kernel, by decide +kernel⟩, List.mem_of_getElem? (i := 648) (by decide +kernel), List.mem_of_getElem? (i := 1003) (by decide +kernel), List.mem_of_getElem? (i := 1004) (by decide +kernel)⟩
theorem lw_p52 : lw_okq (⟨"TimingLightsModel", "readsNumber", "(I)Z"⟩, 11) := ⟨⟨by decide +kernel, by decide +kernel⟩, List.mem_of_getElem? (i := 648) (by decide +kernel), List.mem_of_getElem? (i := 1007) (by decide +kernel), List.mem_of_getElem? (i := 1008) (by decide +kernel)⟩
theorem lw_p53 : lw_okq (⟨"TimingLightsModel", "takes", "(I)Z"⟩, 11) := ⟨⟨by decide +kernel, by decide +kernel⟩, List.mem_of_getElem? (i := 648) (by decide +kernel), List.mem_of_getElem? (i := 1011) (by decide +kernel), List.mem_of_getElem? (i := 1012) (by decide +kernel)⟩
theorem lw_p54 : lw_okq (⟨"TimingLightsModel", "readsColour", "()Z"⟩, 11) := ⟨⟨by decide +kernel, by decide +kernel⟩, List.mem_of_getElem? (i := 648) (by decide +kernel), List.mem_of_getElem? (i := 1015) (by decide +kernel), List.mem_of_getElem? (i := 1016) (by decide +kernel)⟩
theorem lw_p55 : lw_okq (⟨"TimingLightsModel", "readsWish", "()Z"⟩, 11) := ⟨⟨by decide +kernel, by decide +kernel⟩, List.mem_of_getElem? (i := 648) (by decide +kernel), List.mem_of_getElem? (i := 1019) (by decide +kernel), List.mem_of_getElem? (i := 1020) (by decide +kernel)⟩
theorem lw_p56 : lw_okq (⟨"TimingLightsModel", "doesOrder", "()I"⟩, 11) := ⟨⟨by decide +kernel, by decide +kernel⟩, List.mem_of_getElem? (i := 648) (by decide +kernel), List.mem_of_getElem? (i := 1027) (by decide +kernel), List.mem_of_getElem? (i := 1028) (by decide +kernel)⟩
def lw_privs_4 : List (MethodName × Nat) := [(⟨"TimingLightsModel", "takeBack", "()V"⟩, 11), (⟨"TimingLightsModel", "findFault", "()I"⟩, 11), (⟨"TimingLightsModel", "readsOrder", "()Z"⟩, 11), (⟨"TimingLightsModel", "code", "()I"⟩, 11), (⟨"TimingLightsModel", "readsNumber", "(I)Z"⟩, 11), (⟨"TimingLightsModel", "takes", "(I)Z"⟩, 11), (⟨"TimingLightsModel", "readsColour", "()Z"⟩, 11), (⟨"TimingLightsModel", "readsWish", "()Z"⟩, 11), (⟨"TimingLightsModel", "doesOrder", "()I"⟩, 11)]
theorem lw_r4 : ∀ q ∈ lw_privs_4, lw_okq q := List.forall_mem_cons.mpr ⟨lw_p48, List.forall_mem_cons.mpr ⟨lw_p49, List.forall_mem_cons.mpr ⟨lw_p50, List.forall_mem_cons.mpr ⟨lw_p51, List.forall_mem_cons.mpr ⟨lw_p52, List.forall_mem_cons.mpr ⟨lw_p53, List.forall_mem_cons.mpr ⟨lw_p54, List.forall_mem_cons.mpr ⟨lw_p55, List.forall_mem_cons.mpr ⟨lw_p56, fun _ h => absurd h List.not_mem_nil⟩⟩⟩⟩⟩⟩⟩⟩⟩
def lw_privs : List (MethodName × Nat) := lw_privs_1 ++ (lw_privs_2 ++ (lw_privs_3 ++ (lw_privs_4)))
def lw_tbl : List Cond := k2_sels lw_privs ++ tables_1
theorem lw_privs_ok : ∀ q ∈ lw_privs, lw_okq q := by
  show ∀ q ∈ lw_privs_1 ++ (lw_privs_2 ++ (lw_privs_3 ++ (lw_privs_4))), lw_okq q
  exact List.forall_mem_append.mpr ⟨lw_r1, List.forall_mem_append.mpr ⟨lw_r2, List.forall_mem_append.mpr ⟨lw_r3, lw_r4⟩⟩⟩
def RX0 : String := "TimingLights$Changes"
def TX0 : u_T := fun k => match k with
  | _ => ("", "", "", false)
def tyX0 : Nat → FieldType := fun k => match k with
  | _ => .int
abbrev wsX00 : List Cond := u_ws RX0 TX0 0
theorem nmX0 : ∀ a, a < 0 → ∀ b, b < 0 → a ≠ b → (TX0 a).2.1 ≠ (TX0 b).2.1 := by decide +kernel
theorem tyX0_ok : ∀ k, k < 0 → parseFieldDescriptor (TX0 k).2.2.1 = some (tyX0 k) := by decide +kernel
abbrev cX0_changeSetting : ByteArray := prog_2_method_2_code
def yX0_changeSetting : MethodName := ⟨RX0, "changeSetting", "(LTimingLights$Reel;II)I"⟩
abbrev cX0_addShot : ByteArray := prog_2_method_3_code
def yX0_addShot : MethodName := ⟨RX0, "addShot", "(LTimingLights$Reel;IIIII)I"⟩
abbrev cX0_dropShot : ByteArray := prog_2_method_4_code
def yX0_dropShot : MethodName := ⟨RX0, "dropShot", "(LTimingLights$Reel;I)I"⟩
abbrev cX0_changeLight : ByteArray := prog_2_method_5_code
def yX0_changeLight : MethodName := ⟨RX0, "changeLight", "(LTimingLights$Reel;III)I"⟩
abbrev cX0_changeWish : ByteArray := prog_2_method_6_code
def yX0_changeWish : MethodName := ⟨RX0, "changeWish", "(LTimingLights$Reel;III)I"⟩
abbrev cX0_moveShot : ByteArray := prog_2_method_7_code
def yX0_moveShot : MethodName := ⟨RX0, "moveShot", "(LTimingLights$Reel;II)I"⟩
abbrev cX0_splitShot : ByteArray := prog_2_method_8_code
def yX0_splitShot : MethodName := ⟨RX0, "splitShot", "(LTimingLights$Reel;II)I"⟩
abbrev cX0_joinShots : ByteArray := prog_2_method_9_code
def yX0_joinShots : MethodName := ⟨RX0, "joinShots", "(LTimingLights$Reel;I)I"⟩
abbrev cX0_isSameStock : ByteArray := prog_2_method_10_code
def yX0_isSameStock : MethodName := ⟨RX0, "isSameStock", "(LTimingLights$Reel;II)Z"⟩
abbrev cX0_makePrint : ByteArray := prog_2_method_11_code
def yX0_makePrint : MethodName := ⟨RX0, "makePrint", "(LTimingLights$Reel;)I"⟩
abbrev cX0_runPrinter : ByteArray := prog_2_method_12_code
def yX0_runPrinter : MethodName := ⟨RX0, "runPrinter", "(LTimingLights$Reel;)I"⟩
abbrev cX0_hoursOfPrint : ByteArray := prog_2_method_13_code
def yX0_hoursOfPrint : MethodName := ⟨RX0, "hoursOfPrint", "(LTimingLights$Reel;)I"⟩
abbrev cX0_correctShot : ByteArray := prog_2_method_14_code
def yX0_correctShot : MethodName := ⟨RX0, "correctShot", "(LTimingLights$Reel;I)I"⟩
abbrev cX0_correctLight : ByteArray := prog_2_method_15_code
def yX0_correctLight : MethodName := ⟨RX0, "correctLight", "(LTimingLights$Reel;II)I"⟩
abbrev cX0_correctBadShots : ByteArray := prog_2_method_16_code
def yX0_correctBadShots : MethodName := ⟨RX0, "correctBadShots", "(LTimingLights$Reel;)I"⟩
abbrev cX0_setByCard : ByteArray := prog_2_method_17_code
def yX0_setByCard : MethodName := ⟨RX0, "setByCard", "(LTimingLights$Reel;)I"⟩
abbrev cX0_changeTrim : ByteArray := prog_2_method_18_code
def yX0_changeTrim : MethodName := ⟨RX0, "changeTrim", "(LTimingLights$Reel;II)I"⟩
abbrev cX0_changeLamp : ByteArray := prog_2_method_19_code
def yX0_changeLamp : MethodName := ⟨RX0, "changeLamp", "(LTimingLights$Reel;I)I"⟩
abbrev cX0_exchange : ByteArray := prog_2_method_20_code
def yX0_exchange : MethodName := ⟨RX0, "exchange", "(LTimingLights$Reel;II)I"⟩
def RX1 : String := "TimingLights$History"
def TX1 : u_T := fun k => match k with
  | 0 => ("TimingLights$History", "shelf", "LTimingLights$Shelf;", true)
  | 1 => ("TimingLights$History", "oldest", "I", false)
  | _ => ("TimingLights$History", "size", "I", false)
def tyX1 : Nat → FieldType := fun k => match k with
  | 0 => .object "TimingLights$Shelf"
  | 1 => .int
  | _ => .int
abbrev wsX10 : List Cond := u_ws RX1 TX1 3
theorem nmX1 : ∀ a, a < 3 → ∀ b, b < 3 → a ≠ b → (TX1 a).2.1 ≠ (TX1 b).2.1 := by decide +kernel
theorem tyX1_ok : ∀ k, k < 3 → parseFieldDescriptor (TX1 k).2.2.1 = some (tyX1 k) := by decide +kernel
abbrev cX1_init : ByteArray := prog_3_method_1_code
def yX1_init : MethodName := ⟨RX1, "<init>", "()V"⟩
abbrev cX1_size : ByteArray := prog_3_method_2_code
def yX1_size : MethodName := ⟨RX1, "size", "()I"⟩
abbrev cX1_record : ByteArray := prog_3_method_3_code
def yX1_record : MethodName := ⟨RX1, "record", "(LTimingLights$Reel;)V"⟩
abbrev cX1_takeBack : ByteArray := prog_3_method_4_code
def yX1_takeBack : MethodName := ⟨RX1, "takeBack", "(LTimingLights$Reel;)V"⟩
def RX2 : String := "TimingLights$Pad"
def TX2 : u_T := fun k => match k with
  | 0 => ("TimingLights$Pad", "characters", "[C", true)
  | 1 => ("TimingLights$Pad", "numbers", "[I", true)
  | 2 => ("TimingLights$Pad", "length", "I", false)
  | 3 => ("TimingLights$Pad", "at", "I", false)
  | 4 => ("TimingLights$Pad", "numbersRead", "I", false)
  | 5 => ("TimingLights$Pad", "letter", "I", false)
  | 6 => ("TimingLights$Pad", "colour", "I", false)
  | _ => ("TimingLights$Pad", "minus", "Z", false)
def tyX2 : Nat → FieldType := fun k => match k with
  | 0 => .array .char
  | 1 => .array .int
  | 2 => .int
  | 3 => .int
  | 4 => .int
  | 5 => .int
  | 6 => .int
  | _ => .boolean
abbrev wsX20 : List Cond := u_ws RX2 TX2 8
theorem nmX2 : ∀ a, a < 8 → ∀ b, b < 8 → a ≠ b → (TX2 a).2.1 ≠ (TX2 b).2.1 := by decide +kernel
theorem tyX2_ok : ∀ k, k < 8 → parseFieldDescriptor (TX2 k).2.2.1 = some (tyX2 k) := by decide +kernel
abbrev cX2_init : ByteArray := prog_4_method_1_code
def yX2_init : MethodName := ⟨RX2, "<init>", "()V"⟩
abbrev cX2_length : ByteArray := prog_4_method_2_code
def yX2_length : MethodName := ⟨RX2, "length", "()I"⟩
abbrev cX2_letter : ByteArray := prog_4_method_3_code
def yX2_letter : MethodName := ⟨RX2, "letter", "()I"⟩
abbrev cX2_colour : ByteArray := prog_4_method_4_code
def yX2_colour : MethodName := ⟨RX2, "colour", "()I"⟩
abbrev cX2_isMinus : ByteArray := prog_4_method_5_code
def yX2_isMinus : MethodName := ⟨RX2, "isMinus", "()Z"⟩
abbrev cX2_number : ByteArray := prog_4_method_6_code
def yX2_number : MethodName := ⟨RX2, "number", "(I)I"⟩
abbrev cX2_clear : ByteArray := prog_4_method_7_code
def yX2_clear : MethodName := ⟨RX2, "clear", "()I"⟩
abbrev cX2_append : ByteArray := prog_4_method_8_code
def yX2_append : MethodName := ⟨RX2, "append", "(J)I"⟩
abbrev cX2_charactersIn : ByteArray := prog_4_method_9_code
def yX2_charactersIn : MethodName := ⟨RX2, "charactersIn", "(J)I"⟩
abbrev cX2_write : ByteArray := prog_4_method_10_code
def yX2_write : MethodName := ⟨RX2, "write", "(C)V"⟩
abbrev cX2_firstFault : ByteArray := prog_4_method_11_code
def yX2_firstFault : MethodName := ⟨RX2, "firstFault", "()I"⟩
abbrev cX2_startReading : ByteArray := prog_4_method_12_code
def yX2_startReading : MethodName := ⟨RX2, "startReading", "()V"⟩
abbrev cX2_nextOrder : ByteArray := prog_4_method_13_code
def yX2_nextOrder : MethodName := ⟨RX2, "nextOrder", "()Z"⟩
abbrev cX2_formOf : ByteArray := prog_4_method_14_code
def yX2_formOf : MethodName := ⟨RX2, "formOf", "(I)Ljava/lang/String;"⟩
abbrev cX2_readPart : ByteArray := prog_4_method_15_code
def yX2_readPart : MethodName := ⟨RX2, "readPart", "(C)Z"⟩
abbrev cX2_readNumber : ByteArray := prog_4_method_16_code
def yX2_readNumber : MethodName := ⟨RX2, "readNumber", "()Z"⟩
abbrev cX2_readColour : ByteArray := prog_4_method_17_code
def yX2_readColour : MethodName := ⟨RX2, "readColour", "()Z"⟩
abbrev cX2_readSign : ByteArray := prog_4_method_18_code
def yX2_readSign : MethodName := ⟨RX2, "readSign", "(C)Z"⟩
abbrev cX2_isDigitHere : ByteArray := prog_4_method_19_code
def yX2_isDigitHere : MethodName := ⟨RX2, "isDigitHere", "()Z"⟩
abbrev cX2_here : ByteArray := prog_4_method_20_code
def yX2_here : MethodName := ⟨RX2, "here", "()I"⟩
def RX3 : String := "TimingLights$Reel"
def TX3 : u_T := fun k => match k with
  | _ => ("TimingLights$Reel", "cells", "[I", true)
def tyX3 : Nat → FieldType := fun k => match k with
  | _ => .array .int
abbrev wsX30 : List Cond := u_ws RX3 TX3 1
theorem nmX3 : ∀ a, a < 1 → ∀ b, b < 1 → a ≠ b → (TX3 a).2.1 ≠ (TX3 b).2.1 := by decide +kernel
theorem tyX3_ok : ∀ k, k < 1 → parseFieldDescriptor (TX3 k).2.2.1 = some (tyX3 k) := by decide +kernel
abbrev cX3_init : ByteArray := prog_5_method_1_code
def yX3_init : MethodName := ⟨RX3, "<init>", "()V"⟩
abbrev cX3_read : ByteArray := prog_5_method_2_code
def yX3_read : MethodName := ⟨RX3, "read", "(I)I"⟩
abbrev cX3_write : ByteArray := prog_5_method_3_code
def yX3_write : MethodName := ⟨RX3, "write", "(II)V"⟩
abbrev cX3_readShot : ByteArray := prog_5_method_4_code
def yX3_readShot : MethodName := ⟨RX3, "readShot", "(II)I"⟩
abbrev cX3_writeShot : ByteArray := prog_5_method_5_code
def yX3_writeShot : MethodName := ⟨RX3, "writeShot", "(III)V"⟩
abbrev cX3_lampLoss : ByteArray := prog_5_method_6_code
def yX3_lampLoss : MethodName := ⟨RX3, "lampLoss", "(I)I"⟩
abbrev cX3_shots : ByteArray := prog_5_method_7_code
def yX3_shots : MethodName := ⟨RX3, "shots", "()I"⟩
abbrev cX3_hasShot : ByteArray := prog_5_method_8_code
def yX3_hasShot : MethodName := ⟨RX3, "hasShot", "(I)Z"⟩
abbrev cX3_openPlace : ByteArray := prog_5_method_9_code
def yX3_openPlace : MethodName := ⟨RX3, "openPlace", "(I)V"⟩
abbrev cX3_closePlace : ByteArray := prog_5_method_10_code
def yX3_closePlace : MethodName := ⟨RX3, "closePlace", "(I)V"⟩
abbrev cX3_copyShot : ByteArray := prog_5_method_11_code
def yX3_copyShot : MethodName := ⟨RX3, "copyShot", "(II)V"⟩
abbrev cX3_swapShots : ByteArray := prog_5_method_12_code
def yX3_swapShots : MethodName := ⟨RX3, "swapShots", "(II)V"⟩
abbrev cX3_become : ByteArray := prog_5_method_13_code
def yX3_become : MethodName := ⟨RX3, "become", "(LTimingLights$Reel;)V"⟩
abbrev cX3_writeTo : ByteArray := prog_5_method_14_code
def yX3_writeTo : MethodName := ⟨RX3, "writeTo", "([II)V"⟩
abbrev cX3_readFrom : ByteArray := prog_5_method_15_code
def yX3_readFrom : MethodName := ⟨RX3, "readFrom", "([II)V"⟩
def RX4 : String := "TimingLights$Shelf"
def TX4 : u_T := fun k => match k with
  | _ => ("TimingLights$Shelf", "rows", "[I", true)
def tyX4 : Nat → FieldType := fun k => match k with
  | _ => .array .int
abbrev wsX40 : List Cond := u_ws RX4 TX4 1
theorem nmX4 : ∀ a, a < 1 → ∀ b, b < 1 → a ≠ b → (TX4 a).2.1 ≠ (TX4 b).2.1 := by decide +kernel
theorem tyX4_ok : ∀ k, k < 1 → parseFieldDescriptor (TX4 k).2.2.1 = some (tyX4 k) := by decide +kernel
abbrev cX4_init : ByteArray := prog_6_method_1_code
def yX4_init : MethodName := ⟨RX4, "<init>", "(I)V"⟩
abbrev cX4_keep : ByteArray := prog_6_method_2_code
def yX4_keep : MethodName := ⟨RX4, "keep", "(ILTimingLights$Reel;)V"⟩
abbrev cX4_give : ByteArray := prog_6_method_3_code
def yX4_give : MethodName := ⟨RX4, "give", "(ILTimingLights$Reel;)V"⟩
def RX5 : String := "TimingLights$Views"
def TX5 : u_T := fun k => match k with
  | _ => ("", "", "", false)
def tyX5 : Nat → FieldType := fun k => match k with
  | _ => .int
abbrev wsX50 : List Cond := u_ws RX5 TX5 0
theorem nmX5 : ∀ a, a < 0 → ∀ b, b < 0 → a ≠ b → (TX5 a).2.1 ≠ (TX5 b).2.1 := by decide +kernel
theorem tyX5_ok : ∀ k, k < 0 → parseFieldDescriptor (TX5 k).2.2.1 = some (tyX5 k) := by decide +kernel
abbrev cX5_printsWith : ByteArray := prog_7_method_2_code
def yX5_printsWith : MethodName := ⟨RX5, "printsWith", "(LTimingLights$Reel;IIII)I"⟩
abbrev cX5_printsNow : ByteArray := prog_7_method_3_code
def yX5_printsNow : MethodName := ⟨RX5, "printsNow", "(LTimingLights$Reel;II)I"⟩
abbrev cX5_offWith : ByteArray := prog_7_method_4_code
def yX5_offWith : MethodName := ⟨RX5, "offWith", "(LTimingLights$Reel;III)I"⟩
abbrev cX5_offNow : ByteArray := prog_7_method_5_code
def yX5_offNow : MethodName := ⟨RX5, "offNow", "(LTimingLights$Reel;II)I"⟩
abbrev cX5_feetBefore : ByteArray := prog_7_method_6_code
def yX5_feetBefore : MethodName := ⟨RX5, "feetBefore", "(LTimingLights$Reel;I)I"⟩
abbrev cX5_isAnswered : ByteArray := prog_7_method_7_code
def yX5_isAnswered : MethodName := ⟨RX5, "isAnswered", "(LTimingLights$Reel;I)Z"⟩
abbrev cX5_isBad : ByteArray := prog_7_method_8_code
def yX5_isBad : MethodName := ⟨RX5, "isBad", "(LTimingLights$Reel;I)Z"⟩
abbrev cX5_isOff : ByteArray := prog_7_method_9_code
def yX5_isOff : MethodName := ⟨RX5, "isOff", "(LTimingLights$Reel;I)Z"⟩
abbrev cX5_jumps : ByteArray := prog_7_method_10_code
def yX5_jumps : MethodName := ⟨RX5, "jumps", "(LTimingLights$Reel;I)Z"⟩
abbrev cX5_holds : ByteArray := prog_7_method_11_code
def yX5_holds : MethodName := ⟨RX5, "holds", "(LTimingLights$Reel;II)Z"⟩
abbrev cX5_setOf : ByteArray := prog_7_method_12_code
def yX5_setOf : MethodName := ⟨RX5, "setOf", "(LTimingLights$Reel;I)I"⟩
def RX6 : String := "TimingLights$WhatIf"
def TX6 : u_T := fun k => match k with
  | _ => ("", "", "", false)
def tyX6 : Nat → FieldType := fun k => match k with
  | _ => .int
abbrev wsX60 : List Cond := u_ws RX6 TX6 0
theorem nmX6 : ∀ a, a < 0 → ∀ b, b < 0 → a ≠ b → (TX6 a).2.1 ≠ (TX6 b).2.1 := by decide +kernel
theorem tyX6_ok : ∀ k, k < 0 → parseFieldDescriptor (TX6 k).2.2.1 = some (tyX6 k) := by decide +kernel
abbrev cX6_lightNeeded : ByteArray := prog_8_method_2_code
def yX6_lightNeeded : MethodName := ⟨RX6, "lightNeeded", "(LTimingLights$Reel;III)I"⟩
abbrev cX6_hoursLeft : ByteArray := prog_8_method_3_code
def yX6_hoursLeft : MethodName := ⟨RX6, "hoursLeft", "(LTimingLights$Reel;I)I"⟩
abbrev cX6_isSomeLightOut : ByteArray := prog_8_method_4_code
def yX6_isSomeLightOut : MethodName := ⟨RX6, "isSomeLightOut", "(LTimingLights$Reel;II)Z"⟩
abbrev cX6_leastOffTrim : ByteArray := prog_8_method_5_code
def yX6_leastOffTrim : MethodName := ⟨RX6, "leastOffTrim", "(LTimingLights$Reel;I)I"⟩
abbrev cX6_offTogether : ByteArray := prog_8_method_6_code
def yX6_offTogether : MethodName := ⟨RX6, "offTogether", "(LTimingLights$Reel;II)I"⟩
abbrev cX6_printsUntilGood : ByteArray := prog_8_method_7_code
def yX6_printsUntilGood : MethodName := ⟨RX6, "printsUntilGood", "(LTimingLights$Reel;)I"⟩
def RX7 : String := "TimingLights"
def TX7 : u_T := fun k => match k with
  | 0 => ("TimingLights", "reel", "LTimingLights$Reel;", true)
  | 1 => ("TimingLights", "before", "LTimingLights$Reel;", true)
  | 2 => ("TimingLights", "trial", "LTimingLights$Reel;", true)
  | 3 => ("TimingLights", "pad", "LTimingLights$Pad;", true)
  | 4 => ("TimingLights", "history", "LTimingLights$History;", true)
  | 5 => ("TimingLights", "slots", "LTimingLights$Shelf;", true)
  | _ => ("TimingLights", "slotsFilled", "I", false)
def tyX7 : Nat → FieldType := fun k => match k with
  | 0 => .object "TimingLights$Reel"
  | 1 => .object "TimingLights$Reel"
  | 2 => .object "TimingLights$Reel"
  | 3 => .object "TimingLights$Pad"
  | 4 => .object "TimingLights$History"
  | 5 => .object "TimingLights$Shelf"
  | _ => .int
abbrev wsX70 : List Cond := u_ws RX7 TX7 7
theorem nmX7 : ∀ a, a < 7 → ∀ b, b < 7 → a ≠ b → (TX7 a).2.1 ≠ (TX7 b).2.1 := by decide +kernel
theorem tyX7_ok : ∀ k, k < 7 → parseFieldDescriptor (TX7 k).2.2.1 = some (tyX7 k) := by decide +kernel
abbrev cX7_init : ByteArray := prog_1_method_1_code
def yX7_init : MethodName := ⟨RX7, "<init>", "()V"⟩
abbrev cX7_set : ByteArray := prog_1_method_2_code
def yX7_set : MethodName := ⟨RX7, "set", "(II)I"⟩
abbrev cX7_shot : ByteArray := prog_1_method_3_code
def yX7_shot : MethodName := ⟨RX7, "shot", "(IIIII)I"⟩
abbrev cX7_takeOut : ByteArray := prog_1_method_4_code
def yX7_takeOut : MethodName := ⟨RX7, "takeOut", "(I)I"⟩
abbrev cX7_light : ByteArray := prog_1_method_5_code
def yX7_light : MethodName := ⟨RX7, "light", "(III)I"⟩
abbrev cX7_wish : ByteArray := prog_1_method_6_code
def yX7_wish : MethodName := ⟨RX7, "wish", "(III)I"⟩
abbrev cX7_move : ByteArray := prog_1_method_7_code
def yX7_move : MethodName := ⟨RX7, "move", "(II)I"⟩
abbrev cX7_split : ByteArray := prog_1_method_8_code
def yX7_split : MethodName := ⟨RX7, "split", "(II)I"⟩
abbrev cX7_join : ByteArray := prog_1_method_9_code
def yX7_join : MethodName := ⟨RX7, "join", "(I)I"⟩
abbrev cX7_print : ByteArray := prog_1_method_10_code
def yX7_print : MethodName := ⟨RX7, "print", "()I"⟩
abbrev cX7_correct : ByteArray := prog_1_method_11_code
def yX7_correct : MethodName := ⟨RX7, "correct", "(I)I"⟩
abbrev cX7_correctAll : ByteArray := prog_1_method_12_code
def yX7_correctAll : MethodName := ⟨RX7, "correctAll", "()I"⟩
abbrev cX7_card : ByteArray := prog_1_method_13_code
def yX7_card : MethodName := ⟨RX7, "card", "()I"⟩
abbrev cX7_trim : ByteArray := prog_1_method_14_code
def yX7_trim : MethodName := ⟨RX7, "trim", "(II)I"⟩
abbrev cX7_lamp : ByteArray := prog_1_method_15_code
def yX7_lamp : MethodName := ⟨RX7, "lamp", "(I)I"⟩
abbrev cX7_of : ByteArray := prog_1_method_16_code
def yX7_of : MethodName := ⟨RX7, "of", "(II)I"⟩
abbrev cX7_inColour : ByteArray := prog_1_method_17_code
def yX7_inColour : MethodName := ⟨RX7, "inColour", "(III)I"⟩
abbrev cX7_ofLamp : ByteArray := prog_1_method_18_code
def yX7_ofLamp : MethodName := ⟨RX7, "ofLamp", "(II)I"⟩
abbrev cX7_count : ByteArray := prog_1_method_19_code
def yX7_count : MethodName := ⟨RX7, "count", "(I)I"⟩
abbrev cX7_needs : ByteArray := prog_1_method_20_code
def yX7_needs : MethodName := ⟨RX7, "needs", "(II)I"⟩
abbrev cX7_ifLight : ByteArray := prog_1_method_21_code
def yX7_ifLight : MethodName := ⟨RX7, "ifLight", "(III)I"⟩
abbrev cX7_lasts : ByteArray := prog_1_method_22_code
def yX7_lasts : MethodName := ⟨RX7, "lasts", "(I)I"⟩
abbrev cX7_bestTrim : ByteArray := prog_1_method_23_code
def yX7_bestTrim : MethodName := ⟨RX7, "bestTrim", "(II)I"⟩
abbrev cX7_printsNeeded : ByteArray := prog_1_method_24_code
def yX7_printsNeeded : MethodName := ⟨RX7, "printsNeeded", "()I"⟩
abbrev cX7_put : ByteArray := prog_1_method_25_code
def yX7_put : MethodName := ⟨RX7, "put", "(J)I"⟩
abbrev cX7_wipe : ByteArray := prog_1_method_26_code
def yX7_wipe : MethodName := ⟨RX7, "wipe", "()I"⟩
abbrev cX7_fault : ByteArray := prog_1_method_27_code
def yX7_fault : MethodName := ⟨RX7, "fault", "()I"⟩
abbrev cX7_carryOut : ByteArray := prog_1_method_28_code
def yX7_carryOut : MethodName := ⟨RX7, "carryOut", "()I"⟩
abbrev cX7_undo : ByteArray := prog_1_method_29_code
def yX7_undo : MethodName := ⟨RX7, "undo", "()I"⟩
abbrev cX7_save : ByteArray := prog_1_method_30_code
def yX7_save : MethodName := ⟨RX7, "save", "(I)I"⟩
abbrev cX7_restore : ByteArray := prog_1_method_31_code
def yX7_restore : MethodName := ⟨RX7, "restore", "(I)I"⟩
abbrev cX7_recorded : ByteArray := prog_1_method_32_code
def yX7_recorded : MethodName := ⟨RX7, "recorded", "(I)I"⟩
abbrev cX7_carryOutOrder : ByteArray := prog_1_method_33_code
def yX7_carryOutOrder : MethodName := ⟨RX7, "carryOutOrder", "()I"⟩
abbrev cX7_isWithin : ByteArray := prog_1_method_34_code
def yX7_isWithin : MethodName := ⟨RX7, "isWithin", "(III)Z"⟩
abbrev cX7_isColour : ByteArray := prog_1_method_35_code
def yX7_isColour : MethodName := ⟨RX7, "isColour", "(I)Z"⟩
abbrev cX7_isPoints : ByteArray := prog_1_method_36_code
def yX7_isPoints : MethodName := ⟨RX7, "isPoints", "(I)Z"⟩
abbrev cX7_isSlot : ByteArray := prog_1_method_37_code
def yX7_isSlot : MethodName := ⟨RX7, "isSlot", "(I)Z"⟩
abbrev cX7_bounded : ByteArray := prog_1_method_38_code
def yX7_bounded : MethodName := ⟨RX7, "bounded", "(I)I"⟩
def RX8 : String := "TimingLightsModel"
def TX8 : u_T := fun k => match k with
  | 0 => ("TimingLightsModel", "state", "[I", true)
  | 1 => ("TimingLightsModel", "spare", "[I", true)
  | 2 => ("TimingLightsModel", "history", "[I", true)
  | 3 => ("TimingLightsModel", "states", "I", false)
  | 4 => ("TimingLightsModel", "slots", "[I", true)
  | 5 => ("TimingLightsModel", "isSaved", "[I", true)
  | 6 => ("TimingLightsModel", "pad", "[I", true)
  | 7 => ("TimingLightsModel", "length", "I", false)
  | 8 => ("TimingLightsModel", "at", "I", false)
  | 9 => ("TimingLightsModel", "sign", "I", false)
  | _ => ("TimingLightsModel", "number", "[I", true)
def tyX8 : Nat → FieldType := fun k => match k with
  | 0 => .array .int
  | 1 => .array .int
  | 2 => .array .int
  | 3 => .int
  | 4 => .array .int
  | 5 => .array .int
  | 6 => .array .int
  | 7 => .int
  | 8 => .int
  | 9 => .int
  | _ => .array .int
abbrev wsX80 : List Cond := u_ws RX8 TX8 11
theorem nmX8 : ∀ a, a < 11 → ∀ b, b < 11 → a ≠ b → (TX8 a).2.1 ≠ (TX8 b).2.1 := by decide +kernel
theorem tyX8_ok : ∀ k, k < 11 → parseFieldDescriptor (TX8 k).2.2.1 = some (tyX8 k) := by decide +kernel
abbrev cX8_init : ByteArray := prog_10_method_1_code
def yX8_init : MethodName := ⟨RX8, "<init>", "()V"⟩
abbrev cX8_within : ByteArray := prog_10_method_2_code
def yX8_within : MethodName := ⟨RX8, "within", "(III)Z"⟩
abbrev cX8_bounded : ByteArray := prog_10_method_3_code
def yX8_bounded : MethodName := ⟨RX8, "bounded", "(I)I"⟩
abbrev cX8_sizeOf : ByteArray := prog_10_method_4_code
def yX8_sizeOf : MethodName := ⟨RX8, "sizeOf", "(I)I"⟩
abbrev cX8_isShot : ByteArray := prog_10_method_5_code
def yX8_isShot : MethodName := ⟨RX8, "isShot", "(I)Z"⟩
abbrev cX8_isColour : ByteArray := prog_10_method_6_code
def yX8_isColour : MethodName := ⟨RX8, "isColour", "(I)Z"⟩
abbrev cX8_isPoints : ByteArray := prog_10_method_7_code
def yX8_isPoints : MethodName := ⟨RX8, "isPoints", "(I)Z"⟩
abbrev cX8_of14 : ByteArray := prog_10_method_8_code
def yX8_of14 : MethodName := ⟨RX8, "of14", "(II)I"⟩
abbrev cX8_setOf : ByteArray := prog_10_method_9_code
def yX8_setOf : MethodName := ⟨RX8, "setOf", "(III)V"⟩
abbrev cX8_putAside : ByteArray := prog_10_method_10_code
def yX8_putAside : MethodName := ⟨RX8, "putAside", "()V"⟩
abbrev cX8_takeBack : ByteArray := prog_10_method_11_code
def yX8_takeBack : MethodName := ⟨RX8, "takeBack", "()V"⟩
abbrev cX8_push : ByteArray := prog_10_method_12_code
def yX8_push : MethodName := ⟨RX8, "push", "()V"⟩
abbrev cX8_recorded : ByteArray := prog_10_method_13_code
def yX8_recorded : MethodName := ⟨RX8, "recorded", "(I)I"⟩
abbrev cX8_undo : ByteArray := prog_10_method_14_code
def yX8_undo : MethodName := ⟨RX8, "undo", "()I"⟩
abbrev cX8_isSlot : ByteArray := prog_10_method_15_code
def yX8_isSlot : MethodName := ⟨RX8, "isSlot", "(I)Z"⟩
abbrev cX8_save : ByteArray := prog_10_method_16_code
def yX8_save : MethodName := ⟨RX8, "save", "(I)I"⟩
abbrev cX8_restore : ByteArray := prog_10_method_17_code
def yX8_restore : MethodName := ⟨RX8, "restore", "(I)I"⟩
abbrev cX8_lost : ByteArray := prog_10_method_18_code
def yX8_lost : MethodName := ⟨RX8, "lost", "(I)I"⟩
abbrev cX8_printed : ByteArray := prog_10_method_19_code
def yX8_printed : MethodName := ⟨RX8, "printed", "(III)I"⟩
abbrev cX8_prints : ByteArray := prog_10_method_20_code
def yX8_prints : MethodName := ⟨RX8, "prints", "(II)I"⟩
abbrev cX8_off : ByteArray := prog_10_method_21_code
def yX8_off : MethodName := ⟨RX8, "off", "(II)I"⟩
abbrev cX8_isBad : ByteArray := prog_10_method_22_code
def yX8_isBad : MethodName := ⟨RX8, "isBad", "(I)Z"⟩
abbrev cX8_isOff : ByteArray := prog_10_method_23_code
def yX8_isOff : MethodName := ⟨RX8, "isOff", "(I)Z"⟩
abbrev cX8_isJump : ByteArray := prog_10_method_24_code
def yX8_isJump : MethodName := ⟨RX8, "isJump", "(I)Z"⟩
abbrev cX8_feetTo : ByteArray := prog_10_method_25_code
def yX8_feetTo : MethodName := ⟨RX8, "feetTo", "(I)I"⟩
abbrev cX8_takeAnswer : ByteArray := prog_10_method_26_code
def yX8_takeAnswer : MethodName := ⟨RX8, "takeAnswer", "(I)V"⟩
abbrev cX8_open : ByteArray := prog_10_method_27_code
def yX8_open : MethodName := ⟨RX8, "open", "(I)V"⟩
abbrev cX8_shut : ByteArray := prog_10_method_28_code
def yX8_shut : MethodName := ⟨RX8, "shut", "(I)V"⟩
abbrev cX8_comes : ByteArray := prog_10_method_29_code
def yX8_comes : MethodName := ⟨RX8, "comes", "(IIIII)I"⟩
abbrev cX8_lights : ByteArray := prog_10_method_30_code
def yX8_lights : MethodName := ⟨RX8, "lights", "(III)I"⟩
abbrev cX8_wishes : ByteArray := prog_10_method_31_code
def yX8_wishes : MethodName := ⟨RX8, "wishes", "(III)I"⟩
abbrev cX8_exchange : ByteArray := prog_10_method_32_code
def yX8_exchange : MethodName := ⟨RX8, "exchange", "(II)V"⟩
abbrev cX8_moves : ByteArray := prog_10_method_33_code
def yX8_moves : MethodName := ⟨RX8, "moves", "(II)I"⟩
abbrev cX8_splits : ByteArray := prog_10_method_34_code
def yX8_splits : MethodName := ⟨RX8, "splits", "(II)I"⟩
abbrev cX8_areAlike : ByteArray := prog_10_method_35_code
def yX8_areAlike : MethodName := ⟨RX8, "areAlike", "(I)Z"⟩
abbrev cX8_joins : ByteArray := prog_10_method_36_code
def yX8_joins : MethodName := ⟨RX8, "joins", "(I)I"⟩
abbrev cX8_badOnes : ByteArray := prog_10_method_37_code
def yX8_badOnes : MethodName := ⟨RX8, "badOnes", "()I"⟩
abbrev cX8_ones : ByteArray := prog_10_method_38_code
def yX8_ones : MethodName := ⟨RX8, "ones", "(I)I"⟩
abbrev cX8_hours : ByteArray := prog_10_method_39_code
def yX8_hours : MethodName := ⟨RX8, "hours", "()I"⟩
abbrev cX8_makePrint : ByteArray := prog_10_method_40_code
def yX8_makePrint : MethodName := ⟨RX8, "makePrint", "()V"⟩
abbrev cX8_oldest : ByteArray := prog_10_method_41_code
def yX8_oldest : MethodName := ⟨RX8, "oldest", "()I"⟩
abbrev cX8_makesPrint : ByteArray := prog_10_method_42_code
def yX8_makesPrint : MethodName := ⟨RX8, "makesPrint", "()I"⟩
abbrev cX8_correctOne : ByteArray := prog_10_method_43_code
def yX8_correctOne : MethodName := ⟨RX8, "correctOne", "(I)I"⟩
abbrev cX8_corrects : ByteArray := prog_10_method_44_code
def yX8_corrects : MethodName := ⟨RX8, "corrects", "(I)I"⟩
abbrev cX8_correctsAll : ByteArray := prog_10_method_45_code
def yX8_correctsAll : MethodName := ⟨RX8, "correctsAll", "()I"⟩
abbrev cX8_cards : ByteArray := prog_10_method_46_code
def yX8_cards : MethodName := ⟨RX8, "cards", "()I"⟩
abbrev cX8_mostOf : ByteArray := prog_10_method_47_code
def yX8_mostOf : MethodName := ⟨RX8, "mostOf", "(I)I"⟩
abbrev cX8_set : ByteArray := prog_10_method_48_code
def yX8_set : MethodName := ⟨RX8, "set", "(II)I"⟩
abbrev cX8_shot : ByteArray := prog_10_method_49_code
def yX8_shot : MethodName := ⟨RX8, "shot", "(IIIII)I"⟩
abbrev cX8_takeOut : ByteArray := prog_10_method_50_code
def yX8_takeOut : MethodName := ⟨RX8, "takeOut", "(I)I"⟩
abbrev cX8_light : ByteArray := prog_10_method_51_code
def yX8_light : MethodName := ⟨RX8, "light", "(III)I"⟩
abbrev cX8_wish : ByteArray := prog_10_method_52_code
def yX8_wish : MethodName := ⟨RX8, "wish", "(III)I"⟩
abbrev cX8_move : ByteArray := prog_10_method_53_code
def yX8_move : MethodName := ⟨RX8, "move", "(II)I"⟩
abbrev cX8_split : ByteArray := prog_10_method_54_code
def yX8_split : MethodName := ⟨RX8, "split", "(II)I"⟩
abbrev cX8_join : ByteArray := prog_10_method_55_code
def yX8_join : MethodName := ⟨RX8, "join", "(I)I"⟩
abbrev cX8_print : ByteArray := prog_10_method_56_code
def yX8_print : MethodName := ⟨RX8, "print", "()I"⟩
abbrev cX8_correct : ByteArray := prog_10_method_57_code
def yX8_correct : MethodName := ⟨RX8, "correct", "(I)I"⟩
abbrev cX8_correctAll : ByteArray := prog_10_method_58_code
def yX8_correctAll : MethodName := ⟨RX8, "correctAll", "()I"⟩
abbrev cX8_card : ByteArray := prog_10_method_59_code
def yX8_card : MethodName := ⟨RX8, "card", "()I"⟩
abbrev cX8_trim : ByteArray := prog_10_method_60_code
def yX8_trim : MethodName := ⟨RX8, "trim", "(II)I"⟩
abbrev cX8_lamp : ByteArray := prog_10_method_61_code
def yX8_lamp : MethodName := ⟨RX8, "lamp", "(I)I"⟩
abbrev cX8_of : ByteArray := prog_10_method_62_code
def yX8_of : MethodName := ⟨RX8, "of", "(II)I"⟩
abbrev cX8_answer : ByteArray := prog_10_method_63_code
def yX8_answer : MethodName := ⟨RX8, "answer", "(II)I"⟩
abbrev cX8_inColour : ByteArray := prog_10_method_64_code
def yX8_inColour : MethodName := ⟨RX8, "inColour", "(III)I"⟩
abbrev cX8_ofLamp : ByteArray := prog_10_method_65_code
def yX8_ofLamp : MethodName := ⟨RX8, "ofLamp", "(II)I"⟩
abbrev cX8_those : ByteArray := prog_10_method_66_code
def yX8_those : MethodName := ⟨RX8, "those", "(I)I"⟩
abbrev cX8_count : ByteArray := prog_10_method_67_code
def yX8_count : MethodName := ⟨RX8, "count", "(I)I"⟩
abbrev cX8_needed : ByteArray := prog_10_method_68_code
def yX8_needed : MethodName := ⟨RX8, "needed", "(II)I"⟩
abbrev cX8_needs : ByteArray := prog_10_method_69_code
def yX8_needs : MethodName := ⟨RX8, "needs", "(II)I"⟩
abbrev cX8_ifLight : ByteArray := prog_10_method_70_code
def yX8_ifLight : MethodName := ⟨RX8, "ifLight", "(III)I"⟩
abbrev cX8_isTooWeak : ByteArray := prog_10_method_71_code
def yX8_isTooWeak : MethodName := ⟨RX8, "isTooWeak", "(I)Z"⟩
abbrev cX8_lasts : ByteArray := prog_10_method_72_code
def yX8_lasts : MethodName := ⟨RX8, "lasts", "(I)I"⟩
abbrev cX8_allOff : ByteArray := prog_10_method_73_code
def yX8_allOff : MethodName := ⟨RX8, "allOff", "(I)I"⟩
abbrev cX8_bestTrim : ByteArray := prog_10_method_74_code
def yX8_bestTrim : MethodName := ⟨RX8, "bestTrim", "(II)I"⟩
abbrev cX8_printsNeeded : ByteArray := prog_10_method_75_code
def yX8_printsNeeded : MethodName := ⟨RX8, "printsNeeded", "()I"⟩
abbrev cX8_isCharacter : ByteArray := prog_10_method_76_code
def yX8_isCharacter : MethodName := ⟨RX8, "isCharacter", "(I)Z"⟩
abbrev cX8_charactersIn : ByteArray := prog_10_method_77_code
def yX8_charactersIn : MethodName := ⟨RX8, "charactersIn", "(J)I"⟩
abbrev cX8_put : ByteArray := prog_10_method_78_code
def yX8_put : MethodName := ⟨RX8, "put", "(J)I"⟩
abbrev cX8_wipe : ByteArray := prog_10_method_79_code
def yX8_wipe : MethodName := ⟨RX8, "wipe", "()I"⟩
abbrev cX8_code : ByteArray := prog_10_method_80_code
def yX8_code : MethodName := ⟨RX8, "code", "()I"⟩
abbrev cX8_takes : ByteArray := prog_10_method_81_code
def yX8_takes : MethodName := ⟨RX8, "takes", "(I)Z"⟩
abbrev cX8_readsNumber : ByteArray := prog_10_method_82_code
def yX8_readsNumber : MethodName := ⟨RX8, "readsNumber", "(I)Z"⟩
abbrev cX8_readsColour : ByteArray := prog_10_method_83_code
def yX8_readsColour : MethodName := ⟨RX8, "readsColour", "()Z"⟩
abbrev cX8_readsWish : ByteArray := prog_10_method_84_code
def yX8_readsWish : MethodName := ⟨RX8, "readsWish", "()Z"⟩
abbrev cX8_readsOrder : ByteArray := prog_10_method_85_code
def yX8_readsOrder : MethodName := ⟨RX8, "readsOrder", "()Z"⟩
abbrev cX8_findFault : ByteArray := prog_10_method_86_code
def yX8_findFault : MethodName := ⟨RX8, "findFault", "()I"⟩
abbrev cX8_fault : ByteArray := prog_10_method_87_code
def yX8_fault : MethodName := ⟨RX8, "fault", "()I"⟩
abbrev cX8_doesOrder : ByteArray := prog_10_method_88_code
def yX8_doesOrder : MethodName := ⟨RX8, "doesOrder", "()I"⟩
abbrev cX8_carryOut : ByteArray := prog_10_method_89_code
def yX8_carryOut : MethodName := ⟨RX8, "carryOut", "()I"⟩
def RJ9 : String := "java/lang/Math"
def TJ9 : u_T := fun k => match k with
  | _ => ("", "", "", false)
def tyJ9 : Nat → FieldType := fun k => match k with
  | _ => .int
abbrev wsJ90 : List Cond := u_ws RJ9 TJ9 0
theorem nmJ9 : ∀ a, a < 0 → ∀ b, b < 0 → a ≠ b → (TJ9 a).2.1 ≠ (TJ9 b).2.1 := by decide +kernel
theorem tyJ9_ok : ∀ k, k < 0 → parseFieldDescriptor (TJ9 k).2.2.1 = some (tyJ9 k) := by decide +kernel
abbrev cJ9_abs_0f7a4 : ByteArray := prog_11_method_59_code
def yJ9_abs_0f7a4 : MethodName := ⟨RJ9, "abs", "(I)I"⟩
abbrev cJ9_max_7cf53 : ByteArray := prog_11_method_65_code
def yJ9_max_7cf53 : MethodName := ⟨RJ9, "max", "(II)I"⟩
abbrev cJ9_min_7cf53 : ByteArray := prog_11_method_69_code
def yJ9_min_7cf53 : MethodName := ⟨RJ9, "min", "(II)I"⟩
def RJ0 : String := "java/lang/String"
def TJ0 : u_T := fun k => match k with
  | _ => ("", "", "", false)
def tyJ0 : Nat → FieldType := fun k => match k with
  | _ => .int
abbrev wsJ00 : List Cond := u_ws RJ0 TJ0 0
theorem nmJ0 : ∀ a, a < 0 → ∀ b, b < 0 → a ≠ b → (TJ0 a).2.1 ≠ (TJ0 b).2.1 := by decide +kernel
theorem tyJ0_ok : ∀ k, k < 0 → parseFieldDescriptor (TJ0 k).2.2.1 = some (tyJ0 k) := by decide +kernel
abbrev cJ0_length_8abf5 : ByteArray := prog_12_method_54_code
def yJ0_length_8abf5 : MethodName := ⟨RJ0, "length", "()I"⟩
abbrev cJ0_isEmpty_aae02 : ByteArray := prog_12_method_55_code
def yJ0_isEmpty_aae02 : MethodName := ⟨RJ0, "isEmpty", "()Z"⟩
abbrev cJ0_charAt_5068e : ByteArray := prog_12_method_56_code
def yJ0_charAt_5068e : MethodName := ⟨RJ0, "charAt", "(I)C"⟩
abbrev cJ0_coder_7d493 : ByteArray := prog_12_method_152_code
def yJ0_coder_7d493 : MethodName := ⟨RJ0, "coder", "()B"⟩
abbrev cJ0_isLatin1_aae02 : ByteArray := prog_12_method_154_code
def yJ0_isLatin1_aae02 : MethodName := ⟨RJ0, "isLatin1", "()Z"⟩
abbrev cJ0_checkIndex_df160 : ByteArray := prog_12_method_155_code
def yJ0_checkIndex_df160 : MethodName := ⟨RJ0, "checkIndex", "(II)V"⟩
def RJ1 : String := "java/lang/StringLatin1"
def TJ1 : u_T := fun k => match k with
  | _ => ("", "", "", false)
def tyJ1 : Nat → FieldType := fun k => match k with
  | _ => .int
abbrev wsJ10 : List Cond := u_ws RJ1 TJ1 0
theorem nmJ1 : ∀ a, a < 0 → ∀ b, b < 0 → a ≠ b → (TJ1 a).2.1 ≠ (TJ1 b).2.1 := by decide +kernel
theorem tyJ1_ok : ∀ k, k < 0 → parseFieldDescriptor (TJ1 k).2.2.1 = some (tyJ1 k) := by decide +kernel
abbrev cJ1_charAt_3b067 : ByteArray := prog_13_method_2_code
def yJ1_charAt_3b067 : MethodName := ⟨RJ1, "charAt", "([BI)C"⟩
def RJ2 : String := "java/lang/StringUTF16"
def TJ2 : u_T := fun k => match k with
  | _ => ("", "", "", false)
def tyJ2 : Nat → FieldType := fun k => match k with
  | _ => .int
abbrev wsJ20 : List Cond := u_ws RJ2 TJ2 0
theorem nmJ2 : ∀ a, a < 0 → ∀ b, b < 0 → a ≠ b → (TJ2 a).2.1 ≠ (TJ2 b).2.1 := by decide +kernel
theorem tyJ2_ok : ∀ k, k < 0 → parseFieldDescriptor (TJ2 k).2.2.1 = some (tyJ2 k) := by decide +kernel
abbrev cJ2_getChar_3b067 : ByteArray := prog_14_method_5_code
def yJ2_getChar_3b067 : MethodName := ⟨RJ2, "getChar", "([BI)C"⟩
abbrev cJ2_length_9d52b : ByteArray := prog_14_method_6_code
def yJ2_length_9d52b : MethodName := ⟨RJ2, "length", "([B)I"⟩
abbrev cJ2_charAt_3b067 : ByteArray := prog_14_method_83_code
def yJ2_charAt_3b067 : MethodName := ⟨RJ2, "charAt", "([BI)C"⟩
abbrev cJ2_checkIndex_2214a : ByteArray := prog_14_method_91_code
def yJ2_checkIndex_2214a : MethodName := ⟨RJ2, "checkIndex", "(I[B)V"⟩
def RJ10 : String := "java/lang/System"
def TJ10 : u_T := fun k => match k with
  | _ => ("", "", "", false)
def tyJ10 : Nat → FieldType := fun k => match k with
  | _ => .int
abbrev wsJ100 : List Cond := u_ws RJ10 TJ10 0
theorem nmJ10 : ∀ a, a < 0 → ∀ b, b < 0 → a ≠ b → (TJ10 a).2.1 ≠ (TJ10 b).2.1 := by decide +kernel
theorem tyJ10_ok : ∀ k, k < 0 → parseFieldDescriptor (TJ10 k).2.2.1 = some (tyJ10 k) := by decide +kernel
def RJ3 : String := "jdk/internal/util/Preconditions"
def TJ3 : u_T := fun k => match k with
  | _ => ("", "", "", false)
def tyJ3 : Nat → FieldType := fun k => match k with
  | _ => .int
abbrev wsJ30 : List Cond := u_ws RJ3 TJ3 0
theorem nmJ3 : ∀ a, a < 0 → ∀ b, b < 0 → a ≠ b → (TJ3 a).2.1 ≠ (TJ3 b).2.1 := by decide +kernel
theorem tyJ3_ok : ∀ k, k < 0 → parseFieldDescriptor (TJ3 k).2.2.1 = some (tyJ3 k) := by decide +kernel
abbrev cJ3_checkIndex_8e157 : ByteArray := prog_16_method_11_code
def yJ3_checkIndex_8e157 : MethodName := ⟨RJ3, "checkIndex", "(IILjava/util/function/BiFunction;)I"⟩
def RL : String := "TimingLightsLaw"
abbrev cL_law : ByteArray := code
def yL_law : MethodName := ⟨RL, "law", "([I)Z"⟩
abbrev vwCl : List vw_C := [(RX1, TX1, 3), (RX2, TX2, 8), (RX3, TX3, 1), (RX4, TX4, 1), (RX7, TX7, 7), (RX8, TX8, 11)]
/-- the tables' words that stay: one list for every method -/
def bw : List Cond := lw_tbl.filter goodWord
theorem bw_of {w : Cond} {i : Nat} (h : lw_tbl[i]? = some w) (g : goodWord w = true) : w ∈ bw := List.mem_filter.mpr ⟨List.mem_of_getElem? h, g⟩
theorem bw_hts {args : Array Value} {s : State} (h : ∀ w ∈ lw_tbl, w.before args s = true) : ∀ w ∈ bw, w.before args s = true := fun w hw => h w (List.mem_filter.mp hw).1
theorem bw_good {y : MethodName} {c : ByteArray} {n : Nat} {r : Option FieldType} (h : Cond.code y c n r ∈ bw) : GoodIn bw (Cond.code y c n r :: bw) := by
  have g : ∀ w ∈ bw, w ∈ bw ∧ ((w.onTables && w.keeps) = true ∨ ∃ ty, w = .arrayClass ty) := fun w hw => ⟨hw, good_of_word (List.mem_filter.mp hw).2⟩
  intro w hw
  rcases List.mem_cons.mp hw with e | e
  · rw [e]; exact g _ h
  · exact g _ e
theorem bw_0 : (.selects RX7 yX7_recorded yX7_recorded : Cond) ∈ bw := bw_of (i := 0) (by decide +kernel) rfl
theorem bw_1 : (.selects RX2 yX2_write yX2_write : Cond) ∈ bw := bw_of (i := 1) (by decide +kernel) rfl
theorem bw_2 : (.selects RX2 yX2_readSign yX2_readSign : Cond) ∈ bw := bw_of (i := 2) (by decide +kernel) rfl
theorem bw_3 : (.selects RX2 yX2_here yX2_here : Cond) ∈ bw := bw_of (i := 3) (by decide +kernel) rfl
theorem bw_4 : (.selects RX2 yX2_readPart yX2_readPart : Cond) ∈ bw := bw_of (i := 4) (by decide +kernel) rfl
theorem bw_5 : (.selects RX2 yX2_readNumber yX2_readNumber : Cond) ∈ bw := bw_of (i := 5) (by decide +kernel) rfl
theorem bw_6 : (.selects RX2 yX2_isDigitHere yX2_isDigitHere : Cond) ∈ bw := bw_of (i := 6) (by decide +kernel) rfl
theorem bw_7 : (.selects RX2 yX2_readColour yX2_readColour : Cond) ∈ bw := bw_of (i := 7) (by decide +kernel) rfl
theorem bw_8 : (.selects RX7 yX7_carryOutOrder yX7_carryOutOrder : Cond) ∈ bw := bw_of (i := 8) (by decide +kernel) rfl
theorem bw_9 : (.selects RX8 yX8_putAside yX8_putAside : Cond) ∈ bw := bw_of (i := 9) (by decide +kernel) rfl
theorem bw_10 : (.selects RX8 yX8_push yX8_push : Cond) ∈ bw := bw_of (i := 10) (by decide +kernel) rfl
theorem bw_11 : (.selects RX8 yX8_recorded yX8_recorded : Cond) ∈ bw := bw_of (i := 11) (by decide +kernel) rfl
theorem bw_12 : (.selects RX8 yX8_comes yX8_comes : Cond) ∈ bw := bw_of (i := 12) (by decide +kernel) rfl
theorem bw_13 : (.selects RX8 yX8_open yX8_open : Cond) ∈ bw := bw_of (i := 13) (by decide +kernel) rfl
theorem bw_14 : (.selects RX8 yX8_setOf yX8_setOf : Cond) ∈ bw := bw_of (i := 14) (by decide +kernel) rfl
theorem bw_15 : (.selects RX8 yX8_takeAnswer yX8_takeAnswer : Cond) ∈ bw := bw_of (i := 15) (by decide +kernel) rfl
theorem bw_16 : (.selects RX8 yX8_isShot yX8_isShot : Cond) ∈ bw := bw_of (i := 16) (by decide +kernel) rfl
theorem bw_17 : (.selects RX8 yX8_shut yX8_shut : Cond) ∈ bw := bw_of (i := 17) (by decide +kernel) rfl
theorem bw_18 : (.selects RX8 yX8_lights yX8_lights : Cond) ∈ bw := bw_of (i := 18) (by decide +kernel) rfl
theorem bw_19 : (.selects RX8 yX8_of14 yX8_of14 : Cond) ∈ bw := bw_of (i := 19) (by decide +kernel) rfl
theorem bw_20 : (.selects RX8 yX8_wishes yX8_wishes : Cond) ∈ bw := bw_of (i := 20) (by decide +kernel) rfl
theorem bw_21 : (.selects RX8 yX8_moves yX8_moves : Cond) ∈ bw := bw_of (i := 21) (by decide +kernel) rfl
theorem bw_22 : (.selects RX8 yX8_exchange yX8_exchange : Cond) ∈ bw := bw_of (i := 22) (by decide +kernel) rfl
theorem bw_23 : (.selects RX8 yX8_splits yX8_splits : Cond) ∈ bw := bw_of (i := 23) (by decide +kernel) rfl
theorem bw_24 : (.selects RX8 yX8_joins yX8_joins : Cond) ∈ bw := bw_of (i := 24) (by decide +kernel) rfl
theorem bw_25 : (.selects RX8 yX8_areAlike yX8_areAlike : Cond) ∈ bw := bw_of (i := 25) (by decide +kernel) rfl
theorem bw_26 : (.selects RX8 yX8_makesPrint yX8_makesPrint : Cond) ∈ bw := bw_of (i := 26) (by decide +kernel) rfl
theorem bw_27 : (.selects RX8 yX8_oldest yX8_oldest : Cond) ∈ bw := bw_of (i := 27) (by decide +kernel) rfl
theorem bw_28 : (.selects RX8 yX8_hours yX8_hours : Cond) ∈ bw := bw_of (i := 28) (by decide +kernel) rfl
theorem bw_29 : (.selects RX8 yX8_feetTo yX8_feetTo : Cond) ∈ bw := bw_of (i := 29) (by decide +kernel) rfl
theorem bw_30 : (.selects RX8 yX8_makePrint yX8_makePrint : Cond) ∈ bw := bw_of (i := 30) (by decide +kernel) rfl
theorem bw_31 : (.selects RX8 yX8_off yX8_off : Cond) ∈ bw := bw_of (i := 31) (by decide +kernel) rfl
theorem bw_32 : (.selects RX8 yX8_prints yX8_prints : Cond) ∈ bw := bw_of (i := 32) (by decide +kernel) rfl
theorem bw_33 : (.selects RX8 yX8_printed yX8_printed : Cond) ∈ bw := bw_of (i := 33) (by decide +kernel) rfl
theorem bw_34 : (.selects RX8 yX8_lost yX8_lost : Cond) ∈ bw := bw_of (i := 34) (by decide +kernel) rfl
theorem bw_35 : (.selects RX8 yX8_badOnes yX8_badOnes : Cond) ∈ bw := bw_of (i := 35) (by decide +kernel) rfl
theorem bw_36 : (.selects RX8 yX8_isBad yX8_isBad : Cond) ∈ bw := bw_of (i := 36) (by decide +kernel) rfl
theorem bw_37 : (.selects RX8 yX8_corrects yX8_corrects : Cond) ∈ bw := bw_of (i := 37) (by decide +kernel) rfl
theorem bw_38 : (.selects RX8 yX8_correctOne yX8_correctOne : Cond) ∈ bw := bw_of (i := 38) (by decide +kernel) rfl
theorem bw_39 : (.selects RX8 yX8_correctsAll yX8_correctsAll : Cond) ∈ bw := bw_of (i := 39) (by decide +kernel) rfl
theorem bw_40 : (.selects RX8 yX8_cards yX8_cards : Cond) ∈ bw := bw_of (i := 40) (by decide +kernel) rfl
theorem bw_41 : (.selects RX8 yX8_isJump yX8_isJump : Cond) ∈ bw := bw_of (i := 41) (by decide +kernel) rfl
theorem bw_42 : (.selects RX8 yX8_answer yX8_answer : Cond) ∈ bw := bw_of (i := 42) (by decide +kernel) rfl
theorem bw_43 : (.selects RX8 yX8_those yX8_those : Cond) ∈ bw := bw_of (i := 43) (by decide +kernel) rfl
theorem bw_44 : (.selects RX8 yX8_isOff yX8_isOff : Cond) ∈ bw := bw_of (i := 44) (by decide +kernel) rfl
theorem bw_45 : (.selects RX8 yX8_needed yX8_needed : Cond) ∈ bw := bw_of (i := 45) (by decide +kernel) rfl
theorem bw_46 : (.selects RX8 yX8_isTooWeak yX8_isTooWeak : Cond) ∈ bw := bw_of (i := 46) (by decide +kernel) rfl
theorem bw_47 : (.selects RX8 yX8_allOff yX8_allOff : Cond) ∈ bw := bw_of (i := 47) (by decide +kernel) rfl
theorem bw_48 : (.selects RX8 yX8_takeBack yX8_takeBack : Cond) ∈ bw := bw_of (i := 48) (by decide +kernel) rfl
theorem bw_49 : (.selects RX8 yX8_findFault yX8_findFault : Cond) ∈ bw := bw_of (i := 49) (by decide +kernel) rfl
theorem bw_50 : (.selects RX8 yX8_readsOrder yX8_readsOrder : Cond) ∈ bw := bw_of (i := 50) (by decide +kernel) rfl
theorem bw_51 : (.selects RX8 yX8_code yX8_code : Cond) ∈ bw := bw_of (i := 51) (by decide +kernel) rfl
theorem bw_52 : (.selects RX8 yX8_readsNumber yX8_readsNumber : Cond) ∈ bw := bw_of (i := 52) (by decide +kernel) rfl
theorem bw_53 : (.selects RX8 yX8_takes yX8_takes : Cond) ∈ bw := bw_of (i := 53) (by decide +kernel) rfl
theorem bw_54 : (.selects RX8 yX8_readsColour yX8_readsColour : Cond) ∈ bw := bw_of (i := 54) (by decide +kernel) rfl
theorem bw_55 : (.selects RX8 yX8_readsWish yX8_readsWish : Cond) ∈ bw := bw_of (i := 55) (by decide +kernel) rfl
theorem bw_56 : (.selects RX8 yX8_doesOrder yX8_doesOrder : Cond) ∈ bw := bw_of (i := 56) (by decide +kernel) rfl
theorem bw_57 : (.initialized RL : Cond) ∈ bw := bw_of (i := 57) (by decide +kernel) rfl
theorem bw_58 : (.initialized RX7 : Cond) ∈ bw := bw_of (i := 58) (by decide +kernel) rfl
theorem bw_59 : (.initialized RX3 : Cond) ∈ bw := bw_of (i := 59) (by decide +kernel) rfl
theorem bw_60 : (.initialized RJ10 : Cond) ∈ bw := bw_of (i := 60) (by decide +kernel) rfl
theorem bw_61 : (.initialized RX2 : Cond) ∈ bw := bw_of (i := 61) (by decide +kernel) rfl
theorem bw_62 : (.initialized RX1 : Cond) ∈ bw := bw_of (i := 62) (by decide +kernel) rfl
theorem bw_63 : (.initialized RX4 : Cond) ∈ bw := bw_of (i := 63) (by decide +kernel) rfl
theorem bw_64 : (.initialized RJ9 : Cond) ∈ bw := bw_of (i := 64) (by decide +kernel) rfl
theorem bw_65 : (.initialized RX8 : Cond) ∈ bw := bw_of (i := 65) (by decide +kernel) rfl
theorem bw_66 : (.initialized RX0 : Cond) ∈ bw := bw_of (i := 66) (by decide +kernel) rfl
theorem bw_67 : (.initialized RX5 : Cond) ∈ bw := bw_of (i := 67) (by decide +kernel) rfl
theorem bw_68 : (.initialized RX6 : Cond) ∈ bw := bw_of (i := 68) (by decide +kernel) rfl
theorem bw_69 : (.initialized RJ0 : Cond) ∈ bw := bw_of (i := 69) (by decide +kernel) rfl
theorem bw_70 : (.initialized RJ1 : Cond) ∈ bw := bw_of (i := 70) (by decide +kernel) rfl
theorem bw_71 : (.initialized RJ3 : Cond) ∈ bw := bw_of (i := 71) (by decide +kernel) rfl
theorem bw_72 : (.initialized RJ2 : Cond) ∈ bw := bw_of (i := 72) (by decide +kernel) rfl
theorem bw_73 : (.classLink RL 7 "TimingLights" : Cond) ∈ bw := bw_of (i := 73) (by decide +kernel) rfl
theorem bw_74 : (.instantiable RX7 7 : Cond) ∈ bw := bw_of (i := 74) (by decide +kernel) rfl
theorem bw_75 : (.methodLink RL 9 yX7_init : Cond) ∈ bw := bw_of (i := 75) (by decide +kernel) rfl
theorem bw_76 : (.instanceMethod yX7_init : Cond) ∈ bw := bw_of (i := 76) (by decide +kernel) rfl
theorem bw_77 : (.code yX7_init cX7_init 1 (Option.none : Option Jvm.ClassFile.FieldType) : Cond) ∈ bw := bw_of (i := 77) (by decide +kernel) rfl
theorem bw_78 : (.methodLink RX7 1 Lib.objectInit : Cond) ∈ bw := bw_of (i := 78) (by decide +kernel) rfl
theorem bw_79 : (.instanceMethod Lib.objectInit : Cond) ∈ bw := bw_of (i := 79) (by decide +kernel) rfl
theorem bw_80 : (.code Lib.objectInit object_method_1_code 1 (Option.none : Option Jvm.ClassFile.FieldType) : Cond) ∈ bw := bw_of (i := 80) (by decide +kernel) rfl
theorem bw_81 : (.classLink RX7 7 "TimingLights$Reel" : Cond) ∈ bw := bw_of (i := 81) (by decide +kernel) rfl
theorem bw_82 : (.instantiable RX3 1 : Cond) ∈ bw := bw_of (i := 82) (by decide +kernel) rfl
theorem bw_83 : (.methodLink RX7 9 yX3_init : Cond) ∈ bw := bw_of (i := 83) (by decide +kernel) rfl
theorem bw_84 : (.instanceMethod yX3_init : Cond) ∈ bw := bw_of (i := 84) (by decide +kernel) rfl
theorem bw_85 : (.code yX3_init cX3_init 1 (Option.none : Option Jvm.ClassFile.FieldType) : Cond) ∈ bw := bw_of (i := 85) (by decide +kernel) rfl
theorem bw_86 : (.methodLink RX3 5 Lib.objectInit : Cond) ∈ bw := bw_of (i := 86) (by decide +kernel) rfl
theorem bw_89 : (.methodLink RX3 18 arraycopyName : Cond) ∈ bw := bw_of (i := 89) (by decide +kernel) rfl
theorem bw_90 : (.static arraycopyName : Cond) ∈ bw := bw_of (i := 90) (by decide +kernel) rfl
theorem bw_91 : (.native arraycopyName : Cond) ∈ bw := bw_of (i := 91) (by decide +kernel) rfl
theorem bw_92 : (.fieldLink RX3 11 "TimingLights$Reel" "cells" "[I" : Cond) ∈ bw := bw_of (i := 92) (by decide +kernel) rfl
theorem bw_93 : (.laysFinal RX3 "TimingLights$Reel" "cells" "[I" : Cond) ∈ bw := bw_of (i := 93) (by decide +kernel) rfl
theorem bw_96 : (.arrayClass .int : Cond) ∈ bw := bw_of (i := 96) (by decide +kernel) rfl
theorem bw_97 : (.classLink RX7 22 "TimingLights$Pad" : Cond) ∈ bw := bw_of (i := 97) (by decide +kernel) rfl
theorem bw_98 : (.instantiable RX2 8 : Cond) ∈ bw := bw_of (i := 98) (by decide +kernel) rfl
theorem bw_99 : (.methodLink RX7 24 yX2_init : Cond) ∈ bw := bw_of (i := 99) (by decide +kernel) rfl
theorem bw_100 : (.instanceMethod yX2_init : Cond) ∈ bw := bw_of (i := 100) (by decide +kernel) rfl
theorem bw_101 : (.code yX2_init cX2_init 1 (Option.none : Option Jvm.ClassFile.FieldType) : Cond) ∈ bw := bw_of (i := 101) (by decide +kernel) rfl
theorem bw_102 : (.methodLink RX2 3 Lib.objectInit : Cond) ∈ bw := bw_of (i := 102) (by decide +kernel) rfl
theorem bw_103 : (.fieldLink RX2 11 "TimingLights$Pad" "characters" "[C" : Cond) ∈ bw := bw_of (i := 103) (by decide +kernel) rfl
theorem bw_104 : (.fieldLink RX2 15 "TimingLights$Pad" "numbers" "[I" : Cond) ∈ bw := bw_of (i := 104) (by decide +kernel) rfl
theorem bw_105 : (.fieldLink RX2 19 "TimingLights$Pad" "length" "I" : Cond) ∈ bw := bw_of (i := 105) (by decide +kernel) rfl
theorem bw_106 : (.fieldLink RX2 54 "TimingLights$Pad" "at" "I" : Cond) ∈ bw := bw_of (i := 106) (by decide +kernel) rfl
theorem bw_107 : (.fieldLink RX2 61 "TimingLights$Pad" "numbersRead" "I" : Cond) ∈ bw := bw_of (i := 107) (by decide +kernel) rfl
theorem bw_108 : (.fieldLink RX2 23 "TimingLights$Pad" "letter" "I" : Cond) ∈ bw := bw_of (i := 108) (by decide +kernel) rfl
theorem bw_109 : (.fieldLink RX2 26 "TimingLights$Pad" "colour" "I" : Cond) ∈ bw := bw_of (i := 109) (by decide +kernel) rfl
theorem bw_110 : (.fieldLink RX2 29 "TimingLights$Pad" "minus" "Z" : Cond) ∈ bw := bw_of (i := 110) (by decide +kernel) rfl
theorem bw_111 : (.laysFinal RX2 "TimingLights$Pad" "characters" "[C" : Cond) ∈ bw := bw_of (i := 111) (by decide +kernel) rfl
theorem bw_113 : (.laysFinal RX2 "TimingLights$Pad" "numbers" "[I" : Cond) ∈ bw := bw_of (i := 113) (by decide +kernel) rfl
theorem bw_115 : (.lays RX2 "TimingLights$Pad" "length" "I" : Cond) ∈ bw := bw_of (i := 115) (by decide +kernel) rfl
theorem bw_117 : (.lays RX2 "TimingLights$Pad" "at" "I" : Cond) ∈ bw := bw_of (i := 117) (by decide +kernel) rfl
theorem bw_119 : (.lays RX2 "TimingLights$Pad" "numbersRead" "I" : Cond) ∈ bw := bw_of (i := 119) (by decide +kernel) rfl
theorem bw_121 : (.lays RX2 "TimingLights$Pad" "letter" "I" : Cond) ∈ bw := bw_of (i := 121) (by decide +kernel) rfl
theorem bw_123 : (.lays RX2 "TimingLights$Pad" "colour" "I" : Cond) ∈ bw := bw_of (i := 123) (by decide +kernel) rfl
theorem bw_125 : (.lays RX2 "TimingLights$Pad" "minus" "Z" : Cond) ∈ bw := bw_of (i := 125) (by decide +kernel) rfl
theorem bw_128 : (.arrayClass .char : Cond) ∈ bw := bw_of (i := 128) (by decide +kernel) rfl
theorem bw_129 : (.classLink RX7 29 "TimingLights$History" : Cond) ∈ bw := bw_of (i := 129) (by decide +kernel) rfl
theorem bw_130 : (.instantiable RX1 3 : Cond) ∈ bw := bw_of (i := 130) (by decide +kernel) rfl
theorem bw_131 : (.methodLink RX7 31 yX1_init : Cond) ∈ bw := bw_of (i := 131) (by decide +kernel) rfl
theorem bw_132 : (.instanceMethod yX1_init : Cond) ∈ bw := bw_of (i := 132) (by decide +kernel) rfl
theorem bw_133 : (.code yX1_init cX1_init 1 (Option.none : Option Jvm.ClassFile.FieldType) : Cond) ∈ bw := bw_of (i := 133) (by decide +kernel) rfl
theorem bw_134 : (.methodLink RX1 1 Lib.objectInit : Cond) ∈ bw := bw_of (i := 134) (by decide +kernel) rfl
theorem bw_135 : (.classLink RX1 7 "TimingLights$Shelf" : Cond) ∈ bw := bw_of (i := 135) (by decide +kernel) rfl
theorem bw_136 : (.instantiable RX4 1 : Cond) ∈ bw := bw_of (i := 136) (by decide +kernel) rfl
theorem bw_137 : (.methodLink RX1 11 yX4_init : Cond) ∈ bw := bw_of (i := 137) (by decide +kernel) rfl
theorem bw_138 : (.instanceMethod yX4_init : Cond) ∈ bw := bw_of (i := 138) (by decide +kernel) rfl
theorem bw_139 : (.code yX4_init cX4_init 2 (Option.none : Option Jvm.ClassFile.FieldType) : Cond) ∈ bw := bw_of (i := 139) (by decide +kernel) rfl
theorem bw_140 : (.methodLink RX4 1 Lib.objectInit : Cond) ∈ bw := bw_of (i := 140) (by decide +kernel) rfl
theorem bw_141 : (.methodLink RX4 7 Lib.Math.max.name : Cond) ∈ bw := bw_of (i := 141) (by decide +kernel) rfl
theorem bw_142 : (.static Lib.Math.max.name : Cond) ∈ bw := bw_of (i := 142) (by decide +kernel) rfl
theorem bw_143 : (.code Lib.Math.max.name cJ9_max_7cf53 2 (some .int) : Cond) ∈ bw := bw_of (i := 143) (by decide +kernel) rfl
theorem bw_144 : (.fieldLink RX4 15 "TimingLights$Shelf" "rows" "[I" : Cond) ∈ bw := bw_of (i := 144) (by decide +kernel) rfl
theorem bw_145 : (.laysFinal RX4 "TimingLights$Shelf" "rows" "[I" : Cond) ∈ bw := bw_of (i := 145) (by decide +kernel) rfl
theorem bw_148 : (.fieldLink RX1 14 "TimingLights$History" "shelf" "LTimingLights$Shelf;" : Cond) ∈ bw := bw_of (i := 148) (by decide +kernel) rfl
theorem bw_149 : (.fieldLink RX1 22 "TimingLights$History" "oldest" "I" : Cond) ∈ bw := bw_of (i := 149) (by decide +kernel) rfl
theorem bw_150 : (.fieldLink RX1 18 "TimingLights$History" "size" "I" : Cond) ∈ bw := bw_of (i := 150) (by decide +kernel) rfl
theorem bw_151 : (.laysFinal RX1 "TimingLights$History" "shelf" "LTimingLights$Shelf;" : Cond) ∈ bw := bw_of (i := 151) (by decide +kernel) rfl
theorem bw_153 : (.lays RX1 "TimingLights$History" "oldest" "I" : Cond) ∈ bw := bw_of (i := 153) (by decide +kernel) rfl
theorem bw_155 : (.lays RX1 "TimingLights$History" "size" "I" : Cond) ∈ bw := bw_of (i := 155) (by decide +kernel) rfl
theorem bw_158 : (.classLink RX7 36 "TimingLights$Shelf" : Cond) ∈ bw := bw_of (i := 158) (by decide +kernel) rfl
theorem bw_159 : (.methodLink RX7 38 yX4_init : Cond) ∈ bw := bw_of (i := 159) (by decide +kernel) rfl
theorem bw_160 : (.fieldLink RX7 10 "TimingLights" "reel" "LTimingLights$Reel;" : Cond) ∈ bw := bw_of (i := 160) (by decide +kernel) rfl
theorem bw_161 : (.fieldLink RX7 16 "TimingLights" "before" "LTimingLights$Reel;" : Cond) ∈ bw := bw_of (i := 161) (by decide +kernel) rfl
theorem bw_162 : (.fieldLink RX7 19 "TimingLights" "trial" "LTimingLights$Reel;" : Cond) ∈ bw := bw_of (i := 162) (by decide +kernel) rfl
theorem bw_163 : (.fieldLink RX7 25 "TimingLights" "pad" "LTimingLights$Pad;" : Cond) ∈ bw := bw_of (i := 163) (by decide +kernel) rfl
theorem bw_164 : (.fieldLink RX7 32 "TimingLights" "history" "LTimingLights$History;" : Cond) ∈ bw := bw_of (i := 164) (by decide +kernel) rfl
theorem bw_165 : (.fieldLink RX7 41 "TimingLights" "slots" "LTimingLights$Shelf;" : Cond) ∈ bw := bw_of (i := 165) (by decide +kernel) rfl
theorem bw_166 : (.fieldLink RX7 211 "TimingLights" "slotsFilled" "I" : Cond) ∈ bw := bw_of (i := 166) (by decide +kernel) rfl
theorem bw_167 : (.laysFinal RX7 "TimingLights" "reel" "LTimingLights$Reel;" : Cond) ∈ bw := bw_of (i := 167) (by decide +kernel) rfl
theorem bw_169 : (.laysFinal RX7 "TimingLights" "before" "LTimingLights$Reel;" : Cond) ∈ bw := bw_of (i := 169) (by decide +kernel) rfl
theorem bw_171 : (.laysFinal RX7 "TimingLights" "trial" "LTimingLights$Reel;" : Cond) ∈ bw := bw_of (i := 171) (by decide +kernel) rfl
theorem bw_173 : (.laysFinal RX7 "TimingLights" "pad" "LTimingLights$Pad;" : Cond) ∈ bw := bw_of (i := 173) (by decide +kernel) rfl
theorem bw_175 : (.laysFinal RX7 "TimingLights" "history" "LTimingLights$History;" : Cond) ∈ bw := bw_of (i := 175) (by decide +kernel) rfl
theorem bw_177 : (.laysFinal RX7 "TimingLights" "slots" "LTimingLights$Shelf;" : Cond) ∈ bw := bw_of (i := 177) (by decide +kernel) rfl
theorem bw_179 : (.lays RX7 "TimingLights" "slotsFilled" "I" : Cond) ∈ bw := bw_of (i := 179) (by decide +kernel) rfl
theorem bw_182 : (.methodLink RL 13 yX7_set : Cond) ∈ bw := bw_of (i := 182) (by decide +kernel) rfl
theorem bw_183 : (.instanceMethod yX7_set : Cond) ∈ bw := bw_of (i := 183) (by decide +kernel) rfl
theorem bw_184 : (.selects RX7 yX7_set yX7_set : Cond) ∈ bw := bw_of (i := 184) (by decide +kernel) rfl
theorem bw_185 : (.code yX7_set cX7_set 3 (some .int) : Cond) ∈ bw := bw_of (i := 185) (by decide +kernel) rfl
theorem bw_186 : (.methodLink RX7 45 yX3_become : Cond) ∈ bw := bw_of (i := 186) (by decide +kernel) rfl
theorem bw_187 : (.instanceMethod yX3_become : Cond) ∈ bw := bw_of (i := 187) (by decide +kernel) rfl
theorem bw_188 : (.selects RX3 yX3_become yX3_become : Cond) ∈ bw := bw_of (i := 188) (by decide +kernel) rfl
theorem bw_189 : (.code yX3_become cX3_become 2 (Option.none : Option Jvm.ClassFile.FieldType) : Cond) ∈ bw := bw_of (i := 189) (by decide +kernel) rfl
theorem bw_190 : (.methodLink RX7 49 yX0_changeSetting : Cond) ∈ bw := bw_of (i := 190) (by decide +kernel) rfl
theorem bw_191 : (.static yX0_changeSetting : Cond) ∈ bw := bw_of (i := 191) (by decide +kernel) rfl
theorem bw_192 : (.code yX0_changeSetting cX0_changeSetting 3 (some .int) : Cond) ∈ bw := bw_of (i := 192) (by decide +kernel) rfl
theorem bw_194 : (.static yX7_isWithin : Cond) ∈ bw := bw_of (i := 194) (by decide +kernel) rfl
theorem bw_195 : (.code yX7_isWithin cX7_isWithin 3 (some .boolean) : Cond) ∈ bw := bw_of (i := 195) (by decide +kernel) rfl
theorem bw_200 : (.methodLink RX0 22 yX0_exchange : Cond) ∈ bw := bw_of (i := 200) (by decide +kernel) rfl
theorem bw_201 : (.static yX0_exchange : Cond) ∈ bw := bw_of (i := 201) (by decide +kernel) rfl
theorem bw_202 : (.code yX0_exchange cX0_exchange 4 (some .int) : Cond) ∈ bw := bw_of (i := 202) (by decide +kernel) rfl
theorem bw_203 : (.methodLink RX0 75 yX3_read : Cond) ∈ bw := bw_of (i := 203) (by decide +kernel) rfl
theorem bw_204 : (.instanceMethod yX3_read : Cond) ∈ bw := bw_of (i := 204) (by decide +kernel) rfl
theorem bw_205 : (.selects RX3 yX3_read yX3_read : Cond) ∈ bw := bw_of (i := 205) (by decide +kernel) rfl
theorem bw_206 : (.code yX3_read cX3_read 2 (some .int) : Cond) ∈ bw := bw_of (i := 206) (by decide +kernel) rfl
theorem bw_207 : (.methodLink RX0 91 yX3_write : Cond) ∈ bw := bw_of (i := 207) (by decide +kernel) rfl
theorem bw_208 : (.instanceMethod yX3_write : Cond) ∈ bw := bw_of (i := 208) (by decide +kernel) rfl
theorem bw_209 : (.selects RX3 yX3_write yX3_write : Cond) ∈ bw := bw_of (i := 209) (by decide +kernel) rfl
theorem bw_210 : (.code yX3_write cX3_write 3 (Option.none : Option Jvm.ClassFile.FieldType) : Cond) ∈ bw := bw_of (i := 210) (by decide +kernel) rfl
theorem bw_211 : (.methodLink RX7 55 yX7_recorded : Cond) ∈ bw := bw_of (i := 211) (by decide +kernel) rfl
theorem bw_213 : (.instanceMethod yX7_recorded : Cond) ∈ bw := bw_of (i := 213) (by decide +kernel) rfl
theorem bw_214 : (.code yX7_recorded cX7_recorded 2 (some .int) : Cond) ∈ bw := bw_of (i := 214) (by decide +kernel) rfl
theorem bw_215 : (.methodLink RX7 218 yX1_record : Cond) ∈ bw := bw_of (i := 215) (by decide +kernel) rfl
theorem bw_216 : (.instanceMethod yX1_record : Cond) ∈ bw := bw_of (i := 216) (by decide +kernel) rfl
theorem bw_217 : (.selects RX1 yX1_record yX1_record : Cond) ∈ bw := bw_of (i := 217) (by decide +kernel) rfl
theorem bw_218 : (.code yX1_record cX1_record 2 (Option.none : Option Jvm.ClassFile.FieldType) : Cond) ∈ bw := bw_of (i := 218) (by decide +kernel) rfl
theorem bw_219 : (.methodLink RX1 25 yX4_keep : Cond) ∈ bw := bw_of (i := 219) (by decide +kernel) rfl
theorem bw_220 : (.instanceMethod yX4_keep : Cond) ∈ bw := bw_of (i := 220) (by decide +kernel) rfl
theorem bw_221 : (.selects RX4 yX4_keep yX4_keep : Cond) ∈ bw := bw_of (i := 221) (by decide +kernel) rfl
theorem bw_222 : (.code yX4_keep cX4_keep 3 (Option.none : Option Jvm.ClassFile.FieldType) : Cond) ∈ bw := bw_of (i := 222) (by decide +kernel) rfl
theorem bw_223 : (.methodLink RX4 21 yX3_writeTo : Cond) ∈ bw := bw_of (i := 223) (by decide +kernel) rfl
theorem bw_224 : (.instanceMethod yX3_writeTo : Cond) ∈ bw := bw_of (i := 224) (by decide +kernel) rfl
theorem bw_225 : (.selects RX3 yX3_writeTo yX3_writeTo : Cond) ∈ bw := bw_of (i := 225) (by decide +kernel) rfl
theorem bw_226 : (.code yX3_writeTo cX3_writeTo 3 (Option.none : Option Jvm.ClassFile.FieldType) : Cond) ∈ bw := bw_of (i := 226) (by decide +kernel) rfl
theorem bw_227 : (.methodLink RL 18 yX7_shot : Cond) ∈ bw := bw_of (i := 227) (by decide +kernel) rfl
theorem bw_228 : (.instanceMethod yX7_shot : Cond) ∈ bw := bw_of (i := 228) (by decide +kernel) rfl
theorem bw_229 : (.selects RX7 yX7_shot yX7_shot : Cond) ∈ bw := bw_of (i := 229) (by decide +kernel) rfl
theorem bw_230 : (.code yX7_shot cX7_shot 6 (some .int) : Cond) ∈ bw := bw_of (i := 230) (by decide +kernel) rfl
theorem bw_231 : (.methodLink RX7 59 yX0_addShot : Cond) ∈ bw := bw_of (i := 231) (by decide +kernel) rfl
theorem bw_232 : (.static yX0_addShot : Cond) ∈ bw := bw_of (i := 232) (by decide +kernel) rfl
theorem bw_233 : (.code yX0_addShot cX0_addShot 7 (some .int) : Cond) ∈ bw := bw_of (i := 233) (by decide +kernel) rfl
theorem bw_234 : (.methodLink RX0 28 yX3_shots : Cond) ∈ bw := bw_of (i := 234) (by decide +kernel) rfl
theorem bw_235 : (.instanceMethod yX3_shots : Cond) ∈ bw := bw_of (i := 235) (by decide +kernel) rfl
theorem bw_236 : (.selects RX3 yX3_shots yX3_shots : Cond) ∈ bw := bw_of (i := 236) (by decide +kernel) rfl
theorem bw_237 : (.code yX3_shots cX3_shots 1 (some .int) : Cond) ∈ bw := bw_of (i := 237) (by decide +kernel) rfl
theorem bw_238 : (.methodLink RX3 24 yX3_read : Cond) ∈ bw := bw_of (i := 238) (by decide +kernel) rfl
theorem bw_240 : (.static yX7_isPoints : Cond) ∈ bw := bw_of (i := 240) (by decide +kernel) rfl
theorem bw_241 : (.code yX7_isPoints cX7_isPoints 1 (some .boolean) : Cond) ∈ bw := bw_of (i := 241) (by decide +kernel) rfl
theorem bw_242 : (.methodLink RX7 168 yX7_isWithin : Cond) ∈ bw := bw_of (i := 242) (by decide +kernel) rfl
theorem bw_243 : (.methodLink RX0 36 yX3_openPlace : Cond) ∈ bw := bw_of (i := 243) (by decide +kernel) rfl
theorem bw_244 : (.instanceMethod yX3_openPlace : Cond) ∈ bw := bw_of (i := 244) (by decide +kernel) rfl
theorem bw_245 : (.selects RX3 yX3_openPlace yX3_openPlace : Cond) ∈ bw := bw_of (i := 245) (by decide +kernel) rfl
theorem bw_246 : (.code yX3_openPlace cX3_openPlace 3 (Option.none : Option Jvm.ClassFile.FieldType) : Cond) ∈ bw := bw_of (i := 246) (by decide +kernel) rfl
theorem bw_247 : (.methodLink RX3 28 yX3_shots : Cond) ∈ bw := bw_of (i := 247) (by decide +kernel) rfl
theorem bw_248 : (.methodLink RX3 32 Lib.Math.min.name : Cond) ∈ bw := bw_of (i := 248) (by decide +kernel) rfl
theorem bw_249 : (.static Lib.Math.min.name : Cond) ∈ bw := bw_of (i := 249) (by decide +kernel) rfl
theorem bw_250 : (.code Lib.Math.min.name cJ9_min_7cf53 2 (some .int) : Cond) ∈ bw := bw_of (i := 250) (by decide +kernel) rfl
theorem bw_251 : (.methodLink RX3 38 yX3_copyShot : Cond) ∈ bw := bw_of (i := 251) (by decide +kernel) rfl
theorem bw_252 : (.instanceMethod yX3_copyShot : Cond) ∈ bw := bw_of (i := 252) (by decide +kernel) rfl
theorem bw_253 : (.selects RX3 yX3_copyShot yX3_copyShot : Cond) ∈ bw := bw_of (i := 253) (by decide +kernel) rfl
theorem bw_254 : (.code yX3_copyShot cX3_copyShot 4 (Option.none : Option Jvm.ClassFile.FieldType) : Cond) ∈ bw := bw_of (i := 254) (by decide +kernel) rfl
theorem bw_255 : (.methodLink RX3 45 yX3_readShot : Cond) ∈ bw := bw_of (i := 255) (by decide +kernel) rfl
theorem bw_256 : (.instanceMethod yX3_readShot : Cond) ∈ bw := bw_of (i := 256) (by decide +kernel) rfl
theorem bw_257 : (.selects RX3 yX3_readShot yX3_readShot : Cond) ∈ bw := bw_of (i := 257) (by decide +kernel) rfl
theorem bw_258 : (.code yX3_readShot cX3_readShot 4 (some .int) : Cond) ∈ bw := bw_of (i := 258) (by decide +kernel) rfl
theorem bw_259 : (.methodLink RX3 48 yX3_writeShot : Cond) ∈ bw := bw_of (i := 259) (by decide +kernel) rfl
theorem bw_260 : (.instanceMethod yX3_writeShot : Cond) ∈ bw := bw_of (i := 260) (by decide +kernel) rfl
theorem bw_261 : (.selects RX3 yX3_writeShot yX3_writeShot : Cond) ∈ bw := bw_of (i := 261) (by decide +kernel) rfl
theorem bw_262 : (.code yX3_writeShot cX3_writeShot 5 (Option.none : Option Jvm.ClassFile.FieldType) : Cond) ∈ bw := bw_of (i := 262) (by decide +kernel) rfl
theorem bw_263 : (.methodLink RX3 42 yX3_write : Cond) ∈ bw := bw_of (i := 263) (by decide +kernel) rfl
theorem bw_264 : (.methodLink RX0 40 yX3_writeShot : Cond) ∈ bw := bw_of (i := 264) (by decide +kernel) rfl
theorem bw_265 : (.methodLink RL 23 yX7_takeOut : Cond) ∈ bw := bw_of (i := 265) (by decide +kernel) rfl
theorem bw_266 : (.instanceMethod yX7_takeOut : Cond) ∈ bw := bw_of (i := 266) (by decide +kernel) rfl
theorem bw_267 : (.selects RX7 yX7_takeOut yX7_takeOut : Cond) ∈ bw := bw_of (i := 267) (by decide +kernel) rfl
theorem bw_268 : (.code yX7_takeOut cX7_takeOut 2 (some .int) : Cond) ∈ bw := bw_of (i := 268) (by decide +kernel) rfl
theorem bw_269 : (.methodLink RX7 63 yX0_dropShot : Cond) ∈ bw := bw_of (i := 269) (by decide +kernel) rfl
theorem bw_270 : (.static yX0_dropShot : Cond) ∈ bw := bw_of (i := 270) (by decide +kernel) rfl
theorem bw_271 : (.code yX0_dropShot cX0_dropShot 2 (some .int) : Cond) ∈ bw := bw_of (i := 271) (by decide +kernel) rfl
theorem bw_272 : (.methodLink RX0 44 yX3_hasShot : Cond) ∈ bw := bw_of (i := 272) (by decide +kernel) rfl
theorem bw_273 : (.instanceMethod yX3_hasShot : Cond) ∈ bw := bw_of (i := 273) (by decide +kernel) rfl
theorem bw_274 : (.selects RX3 yX3_hasShot yX3_hasShot : Cond) ∈ bw := bw_of (i := 274) (by decide +kernel) rfl
theorem bw_275 : (.code yX3_hasShot cX3_hasShot 2 (some .boolean) : Cond) ∈ bw := bw_of (i := 275) (by decide +kernel) rfl
theorem bw_276 : (.methodLink RX0 47 yX3_closePlace : Cond) ∈ bw := bw_of (i := 276) (by decide +kernel) rfl
theorem bw_277 : (.instanceMethod yX3_closePlace : Cond) ∈ bw := bw_of (i := 277) (by decide +kernel) rfl
theorem bw_278 : (.selects RX3 yX3_closePlace yX3_closePlace : Cond) ∈ bw := bw_of (i := 278) (by decide +kernel) rfl
theorem bw_279 : (.code yX3_closePlace cX3_closePlace 3 (Option.none : Option Jvm.ClassFile.FieldType) : Cond) ∈ bw := bw_of (i := 279) (by decide +kernel) rfl
theorem bw_280 : (.methodLink RL 28 yX7_light : Cond) ∈ bw := bw_of (i := 280) (by decide +kernel) rfl
theorem bw_281 : (.instanceMethod yX7_light : Cond) ∈ bw := bw_of (i := 281) (by decide +kernel) rfl
theorem bw_282 : (.selects RX7 yX7_light yX7_light : Cond) ∈ bw := bw_of (i := 282) (by decide +kernel) rfl
theorem bw_283 : (.code yX7_light cX7_light 4 (some .int) : Cond) ∈ bw := bw_of (i := 283) (by decide +kernel) rfl
theorem bw_284 : (.methodLink RX7 67 yX0_changeLight : Cond) ∈ bw := bw_of (i := 284) (by decide +kernel) rfl
theorem bw_285 : (.static yX0_changeLight : Cond) ∈ bw := bw_of (i := 285) (by decide +kernel) rfl
theorem bw_286 : (.code yX0_changeLight cX0_changeLight 5 (some .int) : Cond) ∈ bw := bw_of (i := 286) (by decide +kernel) rfl
theorem bw_288 : (.static yX7_isColour : Cond) ∈ bw := bw_of (i := 288) (by decide +kernel) rfl
theorem bw_289 : (.code yX7_isColour cX7_isColour 1 (some .boolean) : Cond) ∈ bw := bw_of (i := 289) (by decide +kernel) rfl
theorem bw_290 : (.methodLink RX0 53 yX3_readShot : Cond) ∈ bw := bw_of (i := 290) (by decide +kernel) rfl
theorem bw_291 : (.methodLink RL 33 yX7_wish : Cond) ∈ bw := bw_of (i := 291) (by decide +kernel) rfl
theorem bw_292 : (.instanceMethod yX7_wish : Cond) ∈ bw := bw_of (i := 292) (by decide +kernel) rfl
theorem bw_293 : (.selects RX7 yX7_wish yX7_wish : Cond) ∈ bw := bw_of (i := 293) (by decide +kernel) rfl
theorem bw_294 : (.code yX7_wish cX7_wish 4 (some .int) : Cond) ∈ bw := bw_of (i := 294) (by decide +kernel) rfl
theorem bw_295 : (.methodLink RX7 71 yX0_changeWish : Cond) ∈ bw := bw_of (i := 295) (by decide +kernel) rfl
theorem bw_296 : (.static yX0_changeWish : Cond) ∈ bw := bw_of (i := 296) (by decide +kernel) rfl
theorem bw_297 : (.code yX0_changeWish cX0_changeWish 5 (some .int) : Cond) ∈ bw := bw_of (i := 297) (by decide +kernel) rfl
theorem bw_298 : (.methodLink RL 37 yX7_move : Cond) ∈ bw := bw_of (i := 298) (by decide +kernel) rfl
theorem bw_299 : (.instanceMethod yX7_move : Cond) ∈ bw := bw_of (i := 299) (by decide +kernel) rfl
theorem bw_300 : (.selects RX7 yX7_move yX7_move : Cond) ∈ bw := bw_of (i := 300) (by decide +kernel) rfl
theorem bw_301 : (.code yX7_move cX7_move 3 (some .int) : Cond) ∈ bw := bw_of (i := 301) (by decide +kernel) rfl
theorem bw_302 : (.methodLink RX7 74 yX0_moveShot : Cond) ∈ bw := bw_of (i := 302) (by decide +kernel) rfl
theorem bw_303 : (.static yX0_moveShot : Cond) ∈ bw := bw_of (i := 303) (by decide +kernel) rfl
theorem bw_304 : (.code yX0_moveShot cX0_moveShot 4 (some .int) : Cond) ∈ bw := bw_of (i := 304) (by decide +kernel) rfl
theorem bw_305 : (.methodLink RX0 57 yX3_swapShots : Cond) ∈ bw := bw_of (i := 305) (by decide +kernel) rfl
theorem bw_306 : (.instanceMethod yX3_swapShots : Cond) ∈ bw := bw_of (i := 306) (by decide +kernel) rfl
theorem bw_307 : (.selects RX3 yX3_swapShots yX3_swapShots : Cond) ∈ bw := bw_of (i := 307) (by decide +kernel) rfl
theorem bw_308 : (.code yX3_swapShots cX3_swapShots 5 (Option.none : Option Jvm.ClassFile.FieldType) : Cond) ∈ bw := bw_of (i := 308) (by decide +kernel) rfl
theorem bw_309 : (.methodLink RX0 61 Lib.Math.abs.name : Cond) ∈ bw := bw_of (i := 309) (by decide +kernel) rfl
theorem bw_310 : (.static Lib.Math.abs.name : Cond) ∈ bw := bw_of (i := 310) (by decide +kernel) rfl
theorem bw_311 : (.code Lib.Math.abs.name cJ9_abs_0f7a4 1 (some .int) : Cond) ∈ bw := bw_of (i := 311) (by decide +kernel) rfl
theorem bw_312 : (.methodLink RL 41 yX7_split : Cond) ∈ bw := bw_of (i := 312) (by decide +kernel) rfl
theorem bw_313 : (.instanceMethod yX7_split : Cond) ∈ bw := bw_of (i := 313) (by decide +kernel) rfl
theorem bw_314 : (.selects RX7 yX7_split yX7_split : Cond) ∈ bw := bw_of (i := 314) (by decide +kernel) rfl
theorem bw_315 : (.code yX7_split cX7_split 3 (some .int) : Cond) ∈ bw := bw_of (i := 315) (by decide +kernel) rfl
theorem bw_316 : (.methodLink RX7 77 yX0_splitShot : Cond) ∈ bw := bw_of (i := 316) (by decide +kernel) rfl
theorem bw_317 : (.static yX0_splitShot : Cond) ∈ bw := bw_of (i := 317) (by decide +kernel) rfl
theorem bw_318 : (.code yX0_splitShot cX0_splitShot 4 (some .int) : Cond) ∈ bw := bw_of (i := 318) (by decide +kernel) rfl
theorem bw_319 : (.methodLink RL 45 yX7_join : Cond) ∈ bw := bw_of (i := 319) (by decide +kernel) rfl
theorem bw_320 : (.instanceMethod yX7_join : Cond) ∈ bw := bw_of (i := 320) (by decide +kernel) rfl
theorem bw_321 : (.selects RX7 yX7_join yX7_join : Cond) ∈ bw := bw_of (i := 321) (by decide +kernel) rfl
theorem bw_322 : (.code yX7_join cX7_join 2 (some .int) : Cond) ∈ bw := bw_of (i := 322) (by decide +kernel) rfl
theorem bw_323 : (.methodLink RX7 80 yX0_joinShots : Cond) ∈ bw := bw_of (i := 323) (by decide +kernel) rfl
theorem bw_324 : (.static yX0_joinShots : Cond) ∈ bw := bw_of (i := 324) (by decide +kernel) rfl
theorem bw_325 : (.code yX0_joinShots cX0_joinShots 3 (some .int) : Cond) ∈ bw := bw_of (i := 325) (by decide +kernel) rfl
theorem bw_326 : (.methodLink RX0 67 yX0_isSameStock : Cond) ∈ bw := bw_of (i := 326) (by decide +kernel) rfl
theorem bw_327 : (.static yX0_isSameStock : Cond) ∈ bw := bw_of (i := 327) (by decide +kernel) rfl
theorem bw_328 : (.code yX0_isSameStock cX0_isSameStock 4 (some .boolean) : Cond) ∈ bw := bw_of (i := 328) (by decide +kernel) rfl
theorem bw_329 : (.methodLink RL 49 yX7_print : Cond) ∈ bw := bw_of (i := 329) (by decide +kernel) rfl
theorem bw_330 : (.instanceMethod yX7_print : Cond) ∈ bw := bw_of (i := 330) (by decide +kernel) rfl
theorem bw_331 : (.selects RX7 yX7_print yX7_print : Cond) ∈ bw := bw_of (i := 331) (by decide +kernel) rfl
theorem bw_332 : (.code yX7_print cX7_print 1 (some .int) : Cond) ∈ bw := bw_of (i := 332) (by decide +kernel) rfl
theorem bw_333 : (.methodLink RX7 83 yX0_makePrint : Cond) ∈ bw := bw_of (i := 333) (by decide +kernel) rfl
theorem bw_334 : (.static yX0_makePrint : Cond) ∈ bw := bw_of (i := 334) (by decide +kernel) rfl
theorem bw_335 : (.code yX0_makePrint cX0_makePrint 3 (some .int) : Cond) ∈ bw := bw_of (i := 335) (by decide +kernel) rfl
theorem bw_336 : (.methodLink RX0 71 yX0_hoursOfPrint : Cond) ∈ bw := bw_of (i := 336) (by decide +kernel) rfl
theorem bw_337 : (.static yX0_hoursOfPrint : Cond) ∈ bw := bw_of (i := 337) (by decide +kernel) rfl
theorem bw_338 : (.code yX0_hoursOfPrint cX0_hoursOfPrint 1 (some .int) : Cond) ∈ bw := bw_of (i := 338) (by decide +kernel) rfl
theorem bw_339 : (.methodLink RX0 94 yX5_feetBefore : Cond) ∈ bw := bw_of (i := 339) (by decide +kernel) rfl
theorem bw_340 : (.static yX5_feetBefore : Cond) ∈ bw := bw_of (i := 340) (by decide +kernel) rfl
theorem bw_341 : (.code yX5_feetBefore cX5_feetBefore 4 (some .int) : Cond) ∈ bw := bw_of (i := 341) (by decide +kernel) rfl
theorem bw_342 : (.methodLink RX5 11 yX3_readShot : Cond) ∈ bw := bw_of (i := 342) (by decide +kernel) rfl
theorem bw_343 : (.methodLink RX0 78 yX0_runPrinter : Cond) ∈ bw := bw_of (i := 343) (by decide +kernel) rfl
theorem bw_344 : (.static yX0_runPrinter : Cond) ∈ bw := bw_of (i := 344) (by decide +kernel) rfl
theorem bw_345 : (.code yX0_runPrinter cX0_runPrinter 5 (some .int) : Cond) ∈ bw := bw_of (i := 345) (by decide +kernel) rfl
theorem bw_346 : (.methodLink RX0 81 yX5_offWith : Cond) ∈ bw := bw_of (i := 346) (by decide +kernel) rfl
theorem bw_347 : (.static yX5_offWith : Cond) ∈ bw := bw_of (i := 347) (by decide +kernel) rfl
theorem bw_348 : (.code yX5_offWith cX5_offWith 6 (some .int) : Cond) ∈ bw := bw_of (i := 348) (by decide +kernel) rfl
theorem bw_349 : (.methodLink RX5 25 yX5_printsWith : Cond) ∈ bw := bw_of (i := 349) (by decide +kernel) rfl
theorem bw_350 : (.static yX5_printsWith : Cond) ∈ bw := bw_of (i := 350) (by decide +kernel) rfl
theorem bw_351 : (.code yX5_printsWith cX5_printsWith 6 (some .int) : Cond) ∈ bw := bw_of (i := 351) (by decide +kernel) rfl
theorem bw_352 : (.methodLink RX5 15 yX3_lampLoss : Cond) ∈ bw := bw_of (i := 352) (by decide +kernel) rfl
theorem bw_353 : (.instanceMethod yX3_lampLoss : Cond) ∈ bw := bw_of (i := 353) (by decide +kernel) rfl
theorem bw_354 : (.selects RX3 yX3_lampLoss yX3_lampLoss : Cond) ∈ bw := bw_of (i := 354) (by decide +kernel) rfl
theorem bw_355 : (.code yX3_lampLoss cX3_lampLoss 2 (some .int) : Cond) ∈ bw := bw_of (i := 355) (by decide +kernel) rfl
theorem bw_357 : (.static yX7_bounded : Cond) ∈ bw := bw_of (i := 357) (by decide +kernel) rfl
theorem bw_358 : (.code yX7_bounded cX7_bounded 1 (some .int) : Cond) ∈ bw := bw_of (i := 358) (by decide +kernel) rfl
theorem bw_359 : (.methodLink RX0 87 yX5_isBad : Cond) ∈ bw := bw_of (i := 359) (by decide +kernel) rfl
theorem bw_360 : (.static yX5_isBad : Cond) ∈ bw := bw_of (i := 360) (by decide +kernel) rfl
theorem bw_361 : (.code yX5_isBad cX5_isBad 4 (some .boolean) : Cond) ∈ bw := bw_of (i := 361) (by decide +kernel) rfl
theorem bw_362 : (.methodLink RX5 35 Lib.Math.abs.name : Cond) ∈ bw := bw_of (i := 362) (by decide +kernel) rfl
theorem bw_363 : (.methodLink RX5 40 Lib.Math.max.name : Cond) ∈ bw := bw_of (i := 363) (by decide +kernel) rfl
theorem bw_364 : (.methodLink RX5 43 yX5_isAnswered : Cond) ∈ bw := bw_of (i := 364) (by decide +kernel) rfl
theorem bw_365 : (.static yX5_isAnswered : Cond) ∈ bw := bw_of (i := 365) (by decide +kernel) rfl
theorem bw_366 : (.code yX5_isAnswered cX5_isAnswered 2 (some .boolean) : Cond) ∈ bw := bw_of (i := 366) (by decide +kernel) rfl
theorem bw_367 : (.methodLink RX5 22 yX3_read : Cond) ∈ bw := bw_of (i := 367) (by decide +kernel) rfl
theorem bw_368 : (.methodLink RL 54 yX7_correct : Cond) ∈ bw := bw_of (i := 368) (by decide +kernel) rfl
theorem bw_369 : (.instanceMethod yX7_correct : Cond) ∈ bw := bw_of (i := 369) (by decide +kernel) rfl
theorem bw_370 : (.selects RX7 yX7_correct yX7_correct : Cond) ∈ bw := bw_of (i := 370) (by decide +kernel) rfl
theorem bw_371 : (.code yX7_correct cX7_correct 2 (some .int) : Cond) ∈ bw := bw_of (i := 371) (by decide +kernel) rfl
theorem bw_372 : (.methodLink RX7 87 yX0_correctShot : Cond) ∈ bw := bw_of (i := 372) (by decide +kernel) rfl
theorem bw_373 : (.static yX0_correctShot : Cond) ∈ bw := bw_of (i := 373) (by decide +kernel) rfl
theorem bw_374 : (.code yX0_correctShot cX0_correctShot 4 (some .int) : Cond) ∈ bw := bw_of (i := 374) (by decide +kernel) rfl
theorem bw_375 : (.methodLink RX0 98 yX5_isAnswered : Cond) ∈ bw := bw_of (i := 375) (by decide +kernel) rfl
theorem bw_376 : (.methodLink RX0 101 yX0_correctLight : Cond) ∈ bw := bw_of (i := 376) (by decide +kernel) rfl
theorem bw_377 : (.static yX0_correctLight : Cond) ∈ bw := bw_of (i := 377) (by decide +kernel) rfl
theorem bw_378 : (.code yX0_correctLight cX0_correctLight 8 (some .int) : Cond) ∈ bw := bw_of (i := 378) (by decide +kernel) rfl
theorem bw_379 : (.methodLink RX0 104 Lib.Math.max.name : Cond) ∈ bw := bw_of (i := 379) (by decide +kernel) rfl
theorem bw_381 : (.methodLink RL 58 yX7_correctAll : Cond) ∈ bw := bw_of (i := 381) (by decide +kernel) rfl
theorem bw_382 : (.instanceMethod yX7_correctAll : Cond) ∈ bw := bw_of (i := 382) (by decide +kernel) rfl
theorem bw_383 : (.selects RX7 yX7_correctAll yX7_correctAll : Cond) ∈ bw := bw_of (i := 383) (by decide +kernel) rfl
theorem bw_384 : (.code yX7_correctAll cX7_correctAll 1 (some .int) : Cond) ∈ bw := bw_of (i := 384) (by decide +kernel) rfl
theorem bw_385 : (.methodLink RX7 90 yX0_correctBadShots : Cond) ∈ bw := bw_of (i := 385) (by decide +kernel) rfl
theorem bw_386 : (.static yX0_correctBadShots : Cond) ∈ bw := bw_of (i := 386) (by decide +kernel) rfl
theorem bw_387 : (.code yX0_correctBadShots cX0_correctBadShots 3 (some .int) : Cond) ∈ bw := bw_of (i := 387) (by decide +kernel) rfl
theorem bw_388 : (.methodLink RX0 110 yX0_correctShot : Cond) ∈ bw := bw_of (i := 388) (by decide +kernel) rfl
theorem bw_389 : (.methodLink RL 62 yX7_card : Cond) ∈ bw := bw_of (i := 389) (by decide +kernel) rfl
theorem bw_390 : (.instanceMethod yX7_card : Cond) ∈ bw := bw_of (i := 390) (by decide +kernel) rfl
theorem bw_391 : (.selects RX7 yX7_card yX7_card : Cond) ∈ bw := bw_of (i := 391) (by decide +kernel) rfl
theorem bw_392 : (.code yX7_card cX7_card 1 (some .int) : Cond) ∈ bw := bw_of (i := 392) (by decide +kernel) rfl
theorem bw_393 : (.methodLink RX7 93 yX0_setByCard : Cond) ∈ bw := bw_of (i := 393) (by decide +kernel) rfl
theorem bw_394 : (.static yX0_setByCard : Cond) ∈ bw := bw_of (i := 394) (by decide +kernel) rfl
theorem bw_395 : (.code yX0_setByCard cX0_setByCard 4 (some .int) : Cond) ∈ bw := bw_of (i := 395) (by decide +kernel) rfl
theorem bw_396 : (.methodLink RX0 113 yX3_lampLoss : Cond) ∈ bw := bw_of (i := 396) (by decide +kernel) rfl
theorem bw_397 : (.methodLink RX0 116 Lib.Math.min.name : Cond) ∈ bw := bw_of (i := 397) (by decide +kernel) rfl
theorem bw_398 : (.methodLink RL 66 yX7_trim : Cond) ∈ bw := bw_of (i := 398) (by decide +kernel) rfl
theorem bw_399 : (.instanceMethod yX7_trim : Cond) ∈ bw := bw_of (i := 399) (by decide +kernel) rfl
theorem bw_400 : (.selects RX7 yX7_trim yX7_trim : Cond) ∈ bw := bw_of (i := 400) (by decide +kernel) rfl
theorem bw_401 : (.code yX7_trim cX7_trim 3 (some .int) : Cond) ∈ bw := bw_of (i := 401) (by decide +kernel) rfl
theorem bw_402 : (.methodLink RX7 96 yX0_changeTrim : Cond) ∈ bw := bw_of (i := 402) (by decide +kernel) rfl
theorem bw_403 : (.static yX0_changeTrim : Cond) ∈ bw := bw_of (i := 403) (by decide +kernel) rfl
theorem bw_404 : (.code yX0_changeTrim cX0_changeTrim 3 (some .int) : Cond) ∈ bw := bw_of (i := 404) (by decide +kernel) rfl
theorem bw_405 : (.methodLink RL 70 yX7_lamp : Cond) ∈ bw := bw_of (i := 405) (by decide +kernel) rfl
theorem bw_406 : (.instanceMethod yX7_lamp : Cond) ∈ bw := bw_of (i := 406) (by decide +kernel) rfl
theorem bw_407 : (.selects RX7 yX7_lamp yX7_lamp : Cond) ∈ bw := bw_of (i := 407) (by decide +kernel) rfl
theorem bw_408 : (.code yX7_lamp cX7_lamp 2 (some .int) : Cond) ∈ bw := bw_of (i := 408) (by decide +kernel) rfl
theorem bw_409 : (.methodLink RX7 99 yX0_changeLamp : Cond) ∈ bw := bw_of (i := 409) (by decide +kernel) rfl
theorem bw_410 : (.static yX0_changeLamp : Cond) ∈ bw := bw_of (i := 410) (by decide +kernel) rfl
theorem bw_411 : (.code yX0_changeLamp cX0_changeLamp 2 (some .int) : Cond) ∈ bw := bw_of (i := 411) (by decide +kernel) rfl
theorem bw_412 : (.methodLink RL 74 yX7_of : Cond) ∈ bw := bw_of (i := 412) (by decide +kernel) rfl
theorem bw_413 : (.instanceMethod yX7_of : Cond) ∈ bw := bw_of (i := 413) (by decide +kernel) rfl
theorem bw_414 : (.selects RX7 yX7_of yX7_of : Cond) ∈ bw := bw_of (i := 414) (by decide +kernel) rfl
theorem bw_415 : (.code yX7_of cX7_of 3 (some .int) : Cond) ∈ bw := bw_of (i := 415) (by decide +kernel) rfl
theorem bw_416 : (.methodLink RX7 102 yX3_hasShot : Cond) ∈ bw := bw_of (i := 416) (by decide +kernel) rfl
theorem bw_417 : (.methodLink RX7 106 yX3_readShot : Cond) ∈ bw := bw_of (i := 417) (by decide +kernel) rfl
theorem bw_418 : (.methodLink RX7 110 yX5_feetBefore : Cond) ∈ bw := bw_of (i := 418) (by decide +kernel) rfl
theorem bw_419 : (.methodLink RX7 115 yX5_isAnswered : Cond) ∈ bw := bw_of (i := 419) (by decide +kernel) rfl
theorem bw_420 : (.methodLink RX7 119 yX5_isBad : Cond) ∈ bw := bw_of (i := 420) (by decide +kernel) rfl
theorem bw_421 : (.methodLink RX7 122 yX5_jumps : Cond) ∈ bw := bw_of (i := 421) (by decide +kernel) rfl
theorem bw_422 : (.static yX5_jumps : Cond) ∈ bw := bw_of (i := 422) (by decide +kernel) rfl
theorem bw_423 : (.code yX5_jumps cX5_jumps 5 (some .boolean) : Cond) ∈ bw := bw_of (i := 423) (by decide +kernel) rfl
theorem bw_424 : (.methodLink RX5 47 yX3_hasShot : Cond) ∈ bw := bw_of (i := 424) (by decide +kernel) rfl
theorem bw_425 : (.methodLink RX5 51 yX5_printsNow : Cond) ∈ bw := bw_of (i := 425) (by decide +kernel) rfl
theorem bw_426 : (.static yX5_printsNow : Cond) ∈ bw := bw_of (i := 426) (by decide +kernel) rfl
theorem bw_427 : (.code yX5_printsNow cX5_printsNow 4 (some .int) : Cond) ∈ bw := bw_of (i := 427) (by decide +kernel) rfl
theorem bw_428 : (.methodLink RL 78 yX7_inColour : Cond) ∈ bw := bw_of (i := 428) (by decide +kernel) rfl
theorem bw_429 : (.instanceMethod yX7_inColour : Cond) ∈ bw := bw_of (i := 429) (by decide +kernel) rfl
theorem bw_430 : (.selects RX7 yX7_inColour yX7_inColour : Cond) ∈ bw := bw_of (i := 430) (by decide +kernel) rfl
theorem bw_431 : (.code yX7_inColour cX7_inColour 4 (some .int) : Cond) ∈ bw := bw_of (i := 431) (by decide +kernel) rfl
theorem bw_432 : (.methodLink RX7 125 yX7_isColour : Cond) ∈ bw := bw_of (i := 432) (by decide +kernel) rfl
theorem bw_433 : (.methodLink RX7 128 yX5_printsNow : Cond) ∈ bw := bw_of (i := 433) (by decide +kernel) rfl
theorem bw_434 : (.methodLink RX7 131 yX5_offNow : Cond) ∈ bw := bw_of (i := 434) (by decide +kernel) rfl
theorem bw_435 : (.static yX5_offNow : Cond) ∈ bw := bw_of (i := 435) (by decide +kernel) rfl
theorem bw_436 : (.code yX5_offNow cX5_offNow 3 (some .int) : Cond) ∈ bw := bw_of (i := 436) (by decide +kernel) rfl
theorem bw_437 : (.methodLink RX5 31 yX5_offWith : Cond) ∈ bw := bw_of (i := 437) (by decide +kernel) rfl
theorem bw_438 : (.methodLink RL 82 yX7_ofLamp : Cond) ∈ bw := bw_of (i := 438) (by decide +kernel) rfl
theorem bw_439 : (.instanceMethod yX7_ofLamp : Cond) ∈ bw := bw_of (i := 439) (by decide +kernel) rfl
theorem bw_440 : (.selects RX7 yX7_ofLamp yX7_ofLamp : Cond) ∈ bw := bw_of (i := 440) (by decide +kernel) rfl
theorem bw_441 : (.code yX7_ofLamp cX7_ofLamp 3 (some .int) : Cond) ∈ bw := bw_of (i := 441) (by decide +kernel) rfl
theorem bw_442 : (.methodLink RX7 134 yX3_read : Cond) ∈ bw := bw_of (i := 442) (by decide +kernel) rfl
theorem bw_443 : (.methodLink RX7 137 yX3_lampLoss : Cond) ∈ bw := bw_of (i := 443) (by decide +kernel) rfl
theorem bw_444 : (.methodLink RL 86 yX7_count : Cond) ∈ bw := bw_of (i := 444) (by decide +kernel) rfl
theorem bw_445 : (.instanceMethod yX7_count : Cond) ∈ bw := bw_of (i := 445) (by decide +kernel) rfl
theorem bw_446 : (.selects RX7 yX7_count yX7_count : Cond) ∈ bw := bw_of (i := 446) (by decide +kernel) rfl
theorem bw_447 : (.code yX7_count cX7_count 2 (some .int) : Cond) ∈ bw := bw_of (i := 447) (by decide +kernel) rfl
theorem bw_448 : (.methodLink RX7 140 yX3_shots : Cond) ∈ bw := bw_of (i := 448) (by decide +kernel) rfl
theorem bw_449 : (.methodLink RX7 144 yX5_setOf : Cond) ∈ bw := bw_of (i := 449) (by decide +kernel) rfl
theorem bw_450 : (.static yX5_setOf : Cond) ∈ bw := bw_of (i := 450) (by decide +kernel) rfl
theorem bw_451 : (.code yX5_setOf cX5_setOf 4 (some .int) : Cond) ∈ bw := bw_of (i := 451) (by decide +kernel) rfl
theorem bw_452 : (.methodLink RX5 64 yX3_shots : Cond) ∈ bw := bw_of (i := 452) (by decide +kernel) rfl
theorem bw_453 : (.methodLink RX5 68 yX5_holds : Cond) ∈ bw := bw_of (i := 453) (by decide +kernel) rfl
theorem bw_454 : (.static yX5_holds : Cond) ∈ bw := bw_of (i := 454) (by decide +kernel) rfl
theorem bw_455 : (.code yX5_holds cX5_holds 3 (some .boolean) : Cond) ∈ bw := bw_of (i := 455) (by decide +kernel) rfl
theorem bw_456 : (.methodLink RX5 55 yX5_isBad : Cond) ∈ bw := bw_of (i := 456) (by decide +kernel) rfl
theorem bw_457 : (.methodLink RX5 58 yX5_jumps : Cond) ∈ bw := bw_of (i := 457) (by decide +kernel) rfl
theorem bw_458 : (.methodLink RX5 61 yX5_isOff : Cond) ∈ bw := bw_of (i := 458) (by decide +kernel) rfl
theorem bw_459 : (.static yX5_isOff : Cond) ∈ bw := bw_of (i := 459) (by decide +kernel) rfl
theorem bw_460 : (.code yX5_isOff cX5_isOff 5 (some .boolean) : Cond) ∈ bw := bw_of (i := 460) (by decide +kernel) rfl
theorem bw_461 : (.methodLink RX7 147 yX2_length : Cond) ∈ bw := bw_of (i := 461) (by decide +kernel) rfl
theorem bw_462 : (.instanceMethod yX2_length : Cond) ∈ bw := bw_of (i := 462) (by decide +kernel) rfl
theorem bw_463 : (.selects RX2 yX2_length yX2_length : Cond) ∈ bw := bw_of (i := 463) (by decide +kernel) rfl
theorem bw_464 : (.code yX2_length cX2_length 1 (some .int) : Cond) ∈ bw := bw_of (i := 464) (by decide +kernel) rfl
theorem bw_465 : (.methodLink RX7 150 yX1_size : Cond) ∈ bw := bw_of (i := 465) (by decide +kernel) rfl
theorem bw_466 : (.instanceMethod yX1_size : Cond) ∈ bw := bw_of (i := 466) (by decide +kernel) rfl
theorem bw_467 : (.selects RX1 yX1_size yX1_size : Cond) ∈ bw := bw_of (i := 467) (by decide +kernel) rfl
theorem bw_468 : (.code yX1_size cX1_size 1 (some .int) : Cond) ∈ bw := bw_of (i := 468) (by decide +kernel) rfl
theorem bw_469 : (.methodLink RL 90 yX7_needs : Cond) ∈ bw := bw_of (i := 469) (by decide +kernel) rfl
theorem bw_470 : (.instanceMethod yX7_needs : Cond) ∈ bw := bw_of (i := 470) (by decide +kernel) rfl
theorem bw_471 : (.selects RX7 yX7_needs yX7_needs : Cond) ∈ bw := bw_of (i := 471) (by decide +kernel) rfl
theorem bw_472 : (.code yX7_needs cX7_needs 4 (some .int) : Cond) ∈ bw := bw_of (i := 472) (by decide +kernel) rfl
theorem bw_473 : (.methodLink RX7 153 yX6_lightNeeded : Cond) ∈ bw := bw_of (i := 473) (by decide +kernel) rfl
theorem bw_474 : (.static yX6_lightNeeded : Cond) ∈ bw := bw_of (i := 474) (by decide +kernel) rfl
theorem bw_475 : (.code yX6_lightNeeded cX6_lightNeeded 6 (some .int) : Cond) ∈ bw := bw_of (i := 475) (by decide +kernel) rfl
theorem bw_476 : (.methodLink RX6 11 yX3_readShot : Cond) ∈ bw := bw_of (i := 476) (by decide +kernel) rfl
theorem bw_477 : (.methodLink RX6 15 yX3_read : Cond) ∈ bw := bw_of (i := 477) (by decide +kernel) rfl
theorem bw_478 : (.methodLink RX7 158 yX7_isPoints : Cond) ∈ bw := bw_of (i := 478) (by decide +kernel) rfl
theorem bw_479 : (.methodLink RL 94 yX7_ifLight : Cond) ∈ bw := bw_of (i := 479) (by decide +kernel) rfl
theorem bw_480 : (.instanceMethod yX7_ifLight : Cond) ∈ bw := bw_of (i := 480) (by decide +kernel) rfl
theorem bw_481 : (.selects RX7 yX7_ifLight yX7_ifLight : Cond) ∈ bw := bw_of (i := 481) (by decide +kernel) rfl
theorem bw_482 : (.code yX7_ifLight cX7_ifLight 4 (some .int) : Cond) ∈ bw := bw_of (i := 482) (by decide +kernel) rfl
theorem bw_483 : (.methodLink RX7 161 yX5_printsWith : Cond) ∈ bw := bw_of (i := 483) (by decide +kernel) rfl
theorem bw_484 : (.methodLink RL 98 yX7_lasts : Cond) ∈ bw := bw_of (i := 484) (by decide +kernel) rfl
theorem bw_485 : (.instanceMethod yX7_lasts : Cond) ∈ bw := bw_of (i := 485) (by decide +kernel) rfl
theorem bw_486 : (.selects RX7 yX7_lasts yX7_lasts : Cond) ∈ bw := bw_of (i := 486) (by decide +kernel) rfl
theorem bw_487 : (.code yX7_lasts cX7_lasts 2 (some .int) : Cond) ∈ bw := bw_of (i := 487) (by decide +kernel) rfl
theorem bw_488 : (.methodLink RX7 165 yX6_hoursLeft : Cond) ∈ bw := bw_of (i := 488) (by decide +kernel) rfl
theorem bw_489 : (.static yX6_hoursLeft : Cond) ∈ bw := bw_of (i := 489) (by decide +kernel) rfl
theorem bw_490 : (.code yX6_hoursLeft cX6_hoursLeft 5 (some .int) : Cond) ∈ bw := bw_of (i := 490) (by decide +kernel) rfl
theorem bw_491 : (.methodLink RX6 21 yX6_isSomeLightOut : Cond) ∈ bw := bw_of (i := 491) (by decide +kernel) rfl
theorem bw_492 : (.static yX6_isSomeLightOut : Cond) ∈ bw := bw_of (i := 492) (by decide +kernel) rfl
theorem bw_493 : (.code yX6_isSomeLightOut cX6_isSomeLightOut 4 (some .boolean) : Cond) ∈ bw := bw_of (i := 493) (by decide +kernel) rfl
theorem bw_494 : (.methodLink RX6 25 yX3_shots : Cond) ∈ bw := bw_of (i := 494) (by decide +kernel) rfl
theorem bw_495 : (.methodLink RX6 29 yX6_lightNeeded : Cond) ∈ bw := bw_of (i := 495) (by decide +kernel) rfl
theorem bw_497 : (.methodLink RL 102 yX7_bestTrim : Cond) ∈ bw := bw_of (i := 497) (by decide +kernel) rfl
theorem bw_498 : (.instanceMethod yX7_bestTrim : Cond) ∈ bw := bw_of (i := 498) (by decide +kernel) rfl
theorem bw_499 : (.selects RX7 yX7_bestTrim yX7_bestTrim : Cond) ∈ bw := bw_of (i := 499) (by decide +kernel) rfl
theorem bw_500 : (.code yX7_bestTrim cX7_bestTrim 4 (some .int) : Cond) ∈ bw := bw_of (i := 500) (by decide +kernel) rfl
theorem bw_501 : (.methodLink RX7 172 yX6_leastOffTrim : Cond) ∈ bw := bw_of (i := 501) (by decide +kernel) rfl
theorem bw_502 : (.static yX6_leastOffTrim : Cond) ∈ bw := bw_of (i := 502) (by decide +kernel) rfl
theorem bw_503 : (.code yX6_leastOffTrim cX6_leastOffTrim 7 (some .int) : Cond) ∈ bw := bw_of (i := 503) (by decide +kernel) rfl
theorem bw_504 : (.methodLink RX6 37 yX6_offTogether : Cond) ∈ bw := bw_of (i := 504) (by decide +kernel) rfl
theorem bw_505 : (.static yX6_offTogether : Cond) ∈ bw := bw_of (i := 505) (by decide +kernel) rfl
theorem bw_506 : (.code yX6_offTogether cX6_offTogether 5 (some .int) : Cond) ∈ bw := bw_of (i := 506) (by decide +kernel) rfl
theorem bw_507 : (.methodLink RX6 41 yX5_offWith : Cond) ∈ bw := bw_of (i := 507) (by decide +kernel) rfl
theorem bw_508 : (.methodLink RX6 46 Lib.Math.abs.name : Cond) ∈ bw := bw_of (i := 508) (by decide +kernel) rfl
theorem bw_509 : (.methodLink RX7 175 yX6_offTogether : Cond) ∈ bw := bw_of (i := 509) (by decide +kernel) rfl
theorem bw_510 : (.methodLink RL 106 yX7_printsNeeded : Cond) ∈ bw := bw_of (i := 510) (by decide +kernel) rfl
theorem bw_511 : (.instanceMethod yX7_printsNeeded : Cond) ∈ bw := bw_of (i := 511) (by decide +kernel) rfl
theorem bw_512 : (.selects RX7 yX7_printsNeeded yX7_printsNeeded : Cond) ∈ bw := bw_of (i := 512) (by decide +kernel) rfl
theorem bw_513 : (.code yX7_printsNeeded cX7_printsNeeded 1 (some .int) : Cond) ∈ bw := bw_of (i := 513) (by decide +kernel) rfl
theorem bw_514 : (.methodLink RX7 178 yX6_printsUntilGood : Cond) ∈ bw := bw_of (i := 514) (by decide +kernel) rfl
theorem bw_515 : (.static yX6_printsUntilGood : Cond) ∈ bw := bw_of (i := 515) (by decide +kernel) rfl
theorem bw_516 : (.code yX6_printsUntilGood cX6_printsUntilGood 2 (some .int) : Cond) ∈ bw := bw_of (i := 516) (by decide +kernel) rfl
theorem bw_517 : (.methodLink RX6 51 yX0_runPrinter : Cond) ∈ bw := bw_of (i := 517) (by decide +kernel) rfl
theorem bw_518 : (.methodLink RX6 57 yX0_correctBadShots : Cond) ∈ bw := bw_of (i := 518) (by decide +kernel) rfl
theorem bw_519 : (.methodLink RL 112 yX7_put : Cond) ∈ bw := bw_of (i := 519) (by decide +kernel) rfl
theorem bw_520 : (.instanceMethod yX7_put : Cond) ∈ bw := bw_of (i := 520) (by decide +kernel) rfl
theorem bw_521 : (.selects RX7 yX7_put yX7_put : Cond) ∈ bw := bw_of (i := 521) (by decide +kernel) rfl
theorem bw_522 : (.code yX7_put cX7_put 3 (some .int) : Cond) ∈ bw := bw_of (i := 522) (by decide +kernel) rfl
theorem bw_523 : (.methodLink RX7 181 yX2_append : Cond) ∈ bw := bw_of (i := 523) (by decide +kernel) rfl
theorem bw_524 : (.instanceMethod yX2_append : Cond) ∈ bw := bw_of (i := 524) (by decide +kernel) rfl
theorem bw_525 : (.selects RX2 yX2_append yX2_append : Cond) ∈ bw := bw_of (i := 525) (by decide +kernel) rfl
theorem bw_526 : (.code yX2_append cX2_append 5 (some .int) : Cond) ∈ bw := bw_of (i := 526) (by decide +kernel) rfl
theorem bw_527 : (.methodLink RX2 33 yX2_charactersIn : Cond) ∈ bw := bw_of (i := 527) (by decide +kernel) rfl
theorem bw_528 : (.static yX2_charactersIn : Cond) ∈ bw := bw_of (i := 528) (by decide +kernel) rfl
theorem bw_529 : (.code yX2_charactersIn cX2_charactersIn 5 (some .int) : Cond) ∈ bw := bw_of (i := 529) (by decide +kernel) rfl
theorem bw_530 : (.constantLong "TimingLights$Pad" 37 255 : Cond) ∈ bw := bw_of (i := 530) (by decide +kernel) rfl
theorem bw_532 : (.methodLink RX2 39 yX2_write : Cond) ∈ bw := bw_of (i := 532) (by decide +kernel) rfl
theorem bw_534 : (.instanceMethod yX2_write : Cond) ∈ bw := bw_of (i := 534) (by decide +kernel) rfl
theorem bw_535 : (.code yX2_write cX2_write 2 (Option.none : Option Jvm.ClassFile.FieldType) : Cond) ∈ bw := bw_of (i := 535) (by decide +kernel) rfl
theorem bw_536 : (.methodLink RL 117 yX7_wipe : Cond) ∈ bw := bw_of (i := 536) (by decide +kernel) rfl
theorem bw_537 : (.instanceMethod yX7_wipe : Cond) ∈ bw := bw_of (i := 537) (by decide +kernel) rfl
theorem bw_538 : (.selects RX7 yX7_wipe yX7_wipe : Cond) ∈ bw := bw_of (i := 538) (by decide +kernel) rfl
theorem bw_539 : (.code yX7_wipe cX7_wipe 1 (some .int) : Cond) ∈ bw := bw_of (i := 539) (by decide +kernel) rfl
theorem bw_540 : (.methodLink RX7 185 yX2_clear : Cond) ∈ bw := bw_of (i := 540) (by decide +kernel) rfl
theorem bw_541 : (.instanceMethod yX2_clear : Cond) ∈ bw := bw_of (i := 541) (by decide +kernel) rfl
theorem bw_542 : (.selects RX2 yX2_clear yX2_clear : Cond) ∈ bw := bw_of (i := 542) (by decide +kernel) rfl
theorem bw_543 : (.code yX2_clear cX2_clear 2 (some .int) : Cond) ∈ bw := bw_of (i := 543) (by decide +kernel) rfl
theorem bw_544 : (.methodLink RL 121 yX7_fault : Cond) ∈ bw := bw_of (i := 544) (by decide +kernel) rfl
theorem bw_545 : (.instanceMethod yX7_fault : Cond) ∈ bw := bw_of (i := 545) (by decide +kernel) rfl
theorem bw_546 : (.selects RX7 yX7_fault yX7_fault : Cond) ∈ bw := bw_of (i := 546) (by decide +kernel) rfl
theorem bw_547 : (.code yX7_fault cX7_fault 1 (some .int) : Cond) ∈ bw := bw_of (i := 547) (by decide +kernel) rfl
theorem bw_548 : (.methodLink RX7 188 yX2_firstFault : Cond) ∈ bw := bw_of (i := 548) (by decide +kernel) rfl
theorem bw_549 : (.instanceMethod yX2_firstFault : Cond) ∈ bw := bw_of (i := 549) (by decide +kernel) rfl
theorem bw_550 : (.selects RX2 yX2_firstFault yX2_firstFault : Cond) ∈ bw := bw_of (i := 550) (by decide +kernel) rfl
theorem bw_551 : (.code yX2_firstFault cX2_firstFault 2 (some .int) : Cond) ∈ bw := bw_of (i := 551) (by decide +kernel) rfl
theorem bw_552 : (.methodLink RX2 47 yX2_startReading : Cond) ∈ bw := bw_of (i := 552) (by decide +kernel) rfl
theorem bw_553 : (.instanceMethod yX2_startReading : Cond) ∈ bw := bw_of (i := 553) (by decide +kernel) rfl
theorem bw_554 : (.selects RX2 yX2_startReading yX2_startReading : Cond) ∈ bw := bw_of (i := 554) (by decide +kernel) rfl
theorem bw_555 : (.code yX2_startReading cX2_startReading 1 (Option.none : Option Jvm.ClassFile.FieldType) : Cond) ∈ bw := bw_of (i := 555) (by decide +kernel) rfl
theorem bw_556 : (.methodLink RX2 50 yX2_nextOrder : Cond) ∈ bw := bw_of (i := 556) (by decide +kernel) rfl
theorem bw_557 : (.instanceMethod yX2_nextOrder : Cond) ∈ bw := bw_of (i := 557) (by decide +kernel) rfl
theorem bw_558 : (.selects RX2 yX2_nextOrder yX2_nextOrder : Cond) ∈ bw := bw_of (i := 558) (by decide +kernel) rfl
theorem bw_559 : (.code yX2_nextOrder cX2_nextOrder 3 (some .boolean) : Cond) ∈ bw := bw_of (i := 559) (by decide +kernel) rfl
theorem bw_560 : (.methodLink RX2 57 yX2_readSign : Cond) ∈ bw := bw_of (i := 560) (by decide +kernel) rfl
theorem bw_562 : (.instanceMethod yX2_readSign : Cond) ∈ bw := bw_of (i := 562) (by decide +kernel) rfl
theorem bw_563 : (.code yX2_readSign cX2_readSign 2 (some .boolean) : Cond) ∈ bw := bw_of (i := 563) (by decide +kernel) rfl
theorem bw_564 : (.methodLink RX2 64 yX2_here : Cond) ∈ bw := bw_of (i := 564) (by decide +kernel) rfl
theorem bw_566 : (.instanceMethod yX2_here : Cond) ∈ bw := bw_of (i := 566) (by decide +kernel) rfl
theorem bw_567 : (.code yX2_here cX2_here 1 (some .int) : Cond) ∈ bw := bw_of (i := 567) (by decide +kernel) rfl
theorem bw_568 : (.methodLink RX2 68 yX2_formOf : Cond) ∈ bw := bw_of (i := 568) (by decide +kernel) rfl
theorem bw_569 : (.static yX2_formOf : Cond) ∈ bw := bw_of (i := 569) (by decide +kernel) rfl
theorem bw_570 : (.code yX2_formOf cX2_formOf 1 (some (.object "java/lang/String")) : Cond) ∈ bw := bw_of (i := 570) (by decide +kernel) rfl
theorem bw_580 : (.methodLink RX2 72 yJ0_length_8abf5 : Cond) ∈ bw := bw_of (i := 580) (by decide +kernel) rfl
theorem bw_581 : (.instanceMethod yJ0_length_8abf5 : Cond) ∈ bw := bw_of (i := 581) (by decide +kernel) rfl
theorem bw_582 : (.selects RJ0 yJ0_length_8abf5 yJ0_length_8abf5 : Cond) ∈ bw := bw_of (i := 582) (by decide +kernel) rfl
theorem bw_583 : (.code yJ0_length_8abf5 cJ0_length_8abf5 1 (some .int) : Cond) ∈ bw := bw_of (i := 583) (by decide +kernel) rfl
theorem bw_584 : (.methodLink RJ0 335 yJ0_coder_7d493 : Cond) ∈ bw := bw_of (i := 584) (by decide +kernel) rfl
theorem bw_585 : (.instanceMethod yJ0_coder_7d493 : Cond) ∈ bw := bw_of (i := 585) (by decide +kernel) rfl
theorem bw_586 : (.selects RJ0 yJ0_coder_7d493 yJ0_coder_7d493 : Cond) ∈ bw := bw_of (i := 586) (by decide +kernel) rfl
theorem bw_587 : (.code yJ0_coder_7d493 cJ0_coder_7d493 1 (some .byte) : Cond) ∈ bw := bw_of (i := 587) (by decide +kernel) rfl
theorem bw_588 : (.fieldLink RJ0 38 "java/lang/String" "COMPACT_STRINGS" "Z" : Cond) ∈ bw := bw_of (i := 588) (by decide +kernel) rfl
theorem bw_590 : (.methodLink RX2 76 yJ0_charAt_5068e : Cond) ∈ bw := bw_of (i := 590) (by decide +kernel) rfl
theorem bw_591 : (.instanceMethod yJ0_charAt_5068e : Cond) ∈ bw := bw_of (i := 591) (by decide +kernel) rfl
theorem bw_592 : (.selects RJ0 yJ0_charAt_5068e yJ0_charAt_5068e : Cond) ∈ bw := bw_of (i := 592) (by decide +kernel) rfl
theorem bw_593 : (.code yJ0_charAt_5068e cJ0_charAt_5068e 2 (some .char) : Cond) ∈ bw := bw_of (i := 593) (by decide +kernel) rfl
theorem bw_594 : (.methodLink RJ0 492 yJ0_isLatin1_aae02 : Cond) ∈ bw := bw_of (i := 594) (by decide +kernel) rfl
theorem bw_595 : (.instanceMethod yJ0_isLatin1_aae02 : Cond) ∈ bw := bw_of (i := 595) (by decide +kernel) rfl
theorem bw_596 : (.selects RJ0 yJ0_isLatin1_aae02 yJ0_isLatin1_aae02 : Cond) ∈ bw := bw_of (i := 596) (by decide +kernel) rfl
theorem bw_597 : (.code yJ0_isLatin1_aae02 cJ0_isLatin1_aae02 1 (some .boolean) : Cond) ∈ bw := bw_of (i := 597) (by decide +kernel) rfl
theorem bw_598 : (.methodLink RJ0 495 yJ1_charAt_3b067 : Cond) ∈ bw := bw_of (i := 598) (by decide +kernel) rfl
theorem bw_599 : (.static yJ1_charAt_3b067 : Cond) ∈ bw := bw_of (i := 599) (by decide +kernel) rfl
theorem bw_600 : (.code yJ1_charAt_3b067 cJ1_charAt_3b067 2 (some .char) : Cond) ∈ bw := bw_of (i := 600) (by decide +kernel) rfl
theorem bw_601 : (.methodLink RJ1 9 yJ0_checkIndex_df160 : Cond) ∈ bw := bw_of (i := 601) (by decide +kernel) rfl
theorem bw_602 : (.static yJ0_checkIndex_df160 : Cond) ∈ bw := bw_of (i := 602) (by decide +kernel) rfl
theorem bw_603 : (.code yJ0_checkIndex_df160 cJ0_checkIndex_df160 2 (Option.none : Option Jvm.ClassFile.FieldType) : Cond) ∈ bw := bw_of (i := 603) (by decide +kernel) rfl
theorem bw_604 : (.fieldLink RJ0 1053 "jdk/internal/util/Preconditions" "SIOOBE_FORMATTER" "Ljava/util/function/BiFunction;" : Cond) ∈ bw := bw_of (i := 604) (by decide +kernel) rfl
theorem bw_606 : (.methodLink RJ0 1059 yJ3_checkIndex_8e157 : Cond) ∈ bw := bw_of (i := 606) (by decide +kernel) rfl
theorem bw_607 : (.static yJ3_checkIndex_8e157 : Cond) ∈ bw := bw_of (i := 607) (by decide +kernel) rfl
theorem bw_608 : (.code yJ3_checkIndex_8e157 cJ3_checkIndex_8e157 3 (some .int) : Cond) ∈ bw := bw_of (i := 608) (by decide +kernel) rfl
theorem bw_609 : (.methodLink RJ0 498 yJ2_charAt_3b067 : Cond) ∈ bw := bw_of (i := 609) (by decide +kernel) rfl
theorem bw_610 : (.static yJ2_charAt_3b067 : Cond) ∈ bw := bw_of (i := 610) (by decide +kernel) rfl
theorem bw_611 : (.code yJ2_charAt_3b067 cJ2_charAt_3b067 2 (some .char) : Cond) ∈ bw := bw_of (i := 611) (by decide +kernel) rfl
theorem bw_612 : (.methodLink RJ2 67 yJ2_checkIndex_2214a : Cond) ∈ bw := bw_of (i := 612) (by decide +kernel) rfl
theorem bw_613 : (.static yJ2_checkIndex_2214a : Cond) ∈ bw := bw_of (i := 613) (by decide +kernel) rfl
theorem bw_614 : (.code yJ2_checkIndex_2214a cJ2_checkIndex_2214a 2 (Option.none : Option Jvm.ClassFile.FieldType) : Cond) ∈ bw := bw_of (i := 614) (by decide +kernel) rfl
theorem bw_615 : (.methodLink RJ2 48 yJ2_length_9d52b : Cond) ∈ bw := bw_of (i := 615) (by decide +kernel) rfl
theorem bw_616 : (.static yJ2_length_9d52b : Cond) ∈ bw := bw_of (i := 616) (by decide +kernel) rfl
theorem bw_617 : (.code yJ2_length_9d52b cJ2_length_9d52b 1 (some .int) : Cond) ∈ bw := bw_of (i := 617) (by decide +kernel) rfl
theorem bw_618 : (.methodLink RJ2 414 yJ0_checkIndex_df160 : Cond) ∈ bw := bw_of (i := 618) (by decide +kernel) rfl
theorem bw_619 : (.methodLink RJ2 71 yJ2_getChar_3b067 : Cond) ∈ bw := bw_of (i := 619) (by decide +kernel) rfl
theorem bw_620 : (.static yJ2_getChar_3b067 : Cond) ∈ bw := bw_of (i := 620) (by decide +kernel) rfl
theorem bw_621 : (.code yJ2_getChar_3b067 cJ2_getChar_3b067 2 (some .char) : Cond) ∈ bw := bw_of (i := 621) (by decide +kernel) rfl
theorem bw_622 : (.fieldLink RJ2 44 "java/lang/StringUTF16" "$assertionsDisabled" "Z" : Cond) ∈ bw := bw_of (i := 622) (by decide +kernel) rfl
theorem bw_624 : (.fieldLink RJ2 59 "java/lang/StringUTF16" "HI_BYTE_SHIFT" "I" : Cond) ∈ bw := bw_of (i := 624) (by decide +kernel) rfl
theorem bw_626 : (.fieldLink RJ2 63 "java/lang/StringUTF16" "LO_BYTE_SHIFT" "I" : Cond) ∈ bw := bw_of (i := 626) (by decide +kernel) rfl
theorem bw_628 : (.methodLink RX2 80 yX2_readPart : Cond) ∈ bw := bw_of (i := 628) (by decide +kernel) rfl
theorem bw_630 : (.instanceMethod yX2_readPart : Cond) ∈ bw := bw_of (i := 630) (by decide +kernel) rfl
theorem bw_631 : (.code yX2_readPart cX2_readPart 2 (some .boolean) : Cond) ∈ bw := bw_of (i := 631) (by decide +kernel) rfl
theorem bw_632 : (.methodLink RX2 104 yX2_readNumber : Cond) ∈ bw := bw_of (i := 632) (by decide +kernel) rfl
theorem bw_634 : (.instanceMethod yX2_readNumber : Cond) ∈ bw := bw_of (i := 634) (by decide +kernel) rfl
theorem bw_635 : (.code yX2_readNumber cX2_readNumber 2 (some .boolean) : Cond) ∈ bw := bw_of (i := 635) (by decide +kernel) rfl
theorem bw_636 : (.methodLink RX2 110 yX2_isDigitHere : Cond) ∈ bw := bw_of (i := 636) (by decide +kernel) rfl
theorem bw_638 : (.instanceMethod yX2_isDigitHere : Cond) ∈ bw := bw_of (i := 638) (by decide +kernel) rfl
theorem bw_639 : (.code yX2_isDigitHere cX2_isDigitHere 1 (some .boolean) : Cond) ∈ bw := bw_of (i := 639) (by decide +kernel) rfl
theorem bw_640 : (.methodLink RX2 107 yX2_readColour : Cond) ∈ bw := bw_of (i := 640) (by decide +kernel) rfl
theorem bw_642 : (.instanceMethod yX2_readColour : Cond) ∈ bw := bw_of (i := 642) (by decide +kernel) rfl
theorem bw_643 : (.code yX2_readColour cX2_readColour 2 (some .boolean) : Cond) ∈ bw := bw_of (i := 643) (by decide +kernel) rfl
theorem bw_644 : (.methodLink RX2 83 yJ0_isEmpty_aae02 : Cond) ∈ bw := bw_of (i := 644) (by decide +kernel) rfl
theorem bw_645 : (.instanceMethod yJ0_isEmpty_aae02 : Cond) ∈ bw := bw_of (i := 645) (by decide +kernel) rfl
theorem bw_646 : (.selects RJ0 yJ0_isEmpty_aae02 yJ0_isEmpty_aae02 : Cond) ∈ bw := bw_of (i := 646) (by decide +kernel) rfl
theorem bw_647 : (.code yJ0_isEmpty_aae02 cJ0_isEmpty_aae02 1 (some .boolean) : Cond) ∈ bw := bw_of (i := 647) (by decide +kernel) rfl
theorem bw_648 : (.arrayClass .byte : Cond) ∈ bw := bw_of (i := 648) (by decide +kernel) rfl
theorem bw_649 : (.methodLink RL 125 yX7_carryOut : Cond) ∈ bw := bw_of (i := 649) (by decide +kernel) rfl
theorem bw_650 : (.instanceMethod yX7_carryOut : Cond) ∈ bw := bw_of (i := 650) (by decide +kernel) rfl
theorem bw_651 : (.selects RX7 yX7_carryOut yX7_carryOut : Cond) ∈ bw := bw_of (i := 651) (by decide +kernel) rfl
theorem bw_652 : (.code yX7_carryOut cX7_carryOut 2 (some .int) : Cond) ∈ bw := bw_of (i := 652) (by decide +kernel) rfl
theorem bw_653 : (.methodLink RX7 191 yX2_startReading : Cond) ∈ bw := bw_of (i := 653) (by decide +kernel) rfl
theorem bw_654 : (.methodLink RX7 194 yX2_nextOrder : Cond) ∈ bw := bw_of (i := 654) (by decide +kernel) rfl
theorem bw_655 : (.methodLink RX7 198 yX7_carryOutOrder : Cond) ∈ bw := bw_of (i := 655) (by decide +kernel) rfl
theorem bw_657 : (.instanceMethod yX7_carryOutOrder : Cond) ∈ bw := bw_of (i := 657) (by decide +kernel) rfl
theorem bw_658 : (.code yX7_carryOutOrder cX7_carryOutOrder 3 (some .int) : Cond) ∈ bw := bw_of (i := 658) (by decide +kernel) rfl
theorem bw_659 : (.methodLink RX7 221 yX2_number : Cond) ∈ bw := bw_of (i := 659) (by decide +kernel) rfl
theorem bw_660 : (.instanceMethod yX2_number : Cond) ∈ bw := bw_of (i := 660) (by decide +kernel) rfl
theorem bw_661 : (.selects RX2 yX2_number yX2_number : Cond) ∈ bw := bw_of (i := 661) (by decide +kernel) rfl
theorem bw_662 : (.code yX2_number cX2_number 2 (some .int) : Cond) ∈ bw := bw_of (i := 662) (by decide +kernel) rfl
theorem bw_663 : (.methodLink RX7 224 yX2_letter : Cond) ∈ bw := bw_of (i := 663) (by decide +kernel) rfl
theorem bw_664 : (.instanceMethod yX2_letter : Cond) ∈ bw := bw_of (i := 664) (by decide +kernel) rfl
theorem bw_665 : (.selects RX2 yX2_letter yX2_letter : Cond) ∈ bw := bw_of (i := 665) (by decide +kernel) rfl
theorem bw_666 : (.code yX2_letter cX2_letter 1 (some .int) : Cond) ∈ bw := bw_of (i := 666) (by decide +kernel) rfl
theorem bw_667 : (.methodLink RX7 227 yX2_colour : Cond) ∈ bw := bw_of (i := 667) (by decide +kernel) rfl
theorem bw_668 : (.instanceMethod yX2_colour : Cond) ∈ bw := bw_of (i := 668) (by decide +kernel) rfl
theorem bw_669 : (.selects RX2 yX2_colour yX2_colour : Cond) ∈ bw := bw_of (i := 669) (by decide +kernel) rfl
theorem bw_670 : (.code yX2_colour cX2_colour 1 (some .int) : Cond) ∈ bw := bw_of (i := 670) (by decide +kernel) rfl
theorem bw_671 : (.methodLink RX7 230 yX2_isMinus : Cond) ∈ bw := bw_of (i := 671) (by decide +kernel) rfl
theorem bw_672 : (.instanceMethod yX2_isMinus : Cond) ∈ bw := bw_of (i := 672) (by decide +kernel) rfl
theorem bw_673 : (.selects RX2 yX2_isMinus yX2_isMinus : Cond) ∈ bw := bw_of (i := 673) (by decide +kernel) rfl
theorem bw_674 : (.code yX2_isMinus cX2_isMinus 1 (some .boolean) : Cond) ∈ bw := bw_of (i := 674) (by decide +kernel) rfl
theorem bw_675 : (.methodLink RL 129 yX7_undo : Cond) ∈ bw := bw_of (i := 675) (by decide +kernel) rfl
theorem bw_676 : (.instanceMethod yX7_undo : Cond) ∈ bw := bw_of (i := 676) (by decide +kernel) rfl
theorem bw_677 : (.selects RX7 yX7_undo yX7_undo : Cond) ∈ bw := bw_of (i := 677) (by decide +kernel) rfl
theorem bw_678 : (.code yX7_undo cX7_undo 1 (some .int) : Cond) ∈ bw := bw_of (i := 678) (by decide +kernel) rfl
theorem bw_679 : (.methodLink RX7 201 yX1_takeBack : Cond) ∈ bw := bw_of (i := 679) (by decide +kernel) rfl
theorem bw_680 : (.instanceMethod yX1_takeBack : Cond) ∈ bw := bw_of (i := 680) (by decide +kernel) rfl
theorem bw_681 : (.selects RX1 yX1_takeBack yX1_takeBack : Cond) ∈ bw := bw_of (i := 681) (by decide +kernel) rfl
theorem bw_682 : (.code yX1_takeBack cX1_takeBack 2 (Option.none : Option Jvm.ClassFile.FieldType) : Cond) ∈ bw := bw_of (i := 682) (by decide +kernel) rfl
theorem bw_683 : (.methodLink RX1 29 yX4_give : Cond) ∈ bw := bw_of (i := 683) (by decide +kernel) rfl
theorem bw_684 : (.instanceMethod yX4_give : Cond) ∈ bw := bw_of (i := 684) (by decide +kernel) rfl
theorem bw_685 : (.selects RX4 yX4_give yX4_give : Cond) ∈ bw := bw_of (i := 685) (by decide +kernel) rfl
theorem bw_686 : (.code yX4_give cX4_give 3 (Option.none : Option Jvm.ClassFile.FieldType) : Cond) ∈ bw := bw_of (i := 686) (by decide +kernel) rfl
theorem bw_687 : (.methodLink RX4 25 yX3_readFrom : Cond) ∈ bw := bw_of (i := 687) (by decide +kernel) rfl
theorem bw_688 : (.instanceMethod yX3_readFrom : Cond) ∈ bw := bw_of (i := 688) (by decide +kernel) rfl
theorem bw_689 : (.selects RX3 yX3_readFrom yX3_readFrom : Cond) ∈ bw := bw_of (i := 689) (by decide +kernel) rfl
theorem bw_690 : (.code yX3_readFrom cX3_readFrom 3 (Option.none : Option Jvm.ClassFile.FieldType) : Cond) ∈ bw := bw_of (i := 690) (by decide +kernel) rfl
theorem bw_691 : (.methodLink RL 133 yX7_save : Cond) ∈ bw := bw_of (i := 691) (by decide +kernel) rfl
theorem bw_692 : (.instanceMethod yX7_save : Cond) ∈ bw := bw_of (i := 692) (by decide +kernel) rfl
theorem bw_693 : (.selects RX7 yX7_save yX7_save : Cond) ∈ bw := bw_of (i := 693) (by decide +kernel) rfl
theorem bw_694 : (.code yX7_save cX7_save 2 (some .int) : Cond) ∈ bw := bw_of (i := 694) (by decide +kernel) rfl
theorem bw_695 : (.methodLink RX7 204 yX7_isSlot : Cond) ∈ bw := bw_of (i := 695) (by decide +kernel) rfl
theorem bw_696 : (.static yX7_isSlot : Cond) ∈ bw := bw_of (i := 696) (by decide +kernel) rfl
theorem bw_697 : (.code yX7_isSlot cX7_isSlot 1 (some .boolean) : Cond) ∈ bw := bw_of (i := 697) (by decide +kernel) rfl
theorem bw_698 : (.methodLink RX7 207 yX4_keep : Cond) ∈ bw := bw_of (i := 698) (by decide +kernel) rfl
theorem bw_699 : (.methodLink RL 137 yX7_restore : Cond) ∈ bw := bw_of (i := 699) (by decide +kernel) rfl
theorem bw_700 : (.instanceMethod yX7_restore : Cond) ∈ bw := bw_of (i := 700) (by decide +kernel) rfl
theorem bw_701 : (.selects RX7 yX7_restore yX7_restore : Cond) ∈ bw := bw_of (i := 701) (by decide +kernel) rfl
theorem bw_702 : (.code yX7_restore cX7_restore 2 (some .int) : Cond) ∈ bw := bw_of (i := 702) (by decide +kernel) rfl
theorem bw_703 : (.methodLink RX7 215 yX4_give : Cond) ∈ bw := bw_of (i := 703) (by decide +kernel) rfl
theorem bw_704 : (.classLink RL 10 "TimingLightsModel" : Cond) ∈ bw := bw_of (i := 704) (by decide +kernel) rfl
theorem bw_705 : (.instantiable RX8 11 : Cond) ∈ bw := bw_of (i := 705) (by decide +kernel) rfl
theorem bw_706 : (.methodLink RL 12 yX8_init : Cond) ∈ bw := bw_of (i := 706) (by decide +kernel) rfl
theorem bw_707 : (.instanceMethod yX8_init : Cond) ∈ bw := bw_of (i := 707) (by decide +kernel) rfl
theorem bw_708 : (.code yX8_init cX8_init 1 (Option.none : Option Jvm.ClassFile.FieldType) : Cond) ∈ bw := bw_of (i := 708) (by decide +kernel) rfl
theorem bw_709 : (.methodLink RX8 1 Lib.objectInit : Cond) ∈ bw := bw_of (i := 709) (by decide +kernel) rfl
theorem bw_710 : (.fieldLink RX8 7 "TimingLightsModel" "state" "[I" : Cond) ∈ bw := bw_of (i := 710) (by decide +kernel) rfl
theorem bw_711 : (.fieldLink RX8 13 "TimingLightsModel" "spare" "[I" : Cond) ∈ bw := bw_of (i := 711) (by decide +kernel) rfl
theorem bw_712 : (.fieldLink RX8 16 "TimingLightsModel" "history" "[I" : Cond) ∈ bw := bw_of (i := 712) (by decide +kernel) rfl
theorem bw_713 : (.fieldLink RX8 35 "TimingLightsModel" "states" "I" : Cond) ∈ bw := bw_of (i := 713) (by decide +kernel) rfl
theorem bw_714 : (.fieldLink RX8 19 "TimingLightsModel" "slots" "[I" : Cond) ∈ bw := bw_of (i := 714) (by decide +kernel) rfl
theorem bw_715 : (.fieldLink RX8 22 "TimingLightsModel" "isSaved" "[I" : Cond) ∈ bw := bw_of (i := 715) (by decide +kernel) rfl
theorem bw_716 : (.fieldLink RX8 25 "TimingLightsModel" "pad" "[I" : Cond) ∈ bw := bw_of (i := 716) (by decide +kernel) rfl
theorem bw_717 : (.fieldLink RX8 177 "TimingLightsModel" "length" "I" : Cond) ∈ bw := bw_of (i := 717) (by decide +kernel) rfl
theorem bw_718 : (.fieldLink RX8 201 "TimingLightsModel" "at" "I" : Cond) ∈ bw := bw_of (i := 718) (by decide +kernel) rfl
theorem bw_719 : (.fieldLink RX8 217 "TimingLightsModel" "sign" "I" : Cond) ∈ bw := bw_of (i := 719) (by decide +kernel) rfl
theorem bw_720 : (.fieldLink RX8 28 "TimingLightsModel" "number" "[I" : Cond) ∈ bw := bw_of (i := 720) (by decide +kernel) rfl
theorem bw_721 : (.laysFinal RX8 "TimingLightsModel" "state" "[I" : Cond) ∈ bw := bw_of (i := 721) (by decide +kernel) rfl
theorem bw_723 : (.laysFinal RX8 "TimingLightsModel" "spare" "[I" : Cond) ∈ bw := bw_of (i := 723) (by decide +kernel) rfl
theorem bw_725 : (.laysFinal RX8 "TimingLightsModel" "history" "[I" : Cond) ∈ bw := bw_of (i := 725) (by decide +kernel) rfl
theorem bw_727 : (.lays RX8 "TimingLightsModel" "states" "I" : Cond) ∈ bw := bw_of (i := 727) (by decide +kernel) rfl
theorem bw_729 : (.laysFinal RX8 "TimingLightsModel" "slots" "[I" : Cond) ∈ bw := bw_of (i := 729) (by decide +kernel) rfl
theorem bw_731 : (.laysFinal RX8 "TimingLightsModel" "isSaved" "[I" : Cond) ∈ bw := bw_of (i := 731) (by decide +kernel) rfl
theorem bw_733 : (.laysFinal RX8 "TimingLightsModel" "pad" "[I" : Cond) ∈ bw := bw_of (i := 733) (by decide +kernel) rfl
theorem bw_735 : (.lays RX8 "TimingLightsModel" "length" "I" : Cond) ∈ bw := bw_of (i := 735) (by decide +kernel) rfl
theorem bw_737 : (.lays RX8 "TimingLightsModel" "at" "I" : Cond) ∈ bw := bw_of (i := 737) (by decide +kernel) rfl
theorem bw_739 : (.lays RX8 "TimingLightsModel" "sign" "I" : Cond) ∈ bw := bw_of (i := 739) (by decide +kernel) rfl
theorem bw_741 : (.laysFinal RX8 "TimingLightsModel" "number" "[I" : Cond) ∈ bw := bw_of (i := 741) (by decide +kernel) rfl
theorem bw_744 : (.methodLink RL 132 yX8_undo : Cond) ∈ bw := bw_of (i := 744) (by decide +kernel) rfl
theorem bw_745 : (.instanceMethod yX8_undo : Cond) ∈ bw := bw_of (i := 745) (by decide +kernel) rfl
theorem bw_746 : (.selects RX8 yX8_undo yX8_undo : Cond) ∈ bw := bw_of (i := 746) (by decide +kernel) rfl
theorem bw_747 : (.code yX8_undo cX8_undo 2 (some .int) : Cond) ∈ bw := bw_of (i := 747) (by decide +kernel) rfl
theorem bw_748 : (.methodLink RL 136 yX8_save : Cond) ∈ bw := bw_of (i := 748) (by decide +kernel) rfl
theorem bw_749 : (.instanceMethod yX8_save : Cond) ∈ bw := bw_of (i := 749) (by decide +kernel) rfl
theorem bw_750 : (.selects RX8 yX8_save yX8_save : Cond) ∈ bw := bw_of (i := 750) (by decide +kernel) rfl
theorem bw_751 : (.code yX8_save cX8_save 3 (some .int) : Cond) ∈ bw := bw_of (i := 751) (by decide +kernel) rfl
theorem bw_752 : (.methodLink RX8 42 yX8_isSlot : Cond) ∈ bw := bw_of (i := 752) (by decide +kernel) rfl
theorem bw_753 : (.static yX8_isSlot : Cond) ∈ bw := bw_of (i := 753) (by decide +kernel) rfl
theorem bw_754 : (.code yX8_isSlot cX8_isSlot 1 (some .boolean) : Cond) ∈ bw := bw_of (i := 754) (by decide +kernel) rfl
theorem bw_755 : (.methodLink RX8 31 yX8_within : Cond) ∈ bw := bw_of (i := 755) (by decide +kernel) rfl
theorem bw_756 : (.static yX8_within : Cond) ∈ bw := bw_of (i := 756) (by decide +kernel) rfl
theorem bw_757 : (.code yX8_within cX8_within 3 (some .boolean) : Cond) ∈ bw := bw_of (i := 757) (by decide +kernel) rfl
theorem bw_758 : (.methodLink RL 140 yX8_restore : Cond) ∈ bw := bw_of (i := 758) (by decide +kernel) rfl
theorem bw_759 : (.instanceMethod yX8_restore : Cond) ∈ bw := bw_of (i := 759) (by decide +kernel) rfl
theorem bw_760 : (.selects RX8 yX8_restore yX8_restore : Cond) ∈ bw := bw_of (i := 760) (by decide +kernel) rfl
theorem bw_761 : (.code yX8_restore cX8_restore 3 (some .int) : Cond) ∈ bw := bw_of (i := 761) (by decide +kernel) rfl
theorem bw_762 : (.methodLink RX8 46 yX8_putAside : Cond) ∈ bw := bw_of (i := 762) (by decide +kernel) rfl
theorem bw_764 : (.instanceMethod yX8_putAside : Cond) ∈ bw := bw_of (i := 764) (by decide +kernel) rfl
theorem bw_765 : (.code yX8_putAside cX8_putAside 2 (Option.none : Option Jvm.ClassFile.FieldType) : Cond) ∈ bw := bw_of (i := 765) (by decide +kernel) rfl
theorem bw_766 : (.methodLink RX8 39 yX8_push : Cond) ∈ bw := bw_of (i := 766) (by decide +kernel) rfl
theorem bw_768 : (.instanceMethod yX8_push : Cond) ∈ bw := bw_of (i := 768) (by decide +kernel) rfl
theorem bw_769 : (.code yX8_push cX8_push 2 (Option.none : Option Jvm.ClassFile.FieldType) : Cond) ∈ bw := bw_of (i := 769) (by decide +kernel) rfl
theorem bw_770 : (.methodLink RL 17 yX8_set : Cond) ∈ bw := bw_of (i := 770) (by decide +kernel) rfl
theorem bw_771 : (.instanceMethod yX8_set : Cond) ∈ bw := bw_of (i := 771) (by decide +kernel) rfl
theorem bw_772 : (.selects RX8 yX8_set yX8_set : Cond) ∈ bw := bw_of (i := 772) (by decide +kernel) rfl
theorem bw_773 : (.code yX8_set cX8_set 4 (some .int) : Cond) ∈ bw := bw_of (i := 773) (by decide +kernel) rfl
theorem bw_774 : (.methodLink RX8 128 yX8_mostOf : Cond) ∈ bw := bw_of (i := 774) (by decide +kernel) rfl
theorem bw_775 : (.static yX8_mostOf : Cond) ∈ bw := bw_of (i := 775) (by decide +kernel) rfl
theorem bw_776 : (.code yX8_mostOf cX8_mostOf 1 (some .int) : Cond) ∈ bw := bw_of (i := 776) (by decide +kernel) rfl
theorem bw_777 : (.methodLink RX8 131 yX8_recorded : Cond) ∈ bw := bw_of (i := 777) (by decide +kernel) rfl
theorem bw_779 : (.instanceMethod yX8_recorded : Cond) ∈ bw := bw_of (i := 779) (by decide +kernel) rfl
theorem bw_780 : (.code yX8_recorded cX8_recorded 2 (some .int) : Cond) ∈ bw := bw_of (i := 780) (by decide +kernel) rfl
theorem bw_781 : (.methodLink RL 22 yX8_shot : Cond) ∈ bw := bw_of (i := 781) (by decide +kernel) rfl
theorem bw_782 : (.instanceMethod yX8_shot : Cond) ∈ bw := bw_of (i := 782) (by decide +kernel) rfl
theorem bw_783 : (.selects RX8 yX8_shot yX8_shot : Cond) ∈ bw := bw_of (i := 783) (by decide +kernel) rfl
theorem bw_784 : (.code yX8_shot cX8_shot 6 (some .int) : Cond) ∈ bw := bw_of (i := 784) (by decide +kernel) rfl
theorem bw_785 : (.methodLink RX8 134 yX8_comes : Cond) ∈ bw := bw_of (i := 785) (by decide +kernel) rfl
theorem bw_787 : (.instanceMethod yX8_comes : Cond) ∈ bw := bw_of (i := 787) (by decide +kernel) rfl
theorem bw_788 : (.code yX8_comes cX8_comes 7 (some .int) : Cond) ∈ bw := bw_of (i := 788) (by decide +kernel) rfl
theorem bw_789 : (.methodLink RX8 77 yX8_isPoints : Cond) ∈ bw := bw_of (i := 789) (by decide +kernel) rfl
theorem bw_790 : (.static yX8_isPoints : Cond) ∈ bw := bw_of (i := 790) (by decide +kernel) rfl
theorem bw_791 : (.code yX8_isPoints cX8_isPoints 1 (some .boolean) : Cond) ∈ bw := bw_of (i := 791) (by decide +kernel) rfl
theorem bw_792 : (.methodLink RX8 80 yX8_open : Cond) ∈ bw := bw_of (i := 792) (by decide +kernel) rfl
theorem bw_794 : (.instanceMethod yX8_open : Cond) ∈ bw := bw_of (i := 794) (by decide +kernel) rfl
theorem bw_795 : (.code yX8_open cX8_open 3 (Option.none : Option Jvm.ClassFile.FieldType) : Cond) ∈ bw := bw_of (i := 795) (by decide +kernel) rfl
theorem bw_796 : (.methodLink RX8 73 yX8_setOf : Cond) ∈ bw := bw_of (i := 796) (by decide +kernel) rfl
theorem bw_798 : (.instanceMethod yX8_setOf : Cond) ∈ bw := bw_of (i := 798) (by decide +kernel) rfl
theorem bw_799 : (.code yX8_setOf cX8_setOf 4 (Option.none : Option Jvm.ClassFile.FieldType) : Cond) ∈ bw := bw_of (i := 799) (by decide +kernel) rfl
theorem bw_800 : (.methodLink RX8 84 yX8_takeAnswer : Cond) ∈ bw := bw_of (i := 800) (by decide +kernel) rfl
theorem bw_802 : (.instanceMethod yX8_takeAnswer : Cond) ∈ bw := bw_of (i := 802) (by decide +kernel) rfl
theorem bw_803 : (.code yX8_takeAnswer cX8_takeAnswer 3 (Option.none : Option Jvm.ClassFile.FieldType) : Cond) ∈ bw := bw_of (i := 803) (by decide +kernel) rfl
theorem bw_804 : (.methodLink RL 27 yX8_takeOut : Cond) ∈ bw := bw_of (i := 804) (by decide +kernel) rfl
theorem bw_805 : (.instanceMethod yX8_takeOut : Cond) ∈ bw := bw_of (i := 805) (by decide +kernel) rfl
theorem bw_806 : (.selects RX8 yX8_takeOut yX8_takeOut : Cond) ∈ bw := bw_of (i := 806) (by decide +kernel) rfl
theorem bw_807 : (.code yX8_takeOut cX8_takeOut 2 (some .int) : Cond) ∈ bw := bw_of (i := 807) (by decide +kernel) rfl
theorem bw_808 : (.methodLink RX8 87 yX8_isShot : Cond) ∈ bw := bw_of (i := 808) (by decide +kernel) rfl
theorem bw_810 : (.instanceMethod yX8_isShot : Cond) ∈ bw := bw_of (i := 810) (by decide +kernel) rfl
theorem bw_811 : (.code yX8_isShot cX8_isShot 2 (some .boolean) : Cond) ∈ bw := bw_of (i := 811) (by decide +kernel) rfl
theorem bw_812 : (.methodLink RX8 100 yX8_shut : Cond) ∈ bw := bw_of (i := 812) (by decide +kernel) rfl
theorem bw_814 : (.instanceMethod yX8_shut : Cond) ∈ bw := bw_of (i := 814) (by decide +kernel) rfl
theorem bw_815 : (.code yX8_shut cX8_shut 3 (Option.none : Option Jvm.ClassFile.FieldType) : Cond) ∈ bw := bw_of (i := 815) (by decide +kernel) rfl
theorem bw_816 : (.methodLink RL 32 yX8_light : Cond) ∈ bw := bw_of (i := 816) (by decide +kernel) rfl
theorem bw_817 : (.instanceMethod yX8_light : Cond) ∈ bw := bw_of (i := 817) (by decide +kernel) rfl
theorem bw_818 : (.selects RX8 yX8_light yX8_light : Cond) ∈ bw := bw_of (i := 818) (by decide +kernel) rfl
theorem bw_819 : (.code yX8_light cX8_light 4 (some .int) : Cond) ∈ bw := bw_of (i := 819) (by decide +kernel) rfl
theorem bw_820 : (.methodLink RX8 138 yX8_lights : Cond) ∈ bw := bw_of (i := 820) (by decide +kernel) rfl
theorem bw_822 : (.instanceMethod yX8_lights : Cond) ∈ bw := bw_of (i := 822) (by decide +kernel) rfl
theorem bw_823 : (.code yX8_lights cX8_lights 5 (some .int) : Cond) ∈ bw := bw_of (i := 823) (by decide +kernel) rfl
theorem bw_824 : (.methodLink RX8 90 yX8_isColour : Cond) ∈ bw := bw_of (i := 824) (by decide +kernel) rfl
theorem bw_825 : (.static yX8_isColour : Cond) ∈ bw := bw_of (i := 825) (by decide +kernel) rfl
theorem bw_826 : (.code yX8_isColour cX8_isColour 1 (some .boolean) : Cond) ∈ bw := bw_of (i := 826) (by decide +kernel) rfl
theorem bw_827 : (.methodLink RX8 53 yX8_of14 : Cond) ∈ bw := bw_of (i := 827) (by decide +kernel) rfl
theorem bw_829 : (.instanceMethod yX8_of14 : Cond) ∈ bw := bw_of (i := 829) (by decide +kernel) rfl
theorem bw_830 : (.code yX8_of14 cX8_of14 3 (some .int) : Cond) ∈ bw := bw_of (i := 830) (by decide +kernel) rfl
theorem bw_831 : (.methodLink RL 36 yX8_wish : Cond) ∈ bw := bw_of (i := 831) (by decide +kernel) rfl
theorem bw_832 : (.instanceMethod yX8_wish : Cond) ∈ bw := bw_of (i := 832) (by decide +kernel) rfl
theorem bw_833 : (.selects RX8 yX8_wish yX8_wish : Cond) ∈ bw := bw_of (i := 833) (by decide +kernel) rfl
theorem bw_834 : (.code yX8_wish cX8_wish 4 (some .int) : Cond) ∈ bw := bw_of (i := 834) (by decide +kernel) rfl
theorem bw_835 : (.methodLink RX8 141 yX8_wishes : Cond) ∈ bw := bw_of (i := 835) (by decide +kernel) rfl
theorem bw_837 : (.instanceMethod yX8_wishes : Cond) ∈ bw := bw_of (i := 837) (by decide +kernel) rfl
theorem bw_838 : (.code yX8_wishes cX8_wishes 5 (some .int) : Cond) ∈ bw := bw_of (i := 838) (by decide +kernel) rfl
theorem bw_839 : (.methodLink RL 40 yX8_move : Cond) ∈ bw := bw_of (i := 839) (by decide +kernel) rfl
theorem bw_840 : (.instanceMethod yX8_move : Cond) ∈ bw := bw_of (i := 840) (by decide +kernel) rfl
theorem bw_841 : (.selects RX8 yX8_move yX8_move : Cond) ∈ bw := bw_of (i := 841) (by decide +kernel) rfl
theorem bw_842 : (.code yX8_move cX8_move 3 (some .int) : Cond) ∈ bw := bw_of (i := 842) (by decide +kernel) rfl
theorem bw_843 : (.methodLink RX8 144 yX8_moves : Cond) ∈ bw := bw_of (i := 843) (by decide +kernel) rfl
theorem bw_845 : (.instanceMethod yX8_moves : Cond) ∈ bw := bw_of (i := 845) (by decide +kernel) rfl
theorem bw_846 : (.code yX8_moves cX8_moves 5 (some .int) : Cond) ∈ bw := bw_of (i := 846) (by decide +kernel) rfl
theorem bw_847 : (.methodLink RX8 93 yX8_exchange : Cond) ∈ bw := bw_of (i := 847) (by decide +kernel) rfl
theorem bw_849 : (.instanceMethod yX8_exchange : Cond) ∈ bw := bw_of (i := 849) (by decide +kernel) rfl
theorem bw_850 : (.code yX8_exchange cX8_exchange 5 (Option.none : Option Jvm.ClassFile.FieldType) : Cond) ∈ bw := bw_of (i := 850) (by decide +kernel) rfl
theorem bw_851 : (.methodLink RX8 67 yX8_sizeOf : Cond) ∈ bw := bw_of (i := 851) (by decide +kernel) rfl
theorem bw_852 : (.static yX8_sizeOf : Cond) ∈ bw := bw_of (i := 852) (by decide +kernel) rfl
theorem bw_853 : (.code yX8_sizeOf cX8_sizeOf 1 (some .int) : Cond) ∈ bw := bw_of (i := 853) (by decide +kernel) rfl
theorem bw_854 : (.methodLink RL 44 yX8_split : Cond) ∈ bw := bw_of (i := 854) (by decide +kernel) rfl
theorem bw_855 : (.instanceMethod yX8_split : Cond) ∈ bw := bw_of (i := 855) (by decide +kernel) rfl
theorem bw_856 : (.selects RX8 yX8_split yX8_split : Cond) ∈ bw := bw_of (i := 856) (by decide +kernel) rfl
theorem bw_857 : (.code yX8_split cX8_split 3 (some .int) : Cond) ∈ bw := bw_of (i := 857) (by decide +kernel) rfl
theorem bw_858 : (.methodLink RX8 147 yX8_splits : Cond) ∈ bw := bw_of (i := 858) (by decide +kernel) rfl
theorem bw_860 : (.instanceMethod yX8_splits : Cond) ∈ bw := bw_of (i := 860) (by decide +kernel) rfl
theorem bw_861 : (.code yX8_splits cX8_splits 3 (some .int) : Cond) ∈ bw := bw_of (i := 861) (by decide +kernel) rfl
theorem bw_862 : (.methodLink RL 48 yX8_join : Cond) ∈ bw := bw_of (i := 862) (by decide +kernel) rfl
theorem bw_863 : (.instanceMethod yX8_join : Cond) ∈ bw := bw_of (i := 863) (by decide +kernel) rfl
theorem bw_864 : (.selects RX8 yX8_join yX8_join : Cond) ∈ bw := bw_of (i := 864) (by decide +kernel) rfl
theorem bw_865 : (.code yX8_join cX8_join 2 (some .int) : Cond) ∈ bw := bw_of (i := 865) (by decide +kernel) rfl
theorem bw_866 : (.methodLink RX8 150 yX8_joins : Cond) ∈ bw := bw_of (i := 866) (by decide +kernel) rfl
theorem bw_868 : (.instanceMethod yX8_joins : Cond) ∈ bw := bw_of (i := 868) (by decide +kernel) rfl
theorem bw_869 : (.code yX8_joins cX8_joins 3 (some .int) : Cond) ∈ bw := bw_of (i := 869) (by decide +kernel) rfl
theorem bw_870 : (.methodLink RX8 97 yX8_areAlike : Cond) ∈ bw := bw_of (i := 870) (by decide +kernel) rfl
theorem bw_872 : (.instanceMethod yX8_areAlike : Cond) ∈ bw := bw_of (i := 872) (by decide +kernel) rfl
theorem bw_873 : (.code yX8_areAlike cX8_areAlike 4 (some .boolean) : Cond) ∈ bw := bw_of (i := 873) (by decide +kernel) rfl
theorem bw_874 : (.methodLink RL 53 yX8_print : Cond) ∈ bw := bw_of (i := 874) (by decide +kernel) rfl
theorem bw_875 : (.instanceMethod yX8_print : Cond) ∈ bw := bw_of (i := 875) (by decide +kernel) rfl
theorem bw_876 : (.selects RX8 yX8_print yX8_print : Cond) ∈ bw := bw_of (i := 876) (by decide +kernel) rfl
theorem bw_877 : (.code yX8_print cX8_print 1 (some .int) : Cond) ∈ bw := bw_of (i := 877) (by decide +kernel) rfl
theorem bw_878 : (.methodLink RX8 153 yX8_makesPrint : Cond) ∈ bw := bw_of (i := 878) (by decide +kernel) rfl
theorem bw_880 : (.instanceMethod yX8_makesPrint : Cond) ∈ bw := bw_of (i := 880) (by decide +kernel) rfl
theorem bw_881 : (.code yX8_makesPrint cX8_makesPrint 1 (some .int) : Cond) ∈ bw := bw_of (i := 881) (by decide +kernel) rfl
theorem bw_882 : (.methodLink RX8 113 yX8_oldest : Cond) ∈ bw := bw_of (i := 882) (by decide +kernel) rfl
theorem bw_884 : (.instanceMethod yX8_oldest : Cond) ∈ bw := bw_of (i := 884) (by decide +kernel) rfl
theorem bw_885 : (.code yX8_oldest cX8_oldest 3 (some .int) : Cond) ∈ bw := bw_of (i := 885) (by decide +kernel) rfl
theorem bw_886 : (.methodLink RX8 109 yX8_hours : Cond) ∈ bw := bw_of (i := 886) (by decide +kernel) rfl
theorem bw_888 : (.instanceMethod yX8_hours : Cond) ∈ bw := bw_of (i := 888) (by decide +kernel) rfl
theorem bw_889 : (.code yX8_hours cX8_hours 1 (some .int) : Cond) ∈ bw := bw_of (i := 889) (by decide +kernel) rfl
theorem bw_890 : (.methodLink RX8 106 yX8_feetTo : Cond) ∈ bw := bw_of (i := 890) (by decide +kernel) rfl
theorem bw_892 : (.instanceMethod yX8_feetTo : Cond) ∈ bw := bw_of (i := 892) (by decide +kernel) rfl
theorem bw_893 : (.code yX8_feetTo cX8_feetTo 4 (some .int) : Cond) ∈ bw := bw_of (i := 893) (by decide +kernel) rfl
theorem bw_894 : (.methodLink RX8 116 yX8_makePrint : Cond) ∈ bw := bw_of (i := 894) (by decide +kernel) rfl
theorem bw_896 : (.instanceMethod yX8_makePrint : Cond) ∈ bw := bw_of (i := 896) (by decide +kernel) rfl
theorem bw_897 : (.code yX8_makePrint cX8_makePrint 3 (Option.none : Option Jvm.ClassFile.FieldType) : Cond) ∈ bw := bw_of (i := 897) (by decide +kernel) rfl
theorem bw_898 : (.methodLink RX8 70 yX8_off : Cond) ∈ bw := bw_of (i := 898) (by decide +kernel) rfl
theorem bw_900 : (.instanceMethod yX8_off : Cond) ∈ bw := bw_of (i := 900) (by decide +kernel) rfl
theorem bw_901 : (.code yX8_off cX8_off 3 (some .int) : Cond) ∈ bw := bw_of (i := 901) (by decide +kernel) rfl
theorem bw_902 : (.methodLink RX8 64 yX8_prints : Cond) ∈ bw := bw_of (i := 902) (by decide +kernel) rfl
theorem bw_904 : (.instanceMethod yX8_prints : Cond) ∈ bw := bw_of (i := 904) (by decide +kernel) rfl
theorem bw_905 : (.code yX8_prints cX8_prints 3 (some .int) : Cond) ∈ bw := bw_of (i := 905) (by decide +kernel) rfl
theorem bw_906 : (.methodLink RX8 60 yX8_printed : Cond) ∈ bw := bw_of (i := 906) (by decide +kernel) rfl
theorem bw_908 : (.instanceMethod yX8_printed : Cond) ∈ bw := bw_of (i := 908) (by decide +kernel) rfl
theorem bw_909 : (.code yX8_printed cX8_printed 4 (some .int) : Cond) ∈ bw := bw_of (i := 909) (by decide +kernel) rfl
theorem bw_910 : (.methodLink RX8 49 yX8_lost : Cond) ∈ bw := bw_of (i := 910) (by decide +kernel) rfl
theorem bw_912 : (.instanceMethod yX8_lost : Cond) ∈ bw := bw_of (i := 912) (by decide +kernel) rfl
theorem bw_913 : (.code yX8_lost cX8_lost 2 (some .int) : Cond) ∈ bw := bw_of (i := 913) (by decide +kernel) rfl
theorem bw_914 : (.methodLink RX8 57 yX8_bounded : Cond) ∈ bw := bw_of (i := 914) (by decide +kernel) rfl
theorem bw_915 : (.static yX8_bounded : Cond) ∈ bw := bw_of (i := 915) (by decide +kernel) rfl
theorem bw_916 : (.code yX8_bounded cX8_bounded 1 (some .int) : Cond) ∈ bw := bw_of (i := 916) (by decide +kernel) rfl
theorem bw_917 : (.methodLink RX8 119 yX8_badOnes : Cond) ∈ bw := bw_of (i := 917) (by decide +kernel) rfl
theorem bw_919 : (.instanceMethod yX8_badOnes : Cond) ∈ bw := bw_of (i := 919) (by decide +kernel) rfl
theorem bw_920 : (.code yX8_badOnes cX8_badOnes 3 (some .int) : Cond) ∈ bw := bw_of (i := 920) (by decide +kernel) rfl
theorem bw_921 : (.methodLink RX8 103 yX8_isBad : Cond) ∈ bw := bw_of (i := 921) (by decide +kernel) rfl
theorem bw_923 : (.instanceMethod yX8_isBad : Cond) ∈ bw := bw_of (i := 923) (by decide +kernel) rfl
theorem bw_924 : (.code yX8_isBad cX8_isBad 4 (some .boolean) : Cond) ∈ bw := bw_of (i := 924) (by decide +kernel) rfl
theorem bw_925 : (.methodLink RX8 122 yX8_ones : Cond) ∈ bw := bw_of (i := 925) (by decide +kernel) rfl
theorem bw_926 : (.static yX8_ones : Cond) ∈ bw := bw_of (i := 926) (by decide +kernel) rfl
theorem bw_927 : (.code yX8_ones cX8_ones 3 (some .int) : Cond) ∈ bw := bw_of (i := 927) (by decide +kernel) rfl
theorem bw_928 : (.methodLink RL 57 yX8_correct : Cond) ∈ bw := bw_of (i := 928) (by decide +kernel) rfl
theorem bw_929 : (.instanceMethod yX8_correct : Cond) ∈ bw := bw_of (i := 929) (by decide +kernel) rfl
theorem bw_930 : (.selects RX8 yX8_correct yX8_correct : Cond) ∈ bw := bw_of (i := 930) (by decide +kernel) rfl
theorem bw_931 : (.code yX8_correct cX8_correct 2 (some .int) : Cond) ∈ bw := bw_of (i := 931) (by decide +kernel) rfl
theorem bw_932 : (.methodLink RX8 156 yX8_corrects : Cond) ∈ bw := bw_of (i := 932) (by decide +kernel) rfl
theorem bw_934 : (.instanceMethod yX8_corrects : Cond) ∈ bw := bw_of (i := 934) (by decide +kernel) rfl
theorem bw_935 : (.code yX8_corrects cX8_corrects 2 (some .int) : Cond) ∈ bw := bw_of (i := 935) (by decide +kernel) rfl
theorem bw_936 : (.methodLink RX8 125 yX8_correctOne : Cond) ∈ bw := bw_of (i := 936) (by decide +kernel) rfl
theorem bw_938 : (.instanceMethod yX8_correctOne : Cond) ∈ bw := bw_of (i := 938) (by decide +kernel) rfl
theorem bw_939 : (.code yX8_correctOne cX8_correctOne 7 (some .int) : Cond) ∈ bw := bw_of (i := 939) (by decide +kernel) rfl
theorem bw_940 : (.methodLink RL 61 yX8_correctAll : Cond) ∈ bw := bw_of (i := 940) (by decide +kernel) rfl
theorem bw_941 : (.instanceMethod yX8_correctAll : Cond) ∈ bw := bw_of (i := 941) (by decide +kernel) rfl
theorem bw_942 : (.selects RX8 yX8_correctAll yX8_correctAll : Cond) ∈ bw := bw_of (i := 942) (by decide +kernel) rfl
theorem bw_943 : (.code yX8_correctAll cX8_correctAll 1 (some .int) : Cond) ∈ bw := bw_of (i := 943) (by decide +kernel) rfl
theorem bw_944 : (.methodLink RX8 159 yX8_correctsAll : Cond) ∈ bw := bw_of (i := 944) (by decide +kernel) rfl
theorem bw_946 : (.instanceMethod yX8_correctsAll : Cond) ∈ bw := bw_of (i := 946) (by decide +kernel) rfl
theorem bw_947 : (.code yX8_correctsAll cX8_correctsAll 3 (some .int) : Cond) ∈ bw := bw_of (i := 947) (by decide +kernel) rfl
theorem bw_948 : (.methodLink RL 65 yX8_card : Cond) ∈ bw := bw_of (i := 948) (by decide +kernel) rfl
theorem bw_949 : (.instanceMethod yX8_card : Cond) ∈ bw := bw_of (i := 949) (by decide +kernel) rfl
theorem bw_950 : (.selects RX8 yX8_card yX8_card : Cond) ∈ bw := bw_of (i := 950) (by decide +kernel) rfl
theorem bw_951 : (.code yX8_card cX8_card 1 (some .int) : Cond) ∈ bw := bw_of (i := 951) (by decide +kernel) rfl
theorem bw_952 : (.methodLink RX8 162 yX8_cards : Cond) ∈ bw := bw_of (i := 952) (by decide +kernel) rfl
theorem bw_954 : (.instanceMethod yX8_cards : Cond) ∈ bw := bw_of (i := 954) (by decide +kernel) rfl
theorem bw_955 : (.code yX8_cards cX8_cards 3 (some .int) : Cond) ∈ bw := bw_of (i := 955) (by decide +kernel) rfl
theorem bw_956 : (.methodLink RL 69 yX8_trim : Cond) ∈ bw := bw_of (i := 956) (by decide +kernel) rfl
theorem bw_957 : (.instanceMethod yX8_trim : Cond) ∈ bw := bw_of (i := 957) (by decide +kernel) rfl
theorem bw_958 : (.selects RX8 yX8_trim yX8_trim : Cond) ∈ bw := bw_of (i := 958) (by decide +kernel) rfl
theorem bw_959 : (.code yX8_trim cX8_trim 4 (some .int) : Cond) ∈ bw := bw_of (i := 959) (by decide +kernel) rfl
theorem bw_960 : (.methodLink RL 73 yX8_lamp : Cond) ∈ bw := bw_of (i := 960) (by decide +kernel) rfl
theorem bw_961 : (.instanceMethod yX8_lamp : Cond) ∈ bw := bw_of (i := 961) (by decide +kernel) rfl
theorem bw_962 : (.selects RX8 yX8_lamp yX8_lamp : Cond) ∈ bw := bw_of (i := 962) (by decide +kernel) rfl
theorem bw_963 : (.code yX8_lamp cX8_lamp 3 (some .int) : Cond) ∈ bw := bw_of (i := 963) (by decide +kernel) rfl
theorem bw_964 : (.methodLink RL 77 yX8_of : Cond) ∈ bw := bw_of (i := 964) (by decide +kernel) rfl
theorem bw_965 : (.instanceMethod yX8_of : Cond) ∈ bw := bw_of (i := 965) (by decide +kernel) rfl
theorem bw_966 : (.selects RX8 yX8_of yX8_of : Cond) ∈ bw := bw_of (i := 966) (by decide +kernel) rfl
theorem bw_967 : (.code yX8_of cX8_of 3 (some .int) : Cond) ∈ bw := bw_of (i := 967) (by decide +kernel) rfl
theorem bw_968 : (.methodLink RX8 165 yX8_isJump : Cond) ∈ bw := bw_of (i := 968) (by decide +kernel) rfl
theorem bw_970 : (.instanceMethod yX8_isJump : Cond) ∈ bw := bw_of (i := 970) (by decide +kernel) rfl
theorem bw_971 : (.code yX8_isJump cX8_isJump 4 (some .boolean) : Cond) ∈ bw := bw_of (i := 971) (by decide +kernel) rfl
theorem bw_972 : (.methodLink RL 81 yX8_inColour : Cond) ∈ bw := bw_of (i := 972) (by decide +kernel) rfl
theorem bw_973 : (.instanceMethod yX8_inColour : Cond) ∈ bw := bw_of (i := 973) (by decide +kernel) rfl
theorem bw_974 : (.selects RX8 yX8_inColour yX8_inColour : Cond) ∈ bw := bw_of (i := 974) (by decide +kernel) rfl
theorem bw_975 : (.code yX8_inColour cX8_inColour 4 (some .int) : Cond) ∈ bw := bw_of (i := 975) (by decide +kernel) rfl
theorem bw_976 : (.methodLink RX8 168 yX8_answer : Cond) ∈ bw := bw_of (i := 976) (by decide +kernel) rfl
theorem bw_978 : (.instanceMethod yX8_answer : Cond) ∈ bw := bw_of (i := 978) (by decide +kernel) rfl
theorem bw_979 : (.code yX8_answer cX8_answer 3 (some .int) : Cond) ∈ bw := bw_of (i := 979) (by decide +kernel) rfl
theorem bw_980 : (.methodLink RL 85 yX8_ofLamp : Cond) ∈ bw := bw_of (i := 980) (by decide +kernel) rfl
theorem bw_981 : (.instanceMethod yX8_ofLamp : Cond) ∈ bw := bw_of (i := 981) (by decide +kernel) rfl
theorem bw_982 : (.selects RX8 yX8_ofLamp yX8_ofLamp : Cond) ∈ bw := bw_of (i := 982) (by decide +kernel) rfl
theorem bw_983 : (.code yX8_ofLamp cX8_ofLamp 3 (some .int) : Cond) ∈ bw := bw_of (i := 983) (by decide +kernel) rfl
theorem bw_984 : (.methodLink RL 89 yX8_count : Cond) ∈ bw := bw_of (i := 984) (by decide +kernel) rfl
theorem bw_985 : (.instanceMethod yX8_count : Cond) ∈ bw := bw_of (i := 985) (by decide +kernel) rfl
theorem bw_986 : (.selects RX8 yX8_count yX8_count : Cond) ∈ bw := bw_of (i := 986) (by decide +kernel) rfl
theorem bw_987 : (.code yX8_count cX8_count 2 (some .int) : Cond) ∈ bw := bw_of (i := 987) (by decide +kernel) rfl
theorem bw_988 : (.methodLink RX8 174 yX8_those : Cond) ∈ bw := bw_of (i := 988) (by decide +kernel) rfl
theorem bw_990 : (.instanceMethod yX8_those : Cond) ∈ bw := bw_of (i := 990) (by decide +kernel) rfl
theorem bw_991 : (.code yX8_those cX8_those 5 (some .int) : Cond) ∈ bw := bw_of (i := 991) (by decide +kernel) rfl
theorem bw_992 : (.methodLink RX8 171 yX8_isOff : Cond) ∈ bw := bw_of (i := 992) (by decide +kernel) rfl
theorem bw_994 : (.instanceMethod yX8_isOff : Cond) ∈ bw := bw_of (i := 994) (by decide +kernel) rfl
theorem bw_995 : (.code yX8_isOff cX8_isOff 4 (some .boolean) : Cond) ∈ bw := bw_of (i := 995) (by decide +kernel) rfl
theorem bw_996 : (.methodLink RL 93 yX8_needs : Cond) ∈ bw := bw_of (i := 996) (by decide +kernel) rfl
theorem bw_997 : (.instanceMethod yX8_needs : Cond) ∈ bw := bw_of (i := 997) (by decide +kernel) rfl
theorem bw_998 : (.selects RX8 yX8_needs yX8_needs : Cond) ∈ bw := bw_of (i := 998) (by decide +kernel) rfl
theorem bw_999 : (.code yX8_needs cX8_needs 4 (some .int) : Cond) ∈ bw := bw_of (i := 999) (by decide +kernel) rfl
theorem bw_1000 : (.methodLink RX8 180 yX8_needed : Cond) ∈ bw := bw_of (i := 1000) (by decide +kernel) rfl
theorem bw_1002 : (.instanceMethod yX8_needed : Cond) ∈ bw := bw_of (i := 1002) (by decide +kernel) rfl
theorem bw_1003 : (.code yX8_needed cX8_needed 3 (some .int) : Cond) ∈ bw := bw_of (i := 1003) (by decide +kernel) rfl
theorem bw_1004 : (.methodLink RL 97 yX8_ifLight : Cond) ∈ bw := bw_of (i := 1004) (by decide +kernel) rfl
theorem bw_1005 : (.instanceMethod yX8_ifLight : Cond) ∈ bw := bw_of (i := 1005) (by decide +kernel) rfl
theorem bw_1006 : (.selects RX8 yX8_ifLight yX8_ifLight : Cond) ∈ bw := bw_of (i := 1006) (by decide +kernel) rfl
theorem bw_1007 : (.code yX8_ifLight cX8_ifLight 4 (some .int) : Cond) ∈ bw := bw_of (i := 1007) (by decide +kernel) rfl
theorem bw_1008 : (.methodLink RL 101 yX8_lasts : Cond) ∈ bw := bw_of (i := 1008) (by decide +kernel) rfl
theorem bw_1009 : (.instanceMethod yX8_lasts : Cond) ∈ bw := bw_of (i := 1009) (by decide +kernel) rfl
theorem bw_1010 : (.selects RX8 yX8_lasts yX8_lasts : Cond) ∈ bw := bw_of (i := 1010) (by decide +kernel) rfl
theorem bw_1011 : (.code yX8_lasts cX8_lasts 4 (some .int) : Cond) ∈ bw := bw_of (i := 1011) (by decide +kernel) rfl
theorem bw_1012 : (.methodLink RX8 183 yX8_isTooWeak : Cond) ∈ bw := bw_of (i := 1012) (by decide +kernel) rfl
theorem bw_1014 : (.instanceMethod yX8_isTooWeak : Cond) ∈ bw := bw_of (i := 1014) (by decide +kernel) rfl
theorem bw_1015 : (.code yX8_isTooWeak cX8_isTooWeak 4 (some .boolean) : Cond) ∈ bw := bw_of (i := 1015) (by decide +kernel) rfl
theorem bw_1016 : (.methodLink RL 105 yX8_bestTrim : Cond) ∈ bw := bw_of (i := 1016) (by decide +kernel) rfl
theorem bw_1017 : (.instanceMethod yX8_bestTrim : Cond) ∈ bw := bw_of (i := 1017) (by decide +kernel) rfl
theorem bw_1018 : (.selects RX8 yX8_bestTrim yX8_bestTrim : Cond) ∈ bw := bw_of (i := 1018) (by decide +kernel) rfl
theorem bw_1019 : (.code yX8_bestTrim cX8_bestTrim 10 (some .int) : Cond) ∈ bw := bw_of (i := 1019) (by decide +kernel) rfl
theorem bw_1020 : (.methodLink RX8 186 yX8_allOff : Cond) ∈ bw := bw_of (i := 1020) (by decide +kernel) rfl
theorem bw_1022 : (.instanceMethod yX8_allOff : Cond) ∈ bw := bw_of (i := 1022) (by decide +kernel) rfl
theorem bw_1023 : (.code yX8_allOff cX8_allOff 4 (some .int) : Cond) ∈ bw := bw_of (i := 1023) (by decide +kernel) rfl
theorem bw_1024 : (.methodLink RL 109 yX8_printsNeeded : Cond) ∈ bw := bw_of (i := 1024) (by decide +kernel) rfl
theorem bw_1025 : (.instanceMethod yX8_printsNeeded : Cond) ∈ bw := bw_of (i := 1025) (by decide +kernel) rfl
theorem bw_1026 : (.selects RX8 yX8_printsNeeded yX8_printsNeeded : Cond) ∈ bw := bw_of (i := 1026) (by decide +kernel) rfl
theorem bw_1027 : (.code yX8_printsNeeded cX8_printsNeeded 3 (some .int) : Cond) ∈ bw := bw_of (i := 1027) (by decide +kernel) rfl
theorem bw_1028 : (.methodLink RX8 189 yX8_takeBack : Cond) ∈ bw := bw_of (i := 1028) (by decide +kernel) rfl
theorem bw_1030 : (.instanceMethod yX8_takeBack : Cond) ∈ bw := bw_of (i := 1030) (by decide +kernel) rfl
theorem bw_1031 : (.code yX8_takeBack cX8_takeBack 2 (Option.none : Option Jvm.ClassFile.FieldType) : Cond) ∈ bw := bw_of (i := 1031) (by decide +kernel) rfl
theorem bw_1032 : (.methodLink RL 116 yX8_put : Cond) ∈ bw := bw_of (i := 1032) (by decide +kernel) rfl
theorem bw_1033 : (.instanceMethod yX8_put : Cond) ∈ bw := bw_of (i := 1033) (by decide +kernel) rfl
theorem bw_1034 : (.selects RX8 yX8_put yX8_put : Cond) ∈ bw := bw_of (i := 1034) (by decide +kernel) rfl
theorem bw_1035 : (.code yX8_put cX8_put 5 (some .int) : Cond) ∈ bw := bw_of (i := 1035) (by decide +kernel) rfl
theorem bw_1036 : (.methodLink RX8 197 yX8_charactersIn : Cond) ∈ bw := bw_of (i := 1036) (by decide +kernel) rfl
theorem bw_1037 : (.static yX8_charactersIn : Cond) ∈ bw := bw_of (i := 1037) (by decide +kernel) rfl
theorem bw_1038 : (.code yX8_charactersIn cX8_charactersIn 5 (some .int) : Cond) ∈ bw := bw_of (i := 1038) (by decide +kernel) rfl
theorem bw_1039 : (.constantLong "TimingLightsModel" 192 255 : Cond) ∈ bw := bw_of (i := 1039) (by decide +kernel) rfl
theorem bw_1040 : (.methodLink RX8 194 yX8_isCharacter : Cond) ∈ bw := bw_of (i := 1040) (by decide +kernel) rfl
theorem bw_1041 : (.static yX8_isCharacter : Cond) ∈ bw := bw_of (i := 1041) (by decide +kernel) rfl
theorem bw_1042 : (.code yX8_isCharacter cX8_isCharacter 1 (some .boolean) : Cond) ∈ bw := bw_of (i := 1042) (by decide +kernel) rfl
theorem bw_1043 : (.methodLink RL 120 yX8_wipe : Cond) ∈ bw := bw_of (i := 1043) (by decide +kernel) rfl
theorem bw_1044 : (.instanceMethod yX8_wipe : Cond) ∈ bw := bw_of (i := 1044) (by decide +kernel) rfl
theorem bw_1045 : (.selects RX8 yX8_wipe yX8_wipe : Cond) ∈ bw := bw_of (i := 1045) (by decide +kernel) rfl
theorem bw_1046 : (.code yX8_wipe cX8_wipe 2 (some .int) : Cond) ∈ bw := bw_of (i := 1046) (by decide +kernel) rfl
theorem bw_1047 : (.methodLink RL 124 yX8_fault : Cond) ∈ bw := bw_of (i := 1047) (by decide +kernel) rfl
theorem bw_1048 : (.instanceMethod yX8_fault : Cond) ∈ bw := bw_of (i := 1048) (by decide +kernel) rfl
theorem bw_1049 : (.selects RX8 yX8_fault yX8_fault : Cond) ∈ bw := bw_of (i := 1049) (by decide +kernel) rfl
theorem bw_1050 : (.code yX8_fault cX8_fault 1 (some .int) : Cond) ∈ bw := bw_of (i := 1050) (by decide +kernel) rfl
theorem bw_1051 : (.methodLink RX8 226 yX8_findFault : Cond) ∈ bw := bw_of (i := 1051) (by decide +kernel) rfl
theorem bw_1053 : (.instanceMethod yX8_findFault : Cond) ∈ bw := bw_of (i := 1053) (by decide +kernel) rfl
theorem bw_1054 : (.code yX8_findFault cX8_findFault 1 (some .int) : Cond) ∈ bw := bw_of (i := 1054) (by decide +kernel) rfl
theorem bw_1055 : (.methodLink RX8 223 yX8_readsOrder : Cond) ∈ bw := bw_of (i := 1055) (by decide +kernel) rfl
theorem bw_1057 : (.instanceMethod yX8_readsOrder : Cond) ∈ bw := bw_of (i := 1057) (by decide +kernel) rfl
theorem bw_1058 : (.code yX8_readsOrder cX8_readsOrder 1 (some .boolean) : Cond) ∈ bw := bw_of (i := 1058) (by decide +kernel) rfl
theorem bw_1059 : (.methodLink RX8 204 yX8_code : Cond) ∈ bw := bw_of (i := 1059) (by decide +kernel) rfl
theorem bw_1061 : (.instanceMethod yX8_code : Cond) ∈ bw := bw_of (i := 1061) (by decide +kernel) rfl
theorem bw_1062 : (.code yX8_code cX8_code 1 (some .int) : Cond) ∈ bw := bw_of (i := 1062) (by decide +kernel) rfl
theorem bw_1063 : (.methodLink RX8 207 yX8_readsNumber : Cond) ∈ bw := bw_of (i := 1063) (by decide +kernel) rfl
theorem bw_1065 : (.instanceMethod yX8_readsNumber : Cond) ∈ bw := bw_of (i := 1065) (by decide +kernel) rfl
theorem bw_1066 : (.code yX8_readsNumber cX8_readsNumber 3 (some .boolean) : Cond) ∈ bw := bw_of (i := 1066) (by decide +kernel) rfl
theorem bw_1067 : (.methodLink RX8 214 yX8_takes : Cond) ∈ bw := bw_of (i := 1067) (by decide +kernel) rfl
theorem bw_1069 : (.instanceMethod yX8_takes : Cond) ∈ bw := bw_of (i := 1069) (by decide +kernel) rfl
theorem bw_1070 : (.code yX8_takes cX8_takes 3 (some .boolean) : Cond) ∈ bw := bw_of (i := 1070) (by decide +kernel) rfl
theorem bw_1071 : (.methodLink RX8 210 yX8_readsColour : Cond) ∈ bw := bw_of (i := 1071) (by decide +kernel) rfl
theorem bw_1073 : (.instanceMethod yX8_readsColour : Cond) ∈ bw := bw_of (i := 1073) (by decide +kernel) rfl
theorem bw_1074 : (.code yX8_readsColour cX8_readsColour 2 (some .boolean) : Cond) ∈ bw := bw_of (i := 1074) (by decide +kernel) rfl
theorem bw_1075 : (.methodLink RX8 220 yX8_readsWish : Cond) ∈ bw := bw_of (i := 1075) (by decide +kernel) rfl
theorem bw_1077 : (.instanceMethod yX8_readsWish : Cond) ∈ bw := bw_of (i := 1077) (by decide +kernel) rfl
theorem bw_1078 : (.code yX8_readsWish cX8_readsWish 3 (some .boolean) : Cond) ∈ bw := bw_of (i := 1078) (by decide +kernel) rfl
theorem bw_1079 : (.methodLink RL 128 yX8_carryOut : Cond) ∈ bw := bw_of (i := 1079) (by decide +kernel) rfl
theorem bw_1080 : (.instanceMethod yX8_carryOut : Cond) ∈ bw := bw_of (i := 1080) (by decide +kernel) rfl
theorem bw_1081 : (.selects RX8 yX8_carryOut yX8_carryOut : Cond) ∈ bw := bw_of (i := 1081) (by decide +kernel) rfl
theorem bw_1082 : (.code yX8_carryOut cX8_carryOut 3 (some .int) : Cond) ∈ bw := bw_of (i := 1082) (by decide +kernel) rfl
theorem bw_1083 : (.methodLink RX8 229 yX8_doesOrder : Cond) ∈ bw := bw_of (i := 1083) (by decide +kernel) rfl
theorem bw_1085 : (.instanceMethod yX8_doesOrder : Cond) ∈ bw := bw_of (i := 1085) (by decide +kernel) rfl
theorem bw_1086 : (.code yX8_doesOrder cX8_doesOrder 1 (some .int) : Cond) ∈ bw := bw_of (i := 1086) (by decide +kernel) rfl
theorem bw_1087 : (.constantLong "TimingLightsLaw" 110 4294967295 : Cond) ∈ bw := bw_of (i := 1087) (by decide +kernel) rfl
theorem bw_1088 : (.fieldLink RJ0 9 "java/lang/String" "value" "[B" : Cond) ∈ bw := bw_of (i := 1088) (by decide +kernel) rfl
theorem bw_1089 : (.fieldLink RJ0 15 "java/lang/String" "coder" "B" : Cond) ∈ bw := bw_of (i := 1089) (by decide +kernel) rfl
theorem inb_X1 : ∀ w ∈ wsX10, w ∈ bw := by decide +kernel
theorem inb_X2 : ∀ w ∈ wsX20, w ∈ bw := by decide +kernel
theorem inb_X3 : ∀ w ∈ wsX30, w ∈ bw := by decide +kernel
theorem inb_X4 : ∀ w ∈ wsX40, w ∈ bw := by decide +kernel
theorem inb_X7 : ∀ w ∈ wsX70, w ∈ bw := by decide +kernel
theorem inb_X8 : ∀ w ∈ wsX80, w ∈ bw := by decide +kernel
