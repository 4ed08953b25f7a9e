section
-- ===== PART A: goes FIRST, ahead of the names: the tables' words, and 'selects' of the private methods out of them =====
/-- a private method of a class that the tables say can be made, by its rows of tables_1 -/
def lw_okq (q : MethodName × Nat) : Prop := (q.1.cls ≠ "java/lang/invoke/MethodHandle" ∧ q.1.cls ≠ "java/lang/invoke/VarHandle") ∧ Cond.instantiable q.1.cls q.2 ∈ tables_1 ∧ Cond.privateMethod q.1 ∈ tables_1 ∧ Cond.instanceMethod q.1 ∈ tables_1
theorem lw_p0 : lw_okq (⟨"TimingLights", "recorded", "(I)I"⟩, 7) := ⟨⟨by decide +kernel, by decide +kernel⟩, List.mem_of_getElem? (i := 17) (by decide +kernel), List.mem_of_getElem? (i := 155) (by decide +kernel), List.mem_of_getElem? (i := 156) (by decide +kernel)⟩
theorem lw_p1 : lw_okq (⟨"TimingLights$Pad", "write", "(C)V"⟩, 8) := ⟨⟨by decide +kernel, by decide +kernel⟩, List.mem_of_getElem? (i := 41) (by decide +kernel), List.mem_of_getElem? (i := 476) (by decide +kernel), List.mem_of_getElem? (i := 477) (by decide +kernel)⟩
theorem lw_p2 : lw_okq (⟨"TimingLights$Pad", "readSign", "(C)Z"⟩, 8) := ⟨⟨by decide +kernel, by decide +kernel⟩, List.mem_of_getElem? (i := 41) (by decide +kernel), List.mem_of_getElem? (i := 504) (by decide +kernel), List.mem_of_getElem? (i := 505) (by decide +kernel)⟩
theorem lw_p3 : lw_okq (⟨"TimingLights$Pad", "here", "()I"⟩, 8) := ⟨⟨by decide +kernel, by decide +kernel⟩, List.mem_of_getElem? (i := 41) (by decide +kernel), List.mem_of_getElem? (i := 508) (by decide +kernel), List.mem_of_getElem? (i := 509) (by decide +kernel)⟩
theorem lw_p4 : lw_okq (⟨"TimingLights$Pad", "readPart", "(C)Z"⟩, 8) := ⟨⟨by decide +kernel, by decide +kernel⟩, List.mem_of_getElem? (i := 41) (by decide +kernel), List.mem_of_getElem? (i := 572) (by decide +kernel), List.mem_of_getElem? (i := 573) (by decide +kernel)⟩
theorem lw_p5 : lw_okq (⟨"TimingLights$Pad", "readNumber", "()Z"⟩, 8) := ⟨⟨by decide +kernel, by decide +kernel⟩, List.mem_of_getElem? (i := 41) (by decide +kernel), List.mem_of_getElem? (i := 576) (by decide +kernel), List.mem_of_getElem? (i := 577) (by decide +kernel)⟩
theorem lw_p6 : lw_okq (⟨"TimingLights$Pad", "isDigitHere", "()Z"⟩, 8) := ⟨⟨by decide +kernel, by decide +kernel⟩, List.mem_of_getElem? (i := 41) (by decide +kernel), List.mem_of_getElem? (i := 580) (by decide +kernel), List.mem_of_getElem? (i := 581) (by decide +kernel)⟩
theorem lw_p7 : lw_okq (⟨"TimingLights$Pad", "readColour", "()Z"⟩, 8) := ⟨⟨by decide +kernel, by decide +kernel⟩, List.mem_of_getElem? (i := 41) (by decide +kernel), List.mem_of_getElem? (i := 584) (by decide +kernel), List.mem_of_getElem? (i := 585) (by decide +kernel)⟩
theorem lw_p8 : lw_okq (⟨"TimingLights", "carryOutOrder", "()I"⟩, 7) := ⟨⟨by decide +kernel, by decide +kernel⟩, List.mem_of_getElem? (i := 17) (by decide +kernel), List.mem_of_getElem? (i := 599) (by decide +kernel), List.mem_of_getElem? (i := 600) (by decide +kernel)⟩
theorem lw_p9 : lw_okq (⟨"TimingLightsModel", "putAside", "()V"⟩, 11) := ⟨⟨by decide +kernel, by decide +kernel⟩, List.mem_of_getElem? (i := 648) (by decide +kernel), List.mem_of_getElem? (i := 706) (by decide +kernel), List.mem_of_getElem? (i := 707) (by decide +kernel)⟩
theorem lw_p10 : lw_okq (⟨"TimingLightsModel", "push", "()V"⟩, 11) := ⟨⟨by decide +kernel, by decide +kernel⟩, List.mem_of_getElem? (i := 648) (by decide +kernel), List.mem_of_getElem? (i := 710) (by decide +kernel), List.mem_of_getElem? (i := 711) (by decide +kernel)⟩
theorem lw_p11 : lw_okq (⟨"TimingLightsModel", "recorded", "(I)I"⟩, 11) := ⟨⟨by decide +kernel, by decide +kernel⟩, List.mem_of_getElem? (i := 648) (by decide +kernel), List.mem_of_getElem? (i := 721) (by decide +kernel), List.mem_of_getElem? (i := 722) (by decide +kernel)⟩
theorem lw_p12 : lw_okq (⟨"TimingLightsModel", "comes", "(IIIII)I"⟩, 11) := ⟨⟨by decide +kernel, by decide +kernel⟩, List.mem_of_getElem? (i := 648) (by decide +kernel), List.mem_of_getElem? (i := 729) (by decide +kernel), List.mem_of_getElem? (i := 730) (by decide +kernel)⟩
theorem lw_p13 : lw_okq (⟨"TimingLightsModel", "open", "(I)V"⟩, 11) := ⟨⟨by decide +kernel, by decide +kernel⟩, List.mem_of_getElem? (i := 648) (by decide +kernel), List.mem_of_getElem? (i := 736) (by decide +kernel), List.mem_of_getElem? (i := 737) (by decide +kernel)⟩
theorem lw_p14 : lw_okq (⟨"TimingLightsModel", "setOf", "(III)V"⟩, 11) := ⟨⟨by decide +kernel, by decide +kernel⟩, List.mem_of_getElem? (i := 648) (by decide +kernel), List.mem_of_getElem? (i := 740) (by decide +kernel), List.mem_of_getElem? (i := 741) (by decide +kernel)⟩
theorem lw_p15 : lw_okq (⟨"TimingLightsModel", "takeAnswer", "(I)V"⟩, 11) := ⟨⟨by decide +kernel, by decide +kernel⟩, List.mem_of_getElem? (i := 648) (by decide +kernel), List.mem_of_getElem? (i := 744) (by decide +kernel), List.mem_of_getElem? (i := 745) (by decide +kernel)⟩
def lw_privs_1 : List (MethodName × Nat) := [(⟨"TimingLights", "recorded", "(I)I"⟩, 7), (⟨"TimingLights$Pad", "write", "(C)V"⟩, 8), (⟨"TimingLights$Pad", "readSign", "(C)Z"⟩, 8), (⟨"TimingLights$Pad", "here", "()I"⟩, 8), (⟨"TimingLights$Pad", "readPart", "(C)Z"⟩, 8), (⟨"TimingLights$Pad", "readNumber", "()Z"⟩, 8), (⟨"TimingLights$Pad", "isDigitHere", "()Z"⟩, 8), (⟨"TimingLights$Pad", "readColour", "()Z"⟩, 8), (⟨"TimingLights", "carryOutOrder", "()I"⟩, 7), (⟨"TimingLightsModel", "putAside", "()V"⟩, 11), (⟨"TimingLightsModel", "push", "()V"⟩, 11), (⟨"TimingLightsModel", "recorded", "(I)I"⟩, 11), (⟨"TimingLightsModel", "comes", "(IIIII)I"⟩, 11), (⟨"TimingLightsModel", "open", "(I)V"⟩, 11), (⟨"TimingLightsModel", "setOf", "(III)V"⟩, 11), (⟨"TimingLightsModel", "takeAnswer", "(I)V"⟩, 11)]
theorem lw_r1 : ∀ q ∈ lw_privs_1, lw_okq q := List.forall_mem_cons.mpr ⟨lw_p0, List.forall_mem_cons.mpr ⟨lw_p1, List.forall_mem_cons.mpr ⟨lw_p2, List.forall_mem_cons.mpr ⟨lw_p3, List.forall_mem_cons.mpr ⟨lw_p4, List.forall_mem_cons.mpr ⟨lw_p5, List.forall_mem_cons.mpr ⟨lw_p6, List.forall_mem_cons.mpr ⟨lw_p7, List.forall_mem_cons.mpr ⟨lw_p8, List.forall_mem_cons.mpr ⟨lw_p9, List.forall_mem_cons.mpr ⟨lw_p10, List.forall_mem_cons.mpr ⟨lw_p11, List.forall_mem_cons.mpr ⟨lw_p12, List.forall_mem_cons.mpr ⟨lw_p13, List.forall_mem_cons.mpr ⟨lw_p14, List.forall_mem_cons.mpr ⟨lw_p15, fun _ h => absurd h List.not_mem_nil⟩⟩⟩⟩⟩⟩⟩⟩⟩⟩⟩⟩⟩⟩⟩⟩
theorem lw_p16 : lw_okq (⟨"TimingLightsModel", "isShot", "(I)Z"⟩, 11) := ⟨⟨by decide +kernel, by decide +kernel⟩, List.mem_of_getElem? (i := 648) (by decide +kernel), List.mem_of_getElem? (i := 752) (by decide +kernel), List.mem_of_getElem? (i := 753) (by decide +kernel)⟩
theorem lw_p17 : lw_okq (⟨"TimingLightsModel", "shut", "(I)V"⟩, 11) := ⟨⟨by decide +kernel, by decide +kernel⟩, List.mem_of_getElem? (i := 648) (by decide +kernel), List.mem_of_getElem? (i := 756) (by decide +kernel), List.mem_of_getElem? (i := 757) (by decide +kernel)⟩
theorem lw_p18 : lw_okq (⟨"TimingLightsModel", "lights", "(III)I"⟩, 11) := ⟨⟨by decide +kernel, by decide +kernel⟩, List.mem_of_getElem? (i := 648) (by decide +kernel), List.mem_of_getElem? (i := 764) (by decide +kernel), List.mem_of_getElem? (i := 765) (by decide +kernel)⟩
theorem lw_p19 : lw_okq (⟨"TimingLightsModel", "of14", "(II)I"⟩, 11) := ⟨⟨by decide +kernel, by decide +kernel⟩, List.mem_of_getElem? (i := 648) (by decide +kernel), List.mem_of_getElem? (i := 771) (by decide +kernel), List.mem_of_getElem? (i := 772) (by decide +kernel)⟩
theorem lw_p20 : lw_okq (⟨"TimingLightsModel", "wishes", "(III)I"⟩, 11) := ⟨⟨by decide +kernel, by decide +kernel⟩, List.mem_of_getElem? (i := 648) (by decide +kernel), List.mem_of_getElem? (i := 779) (by decide +kernel), List.mem_of_getElem? (i := 780) (by decide +kernel)⟩
theorem lw_p21 : lw_okq (⟨"TimingLightsModel", "moves", "(II)I"⟩, 11) := ⟨⟨by decide +kernel, by decide +kernel⟩, List.mem_of_getElem? (i := 648) (by decide +kernel), List.mem_of_getElem? (i := 787) (by decide +kernel), List.mem_of_getElem? (i := 788) (by decide +kernel)⟩
theorem lw_p22 : lw_okq (⟨"TimingLightsModel", "exchange", "(II)V"⟩, 11) := ⟨⟨by decide +kernel, by decide +kernel⟩, List.mem_of_getElem? (i := 648) (by decide +kernel), List.mem_of_getElem? (i := 791) (by decide +kernel), List.mem_of_getElem? (i := 792) (by decide +kernel)⟩
theorem lw_p23 : lw_okq (⟨"TimingLightsModel", "splits", "(II)I"⟩, 11) := ⟨⟨by decide +kernel, by decide +kernel⟩, List.mem_of_getElem? (i := 648) (by decide +kernel), List.mem_of_getElem? (i := 802) (by decide +kernel), List.mem_of_getElem? (i := 803) (by decide +kernel)⟩
theorem lw_p24 : lw_okq (⟨"TimingLightsModel", "joins", "(I)I"⟩, 11) := ⟨⟨by decide +kernel, by decide +kernel⟩, List.mem_of_getElem? (i := 648) (by decide +kernel), List.mem_of_getElem? (i := 810) (by decide +kernel), List.mem_of_getElem? (i := 811) (by decide +kernel)⟩
theorem lw_p25 : lw_okq (⟨"TimingLightsModel", "areAlike", "(I)Z"⟩, 11) := ⟨⟨by decide +kernel, by decide +kernel⟩, List.mem_of_getElem? (i := 648) (by decide +kernel), List.mem_of_getElem? (i := 814) (by decide +kernel), List.mem_of_getElem? (i := 815) (by decide +kernel)⟩
theorem lw_p26 : lw_okq (⟨"TimingLightsModel", "makesPrint", "()I"⟩, 11) := ⟨⟨by decide +kernel, by decide +kernel⟩, List.mem_of_getElem? (i := 648) (by decide +kernel), List.mem_of_getElem? (i := 822) (by decide +kernel), List.mem_of_getElem? (i := 823) (by decide +kernel)⟩
theorem lw_p27 : lw_okq (⟨"TimingLightsModel", "oldest", "()I"⟩, 11) := ⟨⟨by decide +kernel, by decide +kernel⟩, List.mem_of_getElem? (i := 648) (by decide +kernel), List.mem_of_getElem? (i := 826) (by decide +kernel), List.mem_of_getElem? (i := 827) (by decide +kernel)⟩
theorem lw_p28 : lw_okq (⟨"TimingLightsModel", "hours", "()I"⟩, 11) := ⟨⟨by decide +kernel, by decide +kernel⟩, List.mem_of_getElem? (i := 648) (by decide +kernel), List.mem_of_getElem? (i := 830) (by decide +kernel), List.mem_of_getElem? (i := 831) (by decide +kernel)⟩
theorem lw_p29 : lw_okq (⟨"TimingLightsModel", "feetTo", "(I)I"⟩, 11) := ⟨⟨by decide +kernel, by decide +kernel⟩, List.mem_of_getElem? (i := 648) (by decide +kernel), List.mem_of_getElem? (i := 834) (by decide +kernel), List.mem_of_getElem? (i := 835) (by decide +kernel)⟩
theorem lw_p30 : lw_okq (⟨"TimingLightsModel", "makePrint", "()V"⟩, 11) := ⟨⟨by decide +kernel, by decide +kernel⟩, List.mem_of_getElem? (i := 648) (by decide +kernel), List.mem_of_getElem? (i := 838) (by decide +kernel), List.mem_of_getElem? (i := 839) (by decide +kernel)⟩
theorem lw_p31 : lw_okq (⟨"TimingLightsModel", "off", "(II)I"⟩, 11) := ⟨⟨by decide +kernel, by decide +kernel⟩, List.mem_of_getElem? (i := 648) (by decide +kernel), List.mem_of_getElem? (i := 842) (by decide +kernel), List.mem_of_getElem? (i := 843) (by decide +kernel)⟩
def lw_privs_2 : List (MethodName × Nat) := [(⟨"TimingLightsModel", "isShot", "(I)Z"⟩, 11), (⟨"TimingLightsModel", "shut", "(I)V"⟩, 11), (⟨"TimingLightsModel", "lights", "(III)I"⟩, 11), (⟨"TimingLightsModel", "of14", "(II)I"⟩, 11), (⟨"TimingLightsModel", "wishes", "(III)I"⟩, 11), (⟨"TimingLightsModel", "moves", "(II)I"⟩, 11), (⟨"TimingLightsModel", "exchange", "(II)V"⟩, 11), (⟨"TimingLightsModel", "splits", "(II)I"⟩, 11), (⟨"TimingLightsModel", "joins", "(I)I"⟩, 11), (⟨"TimingLightsModel", "areAlike", "(I)Z"⟩, 11), (⟨"TimingLightsModel", "makesPrint", "()I"⟩, 11), (⟨"TimingLightsModel", "oldest", "()I"⟩, 11), (⟨"TimingLightsModel", "hours", "()I"⟩, 11), (⟨"TimingLightsModel", "feetTo", "(I)I"⟩, 11), (⟨"TimingLightsModel", "makePrint", "()V"⟩, 11), (⟨"TimingLightsModel", "off", "(II)I"⟩, 11)]
theorem lw_r2 : ∀ q ∈ lw_privs_2, lw_okq q := List.forall_mem_cons.mpr ⟨lw_p16, List.forall_mem_cons.mpr ⟨lw_p17, List.forall_mem_cons.mpr ⟨lw_p18, List.forall_mem_cons.mpr ⟨lw_p19, List.forall_mem_cons.mpr ⟨lw_p20, List.forall_mem_cons.mpr ⟨lw_p21, List.forall_mem_cons.mpr ⟨lw_p22, List.forall_mem_cons.mpr ⟨lw_p23, List.forall_mem_cons.mpr ⟨lw_p24, List.forall_mem_cons.mpr ⟨lw_p25, List.forall_mem_cons.mpr ⟨lw_p26, List.forall_mem_cons.mpr ⟨lw_p27, List.forall_mem_cons.mpr ⟨lw_p28, List.forall_mem_cons.mpr ⟨lw_p29, List.forall_mem_cons.mpr ⟨lw_p30, List.forall_mem_cons.mpr ⟨lw_p31, fun _ h => absurd h List.not_mem_nil⟩⟩⟩⟩⟩⟩⟩⟩⟩⟩⟩⟩⟩⟩⟩⟩
theorem lw_p32 : lw_okq (⟨"TimingLightsModel", "prints", "(II)I"⟩, 11) := ⟨⟨by decide +kernel, by decide +kernel⟩, List.mem_of_getElem? (i := 648) (by decide +kernel), List.mem_of_getElem? (i := 846) (by decide +kernel), List.mem_of_getElem? (i := 847) (by decide +kernel)⟩
theorem lw_p33 : lw_okq (⟨"TimingLightsModel", "printed", "(III)I"⟩, 11) := ⟨⟨by decide +kernel, by decide +kernel⟩, List.mem_of_getElem? (i := 648) (by decide +kernel), List.mem_of_getElem? (i := 850) (by decide +kernel), List.mem_of_getElem? (i := 851) (by decide +kernel)⟩
theorem lw_p34 : lw_okq (⟨"TimingLightsModel", "lost", "(I)I"⟩, 11) := ⟨⟨by decide +kernel, by decide +kernel⟩, List.mem_of_getElem? (i := 648) (by decide +kernel), List.mem_of_getElem? (i := 854) (by decide +kernel), List.mem_of_getElem? (i := 855) (by decide +kernel)⟩
theorem lw_p35 : lw_okq (⟨"TimingLightsModel", "badOnes", "()I"⟩, 11) := ⟨⟨by decide +kernel, by decide +kernel⟩, List.mem_of_getElem? (i := 648) (by decide +kernel), List.mem_of_getElem? (i := 861) (by decide +kernel), List.mem_of_getElem? (i := 862) (by decide +kernel)⟩
theorem lw_p36 : lw_okq (⟨"TimingLightsModel", "isBad", "(I)Z"⟩, 11) := ⟨⟨by decide +kernel, by decide +kernel⟩, List.mem_of_getElem? (i := 648) (by decide +kernel), List.mem_of_getElem? (i := 865) (by decide +kernel), List.mem_of_getElem? (i := 866) (by decide +kernel)⟩
theorem lw_p37 : lw_okq (⟨"TimingLightsModel", "corrects", "(I)I"⟩, 11) := ⟨⟨by decide +kernel, by decide +kernel⟩, List.mem_of_getElem? (i := 648) (by decide +kernel), List.mem_of_getElem? (i := 876) (by decide +kernel), List.mem_of_getElem? (i := 877) (by decide +kernel)⟩
theorem lw_p38 : lw_okq (⟨"TimingLightsModel", "correctOne", "(I)I"⟩, 11) := ⟨⟨by decide +kernel, by decide +kernel⟩, List.mem_of_getElem? (i := 648) (by decide +kernel), List.mem_of_getElem? (i := 880) (by decide +kernel), List.mem_of_getElem? (i := 881) (by decide +kernel)⟩
theorem lw_p39 : lw_okq (⟨"TimingLightsModel", "correctsAll", "()I"⟩, 11) := ⟨⟨by decide +kernel, by decide +kernel⟩, List.mem_of_getElem? (i := 648) (by decide +kernel), List.mem_of_getElem? (i := 888) (by decide +kernel), List.mem_of_getElem? (i := 889) (by decide +kernel)⟩
theorem lw_p40 : lw_okq (⟨"TimingLightsModel", "cards", "()I"⟩, 11) := ⟨⟨by decide +kernel, by decide +kernel⟩, List.mem_of_getElem? (i := 648) (by decide +kernel), List.mem_of_getElem? (i := 896) (by decide +kernel), List.mem_of_getElem? (i := 897) (by decide +kernel)⟩
theorem lw_p41 : lw_okq (⟨"TimingLightsModel", "isJump", "(I)Z"⟩, 11) := ⟨⟨by decide +kernel, by decide +kernel⟩, List.mem_of_getElem? (i := 648) (by decide +kernel), List.mem_of_getElem? (i := 912) (by decide +kernel), List.mem_of_getElem? (i := 913) (by decide +kernel)⟩
theorem lw_p42 : lw_okq (⟨"TimingLightsModel", "answer", "(II)I"⟩, 11) := ⟨⟨by decide +kernel, by decide +kernel⟩, List.mem_of_getElem? (i := 648) (by decide +kernel), List.mem_of_getElem? (i := 920) (by decide +kernel), List.mem_of_getElem? (i := 921) (by decide +kernel)⟩
theorem lw_p43 : lw_okq (⟨"TimingLightsModel", "those", "(I)I"⟩, 11) := ⟨⟨by decide +kernel, by decide +kernel⟩, List.mem_of_getElem? (i := 648) (by decide +kernel), List.mem_of_getElem? (i := 932) (by decide +kernel), List.mem_of_getElem? (i := 933) (by decide +kernel)⟩
theorem lw_p44 : lw_okq (⟨"TimingLightsModel", "isOff", "(I)Z"⟩, 11) := ⟨⟨by decide +kernel, by decide +kernel⟩, List.mem_of_getElem? (i := 648) (by decide +kernel), List.mem_of_getElem? (i := 936) (by decide +kernel), List.mem_of_getElem? (i := 937) (by decide +kernel)⟩
theorem lw_p45 : lw_okq (⟨"TimingLightsModel", "needed", "(II)I"⟩, 11) := ⟨⟨by decide +kernel, by decide +kernel⟩, List.mem_of_getElem? (i := 648) (by decide +kernel), List.mem_of_getElem? (i := 944) (by decide +kernel), List.mem_of_getElem? (i := 945) (by decide +kernel)⟩
theorem lw_p46 : lw_okq (⟨"TimingLightsModel", "isTooWeak", "(I)Z"⟩, 11) := ⟨⟨by decide +kernel, by decide +kernel⟩, List.mem_of_getElem? (i := 648) (by decide +kernel), List.mem_of_getElem? (i := 956) (by decide +kernel), List.mem_of_getElem? (i := 957) (by decide +kernel)⟩
theorem lw_p47 : lw_okq (⟨"TimingLightsModel", "allOff", "(I)I"⟩, 11) := ⟨⟨by decide +kernel, by decide +kernel⟩, List.mem_of_getElem? (i := 648) (by decide +kernel), List.mem_of_getElem? (i := 964) (by decide +kernel), List.mem_of_getElem? (i := 965) (by decide +kernel)⟩
def lw_privs_3 : List (MethodName × Nat) := [(⟨"TimingLightsModel", "prints", "(II)I"⟩, 11), (⟨"TimingLightsModel", "printed", "(III)I"⟩, 11), (⟨"TimingLightsModel", "lost", "(I)I"⟩, 11), (⟨"TimingLightsModel", "badOnes", "()I"⟩, 11), (⟨"TimingLightsModel", "isBad", "(I)Z"⟩, 11), (⟨"TimingLightsModel", "corrects", "(I)I"⟩, 11), (⟨"TimingLightsModel", "correctOne", "(I)I"⟩, 11), (⟨"TimingLightsModel", "correctsAll", "()I"⟩, 11), (⟨"TimingLightsModel", "cards", "()I"⟩, 11), (⟨"TimingLightsModel", "isJump", "(I)Z"⟩, 11), (⟨"TimingLightsModel", "answer", "(II)I"⟩, 11), (⟨"TimingLightsModel", "those", "(I)I"⟩, 11), (⟨"TimingLightsModel", "isOff", "(I)Z"⟩, 11), (⟨"TimingLightsModel", "needed", "(II)I"⟩, 11), (⟨"TimingLightsModel", "isTooWeak", "(I)Z"⟩, 11), (⟨"TimingLightsModel", "allOff", "(I)I"⟩, 11)]
theorem lw_r3 : ∀ q ∈ lw_privs_3, lw_okq q := List.forall_mem_cons.mpr ⟨lw_p32, List.forall_mem_cons.mpr ⟨lw_p33, List.forall_mem_cons.mpr ⟨lw_p34, List.forall_mem_cons.mpr ⟨lw_p35, List.forall_mem_cons.mpr ⟨lw_p36, List.forall_mem_cons.mpr ⟨lw_p37, List.forall_mem_cons.mpr ⟨lw_p38, List.forall_mem_cons.mpr ⟨lw_p39, List.forall_mem_cons.mpr ⟨lw_p40, List.forall_mem_cons.mpr ⟨lw_p41, List.forall_mem_cons.mpr ⟨lw_p42, List.forall_mem_cons.mpr ⟨lw_p43, List.forall_mem_cons.mpr ⟨lw_p44, List.forall_mem_cons.mpr ⟨lw_p45, List.forall_mem_cons.mpr ⟨lw_p46, List.forall_mem_cons.mpr ⟨lw_p47, fun _ h => absurd h List.not_mem_nil⟩⟩⟩⟩⟩⟩⟩⟩⟩⟩⟩⟩⟩⟩⟩⟩
theorem lw_p48 : lw_okq (⟨"TimingLightsModel", "takeBack", "()V"⟩, 11) := ⟨⟨by decide +kernel, by decide +kernel⟩, List.mem_of_getElem? (i := 648) (by decide +kernel), List.mem_of_getElem? (i := 972) (by decide +kernel), List.mem_of_getElem? (i := 973) (by decide +kernel)⟩
theorem lw_p49 : lw_okq (⟨"TimingLightsModel", "findFault", "()I"⟩, 11) := ⟨⟨by decide +kernel, by decide +kernel⟩, List.mem_of_getElem? (i := 648) (by decide +kernel), List.mem_of_getElem? (i := 995) (by decide +kernel), List.mem_of_getElem? (i := 996) (by decide +kernel)⟩
theorem lw_p50 : lw_okq (⟨"TimingLightsModel", "readsOrder", "()Z"⟩, 11) := ⟨⟨by decide +kernel, by decide +kernel⟩, List.mem_of_getElem? (i := 648) (by decide +kernel), List.mem_of_getElem? (i := 999) (by decide +kernel), List.mem_of_getElem? (i := 1000) (by decide +kernel)⟩
theorem lw_p51 : lw_okq (⟨"TimingLightsModel", "code", "()I"⟩, 11) := ⟨⟨by decide +kernel, by decide +kernel⟩, List.mem_of_getElem? (i := 648) (by decide +kernel), List.mem_of_getElem? (i := 1003) (by decide +kernel), List.mem_of_getElem? (i := 1004) (by decide +kernel)⟩
theorem lw_p52 : lw_okq (⟨"TimingLightsModel", "readsNumber", "(I)Z"⟩, 11) := ⟨⟨by decide +kernel, by decide +kernel⟩, List.mem_of_getElem? (i := 648) (by decide +kernel), List.mem_of_getElem? (i := 1007) (by decide +kernel), List.mem_of_getElem? (i := 1008) (by decide +kernel)⟩
theorem lw_p53 : lw_okq (⟨"TimingLightsModel", "takes", "(I)Z"⟩, 11) := ⟨⟨by decide +kernel, by decide +kernel⟩, List.mem_of_getElem? (i := 648) (by decide +kernel), List.mem_of_getElem? (i := 1011) (by decide +kernel), List.mem_of_getElem? (i := 1012) (by decide +kernel)⟩
theorem lw_p54 : lw_okq (⟨"TimingLightsModel", "readsColour", "()Z"⟩, 11) := ⟨⟨by decide +kernel, by decide +kernel⟩, List.mem_of_getElem? (i := 648) (by decide +kernel), List.mem_of_getElem? (i := 1015) (by decide +kernel), List.mem_of_getElem? (i := 1016) (by decide +kernel)⟩
theorem lw_p55 : lw_okq (⟨"TimingLightsModel", "readsWish", "()Z"⟩, 11) := ⟨⟨by decide +kernel, by decide +kernel⟩, List.mem_of_getElem? (i := 648) (by decide +kernel), List.mem_of_getElem? (i := 1019) (by decide +kernel), List.mem_of_getElem? (i := 1020) (by decide +kernel)⟩
theorem lw_p56 : lw_okq (⟨"TimingLightsModel", "doesOrder", "()I"⟩, 11) := ⟨⟨by decide +kernel, by decide +kernel⟩, List.mem_of_getElem? (i := 648) (by decide +kernel), List.mem_of_getElem? (i := 1027) (by decide +kernel), List.mem_of_getElem? (i := 1028) (by decide +kernel)⟩
def lw_privs_4 : List (MethodName × Nat) := [(⟨"TimingLightsModel", "takeBack", "()V"⟩, 11), (⟨"TimingLightsModel", "findFault", "()I"⟩, 11), (⟨"TimingLightsModel", "readsOrder", "()Z"⟩, 11), (⟨"TimingLightsModel", "code", "()I"⟩, 11), (⟨"TimingLightsModel", "readsNumber", "(I)Z"⟩, 11), (⟨"TimingLightsModel", "takes", "(I)Z"⟩, 11), (⟨"TimingLightsModel", "readsColour", "()Z"⟩, 11), (⟨"TimingLightsModel", "readsWish", "()Z"⟩, 11), (⟨"TimingLightsModel", "doesOrder", "()I"⟩, 11)]
theorem lw_r4 : ∀ q ∈ lw_privs_4, lw_okq q := List.forall_mem_cons.mpr ⟨lw_p48, List.forall_mem_cons.mpr ⟨lw_p49, List.forall_mem_cons.mpr ⟨lw_p50, List.forall_mem_cons.mpr ⟨lw_p51, List.forall_mem_cons.mpr ⟨lw_p52, List.forall_mem_cons.mpr ⟨lw_p53, List.forall_mem_cons.mpr ⟨lw_p54, List.forall_mem_cons.mpr ⟨lw_p55, List.forall_mem_cons.mpr ⟨lw_p56, fun _ h => absurd h List.not_mem_nil⟩⟩⟩⟩⟩⟩⟩⟩⟩
def lw_privs : List (MethodName × Nat) := lw_privs_1 ++ (lw_privs_2 ++ (lw_privs_3 ++ (lw_privs_4)))
def lw_tbl : List Cond := k2_sels lw_privs ++ tables_1
theorem lw_privs_ok : ∀ q ∈ lw_privs, lw_okq q := by
  show ∀ q ∈ lw_privs_1 ++ (lw_privs_2 ++ (lw_privs_3 ++ (lw_privs_4))), lw_okq q
  exact List.forall_mem_append.mpr ⟨lw_r1, List.forall_mem_append.mpr ⟨lw_r2, List.forall_mem_append.mpr ⟨lw_r3, lw_r4⟩⟩⟩
def RX0 : String := "TimingLights$Changes"
def TX0 : u_T := fun k => match k with
  | _ => ("", "", "", false)
def tyX0 : Nat → FieldType := fun k => match k with
  | _ => .int
abbrev wsX00 : List Cond := u_ws RX0 TX0 0
theorem nmX0 : ∀ a, a < 0 → ∀ b, b < 0 → a ≠ b → (TX0 a).2.1 ≠ (TX0 b).2.1 := by decide +kernel
theorem tyX0_ok : ∀ k, k < 0 → parseFieldDescriptor (TX0 k).2.2.1 = some (tyX0 k) := by decide +kernel
abbrev cX0_changeSetting : ByteArray := prog_2_method_2_code
def yX0_changeSetting : MethodName := ⟨RX0, "changeSetting", "(LTimingLights$Reel;II)I"⟩
abbrev cX0_addShot : ByteArray := prog_2_method_3_code
def yX0_addShot : MethodName := ⟨RX0, "addShot", "(LTimingLights$Reel;IIIII)I"⟩
abbrev cX0_dropShot : ByteArray := prog_2_method_4_code
def yX0_dropShot : MethodName := ⟨RX0, "dropShot", "(LTimingLights$Reel;I)I"⟩
abbrev cX0_changeLight : ByteArray := prog_2_method_5_code
def yX0_changeLight : MethodName := ⟨RX0, "changeLight", "(LTimingLights$Reel;III)I"⟩
abbrev cX0_changeWish : ByteArray := prog_2_method_6_code
def yX0_changeWish : MethodName := ⟨RX0, "changeWish", "(LTimingLights$Reel;III)I"⟩
abbrev cX0_moveShot : ByteArray := prog_2_method_7_code
def yX0_moveShot : MethodName := ⟨RX0, "moveShot", "(LTimingLights$Reel;II)I"⟩
abbrev cX0_splitShot : ByteArray := prog_2_method_8_code
def yX0_splitShot : MethodName := ⟨RX0, "splitShot", "(LTimingLights$Reel;II)I"⟩
abbrev cX0_joinShots : ByteArray := prog_2_method_9_code
def yX0_joinShots : MethodName := ⟨RX0, "joinShots", "(LTimingLights$Reel;I)I"⟩
abbrev cX0_isSameStock : ByteArray := prog_2_method_10_code
def yX0_isSameStock : MethodName := ⟨RX0, "isSameStock", "(LTimingLights$Reel;II)Z"⟩
abbrev cX0_makePrint : ByteArray := prog_2_method_11_code
def yX0_makePrint : MethodName := ⟨RX0, "makePrint", "(LTimingLights$Reel;)I"⟩
abbrev cX0_runPrinter : ByteArray := prog_2_method_12_code
def yX0_runPrinter : MethodName := ⟨RX0, "runPrinter", "(LTimingLights$Reel;)I"⟩
abbrev cX0_hoursOfPrint : ByteArray := prog_2_method_13_code
def yX0_hoursOfPrint : MethodName := ⟨RX0, "hoursOfPrint", "(LTimingLights$Reel;)I"⟩
abbrev cX0_correctShot : ByteArray := prog_2_method_14_code
def yX0_correctShot : MethodName := ⟨RX0, "correctShot", "(LTimingLights$Reel;I)I"⟩
abbrev cX0_correctLight : ByteArray := prog_2_method_15_code
def yX0_correctLight : MethodName := ⟨RX0, "correctLight", "(LTimingLights$Reel;II)I"⟩
abbrev cX0_correctBadShots : ByteArray := prog_2_method_16_code
def yX0_correctBadShots : MethodName := ⟨RX0, "correctBadShots", "(LTimingLights$Reel;)I"⟩
abbrev cX0_setByCard : ByteArray := prog_2_method_17_code
def yX0_setByCard : MethodName := ⟨RX0, "setByCard", "(LTimingLights$Reel;)I"⟩
abbrev cX0_changeTrim : ByteArray := prog_2_method_18_code
def yX0_changeTrim : MethodName := ⟨RX0, "changeTrim", "(LTimingLights$Reel;II)I"⟩
abbrev cX0_changeLamp : ByteArray := prog_2_method_19_code
def yX0_changeLamp : MethodName := ⟨RX0, "changeLamp", "(LTimingLights$Reel;I)I"⟩
abbrev cX0_exchange : ByteArray := prog_2_method_20_code
def yX0_exchange : MethodName := ⟨RX0, "exchange", "(LTimingLights$Reel;II)I"⟩
def RX1 : String := "TimingLights$History"
def TX1 : u_T := fun k => match k with
  | 0 => ("TimingLights$History", "shelf", "LTimingLights$Shelf;", true)
  | 1 => ("TimingLights$History", "oldest", "I", false)
  | _ => ("TimingLights$History", "size", "I", false)
def tyX1 : Nat → FieldType := fun k => match k with
  | 0 => .object "TimingLights$Shelf"
  | 1 => .int
  | _ => .int
abbrev wsX10 : List Cond := u_ws RX1 TX1 3
theorem nmX1 : ∀ a, a < 3 → ∀ b, b < 3 → a ≠ b → (TX1 a).2.1 ≠ (TX1 b).2.1 := by decide +kernel
theorem tyX1_ok : ∀ k, k < 3 → parseFieldDescriptor (TX1 k).2.2.1 = some (tyX1 k) := by decide +kernel
abbrev cX1_init : ByteArray := prog_3_method_1_code
def yX1_init : MethodName := ⟨RX1, "<init>", "()V"⟩
abbrev cX1_size : ByteArray := prog_3_method_2_code
def yX1_size : MethodName := ⟨RX1, "size", "()I"⟩
abbrev cX1_record : ByteArray := prog_3_method_3_code
def yX1_record : MethodName := ⟨RX1, "record", "(LTimingLights$Reel;)V"⟩
abbrev cX1_takeBack : ByteArray := prog_3_method_4_code
def yX1_takeBack : MethodName := ⟨RX1, "takeBack", "(LTimingLights$Reel;)V"⟩
def RX2 : String := "TimingLights$Pad"
def TX2 : u_T := fun k => match k with
  | 0 => ("TimingLights$Pad", "characters", "[C", true)
  | 1 => ("TimingLights$Pad", "numbers", "[I", true)
  | 2 => ("TimingLights$Pad", "length", "I", false)
  | 3 => ("TimingLights$Pad", "at", "I", false)
  | 4 => ("TimingLights$Pad", "numbersRead", "I", false)
  | 5 => ("TimingLights$Pad", "letter", "I", false)
  | 6 => ("TimingLights$Pad", "colour", "I", false)
  | _ => ("TimingLights$Pad", "minus", "Z", false)
def tyX2 : Nat → FieldType := fun k => match k with
  | 0 => .array .char
  | 1 => .array .int
  | 2 => .int
  | 3 => .int
  | 4 => .int
  | 5 => .int
  | 6 => .int
  | _ => .boolean
abbrev wsX20 : List Cond := u_ws RX2 TX2 8
theorem nmX2 : ∀ a, a < 8 → ∀ b, b < 8 → a ≠ b → (TX2 a).2.1 ≠ (TX2 b).2.1 := by decide +kernel
theorem tyX2_ok : ∀ k, k < 8 → parseFieldDescriptor (TX2 k).2.2.1 = some (tyX2 k) := by decide +kernel
abbrev cX2_init : ByteArray := prog_4_method_1_code
def yX2_init : MethodName := ⟨RX2, "<init>", "()V"⟩
abbrev cX2_length : ByteArray := prog_4_method_2_code
def yX2_length : MethodName := ⟨RX2, "length", "()I"⟩
abbrev cX2_letter : ByteArray := prog_4_method_3_code
def yX2_letter : MethodName := ⟨RX2, "letter", "()I"⟩
abbrev cX2_colour : ByteArray := prog_4_method_4_code
def yX2_colour : MethodName := ⟨RX2, "colour", "()I"⟩
abbrev cX2_isMinus : ByteArray := prog_4_method_5_code
def yX2_isMinus : MethodName := ⟨RX2, "isMinus", "()Z"⟩
abbrev cX2_number : ByteArray := prog_4_method_6_code
def yX2_number : MethodName := ⟨RX2, "number", "(I)I"⟩
abbrev cX2_clear : ByteArray := prog_4_method_7_code
def yX2_clear : MethodName := ⟨RX2, "clear", "()I"⟩
abbrev cX2_append : ByteArray := prog_4_method_8_code
def yX2_append : MethodName := ⟨RX2, "append", "(J)I"⟩
abbrev cX2_charactersIn : ByteArray := prog_4_method_9_code
def yX2_charactersIn : MethodName := ⟨RX2, "charactersIn", "(J)I"⟩
abbrev cX2_write : ByteArray := prog_4_method_10_code
def yX2_write : MethodName := ⟨RX2, "write", "(C)V"⟩
abbrev cX2_firstFault : ByteArray := prog_4_method_11_code
def yX2_firstFault : MethodName := ⟨RX2, "firstFault", "()I"⟩
abbrev cX2_startReading : ByteArray := prog_4_method_12_code
def yX2_startReading : MethodName := ⟨RX2, "startReading", "()V"⟩
abbrev cX2_nextOrder : ByteArray := prog_4_method_13_code
def yX2_nextOrder : MethodName := ⟨RX2, "nextOrder", "()Z"⟩
abbrev cX2_formOf : ByteArray := prog_4_method_14_code
def yX2_formOf : MethodName := ⟨RX2, "formOf", "(I)Ljava/lang/String;"⟩
abbrev cX2_readPart : ByteArray := prog_4_method_15_code
def yX2_readPart : MethodName := ⟨RX2, "readPart", "(C)Z"⟩
abbrev cX2_readNumber : ByteArray := prog_4_method_16_code
def yX2_readNumber : MethodName := ⟨RX2, "readNumber", "()Z"⟩
abbrev cX2_readColour : ByteArray := prog_4_method_17_code
def yX2_readColour : MethodName := ⟨RX2, "readColour", "()Z"⟩
abbrev cX2_readSign : ByteArray := prog_4_method_18_code
def yX2_readSign : MethodName := ⟨RX2, "readSign", "(C)Z"⟩
abbrev cX2_isDigitHere : ByteArray := prog_4_method_19_code
def yX2_isDigitHere : MethodName := ⟨RX2, "isDigitHere", "()Z"⟩
abbrev cX2_here : ByteArray := prog_4_method_20_code
def yX2_here : MethodName := ⟨RX2, "here", "()I"⟩
def RX3 : String := "TimingLights$Reel"
def TX3 : u_T := fun k => match k with
  | _ => ("TimingLights$Reel", "cells", "[I", true)
def tyX3 : Nat → FieldType := fun k => match k with
  | _ => .array .int
abbrev wsX30 : List Cond := u_ws RX3 TX3 1
theorem nmX3 : ∀ a, a < 1 → ∀ b, b < 1 → a ≠ b → (TX3 a).2.1 ≠ (TX3 b).2.1 := by decide +kernel
theorem tyX3_ok : ∀ k, k < 1 → parseFieldDescriptor (TX3 k).2.2.1 = some (tyX3 k) := by decide +kernel
abbrev cX3_init : ByteArray := prog_5_method_1_code
def yX3_init : MethodName := ⟨RX3, "<init>", "()V"⟩
abbrev cX3_read : ByteArray := prog_5_method_2_code
def yX3_read : MethodName := ⟨RX3, "read", "(I)I"⟩
abbrev cX3_write : ByteArray := prog_5_method_3_code
def yX3_write : MethodName := ⟨RX3, "write", "(II)V"⟩
abbrev cX3_readShot : ByteArray := prog_5_method_4_code
def yX3_readShot : MethodName := ⟨RX3, "readShot", "(II)I"⟩
abbrev cX3_writeShot : ByteArray := prog_5_method_5_code
def yX3_writeShot : MethodName := ⟨RX3, "writeShot", "(III)V"⟩
abbrev cX3_lampLoss : ByteArray := prog_5_method_6_code
def yX3_lampLoss : MethodName := ⟨RX3, "lampLoss", "(I)I"⟩
abbrev cX3_shots : ByteArray := prog_5_method_7_code
def yX3_shots : MethodName := ⟨RX3, "shots", "()I"⟩
abbrev cX3_hasShot : ByteArray := prog_5_method_8_code
def yX3_hasShot : MethodName := ⟨RX3, "hasShot", "(I)Z"⟩
abbrev cX3_openPlace : ByteArray := prog_5_method_9_code
def yX3_openPlace : MethodName := ⟨RX3, "openPlace", "(I)V"⟩
abbrev cX3_closePlace : ByteArray := prog_5_method_10_code
def yX3_closePlace : MethodName := ⟨RX3, "closePlace", "(I)V"⟩
abbrev cX3_copyShot : ByteArray := prog_5_method_11_code
def yX3_copyShot : MethodName := ⟨RX3, "copyShot", "(II)V"⟩
abbrev cX3_swapShots : ByteArray := prog_5_method_12_code
def yX3_swapShots : MethodName := ⟨RX3, "swapShots", "(II)V"⟩
abbrev cX3_become : ByteArray := prog_5_method_13_code
def yX3_become : MethodName := ⟨RX3, "become", "(LTimingLights$Reel;)V"⟩
abbrev cX3_writeTo : ByteArray := prog_5_method_14_code
def yX3_writeTo : MethodName := ⟨RX3, "writeTo", "([II)V"⟩
abbrev cX3_readFrom : ByteArray := prog_5_method_15_code
def yX3_readFrom : MethodName := ⟨RX3, "readFrom", "([II)V"⟩
def RX4 : String := "TimingLights$Shelf"
def TX4 : u_T := fun k => match k with
  | _ => ("TimingLights$Shelf", "rows", "[I", true)
def tyX4 : Nat → FieldType := fun k => match k with
  | _ => .array .int
abbrev wsX40 : List Cond := u_ws RX4 TX4 1
theorem nmX4 : ∀ a, a < 1 → ∀ b, b < 1 → a ≠ b → (TX4 a).2.1 ≠ (TX4 b).2.1 := by decide +kernel
theorem tyX4_ok : ∀ k, k < 1 → parseFieldDescriptor (TX4 k).2.2.1 = some (tyX4 k) := by decide +kernel
abbrev cX4_init : ByteArray := prog_6_method_1_code
def yX4_init : MethodName := ⟨RX4, "<init>", "(I)V"⟩
abbrev cX4_keep : ByteArray := prog_6_method_2_code
def yX4_keep : MethodName := ⟨RX4, "keep", "(ILTimingLights$Reel;)V"⟩
abbrev cX4_give : ByteArray := prog_6_method_3_code
def yX4_give : MethodName := ⟨RX4, "give", "(ILTimingLights$Reel;)V"⟩
def RX5 : String := "TimingLights$Views"
def TX5 : u_T := fun k => match k with
  | _ => ("", "", "", false)
def tyX5 : Nat → FieldType := fun k => match k with
  | _ => .int
abbrev wsX50 : List Cond := u_ws RX5 TX5 0
theorem nmX5 : ∀ a, a < 0 → ∀ b, b < 0 → a ≠ b → (TX5 a).2.1 ≠ (TX5 b).2.1 := by decide +kernel
theorem tyX5_ok : ∀ k, k < 0 → parseFieldDescriptor (TX5 k).2.2.1 = some (tyX5 k) := by decide +kernel
abbrev cX5_printsWith : ByteArray := prog_7_method_2_code
def yX5_printsWith : MethodName := ⟨RX5, "printsWith", "(LTimingLights$Reel;IIII)I"⟩
abbrev cX5_printsNow : ByteArray := prog_7_method_3_code
def yX5_printsNow : MethodName := ⟨RX5, "printsNow", "(LTimingLights$Reel;II)I"⟩
abbrev cX5_offWith : ByteArray := prog_7_method_4_code
def yX5_offWith : MethodName := ⟨RX5, "offWith", "(LTimingLights$Reel;III)I"⟩
abbrev cX5_offNow : ByteArray := prog_7_method_5_code
def yX5_offNow : MethodName := ⟨RX5, "offNow", "(LTimingLights$Reel;II)I"⟩
abbrev cX5_feetBefore : ByteArray := prog_7_method_6_code
def yX5_feetBefore : MethodName := ⟨RX5, "feetBefore", "(LTimingLights$Reel;I)I"⟩
abbrev cX5_isAnswered : ByteArray := prog_7_method_7_code
def yX5_isAnswered : MethodName := ⟨RX5, "isAnswered", "(LTimingLights$Reel;I)Z"⟩
abbrev cX5_isBad : ByteArray := prog_7_method_8_code
def yX5_isBad : MethodName := ⟨RX5, "isBad", "(LTimingLights$Reel;I)Z"⟩
abbrev cX5_isOff : ByteArray := prog_7_method_9_code
def yX5_isOff : MethodName := ⟨RX5, "isOff", "(LTimingLights$Reel;I)Z"⟩
abbrev cX5_jumps : ByteArray := prog_7_method_10_code
def yX5_jumps : MethodName := ⟨RX5, "jumps", "(LTimingLights$Reel;I)Z"⟩
abbrev cX5_holds : ByteArray := prog_7_method_11_code
def yX5_holds : MethodName := ⟨RX5, "holds", "(LTimingLights$Reel;II)Z"⟩
abbrev cX5_setOf : ByteArray := prog_7_method_12_code
def yX5_setOf : MethodName := ⟨RX5, "setOf", "(LTimingLights$Reel;I)I"⟩
def RX6 : String := "TimingLights$WhatIf"
def TX6 : u_T := fun k => match k with
  | _ => ("", "", "", false)
def tyX6 : Nat → FieldType := fun k => match k with
  | _ => .int
abbrev wsX60 : List Cond := u_ws RX6 TX6 0
theorem nmX6 : ∀ a, a < 0 → ∀ b, b < 0 → a ≠ b → (TX6 a).2.1 ≠ (TX6 b).2.1 := by decide +kernel
theorem tyX6_ok : ∀ k, k < 0 → parseFieldDescriptor (TX6 k).2.2.1 = some (tyX6 k) := by decide +kernel
abbrev cX6_lightNeeded : ByteArray := prog_8_method_2_code
def yX6_lightNeeded : MethodName := ⟨RX6, "lightNeeded", "(LTimingLights$Reel;III)I"⟩
abbrev cX6_hoursLeft : ByteArray := prog_8_method_3_code
def yX6_hoursLeft : MethodName := ⟨RX6, "hoursLeft", "(LTimingLights$Reel;I)I"⟩
abbrev cX6_isSomeLightOut : ByteArray := prog_8_method_4_code
def yX6_isSomeLightOut : MethodName := ⟨RX6, "isSomeLightOut", "(LTimingLights$Reel;II)Z"⟩
abbrev cX6_leastOffTrim : ByteArray := prog_8_method_5_code
def yX6_leastOffTrim : MethodName := ⟨RX6, "leastOffTrim", "(LTimingLights$Reel;I)I"⟩
abbrev cX6_offTogether : ByteArray := prog_8_method_6_code
def yX6_offTogether : MethodName := ⟨RX6, "offTogether", "(LTimingLights$Reel;II)I"⟩
abbrev cX6_printsUntilGood : ByteArray := prog_8_method_7_code
def yX6_printsUntilGood : MethodName := ⟨RX6, "printsUntilGood", "(LTimingLights$Reel;)I"⟩
def RX7 : String := "TimingLights"
def TX7 : u_T := fun k => match k with
  | 0 => ("TimingLights", "reel", "LTimingLights$Reel;", true)
  | 1 => ("TimingLights", "before", "LTimingLights$Reel;", true)
  | 2 => ("TimingLights", "trial", "LTimingLights$Reel;", true)
  | 3 => ("TimingLights", "pad", "LTimingLights$Pad;", true)
  | 4 => ("TimingLights", "history", "LTimingLights$History;", true)
  | 5 => ("TimingLights", "slots", "LTimingLights$Shelf;", true)
  | _ => ("TimingLights", "slotsFilled", "I", false)
def tyX7 : Nat → FieldType := fun k => match k with
  | 0 => .object "TimingLights$Reel"
  | 1 => .object "TimingLights$Reel"
  | 2 => .object "TimingLights$Reel"
  | 3 => .object "TimingLights$Pad"
  | 4 => .object "TimingLights$History"
  | 5 => .object "TimingLights$Shelf"
  | _ => .int
abbrev wsX70 : List Cond := u_ws RX7 TX7 7
theorem nmX7 : ∀ a, a < 7 → ∀ b, b < 7 → a ≠ b → (TX7 a).2.1 ≠ (TX7 b).2.1 := by decide +kernel
theorem tyX7_ok : ∀ k, k < 7 → parseFieldDescriptor (TX7 k).2.2.1 = some (tyX7 k) := by decide +kernel
abbrev cX7_init : ByteArray := prog_1_method_1_code
def yX7_init : MethodName := ⟨RX7, "<init>", "()V"⟩
abbrev cX7_set : ByteArray := prog_1_method_2_code
def yX7_set : MethodName := ⟨RX7, "set", "(II)I"⟩
abbrev cX7_shot : ByteArray := prog_1_method_3_code
def yX7_shot : MethodName := ⟨RX7, "shot", "(IIIII)I"⟩
abbrev cX7_takeOut : ByteArray := prog_1_method_4_code
def yX7_takeOut : MethodName := ⟨RX7, "takeOut", "(I)I"⟩
abbrev cX7_light : ByteArray := prog_1_method_5_code
def yX7_light : MethodName := ⟨RX7, "light", "(III)I"⟩
abbrev cX7_wish : ByteArray := prog_1_method_6_code
def yX7_wish : MethodName := ⟨RX7, "wish", "(III)I"⟩
abbrev cX7_move : ByteArray := prog_1_method_7_code
def yX7_move : MethodName := ⟨RX7, "move", "(II)I"⟩
abbrev cX7_split : ByteArray := prog_1_method_8_code
def yX7_split : MethodName := ⟨RX7, "split", "(II)I"⟩
abbrev cX7_join : ByteArray := prog_1_method_9_code
def yX7_join : MethodName := ⟨RX7, "join", "(I)I"⟩
abbrev cX7_print : ByteArray := prog_1_method_10_code
def yX7_print : MethodName := ⟨RX7, "print", "()I"⟩
abbrev cX7_correct : ByteArray := prog_1_method_11_code
def yX7_correct : MethodName := ⟨RX7, "correct", "(I)I"⟩
abbrev cX7_correctAll : ByteArray := prog_1_method_12_code
def yX7_correctAll : MethodName := ⟨RX7, "correctAll", "()I"⟩
abbrev cX7_card : ByteArray := prog_1_method_13_code
def yX7_card : MethodName := ⟨RX7, "card", "()I"⟩
abbrev cX7_trim : ByteArray := prog_1_method_14_code
def yX7_trim : MethodName := ⟨RX7, "trim", "(II)I"⟩
abbrev cX7_lamp : ByteArray := prog_1_method_15_code
def yX7_lamp : MethodName := ⟨RX7, "lamp", "(I)I"⟩
abbrev cX7_of : ByteArray := prog_1_method_16_code
def yX7_of : MethodName := ⟨RX7, "of", "(II)I"⟩
abbrev cX7_inColour : ByteArray := prog_1_method_17_code
def yX7_inColour : MethodName := ⟨RX7, "inColour", "(III)I"⟩
abbrev cX7_ofLamp : ByteArray := prog_1_method_18_code
def yX7_ofLamp : MethodName := ⟨RX7, "ofLamp", "(II)I"⟩
abbrev cX7_count : ByteArray := prog_1_method_19_code
def yX7_count : MethodName := ⟨RX7, "count", "(I)I"⟩
abbrev cX7_needs : ByteArray := prog_1_method_20_code
def yX7_needs : MethodName := ⟨RX7, "needs", "(II)I"⟩
abbrev cX7_ifLight : ByteArray := prog_1_method_21_code
def yX7_ifLight : MethodName := ⟨RX7, "ifLight", "(III)I"⟩
abbrev cX7_lasts : ByteArray := prog_1_method_22_code
def yX7_lasts : MethodName := ⟨RX7, "lasts", "(I)I"⟩
abbrev cX7_bestTrim : ByteArray := prog_1_method_23_code
def yX7_bestTrim : MethodName := ⟨RX7, "bestTrim", "(II)I"⟩
abbrev cX7_printsNeeded : ByteArray := prog_1_method_24_code
def yX7_printsNeeded : MethodName := ⟨RX7, "printsNeeded", "()I"⟩
abbrev cX7_put : ByteArray := prog_1_method_25_code
def yX7_put : MethodName := ⟨RX7, "put", "(J)I"⟩
abbrev cX7_wipe : ByteArray := prog_1_method_26_code
def yX7_wipe : MethodName := ⟨RX7, "wipe", "()I"⟩
abbrev cX7_fault : ByteArray := prog_1_method_27_code
def yX7_fault : MethodName := ⟨RX7, "fault", "()I"⟩
abbrev cX7_carryOut : ByteArray := prog_1_method_28_code
def yX7_carryOut : MethodName := ⟨RX7, "carryOut", "()I"⟩
abbrev cX7_undo : ByteArray := prog_1_method_29_code
def yX7_undo : MethodName := ⟨RX7, "undo", "()I"⟩
abbrev cX7_save : ByteArray := prog_1_method_30_code
def yX7_save : MethodName := ⟨RX7, "save", "(I)I"⟩
abbrev cX7_restore : ByteArray := prog_1_method_31_code
def yX7_restore : MethodName := ⟨RX7, "restore", "(I)I"⟩
abbrev cX7_recorded : ByteArray := prog_1_method_32_code
def yX7_recorded : MethodName := ⟨RX7, "recorded", "(I)I"⟩
abbrev cX7_carryOutOrder : ByteArray := prog_1_method_33_code
def yX7_carryOutOrder : MethodName := ⟨RX7, "carryOutOrder", "()I"⟩
abbrev cX7_isWithin : ByteArray := prog_1_method_34_code
def yX7_isWithin : MethodName := ⟨RX7, "isWithin", "(III)Z"⟩
abbrev cX7_isColour : ByteArray := prog_1_method_35_code
def yX7_isColour : MethodName := ⟨RX7, "isColour", "(I)Z"⟩
abbrev cX7_isPoints : ByteArray := prog_1_method_36_code
def yX7_isPoints : MethodName := ⟨RX7, "isPoints", "(I)Z"⟩
abbrev cX7_isSlot : ByteArray := prog_1_method_37_code
def yX7_isSlot : MethodName := ⟨RX7, "isSlot", "(I)Z"⟩
abbrev cX7_bounded : ByteArray := prog_1_method_38_code
def yX7_bounded : MethodName := ⟨RX7, "bounded", "(I)I"⟩
def RX8 : String := "TimingLightsModel"
def TX8 : u_T := fun k => match k with
  | 0 => ("TimingLightsModel", "state", "[I", true)
  | 1 => ("TimingLightsModel", "spare", "[I", true)
  | 2 => ("TimingLightsModel", "history", "[I", true)
  | 3 => ("TimingLightsModel", "states", "I", false)
  | 4 => ("TimingLightsModel", "slots", "[I", true)
  | 5 => ("TimingLightsModel", "isSaved", "[I", true)
  | 6 => ("TimingLightsModel", "pad", "[I", true)
  | 7 => ("TimingLightsModel", "length", "I", false)
  | 8 => ("TimingLightsModel", "at", "I", false)
  | 9 => ("TimingLightsModel", "sign", "I", false)
  | _ => ("TimingLightsModel", "number", "[I", true)
def tyX8 : Nat → FieldType := fun k => match k with
  | 0 => .array .int
  | 1 => .array .int
  | 2 => .array .int
  | 3 => .int
  | 4 => .array .int
  | 5 => .array .int
  | 6 => .array .int
  | 7 => .int
  | 8 => .int
  | 9 => .int
  | _ => .array .int
abbrev wsX80 : List Cond := u_ws RX8 TX8 11
theorem nmX8 : ∀ a, a < 11 → ∀ b, b < 11 → a ≠ b → (TX8 a).2.1 ≠ (TX8 b).2.1 := by decide +kernel
theorem tyX8_ok : ∀ k, k < 11 → parseFieldDescriptor (TX8 k).2.2.1 = some (tyX8 k) := by decide +kernel
abbrev cX8_init : ByteArray := prog_10_method_1_code
def yX8_init : MethodName := ⟨RX8, "<init>", "()V"⟩
abbrev cX8_within : ByteArray := prog_10_method_2_code
def yX8_within : MethodName := ⟨RX8, "within", "(III)Z"⟩
abbrev cX8_bounded : ByteArray := prog_10_method_3_code
def yX8_bounded : MethodName := ⟨RX8, "bounded", "(I)I"⟩
abbrev cX8_sizeOf : ByteArray := prog_10_method_4_code
def yX8_sizeOf : MethodName := ⟨RX8, "sizeOf", "(I)I"⟩
abbrev cX8_isShot : ByteArray := prog_10_method_5_code
def yX8_isShot : MethodName := ⟨RX8, "isShot", "(I)Z"⟩
abbrev cX8_isColour : ByteArray := prog_10_method_6_code
def yX8_isColour : MethodName := ⟨RX8, "isColour", "(I)Z"⟩
abbrev cX8_isPoints : ByteArray := prog_10_method_7_code
def yX8_isPoints : MethodName := ⟨RX8, "isPoints", "(I)Z"⟩
abbrev cX8_of14 : ByteArray := prog_10_method_8_code
def yX8_of14 : MethodName := ⟨RX8, "of14", "(II)I"⟩
abbrev cX8_setOf : ByteArray := prog_10_method_9_code
def yX8_setOf : MethodName := ⟨RX8, "setOf", "(III)V"⟩
abbrev cX8_putAside : ByteArray := prog_10_method_10_code
def yX8_putAside : MethodName := ⟨RX8, "putAside", "()V"⟩
abbrev cX8_takeBack : ByteArray := prog_10_method_11_code
def yX8_takeBack : MethodName := ⟨RX8, "takeBack", "()V"⟩
abbrev cX8_push : ByteArray := prog_10_method_12_code
def yX8_push : MethodName := ⟨RX8, "push", "()V"⟩
abbrev cX8_recorded : ByteArray := prog_10_method_13_code
def yX8_recorded : MethodName := ⟨RX8, "recorded", "(I)I"⟩
abbrev cX8_undo : ByteArray := prog_10_method_14_code
def yX8_undo : MethodName := ⟨RX8, "undo", "()I"⟩
abbrev cX8_isSlot : ByteArray := prog_10_method_15_code
def yX8_isSlot : MethodName := ⟨RX8, "isSlot", "(I)Z"⟩
abbrev cX8_save : ByteArray := prog_10_method_16_code
def yX8_save : MethodName := ⟨RX8, "save", "(I)I"⟩
abbrev cX8_restore : ByteArray := prog_10_method_17_code
def yX8_restore : MethodName := ⟨RX8, "restore", "(I)I"⟩
abbrev cX8_lost : ByteArray := prog_10_method_18_code
def yX8_lost : MethodName := ⟨RX8, "lost", "(I)I"⟩
abbrev cX8_printed : ByteArray := prog_10_method_19_code
def yX8_printed : MethodName := ⟨RX8, "printed", "(III)I"⟩
abbrev cX8_prints : ByteArray := prog_10_method_20_code
def yX8_prints : MethodName := ⟨RX8, "prints", "(II)I"⟩
abbrev cX8_off : ByteArray := prog_10_method_21_code
def yX8_off : MethodName := ⟨RX8, "off", "(II)I"⟩
abbrev cX8_isBad : ByteArray := prog_10_method_22_code
def yX8_isBad : MethodName := ⟨RX8, "isBad", "(I)Z"⟩
abbrev cX8_isOff : ByteArray := prog_10_method_23_code
def yX8_isOff : MethodName := ⟨RX8, "isOff", "(I)Z"⟩
abbrev cX8_isJump : ByteArray := prog_10_method_24_code
def yX8_isJump : MethodName := ⟨RX8, "isJump", "(I)Z"⟩
abbrev cX8_feetTo : ByteArray := prog_10_method_25_code
def yX8_feetTo : MethodName := ⟨RX8, "feetTo", "(I)I"⟩
abbrev cX8_takeAnswer : ByteArray := prog_10_method_26_code
def yX8_takeAnswer : MethodName := ⟨RX8, "takeAnswer", "(I)V"⟩
abbrev cX8_open : ByteArray := prog_10_method_27_code
def yX8_open : MethodName := ⟨RX8, "open", "(I)V"⟩
abbrev cX8_shut : ByteArray := prog_10_method_28_code
def yX8_shut : MethodName := ⟨RX8, "shut", "(I)V"⟩
abbrev cX8_comes : ByteArray := prog_10_method_29_code
def yX8_comes : MethodName := ⟨RX8, "comes", "(IIIII)I"⟩
abbrev cX8_lights : ByteArray := prog_10_method_30_code
def yX8_lights : MethodName := ⟨RX8, "lights", "(III)I"⟩
abbrev cX8_wishes : ByteArray := prog_10_method_31_code
def yX8_wishes : MethodName := ⟨RX8, "wishes", "(III)I"⟩
abbrev cX8_exchange : ByteArray := prog_10_method_32_code
def yX8_exchange : MethodName := ⟨RX8, "exchange", "(II)V"⟩
abbrev cX8_moves : ByteArray := prog_10_method_33_code
def yX8_moves : MethodName := ⟨RX8, "moves", "(II)I"⟩
abbrev cX8_splits : ByteArray := prog_10_method_34_code
def yX8_splits : MethodName := ⟨RX8, "splits", "(II)I"⟩
abbrev cX8_areAlike : ByteArray := prog_10_method_35_code
def yX8_areAlike : MethodName := ⟨RX8, "areAlike", "(I)Z"⟩
abbrev cX8_joins : ByteArray := prog_10_method_36_code
def yX8_joins : MethodName := ⟨RX8, "joins", "(I)I"⟩
abbrev cX8_badOnes : ByteArray := prog_10_method_37_code
def yX8_badOnes : MethodName := ⟨RX8, "badOnes", "()I"⟩
abbrev cX8_ones : ByteArray := prog_10_method_38_code
def yX8_ones : MethodName := ⟨RX8, "ones", "(I)I"⟩
abbrev cX8_hours : ByteArray := prog_10_method_39_code
def yX8_hours : MethodName := ⟨RX8, "hours", "()I"⟩
abbrev cX8_makePrint : ByteArray := prog_10_method_40_code
def yX8_makePrint : MethodName := ⟨RX8, "makePrint", "()V"⟩
abbrev cX8_oldest : ByteArray := prog_10_method_41_code
def yX8_oldest : MethodName := ⟨RX8, "oldest", "()I"⟩
abbrev cX8_makesPrint : ByteArray := prog_10_method_42_code
def yX8_makesPrint : MethodName := ⟨RX8, "makesPrint", "()I"⟩
abbrev cX8_correctOne : ByteArray := prog_10_method_43_code
def yX8_correctOne : MethodName := ⟨RX8, "correctOne", "(I)I"⟩
abbrev cX8_corrects : ByteArray := prog_10_method_44_code
def yX8_corrects : MethodName := ⟨RX8, "corrects", "(I)I"⟩
abbrev cX8_correctsAll : ByteArray := prog_10_method_45_code
def yX8_correctsAll : MethodName := ⟨RX8, "correctsAll", "()I"⟩
abbrev cX8_cards : ByteArray := prog_10_method_46_code
def yX8_cards : MethodName := ⟨RX8, "cards", "()I"⟩
abbrev cX8_mostOf : ByteArray := prog_10_method_47_code
def yX8_mostOf : MethodName := ⟨RX8, "mostOf", "(I)I"⟩
abbrev cX8_set : ByteArray := prog_10_method_48_code
def yX8_set : MethodName := ⟨RX8, "set", "(II)I"⟩
abbrev cX8_shot : ByteArray := prog_10_method_49_code
def yX8_shot : MethodName := ⟨RX8, "shot", "(IIIII)I"⟩
abbrev cX8_takeOut : ByteArray := prog_10_method_50_code
def yX8_takeOut : MethodName := ⟨RX8, "takeOut", "(I)I"⟩
abbrev cX8_light : ByteArray := prog_10_method_51_code
def yX8_light : MethodName := ⟨RX8, "light", "(III)I"⟩
abbrev cX8_wish : ByteArray := prog_10_method_52_code
def yX8_wish : MethodName := ⟨RX8, "wish", "(III)I"⟩
abbrev cX8_move : ByteArray := prog_10_method_53_code
def yX8_move : MethodName := ⟨RX8, "move", "(II)I"⟩
abbrev cX8_split : ByteArray := prog_10_method_54_code
def yX8_split : MethodName := ⟨RX8, "split", "(II)I"⟩
abbrev cX8_join : ByteArray := prog_10_method_55_code
def yX8_join : MethodName := ⟨RX8, "join", "(I)I"⟩
abbrev cX8_print : ByteArray := prog_10_method_56_code
def yX8_print : MethodName := ⟨RX8, "print", "()I"⟩
abbrev cX8_correct : ByteArray := prog_10_method_57_code
def yX8_correct : MethodName := ⟨RX8, "correct", "(I)I"⟩
abbrev cX8_correctAll : ByteArray := prog_10_method_58_code
def yX8_correctAll : MethodName := ⟨RX8, "correctAll", "()I"⟩
abbrev cX8_card : ByteArray := prog_10_method_59_code
def yX8_card : MethodName := ⟨RX8, "card", "()I"⟩
abbrev cX8_trim : ByteArray := prog_10_method_60_code
def yX8_trim : MethodName := ⟨RX8, "trim", "(II)I"⟩
abbrev cX8_lamp : ByteArray := prog_10_method_61_code
def yX8_lamp : MethodName := ⟨RX8, "lamp", "(I)I"⟩
abbrev cX8_of : ByteArray := prog_10_method_62_code
def yX8_of : MethodName := ⟨RX8, "of", "(II)I"⟩
abbrev cX8_answer : ByteArray := prog_10_method_63_code
def yX8_answer : MethodName := ⟨RX8, "answer", "(II)I"⟩
abbrev cX8_inColour : ByteArray := prog_10_method_64_code
def yX8_inColour : MethodName := ⟨RX8, "inColour", "(III)I"⟩
abbrev cX8_ofLamp : ByteArray := prog_10_method_65_code
def yX8_ofLamp : MethodName := ⟨RX8, "ofLamp", "(II)I"⟩
abbrev cX8_those : ByteArray := prog_10_method_66_code
def yX8_those : MethodName := ⟨RX8, "those", "(I)I"⟩
abbrev cX8_count : ByteArray := prog_10_method_67_code
def yX8_count : MethodName := ⟨RX8, "count", "(I)I"⟩
abbrev cX8_needed : ByteArray := prog_10_method_68_code
def yX8_needed : MethodName := ⟨RX8, "needed", "(II)I"⟩
abbrev cX8_needs : ByteArray := prog_10_method_69_code
def yX8_needs : MethodName := ⟨RX8, "needs", "(II)I"⟩
abbrev cX8_ifLight : ByteArray := prog_10_method_70_code
def yX8_ifLight : MethodName := ⟨RX8, "ifLight", "(III)I"⟩
abbrev cX8_isTooWeak : ByteArray := prog_10_method_71_code
def yX8_isTooWeak : MethodName := ⟨RX8, "isTooWeak", "(I)Z"⟩
abbrev cX8_lasts : ByteArray := prog_10_method_72_code
def yX8_lasts : MethodName := ⟨RX8, "lasts", "(I)I"⟩
abbrev cX8_allOff : ByteArray := prog_10_method_73_code
def yX8_allOff : MethodName := ⟨RX8, "allOff", "(I)I"⟩
abbrev cX8_bestTrim : ByteArray := prog_10_method_74_code
def yX8_bestTrim : MethodName := ⟨RX8, "bestTrim", "(II)I"⟩
abbrev cX8_printsNeeded : ByteArray := prog_10_method_75_code
def yX8_printsNeeded : MethodName := ⟨RX8, "printsNeeded", "()I"⟩
abbrev cX8_isCharacter : ByteArray := prog_10_method_76_code
def yX8_isCharacter : MethodName := ⟨RX8, "isCharacter", "(I)Z"⟩
abbrev cX8_charactersIn : ByteArray := prog_10_method_77_code
def yX8_charactersIn : MethodName := ⟨RX8, "charactersIn", "(J)I"⟩
abbrev cX8_put : ByteArray := prog_10_method_78_code
def yX8_put : MethodName := ⟨RX8, "put", "(J)I"⟩
abbrev cX8_wipe : ByteArray := prog_10_method_79_code
def yX8_wipe : MethodName := ⟨RX8, "wipe", "()I"⟩
abbrev cX8_code : ByteArray := prog_10_method_80_code
def yX8_code : MethodName := ⟨RX8, "code", "()I"⟩
abbrev cX8_takes : ByteArray := prog_10_method_81_code
def yX8_takes : MethodName := ⟨RX8, "takes", "(I)Z"⟩
abbrev cX8_readsNumber : ByteArray := prog_10_method_82_code
def yX8_readsNumber : MethodName := ⟨RX8, "readsNumber", "(I)Z"⟩
abbrev cX8_readsColour : ByteArray := prog_10_method_83_code
def yX8_readsColour : MethodName := ⟨RX8, "readsColour", "()Z"⟩
abbrev cX8_readsWish : ByteArray := prog_10_method_84_code
def yX8_readsWish : MethodName := ⟨RX8, "readsWish", "()Z"⟩
abbrev cX8_readsOrder : ByteArray := prog_10_method_85_code
def yX8_readsOrder : MethodName := ⟨RX8, "readsOrder", "()Z"⟩
abbrev cX8_findFault : ByteArray := prog_10_method_86_code
def yX8_findFault : MethodName := ⟨RX8, "findFault", "()I"⟩
abbrev cX8_fault : ByteArray := prog_10_method_87_code
def yX8_fault : MethodName := ⟨RX8, "fault", "()I"⟩
abbrev cX8_doesOrder : ByteArray := prog_10_method_88_code
def yX8_doesOrder : MethodName := ⟨RX8, "doesOrder", "()I"⟩
abbrev cX8_carryOut : ByteArray := prog_10_method_89_code
def yX8_carryOut : MethodName := ⟨RX8, "carryOut", "()I"⟩
def RJ9 : String := "java/lang/Math"
def TJ9 : u_T := fun k => match k with
  | _ => ("", "", "", false)
def tyJ9 : Nat → FieldType := fun k => match k with
  | _ => .int
abbrev wsJ90 : List Cond := u_ws RJ9 TJ9 0
theorem nmJ9 : ∀ a, a < 0 → ∀ b, b < 0 → a ≠ b → (TJ9 a).2.1 ≠ (TJ9 b).2.1 := by decide +kernel
theorem tyJ9_ok : ∀ k, k < 0 → parseFieldDescriptor (TJ9 k).2.2.1 = some (tyJ9 k) := by decide +kernel
abbrev cJ9_abs_0f7a4 : ByteArray := prog_11_method_59_code
def yJ9_abs_0f7a4 : MethodName := ⟨RJ9, "abs", "(I)I"⟩
abbrev cJ9_max_7cf53 : ByteArray := prog_11_method_65_code
def yJ9_max_7cf53 : MethodName := ⟨RJ9, "max", "(II)I"⟩
abbrev cJ9_min_7cf53 : ByteArray := prog_11_method_69_code
def yJ9_min_7cf53 : MethodName := ⟨RJ9, "min", "(II)I"⟩
def RJ0 : String := "java/lang/String"
def TJ0 : u_T := fun k => match k with
  | _ => ("", "", "", false)
def tyJ0 : Nat → FieldType := fun k => match k with
  | _ => .int
abbrev wsJ00 : List Cond := u_ws RJ0 TJ0 0
theorem nmJ0 : ∀ a, a < 0 → ∀ b, b < 0 → a ≠ b → (TJ0 a).2.1 ≠ (TJ0 b).2.1 := by decide +kernel
theorem tyJ0_ok : ∀ k, k < 0 → parseFieldDescriptor (TJ0 k).2.2.1 = some (tyJ0 k) := by decide +kernel
abbrev cJ0_length_8abf5 : ByteArray := prog_12_method_54_code
def yJ0_length_8abf5 : MethodName := ⟨RJ0, "length", "()I"⟩
abbrev cJ0_isEmpty_aae02 : ByteArray := prog_12_method_55_code
def yJ0_isEmpty_aae02 : MethodName := ⟨RJ0, "isEmpty", "()Z"⟩
abbrev cJ0_charAt_5068e : ByteArray := prog_12_method_56_code
def yJ0_charAt_5068e : MethodName := ⟨RJ0, "charAt", "(I)C"⟩
abbrev cJ0_coder_7d493 : ByteArray := prog_12_method_152_code
def yJ0_coder_7d493 : MethodName := ⟨RJ0, "coder", "()B"⟩
abbrev cJ0_isLatin1_aae02 : ByteArray := prog_12_method_154_code
def yJ0_isLatin1_aae02 : MethodName := ⟨RJ0, "isLatin1", "()Z"⟩
abbrev cJ0_checkIndex_df160 : ByteArray := prog_12_method_155_code
def yJ0_checkIndex_df160 : MethodName := ⟨RJ0, "checkIndex", "(II)V"⟩
def RJ1 : String := "java/lang/StringLatin1"
def TJ1 : u_T := fun k => match k with
  | _ => ("", "", "", false)
def tyJ1 : Nat → FieldType := fun k => match k with
  | _ => .int
abbrev wsJ10 : List Cond := u_ws RJ1 TJ1 0
theorem nmJ1 : ∀ a, a < 0 → ∀ b, b < 0 → a ≠ b → (TJ1 a).2.1 ≠ (TJ1 b).2.1 := by decide +kernel
theorem tyJ1_ok : ∀ k, k < 0 → parseFieldDescriptor (TJ1 k).2.2.1 = some (tyJ1 k) := by decide +kernel
abbrev cJ1_charAt_3b067 : ByteArray := prog_13_method_2_code
def yJ1_charAt_3b067 : MethodName := ⟨RJ1, "charAt", "([BI)C"⟩
def RJ2 : String := "java/lang/StringUTF16"
def TJ2 : u_T := fun k => match k with
  | _ => ("", "", "", false)
def tyJ2 : Nat → FieldType := fun k => match k with
  | _ => .int
abbrev wsJ20 : List Cond := u_ws RJ2 TJ2 0
theorem nmJ2 : ∀ a, a < 0 → ∀ b, b < 0 → a ≠ b → (TJ2 a).2.1 ≠ (TJ2 b).2.1 := by decide +kernel
theorem tyJ2_ok : ∀ k, k < 0 → parseFieldDescriptor (TJ2 k).2.2.1 = some (tyJ2 k) := by decide +kernel
abbrev cJ2_getChar_3b067 : ByteArray := prog_14_method_5_code
def yJ2_getChar_3b067 : MethodName := ⟨RJ2, "getChar", "([BI)C"⟩
abbrev cJ2_length_9d52b : ByteArray := prog_14_method_6_code
def yJ2_length_9d52b : MethodName := ⟨RJ2, "length", "([B)I"⟩
abbrev cJ2_charAt_3b067 : ByteArray := prog_14_method_83_code
def yJ2_charAt_3b067 : MethodName := ⟨RJ2, "charAt", "([BI)C"⟩
abbrev cJ2_checkIndex_2214a : ByteArray := prog_14_method_91_code
def yJ2_checkIndex_2214a : MethodName := ⟨RJ2, "checkIndex", "(I[B)V"⟩
def RJ10 : String := "java/lang/System"
def TJ10 : u_T := fun k => match k with
  | _ => ("", "", "", false)
def tyJ10 : Nat → FieldType := fun k => match k with
  | _ => .int
abbrev wsJ100 : List Cond := u_ws RJ10 TJ10 0
theorem nmJ10 : ∀ a, a < 0 → ∀ b, b < 0 → a ≠ b → (TJ10 a).2.1 ≠ (TJ10 b).2.1 := by decide +kernel
theorem tyJ10_ok : ∀ k, k < 0 → parseFieldDescriptor (TJ10 k).2.2.1 = some (tyJ10 k) := by decide +kernel
def RJ3 : String := "jdk/internal/util/Preconditions"
def TJ3 : u_T := fun k => match k with
  | _ => ("", "", "", false)
def tyJ3 : Nat → FieldType := fun k => match k with
  | _ => .int
abbrev wsJ30 : List Cond := u_ws RJ3 TJ3 0
theorem nmJ3 : ∀ a, a < 0 → ∀ b, b < 0 → a ≠ b → (TJ3 a).2.1 ≠ (TJ3 b).2.1 := by decide +kernel
theorem tyJ3_ok : ∀ k, k < 0 → parseFieldDescriptor (TJ3 k).2.2.1 = some (tyJ3 k) := by decide +kernel
abbrev cJ3_checkIndex_8e157 : ByteArray := prog_16_method_11_code
def yJ3_checkIndex_8e157 : MethodName := ⟨RJ3, "checkIndex", "(IILjava/util/function/BiFunction;)I"⟩
def RL : String := "TimingLightsLaw"
abbrev cL_law : ByteArray := code
def yL_law : MethodName := ⟨RL, "law", "([I)Z"⟩
abbrev vwCl : List vw_C := [(RX1, TX1, 3), (RX2, TX2, 8), (RX3, TX3, 1), (RX4, TX4, 1), (RX7, TX7, 7), (RX8, TX8, 11)]
/-- the tables' words that stay: one list for every method -/
def bw : List Cond := lw_tbl.filter goodWord
theorem bw_of {w : Cond} {i : Nat} (h : lw_tbl[i]? = some w) (g : goodWord w = true) : w ∈ bw := List.mem_filter.mpr ⟨List.mem_of_getElem? h, g⟩
theorem bw_hts {args : Array Value} {s : State} (h : ∀ w ∈ lw_tbl, w.before args s = true) : ∀ w ∈ bw, w.before args s = true := fun w hw => h w (List.mem_filter.mp hw).1
theorem bw_good {y : MethodName} {c : ByteArray} {n : Nat} {r : Option FieldType} (h : Cond.code y c n r ∈ bw) : GoodIn bw (Cond.code y c n r :: bw) := by
  have g : ∀ w ∈ bw, w ∈ bw ∧ ((w.onTables && w.keeps) = true ∨ ∃ ty, w = .arrayClass ty) := fun w hw => ⟨hw, good_of_word (List.mem_filter.mp hw).2⟩
  intro w hw
  rcases List.mem_cons.mp hw with e | e
  · rw [e]; exact g _ h
  · exact g _ e
theorem bw_0 : (.selects RX7 yX7_recorded yX7_recorded : Cond) ∈ bw := bw_of (i := 0) (by decide +kernel) rfl
theorem bw_1 : (.selects RX2 yX2_write yX2_write : Cond) ∈ bw := bw_of (i := 1) (by decide +kernel) rfl
theorem bw_2 : (.selects RX2 yX2_readSign yX2_readSign : Cond) ∈ bw := bw_of (i := 2) (by decide +kernel) rfl
theorem bw_3 : (.selects RX2 yX2_here yX2_here : Cond) ∈ bw := bw_of (i := 3) (by decide +kernel) rfl
theorem bw_4 : (.selects RX2 yX2_readPart yX2_readPart : Cond) ∈ bw := bw_of (i := 4) (by decide +kernel) rfl
theorem bw_5 : (.selects RX2 yX2_readNumber yX2_readNumber : Cond) ∈ bw := bw_of (i := 5) (by decide +kernel) rfl
theorem bw_6 : (.selects RX2 yX2_isDigitHere yX2_isDigitHere : Cond) ∈ bw := bw_of (i := 6) (by decide +kernel) rfl
theorem bw_7 : (.selects RX2 yX2_readColour yX2_readColour : Cond) ∈ bw := bw_of (i := 7) (by decide +kernel) rfl
theorem bw_8 : (.selects RX7 yX7_carryOutOrder yX7_carryOutOrder : Cond) ∈ bw := bw_of (i := 8) (by decide +kernel) rfl
theorem bw_9 : (.selects RX8 yX8_putAside yX8_putAside : Cond) ∈ bw := bw_of (i := 9) (by decide +kernel) rfl
theorem bw_10 : (.selects RX8 yX8_push yX8_push : Cond) ∈ bw := bw_of (i := 10) (by decide +kernel) rfl
theorem bw_11 : (.selects RX8 yX8_recorded yX8_recorded : Cond) ∈ bw := bw_of (i := 11) (by decide +kernel) rfl
theorem bw_12 : (.selects RX8 yX8_comes yX8_comes : Cond) ∈ bw := bw_of (i := 12) (by decide +kernel) rfl
theorem bw_13 : (.selects RX8 yX8_open yX8_open : Cond) ∈ bw := bw_of (i := 13) (by decide +kernel) rfl
theorem bw_14 : (.selects RX8 yX8_setOf yX8_setOf : Cond) ∈ bw := bw_of (i := 14) (by decide +kernel) rfl
theorem bw_15 : (.selects RX8 yX8_takeAnswer yX8_takeAnswer : Cond) ∈ bw := bw_of (i := 15) (by decide +kernel) rfl
theorem bw_16 : (.selects RX8 yX8_isShot yX8_isShot : Cond) ∈ bw := bw_of (i := 16) (by decide +kernel) rfl
theorem bw_17 : (.selects RX8 yX8_shut yX8_shut : Cond) ∈ bw := bw_of (i := 17) (by decide +kernel) rfl
theorem bw_18 : (.selects RX8 yX8_lights yX8_lights : Cond) ∈ bw := bw_of (i := 18) (by decide +kernel) rfl
theorem bw_19 : (.selects RX8 yX8_of14 yX8_of14 : Cond) ∈ bw := bw_of (i := 19) (by decide +kernel) rfl
theorem bw_20 : (.selects RX8 yX8_wishes yX8_wishes : Cond) ∈ bw := bw_of (i := 20) (by decide +kernel) rfl
theorem bw_21 : (.selects RX8 yX8_moves yX8_moves : Cond) ∈ bw := bw_of (i := 21) (by decide +kernel) rfl
theorem bw_22 : (.selects RX8 yX8_exchange yX8_exchange : Cond) ∈ bw := bw_of (i := 22) (by decide +kernel) rfl
theorem bw_23 : (.selects RX8 yX8_splits yX8_splits : Cond) ∈ bw := bw_of (i := 23) (by decide +kernel) rfl
theorem bw_24 : (.selects RX8 yX8_joins yX8_joins : Cond) ∈ bw := bw_of (i := 24) (by decide +kernel) rfl
theorem bw_25 : (.selects RX8 yX8_areAlike yX8_areAlike : Cond) ∈ bw := bw_of (i := 25) (by decide +kernel) rfl
theorem bw_26 : (.selects RX8 yX8_makesPrint yX8_makesPrint : Cond) ∈ bw := bw_of (i := 26) (by decide +kernel) rfl
theorem bw_27 : (.selects RX8 yX8_oldest yX8_oldest : Cond) ∈ bw := bw_of (i := 27) (by decide +kernel) rfl
theorem bw_28 : (.selects RX8 yX8_hours yX8_hours : Cond) ∈ bw := bw_of (i := 28) (by decide +kernel) rfl
theorem bw_29 : (.selects RX8 yX8_feetTo yX8_feetTo : Cond) ∈ bw := bw_of (i := 29) (by decide +kernel) rfl
theorem bw_30 : (.selects RX8 yX8_makePrint yX8_makePrint : Cond) ∈ bw := bw_of (i := 30) (by decide +kernel) rfl
theorem bw_31 : (.selects RX8 yX8_off yX8_off : Cond) ∈ bw := bw_of (i := 31) (by decide +kernel) rfl
theorem bw_32 : (.selects RX8 yX8_prints yX8_prints : Cond) ∈ bw := bw_of (i := 32) (by decide +kernel) rfl
theorem bw_33 : (.selects RX8 yX8_printed yX8_printed : Cond) ∈ bw := bw_of (i := 33) (by decide +kernel) rfl
theorem bw_34 : (.selects RX8 yX8_lost yX8_lost : Cond) ∈ bw := bw_of (i := 34) (by decide +kernel) rfl
theorem bw_35 : (.selects RX8 yX8_badOnes yX8_badOnes : Cond) ∈ bw := bw_of (i := 35) (by decide +kernel) rfl
theorem bw_36 : (.selects RX8 yX8_isBad yX8_isBad : Cond) ∈ bw := bw_of (i := 36) (by decide +kernel) rfl
theorem bw_37 : (.selects RX8 yX8_corrects yX8_corrects : Cond) ∈ bw := bw_of (i := 37) (by decide +kernel) rfl
theorem bw_38 : (.selects RX8 yX8_correctOne yX8_correctOne : Cond) ∈ bw := bw_of (i := 38) (by decide +kernel) rfl
theorem bw_39 : (.selects RX8 yX8_correctsAll yX8_correctsAll : Cond) ∈ bw := bw_of (i := 39) (by decide +kernel) rfl
theorem bw_40 : (.selects RX8 yX8_cards yX8_cards : Cond) ∈ bw := bw_of (i := 40) (by decide +kernel) rfl
theorem bw_41 : (.selects RX8 yX8_isJump yX8_isJump : Cond) ∈ bw := bw_of (i := 41) (by decide +kernel) rfl
theorem bw_42 : (.selects RX8 yX8_answer yX8_answer : Cond) ∈ bw := bw_of (i := 42) (by decide +kernel) rfl
theorem bw_43 : (.selects RX8 yX8_those yX8_those : Cond) ∈ bw := bw_of (i := 43) (by decide +kernel) rfl
theorem bw_44 : (.selects RX8 yX8_isOff yX8_isOff : Cond) ∈ bw := bw_of (i := 44) (by decide +kernel) rfl
theorem bw_45 : (.selects RX8 yX8_needed yX8_needed : Cond) ∈ bw := bw_of (i := 45) (by decide +kernel) rfl
theorem bw_46 : (.selects RX8 yX8_isTooWeak yX8_isTooWeak : Cond) ∈ bw := bw_of (i := 46) (by decide +kernel) rfl
theorem bw_47 : (.selects RX8 yX8_allOff yX8_allOff : Cond) ∈ bw := bw_of (i := 47) (by decide +kernel) rfl
theorem bw_48 : (.selects RX8 yX8_takeBack yX8_takeBack : Cond) ∈ bw := bw_of (i := 48) (by decide +kernel) rfl
theorem bw_49 : (.selects RX8 yX8_findFault yX8_findFault : Cond) ∈ bw := bw_of (i := 49) (by decide +kernel) rfl
theorem bw_50 : (.selects RX8 yX8_readsOrder yX8_readsOrder : Cond) ∈ bw := bw_of (i := 50) (by decide +kernel) rfl
theorem bw_51 : (.selects RX8 yX8_code yX8_code : Cond) ∈ bw := bw_of (i := 51) (by decide +kernel) rfl
theorem bw_52 : (.selects RX8 yX8_readsNumber yX8_readsNumber : Cond) ∈ bw := bw_of (i := 52) (by decide +kernel) rfl
theorem bw_53 : (.selects RX8 yX8_takes yX8_takes : Cond) ∈ bw := bw_of (i := 53) (by decide +kernel) rfl
theorem bw_54 : (.selects RX8 yX8_readsColour yX8_readsColour : Cond) ∈ bw := bw_of (i := 54) (by decide +kernel) rfl
theorem bw_55 : (.selects RX8 yX8_readsWish yX8_readsWish : Cond) ∈ bw := bw_of (i := 55) (by decide +kernel) rfl
theorem bw_56 : (.selects RX8 yX8_doesOrder yX8_doesOrder : Cond) ∈ bw := bw_of (i := 56) (by decide +kernel) rfl
theorem bw_57 : (.initialized RL : Cond) ∈ bw := bw_of (i := 57) (by decide +kernel) rfl
theorem bw_58 : (.initialized RX7 : Cond) ∈ bw := bw_of (i := 58) (by decide +kernel) rfl
theorem bw_59 : (.initialized RX3 : Cond) ∈ bw := bw_of (i := 59) (by decide +kernel) rfl
theorem bw_60 : (.initialized RJ10 : Cond) ∈ bw := bw_of (i := 60) (by decide +kernel) rfl
theorem bw_61 : (.initialized RX2 : Cond) ∈ bw := bw_of (i := 61) (by decide +kernel) rfl
theorem bw_62 : (.initialized RX1 : Cond) ∈ bw := bw_of (i := 62) (by decide +kernel) rfl
theorem bw_63 : (.initialized RX4 : Cond) ∈ bw := bw_of (i := 63) (by decide +kernel) rfl
theorem bw_64 : (.initialized RJ9 : Cond) ∈ bw := bw_of (i := 64) (by decide +kernel) rfl
theorem bw_65 : (.initialized RX8 : Cond) ∈ bw := bw_of (i := 65) (by decide +kernel) rfl
theorem bw_66 : (.initialized RX0 : Cond) ∈ bw := bw_of (i := 66) (by decide +kernel) rfl
theorem bw_67 : (.initialized RX5 : Cond) ∈ bw := bw_of (i := 67) (by decide +kernel) rfl
theorem bw_68 : (.initialized RX6 : Cond) ∈ bw := bw_of (i := 68) (by decide +kernel) rfl
theorem bw_69 : (.initialized RJ0 : Cond) ∈ bw := bw_of (i := 69) (by decide +kernel) rfl
theorem bw_70 : (.initialized RJ1 : Cond) ∈ bw := bw_of (i := 70) (by decide +kernel) rfl
theorem bw_71 : (.initialized RJ3 : Cond) ∈ bw := bw_of (i := 71) (by decide +kernel) rfl
theorem bw_72 : (.initialized RJ2 : Cond) ∈ bw := bw_of (i := 72) (by decide +kernel) rfl
theorem bw_73 : (.classLink RL 7 "TimingLights" : Cond) ∈ bw := bw_of (i := 73) (by decide +kernel) rfl
theorem bw_74 : (.instantiable RX7 7 : Cond) ∈ bw := bw_of (i := 74) (by decide +kernel) rfl
theorem bw_75 : (.methodLink RL 9 yX7_init : Cond) ∈ bw := bw_of (i := 75) (by decide +kernel) rfl
theorem bw_76 : (.instanceMethod yX7_init : Cond) ∈ bw := bw_of (i := 76) (by decide +kernel) rfl
theorem bw_77 : (.code yX7_init cX7_init 1 (Option.none : Option Jvm.ClassFile.FieldType) : Cond) ∈ bw := bw_of (i := 77) (by decide +kernel) rfl
theorem bw_78 : (.methodLink RX7 1 Lib.objectInit : Cond) ∈ bw := bw_of (i := 78) (by decide +kernel) rfl
theorem bw_79 : (.instanceMethod Lib.objectInit : Cond) ∈ bw := bw_of (i := 79) (by decide +kernel) rfl
theorem bw_80 : (.code Lib.objectInit object_method_1_code 1 (Option.none : Option Jvm.ClassFile.FieldType) : Cond) ∈ bw := bw_of (i := 80) (by decide +kernel) rfl
theorem bw_81 : (.classLink RX7 7 "TimingLights$Reel" : Cond) ∈ bw := bw_of (i := 81) (by decide +kernel) rfl
theorem bw_82 : (.instantiable RX3 1 : Cond) ∈ bw := bw_of (i := 82) (by decide +kernel) rfl
theorem bw_83 : (.methodLink RX7 9 yX3_init : Cond) ∈ bw := bw_of (i := 83) (by decide +kernel) rfl
theorem bw_84 : (.instanceMethod yX3_init : Cond) ∈ bw := bw_of (i := 84) (by decide +kernel) rfl
theorem bw_85 : (.code yX3_init cX3_init 1 (Option.none : Option Jvm.ClassFile.FieldType) : Cond) ∈ bw := bw_of (i := 85) (by decide +kernel) rfl
theorem bw_86 : (.methodLink RX3 5 Lib.objectInit : Cond) ∈ bw := bw_of (i := 86) (by decide +kernel) rfl
theorem bw_89 : (.methodLink RX3 18 arraycopyName : Cond) ∈ bw := bw_of (i := 89) (by decide +kernel) rfl
theorem bw_90 : (.static arraycopyName : Cond) ∈ bw := bw_of (i := 90) (by decide +kernel) rfl
theorem bw_91 : (.native arraycopyName : Cond) ∈ bw := bw_of (i := 91) (by decide +kernel) rfl
theorem bw_92 : (.fieldLink RX3 11 "TimingLights$Reel" "cells" "[I" : Cond) ∈ bw := bw_of (i := 92) (by decide +kernel) rfl
theorem bw_93 : (.laysFinal RX3 "TimingLights$Reel" "cells" "[I" : Cond) ∈ bw := bw_of (i := 93) (by decide +kernel) rfl
theorem bw_96 : (.arrayClass .int : Cond) ∈ bw := bw_of (i := 96) (by decide +kernel) rfl
theorem bw_97 : (.classLink RX7 22 "TimingLights$Pad" : Cond) ∈ bw := bw_of (i := 97) (by decide +kernel) rfl
theorem bw_98 : (.instantiable RX2 8 : Cond) ∈ bw := bw_of (i := 98) (by decide +kernel) rfl
theorem bw_99 : (.methodLink RX7 24 yX2_init : Cond) ∈ bw := bw_of (i := 99) (by decide +kernel) rfl
theorem bw_100 : (.instanceMethod yX2_init : Cond) ∈ bw := bw_of (i := 100) (by decide +kernel) rfl
theorem bw_101 : (.code yX2_init cX2_init 1 (Option.none : Option Jvm.ClassFile.FieldType) : Cond) ∈ bw := bw_of (i := 101) (by decide +kernel) rfl
theorem bw_102 : (.methodLink RX2 3 Lib.objectInit : Cond) ∈ bw := bw_of (i := 102) (by decide +kernel) rfl
theorem bw_103 : (.fieldLink RX2 11 "TimingLights$Pad" "characters" "[C" : Cond) ∈ bw := bw_of (i := 103) (by decide +kernel) rfl
theorem bw_104 : (.fieldLink RX2 15 "TimingLights$Pad" "numbers" "[I" : Cond) ∈ bw := bw_of (i := 104) (by decide +kernel) rfl
theorem bw_105 : (.fieldLink RX2 19 "TimingLights$Pad" "length" "I" : Cond) ∈ bw := bw_of (i := 105) (by decide +kernel) rfl
theorem bw_106 : (.fieldLink RX2 54 "TimingLights$Pad" "at" "I" : Cond) ∈ bw := bw_of (i := 106) (by decide +kernel) rfl
theorem bw_107 : (.fieldLink RX2 61 "TimingLights$Pad" "numbersRead" "I" : Cond) ∈ bw := bw_of (i := 107) (by decide +kernel) rfl
theorem bw_108 : (.fieldLink RX2 23 "TimingLights$Pad" "letter" "I" : Cond) ∈ bw := bw_of (i := 108) (by decide +kernel) rfl
theorem bw_109 : (.fieldLink RX2 26 "TimingLights$Pad" "colour" "I" : Cond) ∈ bw := bw_of (i := 109) (by decide +kernel) rfl
theorem bw_110 : (.fieldLink RX2 29 "TimingLights$Pad" "minus" "Z" : Cond) ∈ bw := bw_of (i := 110) (by decide +kernel) rfl
theorem bw_111 : (.laysFinal RX2 "TimingLights$Pad" "characters" "[C" : Cond) ∈ bw := bw_of (i := 111) (by decide +kernel) rfl
theorem bw_113 : (.laysFinal RX2 "TimingLights$Pad" "numbers" "[I" : Cond) ∈ bw := bw_of (i := 113) (by decide +kernel) rfl
theorem bw_115 : (.lays RX2 "TimingLights$Pad" "length" "I" : Cond) ∈ bw := bw_of (i := 115) (by decide +kernel) rfl
theorem bw_117 : (.lays RX2 "TimingLights$Pad" "at" "I" : Cond) ∈ bw := bw_of (i := 117) (by decide +kernel) rfl
theorem bw_119 : (.lays RX2 "TimingLights$Pad" "numbersRead" "I" : Cond) ∈ bw := bw_of (i := 119) (by decide +kernel) rfl
theorem bw_121 : (.lays RX2 "TimingLights$Pad" "letter" "I" : Cond) ∈ bw := bw_of (i := 121) (by decide +kernel) rfl
theorem bw_123 : (.lays RX2 "TimingLights$Pad" "colour" "I" : Cond) ∈ bw := bw_of (i := 123) (by decide +kernel) rfl
theorem bw_125 : (.lays RX2 "TimingLights$Pad" "minus" "Z" : Cond) ∈ bw := bw_of (i := 125) (by decide +kernel) rfl
theorem bw_128 : (.arrayClass .char : Cond) ∈ bw := bw_of (i := 128) (by decide +kernel) rfl
theorem bw_129 : (.classLink RX7 29 "TimingLights$History" : Cond) ∈ bw := bw_of (i := 129) (by decide +kernel) rfl
theorem bw_130 : (.instantiable RX1 3 : Cond) ∈ bw := bw_of (i := 130) (by decide +kernel) rfl
theorem bw_131 : (.methodLink RX7 31 yX1_init : Cond) ∈ bw := bw_of (i := 131) (by decide +kernel) rfl
theorem bw_132 : (.instanceMethod yX1_init : Cond) ∈ bw := bw_of (i := 132) (by decide +kernel) rfl
theorem bw_133 : (.code yX1_init cX1_init 1 (Option.none : Option Jvm.ClassFile.FieldType) : Cond) ∈ bw := bw_of (i := 133) (by decide +kernel) rfl
theorem bw_134 : (.methodLink RX1 1 Lib.objectInit : Cond) ∈ bw := bw_of (i := 134) (by decide +kernel) rfl
theorem bw_135 : (.classLink RX1 7 "TimingLights$Shelf" : Cond) ∈ bw := bw_of (i := 135) (by decide +kernel) rfl
theorem bw_136 : (.instantiable RX4 1 : Cond) ∈ bw := bw_of (i := 136) (by decide +kernel) rfl
theorem bw_137 : (.methodLink RX1 11 yX4_init : Cond) ∈ bw := bw_of (i := 137) (by decide +kernel) rfl
theorem bw_138 : (.instanceMethod yX4_init : Cond) ∈ bw := bw_of (i := 138) (by decide +kernel) rfl
theorem bw_139 : (.code yX4_init cX4_init 2 (Option.none : Option Jvm.ClassFile.FieldType) : Cond) ∈ bw := bw_of (i := 139) (by decide +kernel) rfl
theorem bw_140 : (.methodLink RX4 1 Lib.objectInit : Cond) ∈ bw := bw_of (i := 140) (by decide +kernel) rfl
theorem bw_141 : (.methodLink RX4 7 Lib.Math.max.name : Cond) ∈ bw := bw_of (i := 141) (by decide +kernel) rfl
theorem bw_142 : (.static Lib.Math.max.name : Cond) ∈ bw := bw_of (i := 142) (by decide +kernel) rfl
theorem bw_143 : (.code Lib.Math.max.name cJ9_max_7cf53 2 (some .int) : Cond) ∈ bw := bw_of (i := 143) (by decide +kernel) rfl
theorem bw_144 : (.fieldLink RX4 15 "TimingLights$Shelf" "rows" "[I" : Cond) ∈ bw := bw_of (i := 144) (by decide +kernel) rfl
theorem bw_145 : (.laysFinal RX4 "TimingLights$Shelf" "rows" "[I" : Cond) ∈ bw := bw_of (i := 145) (by decide +kernel) rfl
theorem bw_148 : (.fieldLink RX1 14 "TimingLights$History" "shelf" "LTimingLights$Shelf;" : Cond) ∈ bw := bw_of (i := 148) (by decide +kernel) rfl
theorem bw_149 : (.fieldLink RX1 22 "TimingLights$History" "oldest" "I" : Cond) ∈ bw := bw_of (i := 149) (by decide +kernel) rfl
theorem bw_150 : (.fieldLink RX1 18 "TimingLights$History" "size" "I" : Cond) ∈ bw := bw_of (i := 150) (by decide +kernel) rfl
theorem bw_151 : (.laysFinal RX1 "TimingLights$History" "shelf" "LTimingLights$Shelf;" : Cond) ∈ bw := bw_of (i := 151) (by decide +kernel) rfl
theorem bw_153 : (.lays RX1 "TimingLights$History" "oldest" "I" : Cond) ∈ bw := bw_of (i := 153) (by decide +kernel) rfl
theorem bw_155 : (.lays RX1 "TimingLights$History" "size" "I" : Cond) ∈ bw := bw_of (i := 155) (by decide +kernel) rfl
theorem bw_158 : (.classLink RX7 36 "TimingLights$Shelf" : Cond) ∈ bw := bw_of (i := 158) (by decide +kernel) rfl
theorem bw_159 : (.methodLink RX7 38 yX4_init : Cond) ∈ bw := bw_of (i := 159) (by decide +kernel) rfl
theorem bw_160 : (.fieldLink RX7 10 "TimingLights" "reel" "LTimingLights$Reel;" : Cond) ∈ bw := bw_of (i := 160) (by decide +kernel) rfl
theorem bw_161 : (.fieldLink RX7 16 "TimingLights" "before" "LTimingLights$Reel;" : Cond) ∈ bw := bw_of (i := 161) (by decide +kernel) rfl
theorem bw_162 : (.fieldLink RX7 19 "TimingLights" "trial" "LTimingLights$Reel;" : Cond) ∈ bw := bw_of (i := 162) (by decide +kernel) rfl
theorem bw_163 : (.fieldLink RX7 25 "TimingLights" "pad" "LTimingLights$Pad;" : Cond) ∈ bw := bw_of (i := 163) (by decide +kernel) rfl
theorem bw_164 : (.fieldLink RX7 32 "TimingLights" "history" "LTimingLights$History;" : Cond) ∈ bw := bw_of (i := 164) (by decide +kernel) rfl
theorem bw_165 : (.fieldLink RX7 41 "TimingLights" "slots" "LTimingLights$Shelf;" : Cond) ∈ bw := bw_of (i := 165) (by decide +kernel) rfl
theorem bw_166 : (.fieldLink RX7 211 "TimingLights" "slotsFilled" "I" : Cond) ∈ bw := bw_of (i := 166) (by decide +kernel) rfl
theorem bw_167 : (.laysFinal RX7 "TimingLights" "reel" "LTimingLights$Reel;" : Cond) ∈ bw := bw_of (i := 167) (by decide +kernel) rfl
theorem bw_169 : (.laysFinal RX7 "TimingLights" "before" "LTimingLights$Reel;" : Cond) ∈ bw := bw_of (i := 169) (by decide +kernel) rfl
theorem bw_171 : (.laysFinal RX7 "TimingLights" "trial" "LTimingLights$Reel;" : Cond) ∈ bw := bw_of (i := 171) (by decide +kernel) rfl
theorem bw_173 : (.laysFinal RX7 "TimingLights" "pad" "LTimingLights$Pad;" : Cond) ∈ bw := bw_of (i := 173) (by decide +kernel) rfl
theorem bw_175 : (.laysFinal RX7 "TimingLights" "history" "LTimingLights$History;" : Cond) ∈ bw := bw_of (i := 175) (by decide +kernel) rfl
theorem bw_177 : (.laysFinal RX7 "TimingLights" "slots" "LTimingLights$Shelf;" : Cond) ∈ bw := bw_of (i := 177) (by decide +kernel) rfl
theorem bw_179 : (.lays RX7 "TimingLights" "slotsFilled" "I" : Cond) ∈ bw := bw_of (i := 179) (by decide +kernel) rfl
theorem bw_182 : (.methodLink RL 13 yX7_set : Cond) ∈ bw := bw_of (i := 182) (by decide +kernel) rfl
theorem bw_183 : (.instanceMethod yX7_set : Cond) ∈ bw := bw_of (i := 183) (by decide +kernel) rfl
theorem bw_184 : (.selects RX7 yX7_set yX7_set : Cond) ∈ bw := bw_of (i := 184) (by decide +kernel) rfl
theorem bw_185 : (.code yX7_set cX7_set 3 (some .int) : Cond) ∈ bw := bw_of (i := 185) (by decide +kernel) rfl
theorem bw_186 : (.methodLink RX7 45 yX3_become : Cond) ∈ bw := bw_of (i := 186) (by decide +kernel) rfl
theorem bw_187 : (.instanceMethod yX3_become : Cond) ∈ bw := bw_of (i := 187) (by decide +kernel) rfl
theorem bw_188 : (.selects RX3 yX3_become yX3_become : Cond) ∈ bw := bw_of (i := 188) (by decide +kernel) rfl
theorem bw_189 : (.code yX3_become cX3_become 2 (Option.none : Option Jvm.ClassFile.FieldType) : Cond) ∈ bw := bw_of (i := 189) (by decide +kernel) rfl
theorem bw_190 : (.methodLink RX7 49 yX0_changeSetting : Cond) ∈ bw := bw_of (i := 190) (by decide +kernel) rfl
theorem bw_191 : (.static yX0_changeSetting : Cond) ∈ bw := bw_of (i := 191) (by decide +kernel) rfl
theorem bw_192 : (.code yX0_changeSetting cX0_changeSetting 3 (some .int) : Cond) ∈ bw := bw_of (i := 192) (by decide +kernel) rfl
theorem bw_194 : (.static yX7_isWithin : Cond) ∈ bw := bw_of (i := 194) (by decide +kernel) rfl
theorem bw_195 : (.code yX7_isWithin cX7_isWithin 3 (some .boolean) : Cond) ∈ bw := bw_of (i := 195) (by decide +kernel) rfl
theorem bw_200 : (.methodLink RX0 22 yX0_exchange : Cond) ∈ bw := bw_of (i := 200) (by decide +kernel) rfl
theorem bw_201 : (.static yX0_exchange : Cond) ∈ bw := bw_of (i := 201) (by decide +kernel) rfl
theorem bw_202 : (.code yX0_exchange cX0_exchange 4 (some .int) : Cond) ∈ bw := bw_of (i := 202) (by decide +kernel) rfl
theorem bw_203 : (.methodLink RX0 75 yX3_read : Cond) ∈ bw := bw_of (i := 203) (by decide +kernel) rfl
theorem bw_204 : (.instanceMethod yX3_read : Cond) ∈ bw := bw_of (i := 204) (by decide +kernel) rfl
theorem bw_205 : (.selects RX3 yX3_read yX3_read : Cond) ∈ bw := bw_of (i := 205) (by decide +kernel) rfl
theorem bw_206 : (.code yX3_read cX3_read 2 (some .int) : Cond) ∈ bw := bw_of (i := 206) (by decide +kernel) rfl
theorem bw_207 : (.methodLink RX0 91 yX3_write : Cond) ∈ bw := bw_of (i := 207) (by decide +kernel) rfl
theorem bw_208 : (.instanceMethod yX3_write : Cond) ∈ bw := bw_of (i := 208) (by decide +kernel) rfl
theorem bw_209 : (.selects RX3 yX3_write yX3_write : Cond) ∈ bw := bw_of (i := 209) (by decide +kernel) rfl
theorem bw_210 : (.code yX3_write cX3_write 3 (Option.none : Option Jvm.ClassFile.FieldType) : Cond) ∈ bw := bw_of (i := 210) (by decide +kernel) rfl
theorem bw_211 : (.methodLink RX7 55 yX7_recorded : Cond) ∈ bw := bw_of (i := 211) (by decide +kernel) rfl
theorem bw_213 : (.instanceMethod yX7_recorded : Cond) ∈ bw := bw_of (i := 213) (by decide +kernel) rfl
theorem bw_214 : (.code yX7_recorded cX7_recorded 2 (some .int) : Cond) ∈ bw := bw_of (i := 214) (by decide +kernel) rfl
theorem bw_215 : (.methodLink RX7 218 yX1_record : Cond) ∈ bw := bw_of (i := 215) (by decide +kernel) rfl
theorem bw_216 : (.instanceMethod yX1_record : Cond) ∈ bw := bw_of (i := 216) (by decide +kernel) rfl
theorem bw_217 : (.selects RX1 yX1_record yX1_record : Cond) ∈ bw := bw_of (i := 217) (by decide +kernel) rfl
theorem bw_218 : (.code yX1_record cX1_record 2 (Option.none : Option Jvm.ClassFile.FieldType) : Cond) ∈ bw := bw_of (i := 218) (by decide +kernel) rfl
theorem bw_219 : (.methodLink RX1 25 yX4_keep : Cond) ∈ bw := bw_of (i := 219) (by decide +kernel) rfl
theorem bw_220 : (.instanceMethod yX4_keep : Cond) ∈ bw := bw_of (i := 220) (by decide +kernel) rfl
theorem bw_221 : (.selects RX4 yX4_keep yX4_keep : Cond) ∈ bw := bw_of (i := 221) (by decide +kernel) rfl
theorem bw_222 : (.code yX4_keep cX4_keep 3 (Option.none : Option Jvm.ClassFile.FieldType) : Cond) ∈ bw := bw_of (i := 222) (by decide +kernel) rfl
theorem bw_223 : (.methodLink RX4 21 yX3_writeTo : Cond) ∈ bw := bw_of (i := 223) (by decide +kernel) rfl
theorem bw_224 : (.instanceMethod yX3_writeTo : Cond) ∈ bw := bw_of (i := 224) (by decide +kernel) rfl
theorem bw_225 : (.selects RX3 yX3_writeTo yX3_writeTo : Cond) ∈ bw := bw_of (i := 225) (by decide +kernel) rfl
theorem bw_226 : (.code yX3_writeTo cX3_writeTo 3 (Option.none : Option Jvm.ClassFile.FieldType) : Cond) ∈ bw := bw_of (i := 226) (by decide +kernel) rfl
theorem bw_227 : (.methodLink RL 18 yX7_shot : Cond) ∈ bw := bw_of (i := 227) (by decide +kernel) rfl
theorem bw_228 : (.instanceMethod yX7_shot : Cond) ∈ bw := bw_of (i := 228) (by decide +kernel) rfl
theorem bw_229 : (.selects RX7 yX7_shot yX7_shot : Cond) ∈ bw := bw_of (i := 229) (by decide +kernel) rfl
theorem bw_230 : (.code yX7_shot cX7_shot 6 (some .int) : Cond) ∈ bw := bw_of (i := 230) (by decide +kernel) rfl
theorem bw_231 : (.methodLink RX7 59 yX0_addShot : Cond) ∈ bw := bw_of (i := 231) (by decide +kernel) rfl
theorem bw_232 : (.static yX0_addShot : Cond) ∈ bw := bw_of (i := 232) (by decide +kernel) rfl
theorem bw_233 : (.code yX0_addShot cX0_addShot 7 (some .int) : Cond) ∈ bw := bw_of (i := 233) (by decide +kernel) rfl
theorem bw_234 : (.methodLink RX0 28 yX3_shots : Cond) ∈ bw := bw_of (i := 234) (by decide +kernel) rfl
theorem bw_235 : (.instanceMethod yX3_shots : Cond) ∈ bw := bw_of (i := 235) (by decide +kernel) rfl
theorem bw_236 : (.selects RX3 yX3_shots yX3_shots : Cond) ∈ bw := bw_of (i := 236) (by decide +kernel) rfl
theorem bw_237 : (.code yX3_shots cX3_shots 1 (some .int) : Cond) ∈ bw := bw_of (i := 237) (by decide +kernel) rfl
theorem bw_238 : (.methodLink RX3 24 yX3_read : Cond) ∈ bw := bw_of (i := 238) (by decide +kernel) rfl
theorem bw_240 : (.static yX7_isPoints : Cond) ∈ bw := bw_of (i := 240) (by decide +kernel) rfl
theorem bw_241 : (.code yX7_isPoints cX7_isPoints 1 (some .boolean) : Cond) ∈ bw := bw_of (i := 241) (by decide +kernel) rfl
theorem bw_242 : (.methodLink RX7 168 yX7_isWithin : Cond) ∈ bw := bw_of (i := 242) (by decide +kernel) rfl
theorem bw_243 : (.methodLink RX0 36 yX3_openPlace : Cond) ∈ bw := bw_of (i := 243) (by decide +kernel) rfl
theorem bw_244 : (.instanceMethod yX3_openPlace : Cond) ∈ bw := bw_of (i := 244) (by decide +kernel) rfl
theorem bw_245 : (.selects RX3 yX3_openPlace yX3_openPlace : Cond) ∈ bw := bw_of (i := 245) (by decide +kernel) rfl
theorem bw_246 : (.code yX3_openPlace cX3_openPlace 3 (Option.none : Option Jvm.ClassFile.FieldType) : Cond) ∈ bw := bw_of (i := 246) (by decide +kernel) rfl
theorem bw_247 : (.methodLink RX3 28 yX3_shots : Cond) ∈ bw := bw_of (i := 247) (by decide +kernel) rfl
theorem bw_248 : (.methodLink RX3 32 Lib.Math.min.name : Cond) ∈ bw := bw_of (i := 248) (by decide +kernel) rfl
theorem bw_249 : (.static Lib.Math.min.name : Cond) ∈ bw := bw_of (i := 249) (by decide +kernel) rfl
theorem bw_250 : (.code Lib.Math.min.name cJ9_min_7cf53 2 (some .int) : Cond) ∈ bw := bw_of (i := 250) (by decide +kernel) rfl
theorem bw_251 : (.methodLink RX3 38 yX3_copyShot : Cond) ∈ bw := bw_of (i := 251) (by decide +kernel) rfl
theorem bw_252 : (.instanceMethod yX3_copyShot : Cond) ∈ bw := bw_of (i := 252) (by decide +kernel) rfl
theorem bw_253 : (.selects RX3 yX3_copyShot yX3_copyShot : Cond) ∈ bw := bw_of (i := 253) (by decide +kernel) rfl
theorem bw_254 : (.code yX3_copyShot cX3_copyShot 4 (Option.none : Option Jvm.ClassFile.FieldType) : Cond) ∈ bw := bw_of (i := 254) (by decide +kernel) rfl
theorem bw_255 : (.methodLink RX3 45 yX3_readShot : Cond) ∈ bw := bw_of (i := 255) (by decide +kernel) rfl
theorem bw_256 : (.instanceMethod yX3_readShot : Cond) ∈ bw := bw_of (i := 256) (by decide +kernel) rfl
theorem bw_257 : (.selects RX3 yX3_readShot yX3_readShot : Cond) ∈ bw := bw_of (i := 257) (by decide +kernel) rfl
theorem bw_258 : (.code yX3_readShot cX3_readShot 4 (some .int) : Cond) ∈ bw := bw_of (i := 258) (by decide +kernel) rfl
theorem bw_259 : (.methodLink RX3 48 yX3_writeShot : Cond) ∈ bw := bw_of (i := 259) (by decide +kernel) rfl
theorem bw_260 : (.instanceMethod yX3_writeShot : Cond) ∈ bw := bw_of (i := 260) (by decide +kernel) rfl
theorem bw_261 : (.selects RX3 yX3_writeShot yX3_writeShot : Cond) ∈ bw := bw_of (i := 261) (by decide +kernel) rfl
theorem bw_262 : (.code yX3_writeShot cX3_writeShot 5 (Option.none : Option Jvm.ClassFile.FieldType) : Cond) ∈ bw := bw_of (i := 262) (by decide +kernel) rfl
theorem bw_263 : (.methodLink RX3 42 yX3_write : Cond) ∈ bw := bw_of (i := 263) (by decide +kernel) rfl
theorem bw_264 : (.methodLink RX0 40 yX3_writeShot : Cond) ∈ bw := bw_of (i := 264) (by decide +kernel) rfl
theorem bw_265 : (.methodLink RL 23 yX7_takeOut : Cond) ∈ bw := bw_of (i := 265) (by decide +kernel) rfl
theorem bw_266 : (.instanceMethod yX7_takeOut : Cond) ∈ bw := bw_of (i := 266) (by decide +kernel) rfl
theorem bw_267 : (.selects RX7 yX7_takeOut yX7_takeOut : Cond) ∈ bw := bw_of (i := 267) (by decide +kernel) rfl
theorem bw_268 : (.code yX7_takeOut cX7_takeOut 2 (some .int) : Cond) ∈ bw := bw_of (i := 268) (by decide +kernel) rfl
theorem bw_269 : (.methodLink RX7 63 yX0_dropShot : Cond) ∈ bw := bw_of (i := 269) (by decide +kernel) rfl
theorem bw_270 : (.static yX0_dropShot : Cond) ∈ bw := bw_of (i := 270) (by decide +kernel) rfl
theorem bw_271 : (.code yX0_dropShot cX0_dropShot 2 (some .int) : Cond) ∈ bw := bw_of (i := 271) (by decide +kernel) rfl
theorem bw_272 : (.methodLink RX0 44 yX3_hasShot : Cond) ∈ bw := bw_of (i := 272) (by decide +kernel) rfl
theorem bw_273 : (.instanceMethod yX3_hasShot : Cond) ∈ bw := bw_of (i := 273) (by decide +kernel) rfl
theorem bw_274 : (.selects RX3 yX3_hasShot yX3_hasShot : Cond) ∈ bw := bw_of (i := 274) (by decide +kernel) rfl
theorem bw_275 : (.code yX3_hasShot cX3_hasShot 2 (some .boolean) : Cond) ∈ bw := bw_of (i := 275) (by decide +kernel) rfl
theorem bw_276 : (.methodLink RX0 47 yX3_closePlace : Cond) ∈ bw := bw_of (i := 276) (by decide +kernel) rfl
theorem bw_277 : (.instanceMethod yX3_closePlace : Cond) ∈ bw := bw_of (i := 277) (by decide +kernel) rfl
theorem bw_278 : (.selects RX3 yX3_closePlace yX3_closePlace : Cond) ∈ bw := bw_of (i := 278) (by decide +kernel) rfl
theorem bw_279 : (.code yX3_closePlace cX3_closePlace 3 (Option.none : Option Jvm.ClassFile.FieldType) : Cond) ∈ bw := bw_of (i := 279) (by decide +kernel) rfl
theorem bw_280 : (.methodLink RL 28 yX7_light : Cond) ∈ bw := bw_of (i := 280) (by decide +kernel) rfl
theorem bw_281 : (.instanceMethod yX7_light : Cond) ∈ bw := bw_of (i := 281) (by decide +kernel) rfl
theorem bw_282 : (.selects RX7 yX7_light yX7_light : Cond) ∈ bw := bw_of (i := 282) (by decide +kernel) rfl
theorem bw_283 : (.code yX7_light cX7_light 4 (some .int) : Cond) ∈ bw := bw_of (i := 283) (by decide +kernel) rfl
theorem bw_284 : (.methodLink RX7 67 yX0_changeLight : Cond) ∈ bw := bw_of (i := 284) (by decide +kernel) rfl
theorem bw_285 : (.static yX0_changeLight : Cond) ∈ bw := bw_of (i := 285) (by decide +kernel) rfl
theorem bw_286 : (.code yX0_changeLight cX0_changeLight 5 (some .int) : Cond) ∈ bw := bw_of (i := 286) (by decide +kernel) rfl
theorem bw_288 : (.static yX7_isColour : Cond) ∈ bw := bw_of (i := 288) (by decide +kernel) rfl
theorem bw_289 : (.code yX7_isColour cX7_isColour 1 (some .boolean) : Cond) ∈ bw := bw_of (i := 289) (by decide +kernel) rfl
theorem bw_290 : (.methodLink RX0 53 yX3_readShot : Cond) ∈ bw := bw_of (i := 290) (by decide +kernel) rfl
theorem bw_291 : (.methodLink RL 33 yX7_wish : Cond) ∈ bw := bw_of (i := 291) (by decide +kernel) rfl
theorem bw_292 : (.instanceMethod yX7_wish : Cond) ∈ bw := bw_of (i := 292) (by decide +kernel) rfl
theorem bw_293 : (.selects RX7 yX7_wish yX7_wish : Cond) ∈ bw := bw_of (i := 293) (by decide +kernel) rfl
theorem bw_294 : (.code yX7_wish cX7_wish 4 (some .int) : Cond) ∈ bw := bw_of (i := 294) (by decide +kernel) rfl
theorem bw_295 : (.methodLink RX7 71 yX0_changeWish : Cond) ∈ bw := bw_of (i := 295) (by decide +kernel) rfl
theorem bw_296 : (.static yX0_changeWish : Cond) ∈ bw := bw_of (i := 296) (by decide +kernel) rfl
theorem bw_297 : (.code yX0_changeWish cX0_changeWish 5 (some .int) : Cond) ∈ bw := bw_of (i := 297) (by decide +kernel) rfl
theorem bw_298 : (.methodLink RL 37 yX7_move : Cond) ∈ bw := bw_of (i := 298) (by decide +kernel) rfl
theorem bw_299 : (.instanceMethod yX7_move : Cond) ∈ bw := bw_of (i := 299) (by decide +kernel) rfl
theorem bw_300 : (.selects RX7 yX7_move yX7_move : Cond) ∈ bw := bw_of (i := 300) (by decide +kernel) rfl
theorem bw_301 : (.code yX7_move cX7_move 3 (some .int) : Cond) ∈ bw := bw_of (i := 301) (by decide +kernel) rfl
theorem bw_302 : (.methodLink RX7 74 yX0_moveShot : Cond) ∈ bw := bw_of (i := 302) (by decide +kernel) rfl
theorem bw_303 : (.static yX0_moveShot : Cond) ∈ bw := bw_of (i := 303) (by decide +kernel) rfl
theorem bw_304 : (.code yX0_moveShot cX0_moveShot 4 (some .int) : Cond) ∈ bw := bw_of (i := 304) (by decide +kernel) rfl
theorem bw_305 : (.methodLink RX0 57 yX3_swapShots : Cond) ∈ bw := bw_of (i := 305) (by decide +kernel) rfl
theorem bw_306 : (.instanceMethod yX3_swapShots : Cond) ∈ bw := bw_of (i := 306) (by decide +kernel) rfl
theorem bw_307 : (.selects RX3 yX3_swapShots yX3_swapShots : Cond) ∈ bw := bw_of (i := 307) (by decide +kernel) rfl
theorem bw_308 : (.code yX3_swapShots cX3_swapShots 5 (Option.none : Option Jvm.ClassFile.FieldType) : Cond) ∈ bw := bw_of (i := 308) (by decide +kernel) rfl
theorem bw_309 : (.methodLink RX0 61 Lib.Math.abs.name : Cond) ∈ bw := bw_of (i := 309) (by decide +kernel) rfl
theorem bw_310 : (.static Lib.Math.abs.name : Cond) ∈ bw := bw_of (i := 310) (by decide +kernel) rfl
theorem bw_311 : (.code Lib.Math.abs.name cJ9_abs_0f7a4 1 (some .int) : Cond) ∈ bw := bw_of (i := 311) (by decide +kernel) rfl
theorem bw_312 : (.methodLink RL 41 yX7_split : Cond) ∈ bw := bw_of (i := 312) (by decide +kernel) rfl
theorem bw_313 : (.instanceMethod yX7_split : Cond) ∈ bw := bw_of (i := 313) (by decide +kernel) rfl
theorem bw_314 : (.selects RX7 yX7_split yX7_split : Cond) ∈ bw := bw_of (i := 314) (by decide +kernel) rfl
theorem bw_315 : (.code yX7_split cX7_split 3 (some .int) : Cond) ∈ bw := bw_of (i := 315) (by decide +kernel) rfl
theorem bw_316 : (.methodLink RX7 77 yX0_splitShot : Cond) ∈ bw := bw_of (i := 316) (by decide +kernel) rfl
theorem bw_317 : (.static yX0_splitShot : Cond) ∈ bw := bw_of (i := 317) (by decide +kernel) rfl
theorem bw_318 : (.code yX0_splitShot cX0_splitShot 4 (some .int) : Cond) ∈ bw := bw_of (i := 318) (by decide +kernel) rfl
theorem bw_319 : (.methodLink RL 45 yX7_join : Cond) ∈ bw := bw_of (i := 319) (by decide +kernel) rfl
theorem bw_320 : (.instanceMethod yX7_join : Cond) ∈ bw := bw_of (i := 320) (by decide +kernel) rfl
theorem bw_321 : (.selects RX7 yX7_join yX7_join : Cond) ∈ bw := bw_of (i := 321) (by decide +kernel) rfl
theorem bw_322 : (.code yX7_join cX7_join 2 (some .int) : Cond) ∈ bw := bw_of (i := 322) (by decide +kernel) rfl
theorem bw_323 : (.methodLink RX7 80 yX0_joinShots : Cond) ∈ bw := bw_of (i := 323) (by decide +kernel) rfl
theorem bw_324 : (.static yX0_joinShots : Cond) ∈ bw := bw_of (i := 324) (by decide +kernel) rfl
theorem bw_325 : (.code yX0_joinShots cX0_joinShots 3 (some .int) : Cond) ∈ bw := bw_of (i := 325) (by decide +kernel) rfl
theorem bw_326 : (.methodLink RX0 67 yX0_isSameStock : Cond) ∈ bw := bw_of (i := 326) (by decide +kernel) rfl
theorem bw_327 : (.static yX0_isSameStock : Cond) ∈ bw := bw_of (i := 327) (by decide +kernel) rfl
theorem bw_328 : (.code yX0_isSameStock cX0_isSameStock 4 (some .boolean) : Cond) ∈ bw := bw_of (i := 328) (by decide +kernel) rfl
theorem bw_329 : (.methodLink RL 49 yX7_print : Cond) ∈ bw := bw_of (i := 329) (by decide +kernel) rfl
theorem bw_330 : (.instanceMethod yX7_print : Cond) ∈ bw := bw_of (i := 330) (by decide +kernel) rfl
theorem bw_331 : (.selects RX7 yX7_print yX7_print : Cond) ∈ bw := bw_of (i := 331) (by decide +kernel) rfl
theorem bw_332 : (.code yX7_print cX7_print 1 (some .int) : Cond) ∈ bw := bw_of (i := 332) (by decide +kernel) rfl
theorem bw_333 : (.methodLink RX7 83 yX0_makePrint : Cond) ∈ bw := bw_of (i := 333) (by decide +kernel) rfl
theorem bw_334 : (.static yX0_makePrint : Cond) ∈ bw := bw_of (i := 334) (by decide +kernel) rfl
theorem bw_335 : (.code yX0_makePrint cX0_makePrint 3 (some .int) : Cond) ∈ bw := bw_of (i := 335) (by decide +kernel) rfl
theorem bw_336 : (.methodLink RX0 71 yX0_hoursOfPrint : Cond) ∈ bw := bw_of (i := 336) (by decide +kernel) rfl
theorem bw_337 : (.static yX0_hoursOfPrint : Cond) ∈ bw := bw_of (i := 337) (by decide +kernel) rfl
theorem bw_338 : (.code yX0_hoursOfPrint cX0_hoursOfPrint 1 (some .int) : Cond) ∈ bw := bw_of (i := 338) (by decide +kernel) rfl
theorem bw_339 : (.methodLink RX0 94 yX5_feetBefore : Cond) ∈ bw := bw_of (i := 339) (by decide +kernel) rfl
theorem bw_340 : (.static yX5_feetBefore : Cond) ∈ bw := bw_of (i := 340) (by decide +kernel) rfl
theorem bw_341 : (.code yX5_feetBefore cX5_feetBefore 4 (some .int) : Cond) ∈ bw := bw_of (i := 341) (by decide +kernel) rfl
theorem bw_342 : (.methodLink RX5 11 yX3_readShot : Cond) ∈ bw := bw_of (i := 342) (by decide +kernel) rfl
theorem bw_343 : (.methodLink RX0 78 yX0_runPrinter : Cond) ∈ bw := bw_of (i := 343) (by decide +kernel) rfl
theorem bw_344 : (.static yX0_runPrinter : Cond) ∈ bw := bw_of (i := 344) (by decide +kernel) rfl
theorem bw_345 : (.code yX0_runPrinter cX0_runPrinter 5 (some .int) : Cond) ∈ bw := bw_of (i := 345) (by decide +kernel) rfl
theorem bw_346 : (.methodLink RX0 81 yX5_offWith : Cond) ∈ bw := bw_of (i := 346) (by decide +kernel) rfl
theorem bw_347 : (.static yX5_offWith : Cond) ∈ bw := bw_of (i := 347) (by decide +kernel) rfl
theorem bw_348 : (.code yX5_offWith cX5_offWith 6 (some .int) : Cond) ∈ bw := bw_of (i := 348) (by decide +kernel) rfl
theorem bw_349 : (.methodLink RX5 25 yX5_printsWith : Cond) ∈ bw := bw_of (i := 349) (by decide +kernel) rfl
theorem bw_350 : (.static yX5_printsWith : Cond) ∈ bw := bw_of (i := 350) (by decide +kernel) rfl
theorem bw_351 : (.code yX5_printsWith cX5_printsWith 6 (some .int) : Cond) ∈ bw := bw_of (i := 351) (by decide +kernel) rfl
theorem bw_352 : (.methodLink RX5 15 yX3_lampLoss : Cond) ∈ bw := bw_of (i := 352) (by decide +kernel) rfl
theorem bw_353 : (.instanceMethod yX3_lampLoss : Cond) ∈ bw := bw_of (i := 353) (by decide +kernel) rfl
theorem bw_354 : (.selects RX3 yX3_lampLoss yX3_lampLoss : Cond) ∈ bw := bw_of (i := 354) (by decide +kernel) rfl
theorem bw_355 : (.code yX3_lampLoss cX3_lampLoss 2 (some .int) : Cond) ∈ bw := bw_of (i := 355) (by decide +kernel) rfl
theorem bw_357 : (.static yX7_bounded : Cond) ∈ bw := bw_of (i := 357) (by decide +kernel) rfl
theorem bw_358 : (.code yX7_bounded cX7_bounded 1 (some .int) : Cond) ∈ bw := bw_of (i := 358) (by decide +kernel) rfl
theorem bw_359 : (.methodLink RX0 87 yX5_isBad : Cond) ∈ bw := bw_of (i := 359) (by decide +kernel) rfl
theorem bw_360 : (.static yX5_isBad : Cond) ∈ bw := bw_of (i := 360) (by decide +kernel) rfl
theorem bw_361 : (.code yX5_isBad cX5_isBad 4 (some .boolean) : Cond) ∈ bw := bw_of (i := 361) (by decide +kernel) rfl
theorem bw_362 : (.methodLink RX5 35 Lib.Math.abs.name : Cond) ∈ bw := bw_of (i := 362) (by decide +kernel) rfl
theorem bw_363 : (.methodLink RX5 40 Lib.Math.max.name : Cond) ∈ bw := bw_of (i := 363) (by decide +kernel) rfl
theorem bw_364 : (.methodLink RX5 43 yX5_isAnswered : Cond) ∈ bw := bw_of (i := 364) (by decide +kernel) rfl
theorem bw_365 : (.static yX5_isAnswered : Cond) ∈ bw := bw_of (i := 365) (by decide +kernel) rfl
theorem bw_366 : (.code yX5_isAnswered cX5_isAnswered 2 (some .boolean) : Cond) ∈ bw := bw_of (i := 366) (by decide +kernel) rfl
theorem bw_367 : (.methodLink RX5 22 yX3_read : Cond) ∈ bw := bw_of (i := 367) (by decide +kernel) rfl
theorem bw_368 : (.methodLink RL 54 yX7_correct : Cond) ∈ bw := bw_of (i := 368) (by decide +kernel) rfl
theorem bw_369 : (.instanceMethod yX7_correct : Cond) ∈ bw := bw_of (i := 369) (by decide +kernel) rfl
theorem bw_370 : (.selects RX7 yX7_correct yX7_correct : Cond) ∈ bw := bw_of (i := 370) (by decide +kernel) rfl
theorem bw_371 : (.code yX7_correct cX7_correct 2 (some .int) : Cond) ∈ bw := bw_of (i := 371) (by decide +kernel) rfl
theorem bw_372 : (.methodLink RX7 87 yX0_correctShot : Cond) ∈ bw := bw_of (i := 372) (by decide +kernel) rfl
theorem bw_373 : (.static yX0_correctShot : Cond) ∈ bw := bw_of (i := 373) (by decide +kernel) rfl
theorem bw_374 : (.code yX0_correctShot cX0_correctShot 4 (some .int) : Cond) ∈ bw := bw_of (i := 374) (by decide +kernel) rfl
theorem bw_375 : (.methodLink RX0 98 yX5_isAnswered : Cond) ∈ bw := bw_of (i := 375) (by decide +kernel) rfl
theorem bw_376 : (.methodLink RX0 101 yX0_correctLight : Cond) ∈ bw := bw_of (i := 376) (by decide +kernel) rfl
theorem bw_377 : (.static yX0_correctLight : Cond) ∈ bw := bw_of (i := 377) (by decide +kernel) rfl
theorem bw_378 : (.code yX0_correctLight cX0_correctLight 8 (some .int) : Cond) ∈ bw := bw_of (i := 378) (by decide +kernel) rfl
theorem bw_379 : (.methodLink RX0 104 Lib.Math.max.name : Cond) ∈ bw := bw_of (i := 379) (by decide +kernel) rfl
theorem bw_381 : (.methodLink RL 58 yX7_correctAll : Cond) ∈ bw := bw_of (i := 381) (by decide +kernel) rfl
theorem bw_382 : (.instanceMethod yX7_correctAll : Cond) ∈ bw := bw_of (i := 382) (by decide +kernel) rfl
theorem bw_383 : (.selects RX7 yX7_correctAll yX7_correctAll : Cond) ∈ bw := bw_of (i := 383) (by decide +kernel) rfl
theorem bw_384 : (.code yX7_correctAll cX7_correctAll 1 (some .int) : Cond) ∈ bw := bw_of (i := 384) (by decide +kernel) rfl
theorem bw_385 : (.methodLink RX7 90 yX0_correctBadShots : Cond) ∈ bw := bw_of (i := 385) (by decide +kernel) rfl
theorem bw_386 : (.static yX0_correctBadShots : Cond) ∈ bw := bw_of (i := 386) (by decide +kernel) rfl
theorem bw_387 : (.code yX0_correctBadShots cX0_correctBadShots 3 (some .int) : Cond) ∈ bw := bw_of (i := 387) (by decide +kernel) rfl
theorem bw_388 : (.methodLink RX0 110 yX0_correctShot : Cond) ∈ bw := bw_of (i := 388) (by decide +kernel) rfl
theorem bw_389 : (.methodLink RL 62 yX7_card : Cond) ∈ bw := bw_of (i := 389) (by decide +kernel) rfl
theorem bw_390 : (.instanceMethod yX7_card : Cond) ∈ bw := bw_of (i := 390) (by decide +kernel) rfl
theorem bw_391 : (.selects RX7 yX7_card yX7_card : Cond) ∈ bw := bw_of (i := 391) (by decide +kernel) rfl
theorem bw_392 : (.code yX7_card cX7_card 1 (some .int) : Cond) ∈ bw := bw_of (i := 392) (by decide +kernel) rfl
theorem bw_393 : (.methodLink RX7 93 yX0_setByCard : Cond) ∈ bw := bw_of (i := 393) (by decide +kernel) rfl
theorem bw_394 : (.static yX0_setByCard : Cond) ∈ bw := bw_of (i := 394) (by decide +kernel) rfl
theorem bw_395 : (.code yX0_setByCard cX0_setByCard 4 (some .int) : Cond) ∈ bw := bw_of (i := 395) (by decide +kernel) rfl
theorem bw_396 : (.methodLink RX0 113 yX3_lampLoss : Cond) ∈ bw := bw_of (i := 396) (by decide +kernel) rfl
theorem bw_397 : (.methodLink RX0 116 Lib.Math.min.name : Cond) ∈ bw := bw_of (i := 397) (by decide +kernel) rfl
theorem bw_398 : (.methodLink RL 66 yX7_trim : Cond) ∈ bw := bw_of (i := 398) (by decide +kernel) rfl
theorem bw_399 : (.instanceMethod yX7_trim : Cond) ∈ bw := bw_of (i := 399) (by decide +kernel) rfl
theorem bw_400 : (.selects RX7 yX7_trim yX7_trim : Cond) ∈ bw := bw_of (i := 400) (by decide +kernel) rfl
theorem bw_401 : (.code yX7_trim cX7_trim 3 (some .int) : Cond) ∈ bw := bw_of (i := 401) (by decide +kernel) rfl
theorem bw_402 : (.methodLink RX7 96 yX0_changeTrim : Cond) ∈ bw := bw_of (i := 402) (by decide +kernel) rfl
theorem bw_403 : (.static yX0_changeTrim : Cond) ∈ bw := bw_of (i := 403) (by decide +kernel) rfl
theorem bw_404 : (.code yX0_changeTrim cX0_changeTrim 3 (some .int) : Cond) ∈ bw := bw_of (i := 404) (by decide +kernel) rfl
theorem bw_405 : (.methodLink RL 70 yX7_lamp : Cond) ∈ bw := bw_of (i := 405) (by decide +kernel) rfl
theorem bw_406 : (.instanceMethod yX7_lamp : Cond) ∈ bw := bw_of (i := 406) (by decide +kernel) rfl
theorem bw_407 : (.selects RX7 yX7_lamp yX7_lamp : Cond) ∈ bw := bw_of (i := 407) (by decide +kernel) rfl
theorem bw_408 : (.code yX7_lamp cX7_lamp 2 (some .int) : Cond) ∈ bw := bw_of (i := 408) (by decide +kernel) rfl
theorem bw_409 : (.methodLink RX7 99 yX0_changeLamp : Cond) ∈ bw := bw_of (i := 409) (by decide +kernel) rfl
theorem bw_410 : (.static yX0_changeLamp : Cond) ∈ bw := bw_of (i := 410) (by decide +kernel) rfl
theorem bw_411 : (.code yX0_changeLamp cX0_changeLamp 2 (some .int) : Cond) ∈ bw := bw_of (i := 411) (by decide +kernel) rfl
theorem bw_412 : (.methodLink RL 74 yX7_of : Cond) ∈ bw := bw_of (i := 412) (by decide +kernel) rfl
theorem bw_413 : (.instanceMethod yX7_of : Cond) ∈ bw := bw_of (i := 413) (by decide +kernel) rfl
theorem bw_414 : (.selects RX7 yX7_of yX7_of : Cond) ∈ bw := bw_of (i := 414) (by decide +kernel) rfl
theorem bw_415 : (.code yX7_of cX7_of 3 (some .int) : Cond) ∈ bw := bw_of (i := 415) (by decide +kernel) rfl
theorem bw_416 : (.methodLink RX7 102 yX3_hasShot : Cond) ∈ bw := bw_of (i := 416) (by decide +kernel) rfl
theorem bw_417 : (.methodLink RX7 106 yX3_readShot : Cond) ∈ bw := bw_of (i := 417) (by decide +kernel) rfl
theorem bw_418 : (.methodLink RX7 110 yX5_feetBefore : Cond) ∈ bw := bw_of (i := 418) (by decide +kernel) rfl
theorem bw_419 : (.methodLink RX7 115 yX5_isAnswered : Cond) ∈ bw := bw_of (i := 419) (by decide +kernel) rfl
theorem bw_420 : (.methodLink RX7 119 yX5_isBad : Cond) ∈ bw := bw_of (i := 420) (by decide +kernel) rfl
theorem bw_421 : (.methodLink RX7 122 yX5_jumps : Cond) ∈ bw := bw_of (i := 421) (by decide +kernel) rfl
theorem bw_422 : (.static yX5_jumps : Cond) ∈ bw := bw_of (i := 422) (by decide +kernel) rfl
theorem bw_423 : (.code yX5_jumps cX5_jumps 5 (some .boolean) : Cond) ∈ bw := bw_of (i := 423) (by decide +kernel) rfl
theorem bw_424 : (.methodLink RX5 47 yX3_hasShot : Cond) ∈ bw := bw_of (i := 424) (by decide +kernel) rfl
theorem bw_425 : (.methodLink RX5 51 yX5_printsNow : Cond) ∈ bw := bw_of (i := 425) (by decide +kernel) rfl
theorem bw_426 : (.static yX5_printsNow : Cond) ∈ bw := bw_of (i := 426) (by decide +kernel) rfl
theorem bw_427 : (.code yX5_printsNow cX5_printsNow 4 (some .int) : Cond) ∈ bw := bw_of (i := 427) (by decide +kernel) rfl
theorem bw_428 : (.methodLink RL 78 yX7_inColour : Cond) ∈ bw := bw_of (i := 428) (by decide +kernel) rfl
theorem bw_429 : (.instanceMethod yX7_inColour : Cond) ∈ bw := bw_of (i := 429) (by decide +kernel) rfl
theorem bw_430 : (.selects RX7 yX7_inColour yX7_inColour : Cond) ∈ bw := bw_of (i := 430) (by decide +kernel) rfl
theorem bw_431 : (.code yX7_inColour cX7_inColour 4 (some .int) : Cond) ∈ bw := bw_of (i := 431) (by decide +kernel) rfl
theorem bw_432 : (.methodLink RX7 125 yX7_isColour : Cond) ∈ bw := bw_of (i := 432) (by decide +kernel) rfl
theorem bw_433 : (.methodLink RX7 128 yX5_printsNow : Cond) ∈ bw := bw_of (i := 433) (by decide +kernel) rfl
theorem bw_434 : (.methodLink RX7 131 yX5_offNow : Cond) ∈ bw := bw_of (i := 434) (by decide +kernel) rfl
theorem bw_435 : (.static yX5_offNow : Cond) ∈ bw := bw_of (i := 435) (by decide +kernel) rfl
theorem bw_436 : (.code yX5_offNow cX5_offNow 3 (some .int) : Cond) ∈ bw := bw_of (i := 436) (by decide +kernel) rfl
theorem bw_437 : (.methodLink RX5 31 yX5_offWith : Cond) ∈ bw := bw_of (i := 437) (by decide +kernel) rfl
theorem bw_438 : (.methodLink RL 82 yX7_ofLamp : Cond) ∈ bw := bw_of (i := 438) (by decide +kernel) rfl
theorem bw_439 : (.instanceMethod yX7_ofLamp : Cond) ∈ bw := bw_of (i := 439) (by decide +kernel) rfl
theorem bw_440 : (.selects RX7 yX7_ofLamp yX7_ofLamp : Cond) ∈ bw := bw_of (i := 440) (by decide +kernel) rfl
theorem bw_441 : (.code yX7_ofLamp cX7_ofLamp 3 (some .int) : Cond) ∈ bw := bw_of (i := 441) (by decide +kernel) rfl
theorem bw_442 : (.methodLink RX7 134 yX3_read : Cond) ∈ bw := bw_of (i := 442) (by decide +kernel) rfl
theorem bw_443 : (.methodLink RX7 137 yX3_lampLoss : Cond) ∈ bw := bw_of (i := 443) (by decide +kernel) rfl
theorem bw_444 : (.methodLink RL 86 yX7_count : Cond) ∈ bw := bw_of (i := 444) (by decide +kernel) rfl
theorem bw_445 : (.instanceMethod yX7_count : Cond) ∈ bw := bw_of (i := 445) (by decide +kernel) rfl
theorem bw_446 : (.selects RX7 yX7_count yX7_count : Cond) ∈ bw := bw_of (i := 446) (by decide +kernel) rfl
theorem bw_447 : (.code yX7_count cX7_count 2 (some .int) : Cond) ∈ bw := bw_of (i := 447) (by decide +kernel) rfl
theorem bw_448 : (.methodLink RX7 140 yX3_shots : Cond) ∈ bw := bw_of (i := 448) (by decide +kernel) rfl
theorem bw_449 : (.methodLink RX7 144 yX5_setOf : Cond) ∈ bw := bw_of (i := 449) (by decide +kernel) rfl
theorem bw_450 : (.static yX5_setOf : Cond) ∈ bw := bw_of (i := 450) (by decide +kernel) rfl
theorem bw_451 : (.code yX5_setOf cX5_setOf 4 (some .int) : Cond) ∈ bw := bw_of (i := 451) (by decide +kernel) rfl
theorem bw_452 : (.methodLink RX5 64 yX3_shots : Cond) ∈ bw := bw_of (i := 452) (by decide +kernel) rfl
theorem bw_453 : (.methodLink RX5 68 yX5_holds : Cond) ∈ bw := bw_of (i := 453) (by decide +kernel) rfl
theorem bw_454 : (.static yX5_holds : Cond) ∈ bw := bw_of (i := 454) (by decide +kernel) rfl
theorem bw_455 : (.code yX5_holds cX5_holds 3 (some .boolean) : Cond) ∈ bw := bw_of (i := 455) (by decide +kernel) rfl
theorem bw_456 : (.methodLink RX5 55 yX5_isBad : Cond) ∈ bw := bw_of (i := 456) (by decide +kernel) rfl
theorem bw_457 : (.methodLink RX5 58 yX5_jumps : Cond) ∈ bw := bw_of (i := 457) (by decide +kernel) rfl
theorem bw_458 : (.methodLink RX5 61 yX5_isOff : Cond) ∈ bw := bw_of (i := 458) (by decide +kernel) rfl
theorem bw_459 : (.static yX5_isOff : Cond) ∈ bw := bw_of (i := 459) (by decide +kernel) rfl
theorem bw_460 : (.code yX5_isOff cX5_isOff 5 (some .boolean) : Cond) ∈ bw := bw_of (i := 460) (by decide +kernel) rfl
theorem bw_461 : (.methodLink RX7 147 yX2_length : Cond) ∈ bw := bw_of (i := 461) (by decide +kernel) rfl
theorem bw_462 : (.instanceMethod yX2_length : Cond) ∈ bw := bw_of (i := 462) (by decide +kernel) rfl
theorem bw_463 : (.selects RX2 yX2_length yX2_length : Cond) ∈ bw := bw_of (i := 463) (by decide +kernel) rfl
theorem bw_464 : (.code yX2_length cX2_length 1 (some .int) : Cond) ∈ bw := bw_of (i := 464) (by decide +kernel) rfl
theorem bw_465 : (.methodLink RX7 150 yX1_size : Cond) ∈ bw := bw_of (i := 465) (by decide +kernel) rfl
theorem bw_466 : (.instanceMethod yX1_size : Cond) ∈ bw := bw_of (i := 466) (by decide +kernel) rfl
theorem bw_467 : (.selects RX1 yX1_size yX1_size : Cond) ∈ bw := bw_of (i := 467) (by decide +kernel) rfl
theorem bw_468 : (.code yX1_size cX1_size 1 (some .int) : Cond) ∈ bw := bw_of (i := 468) (by decide +kernel) rfl
theorem bw_469 : (.methodLink RL 90 yX7_needs : Cond) ∈ bw := bw_of (i := 469) (by decide +kernel) rfl
theorem bw_470 : (.instanceMethod yX7_needs : Cond) ∈ bw := bw_of (i := 470) (by decide +kernel) rfl
theorem bw_471 : (.selects RX7 yX7_needs yX7_needs : Cond) ∈ bw := bw_of (i := 471) (by decide +kernel) rfl
theorem bw_472 : (.code yX7_needs cX7_needs 4 (some .int) : Cond) ∈ bw := bw_of (i := 472) (by decide +kernel) rfl
theorem bw_473 : (.methodLink RX7 153 yX6_lightNeeded : Cond) ∈ bw := bw_of (i := 473) (by decide +kernel) rfl
theorem bw_474 : (.static yX6_lightNeeded : Cond) ∈ bw := bw_of (i := 474) (by decide +kernel) rfl
theorem bw_475 : (.code yX6_lightNeeded cX6_lightNeeded 6 (some .int) : Cond) ∈ bw := bw_of (i := 475) (by decide +kernel) rfl
theorem bw_476 : (.methodLink RX6 11 yX3_readShot : Cond) ∈ bw := bw_of (i := 476) (by decide +kernel) rfl
theorem bw_477 : (.methodLink RX6 15 yX3_read : Cond) ∈ bw := bw_of (i := 477) (by decide +kernel) rfl
theorem bw_478 : (.methodLink RX7 158 yX7_isPoints : Cond) ∈ bw := bw_of (i := 478) (by decide +kernel) rfl
theorem bw_479 : (.methodLink RL 94 yX7_ifLight : Cond) ∈ bw := bw_of (i := 479) (by decide +kernel) rfl
theorem bw_480 : (.instanceMethod yX7_ifLight : Cond) ∈ bw := bw_of (i := 480) (by decide +kernel) rfl
theorem bw_481 : (.selects RX7 yX7_ifLight yX7_ifLight : Cond) ∈ bw := bw_of (i := 481) (by decide +kernel) rfl
theorem bw_482 : (.code yX7_ifLight cX7_ifLight 4 (some .int) : Cond) ∈ bw := bw_of (i := 482) (by decide +kernel) rfl
theorem bw_483 : (.methodLink RX7 161 yX5_printsWith : Cond) ∈ bw := bw_of (i := 483) (by decide +kernel) rfl
theorem bw_484 : (.methodLink RL 98 yX7_lasts : Cond) ∈ bw := bw_of (i := 484) (by decide +kernel) rfl
theorem bw_485 : (.instanceMethod yX7_lasts : Cond) ∈ bw := bw_of (i := 485) (by decide +kernel) rfl
theorem bw_486 : (.selects RX7 yX7_lasts yX7_lasts : Cond) ∈ bw := bw_of (i := 486) (by decide +kernel) rfl
theorem bw_487 : (.code yX7_lasts cX7_lasts 2 (some .int) : Cond) ∈ bw := bw_of (i := 487) (by decide +kernel) rfl
theorem bw_488 : (.methodLink RX7 165 yX6_hoursLeft : Cond) ∈ bw := bw_of (i := 488) (by decide +kernel) rfl
theorem bw_489 : (.static yX6_hoursLeft : Cond) ∈ bw := bw_of (i := 489) (by decide +kernel) rfl
theorem bw_490 : (.code yX6_hoursLeft cX6_hoursLeft 5 (some .int) : Cond) ∈ bw := bw_of (i := 490) (by decide +kernel) rfl
theorem bw_491 : (.methodLink RX6 21 yX6_isSomeLightOut : Cond) ∈ bw := bw_of (i := 491) (by decide +kernel) rfl
theorem bw_492 : (.static yX6_isSomeLightOut : Cond) ∈ bw := bw_of (i := 492) (by decide +kernel) rfl
theorem bw_493 : (.code yX6_isSomeLightOut cX6_isSomeLightOut 4 (some .boolean) : Cond) ∈ bw := bw_of (i := 493) (by decide +kernel) rfl
theorem bw_494 : (.methodLink RX6 25 yX3_shots : Cond) ∈ bw := bw_of (i := 494) (by decide +kernel) rfl
theorem bw_495 : (.methodLink RX6 29 yX6_lightNeeded : Cond) ∈ bw := bw_of (i := 495) (by decide +kernel) rfl
theorem bw_497 : (.methodLink RL 102 yX7_bestTrim : Cond) ∈ bw := bw_of (i := 497) (by decide +kernel) rfl
theorem bw_498 : (.instanceMethod yX7_bestTrim : Cond) ∈ bw := bw_of (i := 498) (by decide +kernel) rfl
theorem bw_499 : (.selects RX7 yX7_bestTrim yX7_bestTrim : Cond) ∈ bw := bw_of (i := 499) (by decide +kernel) rfl
theorem bw_500 : (.code yX7_bestTrim cX7_bestTrim 4 (some .int) : Cond) ∈ bw := bw_of (i := 500) (by decide +kernel) rfl
theorem bw_501 : (.methodLink RX7 172 yX6_leastOffTrim : Cond) ∈ bw := bw_of (i := 501) (by decide +kernel) rfl
theorem bw_502 : (.static yX6_leastOffTrim : Cond) ∈ bw := bw_of (i := 502) (by decide +kernel) rfl
theorem bw_503 : (.code yX6_leastOffTrim cX6_leastOffTrim 7 (some .int) : Cond) ∈ bw := bw_of (i := 503) (by decide +kernel) rfl
theorem bw_504 : (.methodLink RX6 37 yX6_offTogether : Cond) ∈ bw := bw_of (i := 504) (by decide +kernel) rfl
theorem bw_505 : (.static yX6_offTogether : Cond) ∈ bw := bw_of (i := 505) (by decide +kernel) rfl
theorem bw_506 : (.code yX6_offTogether cX6_offTogether 5 (some .int) : Cond) ∈ bw := bw_of (i := 506) (by decide +kernel) rfl
theorem bw_507 : (.methodLink RX6 41 yX5_offWith : Cond) ∈ bw := bw_of (i := 507) (by decide +kernel) rfl
theorem bw_508 : (.methodLink RX6 46 Lib.Math.abs.name : Cond) ∈ bw := bw_of (i := 508) (by decide +kernel) rfl
theorem bw_509 : (.methodLink RX7 175 yX6_offTogether : Cond) ∈ bw := bw_of (i := 509) (by decide +kernel) rfl
theorem bw_510 : (.methodLink RL 106 yX7_printsNeeded : Cond) ∈ bw := bw_of (i := 510) (by decide +kernel) rfl
theorem bw_511 : (.instanceMethod yX7_printsNeeded : Cond) ∈ bw := bw_of (i := 511) (by decide +kernel) rfl
theorem bw_512 : (.selects RX7 yX7_printsNeeded yX7_printsNeeded : Cond) ∈ bw := bw_of (i := 512) (by decide +kernel) rfl
theorem bw_513 : (.code yX7_printsNeeded cX7_printsNeeded 1 (some .int) : Cond) ∈ bw := bw_of (i := 513) (by decide +kernel) rfl
theorem bw_514 : (.methodLink RX7 178 yX6_printsUntilGood : Cond) ∈ bw := bw_of (i := 514) (by decide +kernel) rfl
theorem bw_515 : (.static yX6_printsUntilGood : Cond) ∈ bw := bw_of (i := 515) (by decide +kernel) rfl
theorem bw_516 : (.code yX6_printsUntilGood cX6_printsUntilGood 2 (some .int) : Cond) ∈ bw := bw_of (i := 516) (by decide +kernel) rfl
theorem bw_517 : (.methodLink RX6 51 yX0_runPrinter : Cond) ∈ bw := bw_of (i := 517) (by decide +kernel) rfl
theorem bw_518 : (.methodLink RX6 57 yX0_correctBadShots : Cond) ∈ bw := bw_of (i := 518) (by decide +kernel) rfl
theorem bw_519 : (.methodLink RL 112 yX7_put : Cond) ∈ bw := bw_of (i := 519) (by decide +kernel) rfl
theorem bw_520 : (.instanceMethod yX7_put : Cond) ∈ bw := bw_of (i := 520) (by decide +kernel) rfl
theorem bw_521 : (.selects RX7 yX7_put yX7_put : Cond) ∈ bw := bw_of (i := 521) (by decide +kernel) rfl
theorem bw_522 : (.code yX7_put cX7_put 3 (some .int) : Cond) ∈ bw := bw_of (i := 522) (by decide +kernel) rfl
theorem bw_523 : (.methodLink RX7 181 yX2_append : Cond) ∈ bw := bw_of (i := 523) (by decide +kernel) rfl
theorem bw_524 : (.instanceMethod yX2_append : Cond) ∈ bw := bw_of (i := 524) (by decide +kernel) rfl
theorem bw_525 : (.selects RX2 yX2_append yX2_append : Cond) ∈ bw := bw_of (i := 525) (by decide +kernel) rfl
theorem bw_526 : (.code yX2_append cX2_append 5 (some .int) : Cond) ∈ bw := bw_of (i := 526) (by decide +kernel) rfl
theorem bw_527 : (.methodLink RX2 33 yX2_charactersIn : Cond) ∈ bw := bw_of (i := 527) (by decide +kernel) rfl
theorem bw_528 : (.static yX2_charactersIn : Cond) ∈ bw := bw_of (i := 528) (by decide +kernel) rfl
theorem bw_529 : (.code yX2_charactersIn cX2_charactersIn 5 (some .int) : Cond) ∈ bw := bw_of (i := 529) (by decide +kernel) rfl
theorem bw_530 : (.constantLong "TimingLights$Pad" 37 255 : Cond) ∈ bw := bw_of (i := 530) (by decide +kernel) rfl
theorem bw_532 : (.methodLink RX2 39 yX2_write : Cond) ∈ bw := bw_of (i := 532) (by decide +kernel) rfl
theorem bw_534 : (.instanceMethod yX2_write : Cond) ∈ bw := bw_of (i := 534) (by decide +kernel) rfl
theorem bw_535 : (.code yX2_write cX2_write 2 (Option.none : Option Jvm.ClassFile.FieldType) : Cond) ∈ bw := bw_of (i := 535) (by decide +kernel) rfl
theorem bw_536 : (.methodLink RL 117 yX7_wipe : Cond) ∈ bw := bw_of (i := 536) (by decide +kernel) rfl
theorem bw_537 : (.instanceMethod yX7_wipe : Cond) ∈ bw := bw_of (i := 537) (by decide +kernel) rfl
theorem bw_538 : (.selects RX7 yX7_wipe yX7_wipe : Cond) ∈ bw := bw_of (i := 538) (by decide +kernel) rfl
theorem bw_539 : (.code yX7_wipe cX7_wipe 1 (some .int) : Cond) ∈ bw := bw_of (i := 539) (by decide +kernel) rfl
theorem bw_540 : (.methodLink RX7 185 yX2_clear : Cond) ∈ bw := bw_of (i := 540) (by decide +kernel) rfl
theorem bw_541 : (.instanceMethod yX2_clear : Cond) ∈ bw := bw_of (i := 541) (by decide +kernel) rfl
theorem bw_542 : (.selects RX2 yX2_clear yX2_clear : Cond) ∈ bw := bw_of (i := 542) (by decide +kernel) rfl
theorem bw_543 : (.code yX2_clear cX2_clear 2 (some .int) : Cond) ∈ bw := bw_of (i := 543) (by decide +kernel) rfl
theorem bw_544 : (.methodLink RL 121 yX7_fault : Cond) ∈ bw := bw_of (i := 544) (by decide +kernel) rfl
theorem bw_545 : (.instanceMethod yX7_fault : Cond) ∈ bw := bw_of (i := 545) (by decide +kernel) rfl
theorem bw_546 : (.selects RX7 yX7_fault yX7_fault : Cond) ∈ bw := bw_of (i := 546) (by decide +kernel) rfl
theorem bw_547 : (.code yX7_fault cX7_fault 1 (some .int) : Cond) ∈ bw := bw_of (i := 547) (by decide +kernel) rfl
theorem bw_548 : (.methodLink RX7 188 yX2_firstFault : Cond) ∈ bw := bw_of (i := 548) (by decide +kernel) rfl
theorem bw_549 : (.instanceMethod yX2_firstFault : Cond) ∈ bw := bw_of (i := 549) (by decide +kernel) rfl
theorem bw_550 : (.selects RX2 yX2_firstFault yX2_firstFault : Cond) ∈ bw := bw_of (i := 550) (by decide +kernel) rfl
theorem bw_551 : (.code yX2_firstFault cX2_firstFault 2 (some .int) : Cond) ∈ bw := bw_of (i := 551) (by decide +kernel) rfl
theorem bw_552 : (.methodLink RX2 47 yX2_startReading : Cond) ∈ bw := bw_of (i := 552) (by decide +kernel) rfl
theorem bw_553 : (.instanceMethod yX2_startReading : Cond) ∈ bw := bw_of (i := 553) (by decide +kernel) rfl
theorem bw_554 : (.selects RX2 yX2_startReading yX2_startReading : Cond) ∈ bw := bw_of (i := 554) (by decide +kernel) rfl
theorem bw_555 : (.code yX2_startReading cX2_startReading 1 (Option.none : Option Jvm.ClassFile.FieldType) : Cond) ∈ bw := bw_of (i := 555) (by decide +kernel) rfl
theorem bw_556 : (.methodLink RX2 50 yX2_nextOrder : Cond) ∈ bw := bw_of (i := 556) (by decide +kernel) rfl
theorem bw_557 : (.instanceMethod yX2_nextOrder : Cond) ∈ bw := bw_of (i := 557) (by decide +kernel) rfl
theorem bw_558 : (.selects RX2 yX2_nextOrder yX2_nextOrder : Cond) ∈ bw := bw_of (i := 558) (by decide +kernel) rfl
theorem bw_559 : (.code yX2_nextOrder cX2_nextOrder 3 (some .boolean) : Cond) ∈ bw := bw_of (i := 559) (by decide +kernel) rfl
theorem bw_560 : (.methodLink RX2 57 yX2_readSign : Cond) ∈ bw := bw_of (i := 560) (by decide +kernel) rfl
theorem bw_562 : (.instanceMethod yX2_readSign : Cond) ∈ bw := bw_of (i := 562) (by decide +kernel) rfl
theorem bw_563 : (.code yX2_readSign cX2_readSign 2 (some .boolean) : Cond) ∈ bw := bw_of (i := 563) (by decide +kernel) rfl
theorem bw_564 : (.methodLink RX2 64 yX2_here : Cond) ∈ bw := bw_of (i := 564) (by decide +kernel) rfl
theorem bw_566 : (.instanceMethod yX2_here : Cond) ∈ bw := bw_of (i := 566) (by decide +kernel) rfl
theorem bw_567 : (.code yX2_here cX2_here 1 (some .int) : Cond) ∈ bw := bw_of (i := 567) (by decide +kernel) rfl
theorem bw_568 : (.methodLink RX2 68 yX2_formOf : Cond) ∈ bw := bw_of (i := 568) (by decide +kernel) rfl
theorem bw_569 : (.static yX2_formOf : Cond) ∈ bw := bw_of (i := 569) (by decide +kernel) rfl
theorem bw_570 : (.code yX2_formOf cX2_formOf 1 (some (.object "java/lang/String")) : Cond) ∈ bw := bw_of (i := 570) (by decide +kernel) rfl
theorem bw_580 : (.methodLink RX2 72 yJ0_length_8abf5 : Cond) ∈ bw := bw_of (i := 580) (by decide +kernel) rfl
theorem bw_581 : (.instanceMethod yJ0_length_8abf5 : Cond) ∈ bw := bw_of (i := 581) (by decide +kernel) rfl
theorem bw_582 : (.selects RJ0 yJ0_length_8abf5 yJ0_length_8abf5 : Cond) ∈ bw := bw_of (i := 582) (by decide +kernel) rfl
theorem bw_583 : (.code yJ0_length_8abf5 cJ0_length_8abf5 1 (some .int) : Cond) ∈ bw := bw_of (i := 583) (by decide +kernel) rfl
theorem bw_584 : (.methodLink RJ0 335 yJ0_coder_7d493 : Cond) ∈ bw := bw_of (i := 584) (by decide +kernel) rfl
theorem bw_585 : (.instanceMethod yJ0_coder_7d493 : Cond) ∈ bw := bw_of (i := 585) (by decide +kernel) rfl
theorem bw_586 : (.selects RJ0 yJ0_coder_7d493 yJ0_coder_7d493 : Cond) ∈ bw := bw_of (i := 586) (by decide +kernel) rfl
theorem bw_587 : (.code yJ0_coder_7d493 cJ0_coder_7d493 1 (some .byte) : Cond) ∈ bw := bw_of (i := 587) (by decide +kernel) rfl
theorem bw_588 : (.fieldLink RJ0 38 "java/lang/String" "COMPACT_STRINGS" "Z" : Cond) ∈ bw := bw_of (i := 588) (by decide +kernel) rfl
theorem bw_590 : (.methodLink RX2 76 yJ0_charAt_5068e : Cond) ∈ bw := bw_of (i := 590) (by decide +kernel) rfl
theorem bw_591 : (.instanceMethod yJ0_charAt_5068e : Cond) ∈ bw := bw_of (i := 591) (by decide +kernel) rfl
theorem bw_592 : (.selects RJ0 yJ0_charAt_5068e yJ0_charAt_5068e : Cond) ∈ bw := bw_of (i := 592) (by decide +kernel) rfl
theorem bw_593 : (.code yJ0_charAt_5068e cJ0_charAt_5068e 2 (some .char) : Cond) ∈ bw := bw_of (i := 593) (by decide +kernel) rfl
theorem bw_594 : (.methodLink RJ0 492 yJ0_isLatin1_aae02 : Cond) ∈ bw := bw_of (i := 594) (by decide +kernel) rfl
theorem bw_595 : (.instanceMethod yJ0_isLatin1_aae02 : Cond) ∈ bw := bw_of (i := 595) (by decide +kernel) rfl
theorem bw_596 : (.selects RJ0 yJ0_isLatin1_aae02 yJ0_isLatin1_aae02 : Cond) ∈ bw := bw_of (i := 596) (by decide +kernel) rfl
theorem bw_597 : (.code yJ0_isLatin1_aae02 cJ0_isLatin1_aae02 1 (some .boolean) : Cond) ∈ bw := bw_of (i := 597) (by decide +kernel) rfl
theorem bw_598 : (.methodLink RJ0 495 yJ1_charAt_3b067 : Cond) ∈ bw := bw_of (i := 598) (by decide +kernel) rfl
theorem bw_599 : (.static yJ1_charAt_3b067 : Cond) ∈ bw := bw_of (i := 599) (by decide +kernel) rfl
theorem bw_600 : (.code yJ1_charAt_3b067 cJ1_charAt_3b067 2 (some .char) : Cond) ∈ bw := bw_of (i := 600) (by decide +kernel) rfl
theorem bw_601 : (.methodLink RJ1 9 yJ0_checkIndex_df160 : Cond) ∈ bw := bw_of (i := 601) (by decide +kernel) rfl
theorem bw_602 : (.static yJ0_checkIndex_df160 : Cond) ∈ bw := bw_of (i := 602) (by decide +kernel) rfl
theorem bw_603 : (.code yJ0_checkIndex_df160 cJ0_checkIndex_df160 2 (Option.none : Option Jvm.ClassFile.FieldType) : Cond) ∈ bw := bw_of (i := 603) (by decide +kernel) rfl
theorem bw_604 : (.fieldLink RJ0 1053 "jdk/internal/util/Preconditions" "SIOOBE_FORMATTER" "Ljava/util/function/BiFunction;" : Cond) ∈ bw := bw_of (i := 604) (by decide +kernel) rfl
theorem bw_606 : (.methodLink RJ0 1059 yJ3_checkIndex_8e157 : Cond) ∈ bw := bw_of (i := 606) (by decide +kernel) rfl
theorem bw_607 : (.static yJ3_checkIndex_8e157 : Cond) ∈ bw := bw_of (i := 607) (by decide +kernel) rfl
theorem bw_608 : (.code yJ3_checkIndex_8e157 cJ3_checkIndex_8e157 3 (some .int) : Cond) ∈ bw := bw_of (i := 608) (by decide +kernel) rfl
theorem bw_609 : (.methodLink RJ0 498 yJ2_charAt_3b067 : Cond) ∈ bw := bw_of (i := 609) (by decide +kernel) rfl
theorem bw_610 : (.static yJ2_charAt_3b067 : Cond) ∈ bw := bw_of (i := 610) (by decide +kernel) rfl
theorem bw_611 : (.code yJ2_charAt_3b067 cJ2_charAt_3b067 2 (some .char) : Cond) ∈ bw := bw_of (i := 611) (by decide +kernel) rfl
theorem bw_612 : (.methodLink RJ2 67 yJ2_checkIndex_2214a : Cond) ∈ bw := bw_of (i := 612) (by decide +kernel) rfl
theorem bw_613 : (.static yJ2_checkIndex_2214a : Cond) ∈ bw := bw_of (i := 613) (by decide +kernel) rfl
theorem bw_614 : (.code yJ2_checkIndex_2214a cJ2_checkIndex_2214a 2 (Option.none : Option Jvm.ClassFile.FieldType) : Cond) ∈ bw := bw_of (i := 614) (by decide +kernel) rfl
theorem bw_615 : (.methodLink RJ2 48 yJ2_length_9d52b : Cond) ∈ bw := bw_of (i := 615) (by decide +kernel) rfl
theorem bw_616 : (.static yJ2_length_9d52b : Cond) ∈ bw := bw_of (i := 616) (by decide +kernel) rfl
theorem bw_617 : (.code yJ2_length_9d52b cJ2_length_9d52b 1 (some .int) : Cond) ∈ bw := bw_of (i := 617) (by decide +kernel) rfl
theorem bw_618 : (.methodLink RJ2 414 yJ0_checkIndex_df160 : Cond) ∈ bw := bw_of (i := 618) (by decide +kernel) rfl
theorem bw_619 : (.methodLink RJ2 71 yJ2_getChar_3b067 : Cond) ∈ bw := bw_of (i := 619) (by decide +kernel) rfl
theorem bw_620 : (.static yJ2_getChar_3b067 : Cond) ∈ bw := bw_of (i := 620) (by decide +kernel) rfl
theorem bw_621 : (.code yJ2_getChar_3b067 cJ2_getChar_3b067 2 (some .char) : Cond) ∈ bw := bw_of (i := 621) (by decide +kernel) rfl
theorem bw_622 : (.fieldLink RJ2 44 "java/lang/StringUTF16" "$assertionsDisabled" "Z" : Cond) ∈ bw := bw_of (i := 622) (by decide +kernel) rfl
theorem bw_624 : (.fieldLink RJ2 59 "java/lang/StringUTF16" "HI_BYTE_SHIFT" "I" : Cond) ∈ bw := bw_of (i := 624) (by decide +kernel) rfl
theorem bw_626 : (.fieldLink RJ2 63 "java/lang/StringUTF16" "LO_BYTE_SHIFT" "I" : Cond) ∈ bw := bw_of (i := 626) (by decide +kernel) rfl
theorem bw_628 : (.methodLink RX2 80 yX2_readPart : Cond) ∈ bw := bw_of (i := 628) (by decide +kernel) rfl
theorem bw_630 : (.instanceMethod yX2_readPart : Cond) ∈ bw := bw_of (i := 630) (by decide +kernel) rfl
theorem bw_631 : (.code yX2_readPart cX2_readPart 2 (some .boolean) : Cond) ∈ bw := bw_of (i := 631) (by decide +kernel) rfl
theorem bw_632 : (.methodLink RX2 104 yX2_readNumber : Cond) ∈ bw := bw_of (i := 632) (by decide +kernel) rfl
theorem bw_634 : (.instanceMethod yX2_readNumber : Cond) ∈ bw := bw_of (i := 634) (by decide +kernel) rfl
theorem bw_635 : (.code yX2_readNumber cX2_readNumber 2 (some .boolean) : Cond) ∈ bw := bw_of (i := 635) (by decide +kernel) rfl
theorem bw_636 : (.methodLink RX2 110 yX2_isDigitHere : Cond) ∈ bw := bw_of (i := 636) (by decide +kernel) rfl
theorem bw_638 : (.instanceMethod yX2_isDigitHere : Cond) ∈ bw := bw_of (i := 638) (by decide +kernel) rfl
theorem bw_639 : (.code yX2_isDigitHere cX2_isDigitHere 1 (some .boolean) : Cond) ∈ bw := bw_of (i := 639) (by decide +kernel) rfl
theorem bw_640 : (.methodLink RX2 107 yX2_readColour : Cond) ∈ bw := bw_of (i := 640) (by decide +kernel) rfl
theorem bw_642 : (.instanceMethod yX2_readColour : Cond) ∈ bw := bw_of (i := 642) (by decide +kernel) rfl
theorem bw_643 : (.code yX2_readColour cX2_readColour 2 (some .boolean) : Cond) ∈ bw := bw_of (i := 643) (by decide +kernel) rfl
theorem bw_644 : (.methodLink RX2 83 yJ0_isEmpty_aae02 : Cond) ∈ bw := bw_of (i := 644) (by decide +kernel) rfl
theorem bw_645 : (.instanceMethod yJ0_isEmpty_aae02 : Cond) ∈ bw := bw_of (i := 645) (by decide +kernel) rfl
theorem bw_646 : (.selects RJ0 yJ0_isEmpty_aae02 yJ0_isEmpty_aae02 : Cond) ∈ bw := bw_of (i := 646) (by decide +kernel) rfl
theorem bw_647 : (.code yJ0_isEmpty_aae02 cJ0_isEmpty_aae02 1 (some .boolean) : Cond) ∈ bw := bw_of (i := 647) (by decide +kernel) rfl
theorem bw_648 : (.arrayClass .byte : Cond) ∈ bw := bw_of (i := 648) (by decide +kernel) rfl
theorem bw_649 : (.methodLink RL 125 yX7_carryOut : Cond) ∈ bw := bw_of (i := 649) (by decide +kernel) rfl
theorem bw_650 : (.instanceMethod yX7_carryOut : Cond) ∈ bw := bw_of (i := 650) (by decide +kernel) rfl
theorem bw_651 : (.selects RX7 yX7_carryOut yX7_carryOut : Cond) ∈ bw := bw_of (i := 651) (by decide +kernel) rfl
theorem bw_652 : (.code yX7_carryOut cX7_carryOut 2 (some .int) : Cond) ∈ bw := bw_of (i := 652) (by decide +kernel) rfl
theorem bw_653 : (.methodLink RX7 191 yX2_startReading : Cond) ∈ bw := bw_of (i := 653) (by decide +kernel) rfl
theorem bw_654 : (.methodLink RX7 194 yX2_nextOrder : Cond) ∈ bw := bw_of (i := 654) (by decide +kernel) rfl
theorem bw_655 : (.methodLink RX7 198 yX7_carryOutOrder : Cond) ∈ bw := bw_of (i := 655) (by decide +kernel) rfl
theorem bw_657 : (.instanceMethod yX7_carryOutOrder : Cond) ∈ bw := bw_of (i := 657) (by decide +kernel) rfl
theorem bw_658 : (.code yX7_carryOutOrder cX7_carryOutOrder 3 (some .int) : Cond) ∈ bw := bw_of (i := 658) (by decide +kernel) rfl
theorem bw_659 : (.methodLink RX7 221 yX2_number : Cond) ∈ bw := bw_of (i := 659) (by decide +kernel) rfl
theorem bw_660 : (.instanceMethod yX2_number : Cond) ∈ bw := bw_of (i := 660) (by decide +kernel) rfl
theorem bw_661 : (.selects RX2 yX2_number yX2_number : Cond) ∈ bw := bw_of (i := 661) (by decide +kernel) rfl
theorem bw_662 : (.code yX2_number cX2_number 2 (some .int) : Cond) ∈ bw := bw_of (i := 662) (by decide +kernel) rfl
theorem bw_663 : (.methodLink RX7 224 yX2_letter : Cond) ∈ bw := bw_of (i := 663) (by decide +kernel) rfl
theorem bw_664 : (.instanceMethod yX2_letter : Cond) ∈ bw := bw_of (i := 664) (by decide +kernel) rfl
theorem bw_665 : (.selects RX2 yX2_letter yX2_letter : Cond) ∈ bw := bw_of (i := 665) (by decide +kernel) rfl
theorem bw_666 : (.code yX2_letter cX2_letter 1 (some .int) : Cond) ∈ bw := bw_of (i := 666) (by decide +kernel) rfl
theorem bw_667 : (.methodLink RX7 227 yX2_colour : Cond) ∈ bw := bw_of (i := 667) (by decide +kernel) rfl
theorem bw_668 : (.instanceMethod yX2_colour : Cond) ∈ bw := bw_of (i := 668) (by decide +kernel) rfl
theorem bw_669 : (.selects RX2 yX2_colour yX2_colour : Cond) ∈ bw := bw_of (i := 669) (by decide +kernel) rfl
theorem bw_670 : (.code yX2_colour cX2_colour 1 (some .int) : Cond) ∈ bw := bw_of (i := 670) (by decide +kernel) rfl
theorem bw_671 : (.methodLink RX7 230 yX2_isMinus : Cond) ∈ bw := bw_of (i := 671) (by decide +kernel) rfl
theorem bw_672 : (.instanceMethod yX2_isMinus : Cond) ∈ bw := bw_of (i := 672) (by decide +kernel) rfl
theorem bw_673 : (.selects RX2 yX2_isMinus yX2_isMinus : Cond) ∈ bw := bw_of (i := 673) (by decide +kernel) rfl
theorem bw_674 : (.code yX2_isMinus cX2_isMinus 1 (some .boolean) : Cond) ∈ bw := bw_of (i := 674) (by decide +kernel) rfl
theorem bw_675 : (.methodLink RL 129 yX7_undo : Cond) ∈ bw := bw_of (i := 675) (by decide +kernel) rfl
theorem bw_676 : (.instanceMethod yX7_undo : Cond) ∈ bw := bw_of (i := 676) (by decide +kernel) rfl
theorem bw_677 : (.selects RX7 yX7_undo yX7_undo : Cond) ∈ bw := bw_of (i := 677) (by decide +kernel) rfl
theorem bw_678 : (.code yX7_undo cX7_undo 1 (some .int) : Cond) ∈ bw := bw_of (i := 678) (by decide +kernel) rfl
theorem bw_679 : (.methodLink RX7 201 yX1_takeBack : Cond) ∈ bw := bw_of (i := 679) (by decide +kernel) rfl
theorem bw_680 : (.instanceMethod yX1_takeBack : Cond) ∈ bw := bw_of (i := 680) (by decide +kernel) rfl
theorem bw_681 : (.selects RX1 yX1_takeBack yX1_takeBack : Cond) ∈ bw := bw_of (i := 681) (by decide +kernel) rfl
theorem bw_682 : (.code yX1_takeBack cX1_takeBack 2 (Option.none : Option Jvm.ClassFile.FieldType) : Cond) ∈ bw := bw_of (i := 682) (by decide +kernel) rfl
theorem bw_683 : (.methodLink RX1 29 yX4_give : Cond) ∈ bw := bw_of (i := 683) (by decide +kernel) rfl
theorem bw_684 : (.instanceMethod yX4_give : Cond) ∈ bw := bw_of (i := 684) (by decide +kernel) rfl
theorem bw_685 : (.selects RX4 yX4_give yX4_give : Cond) ∈ bw := bw_of (i := 685) (by decide +kernel) rfl
theorem bw_686 : (.code yX4_give cX4_give 3 (Option.none : Option Jvm.ClassFile.FieldType) : Cond) ∈ bw := bw_of (i := 686) (by decide +kernel) rfl
theorem bw_687 : (.methodLink RX4 25 yX3_readFrom : Cond) ∈ bw := bw_of (i := 687) (by decide +kernel) rfl
theorem bw_688 : (.instanceMethod yX3_readFrom : Cond) ∈ bw := bw_of (i := 688) (by decide +kernel) rfl
theorem bw_689 : (.selects RX3 yX3_readFrom yX3_readFrom : Cond) ∈ bw := bw_of (i := 689) (by decide +kernel) rfl
theorem bw_690 : (.code yX3_readFrom cX3_readFrom 3 (Option.none : Option Jvm.ClassFile.FieldType) : Cond) ∈ bw := bw_of (i := 690) (by decide +kernel) rfl
theorem bw_691 : (.methodLink RL 133 yX7_save : Cond) ∈ bw := bw_of (i := 691) (by decide +kernel) rfl
theorem bw_692 : (.instanceMethod yX7_save : Cond) ∈ bw := bw_of (i := 692) (by decide +kernel) rfl
theorem bw_693 : (.selects RX7 yX7_save yX7_save : Cond) ∈ bw := bw_of (i := 693) (by decide +kernel) rfl
theorem bw_694 : (.code yX7_save cX7_save 2 (some .int) : Cond) ∈ bw := bw_of (i := 694) (by decide +kernel) rfl
theorem bw_695 : (.methodLink RX7 204 yX7_isSlot : Cond) ∈ bw := bw_of (i := 695) (by decide +kernel) rfl
theorem bw_696 : (.static yX7_isSlot : Cond) ∈ bw := bw_of (i := 696) (by decide +kernel) rfl
theorem bw_697 : (.code yX7_isSlot cX7_isSlot 1 (some .boolean) : Cond) ∈ bw := bw_of (i := 697) (by decide +kernel) rfl
theorem bw_698 : (.methodLink RX7 207 yX4_keep : Cond) ∈ bw := bw_of (i := 698) (by decide +kernel) rfl
theorem bw_699 : (.methodLink RL 137 yX7_restore : Cond) ∈ bw := bw_of (i := 699) (by decide +kernel) rfl
theorem bw_700 : (.instanceMethod yX7_restore : Cond) ∈ bw := bw_of (i := 700) (by decide +kernel) rfl
theorem bw_701 : (.selects RX7 yX7_restore yX7_restore : Cond) ∈ bw := bw_of (i := 701) (by decide +kernel) rfl
theorem bw_702 : (.code yX7_restore cX7_restore 2 (some .int) : Cond) ∈ bw := bw_of (i := 702) (by decide +kernel) rfl
theorem bw_703 : (.methodLink RX7 215 yX4_give : Cond) ∈ bw := bw_of (i := 703) (by decide +kernel) rfl
theorem bw_704 : (.classLink RL 10 "TimingLightsModel" : Cond) ∈ bw := bw_of (i := 704) (by decide +kernel) rfl
theorem bw_705 : (.instantiable RX8 11 : Cond) ∈ bw := bw_of (i := 705) (by decide +kernel) rfl
theorem bw_706 : (.methodLink RL 12 yX8_init : Cond) ∈ bw := bw_of (i := 706) (by decide +kernel) rfl
theorem bw_707 : (.instanceMethod yX8_init : Cond) ∈ bw := bw_of (i := 707) (by decide +kernel) rfl
theorem bw_708 : (.code yX8_init cX8_init 1 (Option.none : Option Jvm.ClassFile.FieldType) : Cond) ∈ bw := bw_of (i := 708) (by decide +kernel) rfl
theorem bw_709 : (.methodLink RX8 1 Lib.objectInit : Cond) ∈ bw := bw_of (i := 709) (by decide +kernel) rfl
theorem bw_710 : (.fieldLink RX8 7 "TimingLightsModel" "state" "[I" : Cond) ∈ bw := bw_of (i := 710) (by decide +kernel) rfl
theorem bw_711 : (.fieldLink RX8 13 "TimingLightsModel" "spare" "[I" : Cond) ∈ bw := bw_of (i := 711) (by decide +kernel) rfl
theorem bw_712 : (.fieldLink RX8 16 "TimingLightsModel" "history" "[I" : Cond) ∈ bw := bw_of (i := 712) (by decide +kernel) rfl
theorem bw_713 : (.fieldLink RX8 35 "TimingLightsModel" "states" "I" : Cond) ∈ bw := bw_of (i := 713) (by decide +kernel) rfl
theorem bw_714 : (.fieldLink RX8 19 "TimingLightsModel" "slots" "[I" : Cond) ∈ bw := bw_of (i := 714) (by decide +kernel) rfl
theorem bw_715 : (.fieldLink RX8 22 "TimingLightsModel" "isSaved" "[I" : Cond) ∈ bw := bw_of (i := 715) (by decide +kernel) rfl
theorem bw_716 : (.fieldLink RX8 25 "TimingLightsModel" "pad" "[I" : Cond) ∈ bw := bw_of (i := 716) (by decide +kernel) rfl
theorem bw_717 : (.fieldLink RX8 177 "TimingLightsModel" "length" "I" : Cond) ∈ bw := bw_of (i := 717) (by decide +kernel) rfl
theorem bw_718 : (.fieldLink RX8 201 "TimingLightsModel" "at" "I" : Cond) ∈ bw := bw_of (i := 718) (by decide +kernel) rfl
theorem bw_719 : (.fieldLink RX8 217 "TimingLightsModel" "sign" "I" : Cond) ∈ bw := bw_of (i := 719) (by decide +kernel) rfl
theorem bw_720 : (.fieldLink RX8 28 "TimingLightsModel" "number" "[I" : Cond) ∈ bw := bw_of (i := 720) (by decide +kernel) rfl
theorem bw_721 : (.laysFinal RX8 "TimingLightsModel" "state" "[I" : Cond) ∈ bw := bw_of (i := 721) (by decide +kernel) rfl
theorem bw_723 : (.laysFinal RX8 "TimingLightsModel" "spare" "[I" : Cond) ∈ bw := bw_of (i := 723) (by decide +kernel) rfl
theorem bw_725 : (.laysFinal RX8 "TimingLightsModel" "history" "[I" : Cond) ∈ bw := bw_of (i := 725) (by decide +kernel) rfl
theorem bw_727 : (.lays RX8 "TimingLightsModel" "states" "I" : Cond) ∈ bw := bw_of (i := 727) (by decide +kernel) rfl
theorem bw_729 : (.laysFinal RX8 "TimingLightsModel" "slots" "[I" : Cond) ∈ bw := bw_of (i := 729) (by decide +kernel) rfl
theorem bw_731 : (.laysFinal RX8 "TimingLightsModel" "isSaved" "[I" : Cond) ∈ bw := bw_of (i := 731) (by decide +kernel) rfl
theorem bw_733 : (.laysFinal RX8 "TimingLightsModel" "pad" "[I" : Cond) ∈ bw := bw_of (i := 733) (by decide +kernel) rfl
theorem bw_735 : (.lays RX8 "TimingLightsModel" "length" "I" : Cond) ∈ bw := bw_of (i := 735) (by decide +kernel) rfl
theorem bw_737 : (.lays RX8 "TimingLightsModel" "at" "I" : Cond) ∈ bw := bw_of (i := 737) (by decide +kernel) rfl
theorem bw_739 : (.lays RX8 "TimingLightsModel" "sign" "I" : Cond) ∈ bw := bw_of (i := 739) (by decide +kernel) rfl
theorem bw_741 : (.laysFinal RX8 "TimingLightsModel" "number" "[I" : Cond) ∈ bw := bw_of (i := 741) (by decide +kernel) rfl
theorem bw_744 : (.methodLink RL 132 yX8_undo : Cond) ∈ bw := bw_of (i := 744) (by decide +kernel) rfl
theorem bw_745 : (.instanceMethod yX8_undo : Cond) ∈ bw := bw_of (i := 745) (by decide +kernel) rfl
theorem bw_746 : (.selects RX8 yX8_undo yX8_undo : Cond) ∈ bw := bw_of (i := 746) (by decide +kernel) rfl
theorem bw_747 : (.code yX8_undo cX8_undo 2 (some .int) : Cond) ∈ bw := bw_of (i := 747) (by decide +kernel) rfl
theorem bw_748 : (.methodLink RL 136 yX8_save : Cond) ∈ bw := bw_of (i := 748) (by decide +kernel) rfl
theorem bw_749 : (.instanceMethod yX8_save : Cond) ∈ bw := bw_of (i := 749) (by decide +kernel) rfl
theorem bw_750 : (.selects RX8 yX8_save yX8_save : Cond) ∈ bw := bw_of (i := 750) (by decide +kernel) rfl
theorem bw_751 : (.code yX8_save cX8_save 3 (some .int) : Cond) ∈ bw := bw_of (i := 751) (by decide +kernel) rfl
theorem bw_752 : (.methodLink RX8 42 yX8_isSlot : Cond) ∈ bw := bw_of (i := 752) (by decide +kernel) rfl
theorem bw_753 : (.static yX8_isSlot : Cond) ∈ bw := bw_of (i := 753) (by decide +kernel) rfl
theorem bw_754 : (.code yX8_isSlot cX8_isSlot 1 (some .boolean) : Cond) ∈ bw := bw_of (i := 754) (by decide +kernel) rfl
theorem bw_755 : (.methodLink RX8 31 yX8_within : Cond) ∈ bw := bw_of (i := 755) (by decide +kernel) rfl
theorem bw_756 : (.static yX8_within : Cond) ∈ bw := bw_of (i := 756) (by decide +kernel) rfl
theorem bw_757 : (.code yX8_within cX8_within 3 (some .boolean) : Cond) ∈ bw := bw_of (i := 757) (by decide +kernel) rfl
theorem bw_758 : (.methodLink RL 140 yX8_restore : Cond) ∈ bw := bw_of (i := 758) (by decide +kernel) rfl
theorem bw_759 : (.instanceMethod yX8_restore : Cond) ∈ bw := bw_of (i := 759) (by decide +kernel) rfl
theorem bw_760 : (.selects RX8 yX8_restore yX8_restore : Cond) ∈ bw := bw_of (i := 760) (by decide +kernel) rfl
theorem bw_761 : (.code yX8_restore cX8_restore 3 (some .int) : Cond) ∈ bw := bw_of (i := 761) (by decide +kernel) rfl
theorem bw_762 : (.methodLink RX8 46 yX8_putAside : Cond) ∈ bw := bw_of (i := 762) (by decide +kernel) rfl
theorem bw_764 : (.instanceMethod yX8_putAside : Cond) ∈ bw := bw_of (i := 764) (by decide +kernel) rfl
theorem bw_765 : (.code yX8_putAside cX8_putAside 2 (Option.none : Option Jvm.ClassFile.FieldType) : Cond) ∈ bw := bw_of (i := 765) (by decide +kernel) rfl
theorem bw_766 : (.methodLink RX8 39 yX8_push : Cond) ∈ bw := bw_of (i := 766) (by decide +kernel) rfl
theorem bw_768 : (.instanceMethod yX8_push : Cond) ∈ bw := bw_of (i := 768) (by decide +kernel) rfl
theorem bw_769 : (.code yX8_push cX8_push 2 (Option.none : Option Jvm.ClassFile.FieldType) : Cond) ∈ bw := bw_of (i := 769) (by decide +kernel) rfl
theorem bw_770 : (.methodLink RL 17 yX8_set : Cond) ∈ bw := bw_of (i := 770) (by decide +kernel) rfl
theorem bw_771 : (.instanceMethod yX8_set : Cond) ∈ bw := bw_of (i := 771) (by decide +kernel) rfl
theorem bw_772 : (.selects RX8 yX8_set yX8_set : Cond) ∈ bw := bw_of (i := 772) (by decide +kernel) rfl
theorem bw_773 : (.code yX8_set cX8_set 4 (some .int) : Cond) ∈ bw := bw_of (i := 773) (by decide +kernel) rfl
theorem bw_774 : (.methodLink RX8 128 yX8_mostOf : Cond) ∈ bw := bw_of (i := 774) (by decide +kernel) rfl
theorem bw_775 : (.static yX8_mostOf : Cond) ∈ bw := bw_of (i := 775) (by decide +kernel) rfl
theorem bw_776 : (.code yX8_mostOf cX8_mostOf 1 (some .int) : Cond) ∈ bw := bw_of (i := 776) (by decide +kernel) rfl
theorem bw_777 : (.methodLink RX8 131 yX8_recorded : Cond) ∈ bw := bw_of (i := 777) (by decide +kernel) rfl
theorem bw_779 : (.instanceMethod yX8_recorded : Cond) ∈ bw := bw_of (i := 779) (by decide +kernel) rfl
theorem bw_780 : (.code yX8_recorded cX8_recorded 2 (some .int) : Cond) ∈ bw := bw_of (i := 780) (by decide +kernel) rfl
theorem bw_781 : (.methodLink RL 22 yX8_shot : Cond) ∈ bw := bw_of (i := 781) (by decide +kernel) rfl
theorem bw_782 : (.instanceMethod yX8_shot : Cond) ∈ bw := bw_of (i := 782) (by decide +kernel) rfl
theorem bw_783 : (.selects RX8 yX8_shot yX8_shot : Cond) ∈ bw := bw_of (i := 783) (by decide +kernel) rfl
theorem bw_784 : (.code yX8_shot cX8_shot 6 (some .int) : Cond) ∈ bw := bw_of (i := 784) (by decide +kernel) rfl
theorem bw_785 : (.methodLink RX8 134 yX8_comes : Cond) ∈ bw := bw_of (i := 785) (by decide +kernel) rfl
theorem bw_787 : (.instanceMethod yX8_comes : Cond) ∈ bw := bw_of (i := 787) (by decide +kernel) rfl
theorem bw_788 : (.code yX8_comes cX8_comes 7 (some .int) : Cond) ∈ bw := bw_of (i := 788) (by decide +kernel) rfl
theorem bw_789 : (.methodLink RX8 77 yX8_isPoints : Cond) ∈ bw := bw_of (i := 789) (by decide +kernel) rfl
theorem bw_790 : (.static yX8_isPoints : Cond) ∈ bw := bw_of (i := 790) (by decide +kernel) rfl
theorem bw_791 : (.code yX8_isPoints cX8_isPoints 1 (some .boolean) : Cond) ∈ bw := bw_of (i := 791) (by decide +kernel) rfl
theorem bw_792 : (.methodLink RX8 80 yX8_open : Cond) ∈ bw := bw_of (i := 792) (by decide +kernel) rfl
theorem bw_794 : (.instanceMethod yX8_open : Cond) ∈ bw := bw_of (i := 794) (by decide +kernel) rfl
theorem bw_795 : (.code yX8_open cX8_open 3 (Option.none : Option Jvm.ClassFile.FieldType) : Cond) ∈ bw := bw_of (i := 795) (by decide +kernel) rfl
theorem bw_796 : (.methodLink RX8 73 yX8_setOf : Cond) ∈ bw := bw_of (i := 796) (by decide +kernel) rfl
theorem bw_798 : (.instanceMethod yX8_setOf : Cond) ∈ bw := bw_of (i := 798) (by decide +kernel) rfl
theorem bw_799 : (.code yX8_setOf cX8_setOf 4 (Option.none : Option Jvm.ClassFile.FieldType) : Cond) ∈ bw := bw_of (i := 799) (by decide +kernel) rfl
theorem bw_800 : (.methodLink RX8 84 yX8_takeAnswer : Cond) ∈ bw := bw_of (i := 800) (by decide +kernel) rfl
theorem bw_802 : (.instanceMethod yX8_takeAnswer : Cond) ∈ bw := bw_of (i := 802) (by decide +kernel) rfl
theorem bw_803 : (.code yX8_takeAnswer cX8_takeAnswer 3 (Option.none : Option Jvm.ClassFile.FieldType) : Cond) ∈ bw := bw_of (i := 803) (by decide +kernel) rfl
theorem bw_804 : (.methodLink RL 27 yX8_takeOut : Cond) ∈ bw := bw_of (i := 804) (by decide +kernel) rfl
theorem bw_805 : (.instanceMethod yX8_takeOut : Cond) ∈ bw := bw_of (i := 805) (by decide +kernel) rfl
theorem bw_806 : (.selects RX8 yX8_takeOut yX8_takeOut : Cond) ∈ bw := bw_of (i := 806) (by decide +kernel) rfl
theorem bw_807 : (.code yX8_takeOut cX8_takeOut 2 (some .int) : Cond) ∈ bw := bw_of (i := 807) (by decide +kernel) rfl
theorem bw_808 : (.methodLink RX8 87 yX8_isShot : Cond) ∈ bw := bw_of (i := 808) (by decide +kernel) rfl
theorem bw_810 : (.instanceMethod yX8_isShot : Cond) ∈ bw := bw_of (i := 810) (by decide +kernel) rfl
theorem bw_811 : (.code yX8_isShot cX8_isShot 2 (some .boolean) : Cond) ∈ bw := bw_of (i := 811) (by decide +kernel) rfl
theorem bw_812 : (.methodLink RX8 100 yX8_shut : Cond) ∈ bw := bw_of (i := 812) (by decide +kernel) rfl
theorem bw_814 : (.instanceMethod yX8_shut : Cond) ∈ bw := bw_of (i := 814) (by decide +kernel) rfl
theorem bw_815 : (.code yX8_shut cX8_shut 3 (Option.none : Option Jvm.ClassFile.FieldType) : Cond) ∈ bw := bw_of (i := 815) (by decide +kernel) rfl
theorem bw_816 : (.methodLink RL 32 yX8_light : Cond) ∈ bw := bw_of (i := 816) (by decide +kernel) rfl
theorem bw_817 : (.instanceMethod yX8_light : Cond) ∈ bw := bw_of (i := 817) (by decide +kernel) rfl
theorem bw_818 : (.selects RX8 yX8_light yX8_light : Cond) ∈ bw := bw_of (i := 818) (by decide +kernel) rfl
theorem bw_819 : (.code yX8_light cX8_light 4 (some .int) : Cond) ∈ bw := bw_of (i := 819) (by decide +kernel) rfl
theorem bw_820 : (.methodLink RX8 138 yX8_lights : Cond) ∈ bw := bw_of (i := 820) (by decide +kernel) rfl
theorem bw_822 : (.instanceMethod yX8_lights : Cond) ∈ bw := bw_of (i := 822) (by decide +kernel) rfl
theorem bw_823 : (.code yX8_lights cX8_lights 5 (some .int) : Cond) ∈ bw := bw_of (i := 823) (by decide +kernel) rfl
theorem bw_824 : (.methodLink RX8 90 yX8_isColour : Cond) ∈ bw := bw_of (i := 824) (by decide +kernel) rfl
theorem bw_825 : (.static yX8_isColour : Cond) ∈ bw := bw_of (i := 825) (by decide +kernel) rfl
theorem bw_826 : (.code yX8_isColour cX8_isColour 1 (some .boolean) : Cond) ∈ bw := bw_of (i := 826) (by decide +kernel) rfl
theorem bw_827 : (.methodLink RX8 53 yX8_of14 : Cond) ∈ bw := bw_of (i := 827) (by decide +kernel) rfl
theorem bw_829 : (.instanceMethod yX8_of14 : Cond) ∈ bw := bw_of (i := 829) (by decide +kernel) rfl
theorem bw_830 : (.code yX8_of14 cX8_of14 3 (some .int) : Cond) ∈ bw := bw_of (i := 830) (by decide +kernel) rfl
theorem bw_831 : (.methodLink RL 36 yX8_wish : Cond) ∈ bw := bw_of (i := 831) (by decide +kernel) rfl
theorem bw_832 : (.instanceMethod yX8_wish : Cond) ∈ bw := bw_of (i := 832) (by decide +kernel) rfl
theorem bw_833 : (.selects RX8 yX8_wish yX8_wish : Cond) ∈ bw := bw_of (i := 833) (by decide +kernel) rfl
theorem bw_834 : (.code yX8_wish cX8_wish 4 (some .int) : Cond) ∈ bw := bw_of (i := 834) (by decide +kernel) rfl
theorem bw_835 : (.methodLink RX8 141 yX8_wishes : Cond) ∈ bw := bw_of (i := 835) (by decide +kernel) rfl
theorem bw_837 : (.instanceMethod yX8_wishes : Cond) ∈ bw := bw_of (i := 837) (by decide +kernel) rfl
theorem bw_838 : (.code yX8_wishes cX8_wishes 5 (some .int) : Cond) ∈ bw := bw_of (i := 838) (by decide +kernel) rfl
theorem bw_839 : (.methodLink RL 40 yX8_move : Cond) ∈ bw := bw_of (i := 839) (by decide +kernel) rfl
theorem bw_840 : (.instanceMethod yX8_move : Cond) ∈ bw := bw_of (i := 840) (by decide +kernel) rfl
theorem bw_841 : (.selects RX8 yX8_move yX8_move : Cond) ∈ bw := bw_of (i := 841) (by decide +kernel) rfl
theorem bw_842 : (.code yX8_move cX8_move 3 (some .int) : Cond) ∈ bw := bw_of (i := 842) (by decide +kernel) rfl
theorem bw_843 : (.methodLink RX8 144 yX8_moves : Cond) ∈ bw := bw_of (i := 843) (by decide +kernel) rfl
theorem bw_845 : (.instanceMethod yX8_moves : Cond) ∈ bw := bw_of (i := 845) (by decide +kernel) rfl
theorem bw_846 : (.code yX8_moves cX8_moves 5 (some .int) : Cond) ∈ bw := bw_of (i := 846) (by decide +kernel) rfl
theorem bw_847 : (.methodLink RX8 93 yX8_exchange : Cond) ∈ bw := bw_of (i := 847) (by decide +kernel) rfl
theorem bw_849 : (.instanceMethod yX8_exchange : Cond) ∈ bw := bw_of (i := 849) (by decide +kernel) rfl
theorem bw_850 : (.code yX8_exchange cX8_exchange 5 (Option.none : Option Jvm.ClassFile.FieldType) : Cond) ∈ bw := bw_of (i := 850) (by decide +kernel) rfl
theorem bw_851 : (.methodLink RX8 67 yX8_sizeOf : Cond) ∈ bw := bw_of (i := 851) (by decide +kernel) rfl
theorem bw_852 : (.static yX8_sizeOf : Cond) ∈ bw := bw_of (i := 852) (by decide +kernel) rfl
theorem bw_853 : (.code yX8_sizeOf cX8_sizeOf 1 (some .int) : Cond) ∈ bw := bw_of (i := 853) (by decide +kernel) rfl
theorem bw_854 : (.methodLink RL 44 yX8_split : Cond) ∈ bw := bw_of (i := 854) (by decide +kernel) rfl
theorem bw_855 : (.instanceMethod yX8_split : Cond) ∈ bw := bw_of (i := 855) (by decide +kernel) rfl
theorem bw_856 : (.selects RX8 yX8_split yX8_split : Cond) ∈ bw := bw_of (i := 856) (by decide +kernel) rfl
theorem bw_857 : (.code yX8_split cX8_split 3 (some .int) : Cond) ∈ bw := bw_of (i := 857) (by decide +kernel) rfl
theorem bw_858 : (.methodLink RX8 147 yX8_splits : Cond) ∈ bw := bw_of (i := 858) (by decide +kernel) rfl
theorem bw_860 : (.instanceMethod yX8_splits : Cond) ∈ bw := bw_of (i := 860) (by decide +kernel) rfl
theorem bw_861 : (.code yX8_splits cX8_splits 3 (some .int) : Cond) ∈ bw := bw_of (i := 861) (by decide +kernel) rfl
theorem bw_862 : (.methodLink RL 48 yX8_join : Cond) ∈ bw := bw_of (i := 862) (by decide +kernel) rfl
theorem bw_863 : (.instanceMethod yX8_join : Cond) ∈ bw := bw_of (i := 863) (by decide +kernel) rfl
theorem bw_864 : (.selects RX8 yX8_join yX8_join : Cond) ∈ bw := bw_of (i := 864) (by decide +kernel) rfl
theorem bw_865 : (.code yX8_join cX8_join 2 (some .int) : Cond) ∈ bw := bw_of (i := 865) (by decide +kernel) rfl
theorem bw_866 : (.methodLink RX8 150 yX8_joins : Cond) ∈ bw := bw_of (i := 866) (by decide +kernel) rfl
theorem bw_868 : (.instanceMethod yX8_joins : Cond) ∈ bw := bw_of (i := 868) (by decide +kernel) rfl
theorem bw_869 : (.code yX8_joins cX8_joins 3 (some .int) : Cond) ∈ bw := bw_of (i := 869) (by decide +kernel) rfl
theorem bw_870 : (.methodLink RX8 97 yX8_areAlike : Cond) ∈ bw := bw_of (i := 870) (by decide +kernel) rfl
theorem bw_872 : (.instanceMethod yX8_areAlike : Cond) ∈ bw := bw_of (i := 872) (by decide +kernel) rfl
theorem bw_873 : (.code yX8_areAlike cX8_areAlike 4 (some .boolean) : Cond) ∈ bw := bw_of (i := 873) (by decide +kernel) rfl
theorem bw_874 : (.methodLink RL 53 yX8_print : Cond) ∈ bw := bw_of (i := 874) (by decide +kernel) rfl
theorem bw_875 : (.instanceMethod yX8_print : Cond) ∈ bw := bw_of (i := 875) (by decide +kernel) rfl
theorem bw_876 : (.selects RX8 yX8_print yX8_print : Cond) ∈ bw := bw_of (i := 876) (by decide +kernel) rfl
theorem bw_877 : (.code yX8_print cX8_print 1 (some .int) : Cond) ∈ bw := bw_of (i := 877) (by decide +kernel) rfl
theorem bw_878 : (.methodLink RX8 153 yX8_makesPrint : Cond) ∈ bw := bw_of (i := 878) (by decide +kernel) rfl
theorem bw_880 : (.instanceMethod yX8_makesPrint : Cond) ∈ bw := bw_of (i := 880) (by decide +kernel) rfl
theorem bw_881 : (.code yX8_makesPrint cX8_makesPrint 1 (some .int) : Cond) ∈ bw := bw_of (i := 881) (by decide +kernel) rfl
theorem bw_882 : (.methodLink RX8 113 yX8_oldest : Cond) ∈ bw := bw_of (i := 882) (by decide +kernel) rfl
theorem bw_884 : (.instanceMethod yX8_oldest : Cond) ∈ bw := bw_of (i := 884) (by decide +kernel) rfl
theorem bw_885 : (.code yX8_oldest cX8_oldest 3 (some .int) : Cond) ∈ bw := bw_of (i := 885) (by decide +kernel) rfl
theorem bw_886 : (.methodLink RX8 109 yX8_hours : Cond) ∈ bw := bw_of (i := 886) (by decide +kernel) rfl
theorem bw_888 : (.instanceMethod yX8_hours : Cond) ∈ bw := bw_of (i := 888) (by decide +kernel) rfl
theorem bw_889 : (.code yX8_hours cX8_hours 1 (some .int) : Cond) ∈ bw := bw_of (i := 889) (by decide +kernel) rfl
theorem bw_890 : (.methodLink RX8 106 yX8_feetTo : Cond) ∈ bw := bw_of (i := 890) (by decide +kernel) rfl
theorem bw_892 : (.instanceMethod yX8_feetTo : Cond) ∈ bw := bw_of (i := 892) (by decide +kernel) rfl
theorem bw_893 : (.code yX8_feetTo cX8_feetTo 4 (some .int) : Cond) ∈ bw := bw_of (i := 893) (by decide +kernel) rfl
theorem bw_894 : (.methodLink RX8 116 yX8_makePrint : Cond) ∈ bw := bw_of (i := 894) (by decide +kernel) rfl
theorem bw_896 : (.instanceMethod yX8_makePrint : Cond) ∈ bw := bw_of (i := 896) (by decide +kernel) rfl
theorem bw_897 : (.code yX8_makePrint cX8_makePrint 3 (Option.none : Option Jvm.ClassFile.FieldType) : Cond) ∈ bw := bw_of (i := 897) (by decide +kernel) rfl
theorem bw_898 : (.methodLink RX8 70 yX8_off : Cond) ∈ bw := bw_of (i := 898) (by decide +kernel) rfl
theorem bw_900 : (.instanceMethod yX8_off : Cond) ∈ bw := bw_of (i := 900) (by decide +kernel) rfl
theorem bw_901 : (.code yX8_off cX8_off 3 (some .int) : Cond) ∈ bw := bw_of (i := 901) (by decide +kernel) rfl
theorem bw_902 : (.methodLink RX8 64 yX8_prints : Cond) ∈ bw := bw_of (i := 902) (by decide +kernel) rfl
theorem bw_904 : (.instanceMethod yX8_prints : Cond) ∈ bw := bw_of (i := 904) (by decide +kernel) rfl
theorem bw_905 : (.code yX8_prints cX8_prints 3 (some .int) : Cond) ∈ bw := bw_of (i := 905) (by decide +kernel) rfl
theorem bw_906 : (.methodLink RX8 60 yX8_printed : Cond) ∈ bw := bw_of (i := 906) (by decide +kernel) rfl
theorem bw_908 : (.instanceMethod yX8_printed : Cond) ∈ bw := bw_of (i := 908) (by decide +kernel) rfl
theorem bw_909 : (.code yX8_printed cX8_printed 4 (some .int) : Cond) ∈ bw := bw_of (i := 909) (by decide +kernel) rfl
theorem bw_910 : (.methodLink RX8 49 yX8_lost : Cond) ∈ bw := bw_of (i := 910) (by decide +kernel) rfl
theorem bw_912 : (.instanceMethod yX8_lost : Cond) ∈ bw := bw_of (i := 912) (by decide +kernel) rfl
theorem bw_913 : (.code yX8_lost cX8_lost 2 (some .int) : Cond) ∈ bw := bw_of (i := 913) (by decide +kernel) rfl
theorem bw_914 : (.methodLink RX8 57 yX8_bounded : Cond) ∈ bw := bw_of (i := 914) (by decide +kernel) rfl
theorem bw_915 : (.static yX8_bounded : Cond) ∈ bw := bw_of (i := 915) (by decide +kernel) rfl
theorem bw_916 : (.code yX8_bounded cX8_bounded 1 (some .int) : Cond) ∈ bw := bw_of (i := 916) (by decide +kernel) rfl
theorem bw_917 : (.methodLink RX8 119 yX8_badOnes : Cond) ∈ bw := bw_of (i := 917) (by decide +kernel) rfl
theorem bw_919 : (.instanceMethod yX8_badOnes : Cond) ∈ bw := bw_of (i := 919) (by decide +kernel) rfl
theorem bw_920 : (.code yX8_badOnes cX8_badOnes 3 (some .int) : Cond) ∈ bw := bw_of (i := 920) (by decide +kernel) rfl
theorem bw_921 : (.methodLink RX8 103 yX8_isBad : Cond) ∈ bw := bw_of (i := 921) (by decide +kernel) rfl
theorem bw_923 : (.instanceMethod yX8_isBad : Cond) ∈ bw := bw_of (i := 923) (by decide +kernel) rfl
theorem bw_924 : (.code yX8_isBad cX8_isBad 4 (some .boolean) : Cond) ∈ bw := bw_of (i := 924) (by decide +kernel) rfl
theorem bw_925 : (.methodLink RX8 122 yX8_ones : Cond) ∈ bw := bw_of (i := 925) (by decide +kernel) rfl
theorem bw_926 : (.static yX8_ones : Cond) ∈ bw := bw_of (i := 926) (by decide +kernel) rfl
theorem bw_927 : (.code yX8_ones cX8_ones 3 (some .int) : Cond) ∈ bw := bw_of (i := 927) (by decide +kernel) rfl
theorem bw_928 : (.methodLink RL 57 yX8_correct : Cond) ∈ bw := bw_of (i := 928) (by decide +kernel) rfl
theorem bw_929 : (.instanceMethod yX8_correct : Cond) ∈ bw := bw_of (i := 929) (by decide +kernel) rfl
theorem bw_930 : (.selects RX8 yX8_correct yX8_correct : Cond) ∈ bw := bw_of (i := 930) (by decide +kernel) rfl
theorem bw_931 : (.code yX8_correct cX8_correct 2 (some .int) : Cond) ∈ bw := bw_of (i := 931) (by decide +kernel) rfl
theorem bw_932 : (.methodLink RX8 156 yX8_corrects : Cond) ∈ bw := bw_of (i := 932) (by decide +kernel) rfl
theorem bw_934 : (.instanceMethod yX8_corrects : Cond) ∈ bw := bw_of (i := 934) (by decide +kernel) rfl
theorem bw_935 : (.code yX8_corrects cX8_corrects 2 (some .int) : Cond) ∈ bw := bw_of (i := 935) (by decide +kernel) rfl
theorem bw_936 : (.methodLink RX8 125 yX8_correctOne : Cond) ∈ bw := bw_of (i := 936) (by decide +kernel) rfl
theorem bw_938 : (.instanceMethod yX8_correctOne : Cond) ∈ bw := bw_of (i := 938) (by decide +kernel) rfl
theorem bw_939 : (.code yX8_correctOne cX8_correctOne 7 (some .int) : Cond) ∈ bw := bw_of (i := 939) (by decide +kernel) rfl
theorem bw_940 : (.methodLink RL 61 yX8_correctAll : Cond) ∈ bw := bw_of (i := 940) (by decide +kernel) rfl
theorem bw_941 : (.instanceMethod yX8_correctAll : Cond) ∈ bw := bw_of (i := 941) (by decide +kernel) rfl
theorem bw_942 : (.selects RX8 yX8_correctAll yX8_correctAll : Cond) ∈ bw := bw_of (i := 942) (by decide +kernel) rfl
theorem bw_943 : (.code yX8_correctAll cX8_correctAll 1 (some .int) : Cond) ∈ bw := bw_of (i := 943) (by decide +kernel) rfl
theorem bw_944 : (.methodLink RX8 159 yX8_correctsAll : Cond) ∈ bw := bw_of (i := 944) (by decide +kernel) rfl
theorem bw_946 : (.instanceMethod yX8_correctsAll : Cond) ∈ bw := bw_of (i := 946) (by decide +kernel) rfl
theorem bw_947 : (.code yX8_correctsAll cX8_correctsAll 3 (some .int) : Cond) ∈ bw := bw_of (i := 947) (by decide +kernel) rfl
theorem bw_948 : (.methodLink RL 65 yX8_card : Cond) ∈ bw := bw_of (i := 948) (by decide +kernel) rfl
theorem bw_949 : (.instanceMethod yX8_card : Cond) ∈ bw := bw_of (i := 949) (by decide +kernel) rfl
theorem bw_950 : (.selects RX8 yX8_card yX8_card : Cond) ∈ bw := bw_of (i := 950) (by decide +kernel) rfl
theorem bw_951 : (.code yX8_card cX8_card 1 (some .int) : Cond) ∈ bw := bw_of (i := 951) (by decide +kernel) rfl
theorem bw_952 : (.methodLink RX8 162 yX8_cards : Cond) ∈ bw := bw_of (i := 952) (by decide +kernel) rfl
theorem bw_954 : (.instanceMethod yX8_cards : Cond) ∈ bw := bw_of (i := 954) (by decide +kernel) rfl
theorem bw_955 : (.code yX8_cards cX8_cards 3 (some .int) : Cond) ∈ bw := bw_of (i := 955) (by decide +kernel) rfl
theorem bw_956 : (.methodLink RL 69 yX8_trim : Cond) ∈ bw := bw_of (i := 956) (by decide +kernel) rfl
theorem bw_957 : (.instanceMethod yX8_trim : Cond) ∈ bw := bw_of (i := 957) (by decide +kernel) rfl
theorem bw_958 : (.selects RX8 yX8_trim yX8_trim : Cond) ∈ bw := bw_of (i := 958) (by decide +kernel) rfl
theorem bw_959 : (.code yX8_trim cX8_trim 4 (some .int) : Cond) ∈ bw := bw_of (i := 959) (by decide +kernel) rfl
theorem bw_960 : (.methodLink RL 73 yX8_lamp : Cond) ∈ bw := bw_of (i := 960) (by decide +kernel) rfl
theorem bw_961 : (.instanceMethod yX8_lamp : Cond) ∈ bw := bw_of (i := 961) (by decide +kernel) rfl
theorem bw_962 : (.selects RX8 yX8_lamp yX8_lamp : Cond) ∈ bw := bw_of (i := 962) (by decide +kernel) rfl
theorem bw_963 : (.code yX8_lamp cX8_lamp 3 (some .int) : Cond) ∈ bw := bw_of (i := 963) (by decide +kernel) rfl
theorem bw_964 : (.methodLink RL 77 yX8_of : Cond) ∈ bw := bw_of (i := 964) (by decide +kernel) rfl
theorem bw_965 : (.instanceMethod yX8_of : Cond) ∈ bw := bw_of (i := 965) (by decide +kernel) rfl
theorem bw_966 : (.selects RX8 yX8_of yX8_of : Cond) ∈ bw := bw_of (i := 966) (by decide +kernel) rfl
theorem bw_967 : (.code yX8_of cX8_of 3 (some .int) : Cond) ∈ bw := bw_of (i := 967) (by decide +kernel) rfl
theorem bw_968 : (.methodLink RX8 165 yX8_isJump : Cond) ∈ bw := bw_of (i := 968) (by decide +kernel) rfl
theorem bw_970 : (.instanceMethod yX8_isJump : Cond) ∈ bw := bw_of (i := 970) (by decide +kernel) rfl
theorem bw_971 : (.code yX8_isJump cX8_isJump 4 (some .boolean) : Cond) ∈ bw := bw_of (i := 971) (by decide +kernel) rfl
theorem bw_972 : (.methodLink RL 81 yX8_inColour : Cond) ∈ bw := bw_of (i := 972) (by decide +kernel) rfl
theorem bw_973 : (.instanceMethod yX8_inColour : Cond) ∈ bw := bw_of (i := 973) (by decide +kernel) rfl
theorem bw_974 : (.selects RX8 yX8_inColour yX8_inColour : Cond) ∈ bw := bw_of (i := 974) (by decide +kernel) rfl
theorem bw_975 : (.code yX8_inColour cX8_inColour 4 (some .int) : Cond) ∈ bw := bw_of (i := 975) (by decide +kernel) rfl
theorem bw_976 : (.methodLink RX8 168 yX8_answer : Cond) ∈ bw := bw_of (i := 976) (by decide +kernel) rfl
theorem bw_978 : (.instanceMethod yX8_answer : Cond) ∈ bw := bw_of (i := 978) (by decide +kernel) rfl
theorem bw_979 : (.code yX8_answer cX8_answer 3 (some .int) : Cond) ∈ bw := bw_of (i := 979) (by decide +kernel) rfl
theorem bw_980 : (.methodLink RL 85 yX8_ofLamp : Cond) ∈ bw := bw_of (i := 980) (by decide +kernel) rfl
theorem bw_981 : (.instanceMethod yX8_ofLamp : Cond) ∈ bw := bw_of (i := 981) (by decide +kernel) rfl
theorem bw_982 : (.selects RX8 yX8_ofLamp yX8_ofLamp : Cond) ∈ bw := bw_of (i := 982) (by decide +kernel) rfl
theorem bw_983 : (.code yX8_ofLamp cX8_ofLamp 3 (some .int) : Cond) ∈ bw := bw_of (i := 983) (by decide +kernel) rfl
theorem bw_984 : (.methodLink RL 89 yX8_count : Cond) ∈ bw := bw_of (i := 984) (by decide +kernel) rfl
theorem bw_985 : (.instanceMethod yX8_count : Cond) ∈ bw := bw_of (i := 985) (by decide +kernel) rfl
theorem bw_986 : (.selects RX8 yX8_count yX8_count : Cond) ∈ bw := bw_of (i := 986) (by decide +kernel) rfl
theorem bw_987 : (.code yX8_count cX8_count 2 (some .int) : Cond) ∈ bw := bw_of (i := 987) (by decide +kernel) rfl
theorem bw_988 : (.methodLink RX8 174 yX8_those : Cond) ∈ bw := bw_of (i := 988) (by decide +kernel) rfl
theorem bw_990 : (.instanceMethod yX8_those : Cond) ∈ bw := bw_of (i := 990) (by decide +kernel) rfl
theorem bw_991 : (.code yX8_those cX8_those 5 (some .int) : Cond) ∈ bw := bw_of (i := 991) (by decide +kernel) rfl
theorem bw_992 : (.methodLink RX8 171 yX8_isOff : Cond) ∈ bw := bw_of (i := 992) (by decide +kernel) rfl
theorem bw_994 : (.instanceMethod yX8_isOff : Cond) ∈ bw := bw_of (i := 994) (by decide +kernel) rfl
theorem bw_995 : (.code yX8_isOff cX8_isOff 4 (some .boolean) : Cond) ∈ bw := bw_of (i := 995) (by decide +kernel) rfl
theorem bw_996 : (.methodLink RL 93 yX8_needs : Cond) ∈ bw := bw_of (i := 996) (by decide +kernel) rfl
theorem bw_997 : (.instanceMethod yX8_needs : Cond) ∈ bw := bw_of (i := 997) (by decide +kernel) rfl
theorem bw_998 : (.selects RX8 yX8_needs yX8_needs : Cond) ∈ bw := bw_of (i := 998) (by decide +kernel) rfl
theorem bw_999 : (.code yX8_needs cX8_needs 4 (some .int) : Cond) ∈ bw := bw_of (i := 999) (by decide +kernel) rfl
theorem bw_1000 : (.methodLink RX8 180 yX8_needed : Cond) ∈ bw := bw_of (i := 1000) (by decide +kernel) rfl
theorem bw_1002 : (.instanceMethod yX8_needed : Cond) ∈ bw := bw_of (i := 1002) (by decide +kernel) rfl
theorem bw_1003 : (.code yX8_needed cX8_needed 3 (some .int) : Cond) ∈ bw := bw_of (i := 1003) (by decide +kernel) rfl
theorem bw_1004 : (.methodLink RL 97 yX8_ifLight : Cond) ∈ bw := bw_of (i := 1004) (by decide +kernel) rfl
theorem bw_1005 : (.instanceMethod yX8_ifLight : Cond) ∈ bw := bw_of (i := 1005) (by decide +kernel) rfl
theorem bw_1006 : (.selects RX8 yX8_ifLight yX8_ifLight : Cond) ∈ bw := bw_of (i := 1006) (by decide +kernel) rfl
theorem bw_1007 : (.code yX8_ifLight cX8_ifLight 4 (some .int) : Cond) ∈ bw := bw_of (i := 1007) (by decide +kernel) rfl
theorem bw_1008 : (.methodLink RL 101 yX8_lasts : Cond) ∈ bw := bw_of (i := 1008) (by decide +kernel) rfl
theorem bw_1009 : (.instanceMethod yX8_lasts : Cond) ∈ bw := bw_of (i := 1009) (by decide +kernel) rfl
theorem bw_1010 : (.selects RX8 yX8_lasts yX8_lasts : Cond) ∈ bw := bw_of (i := 1010) (by decide +kernel) rfl
theorem bw_1011 : (.code yX8_lasts cX8_lasts 4 (some .int) : Cond) ∈ bw := bw_of (i := 1011) (by decide +kernel) rfl
theorem bw_1012 : (.methodLink RX8 183 yX8_isTooWeak : Cond) ∈ bw := bw_of (i := 1012) (by decide +kernel) rfl
theorem bw_1014 : (.instanceMethod yX8_isTooWeak : Cond) ∈ bw := bw_of (i := 1014) (by decide +kernel) rfl
theorem bw_1015 : (.code yX8_isTooWeak cX8_isTooWeak 4 (some .boolean) : Cond) ∈ bw := bw_of (i := 1015) (by decide +kernel) rfl
theorem bw_1016 : (.methodLink RL 105 yX8_bestTrim : Cond) ∈ bw := bw_of (i := 1016) (by decide +kernel) rfl
theorem bw_1017 : (.instanceMethod yX8_bestTrim : Cond) ∈ bw := bw_of (i := 1017) (by decide +kernel) rfl
theorem bw_1018 : (.selects RX8 yX8_bestTrim yX8_bestTrim : Cond) ∈ bw := bw_of (i := 1018) (by decide +kernel) rfl
theorem bw_1019 : (.code yX8_bestTrim cX8_bestTrim 10 (some .int) : Cond) ∈ bw := bw_of (i := 1019) (by decide +kernel) rfl
theorem bw_1020 : (.methodLink RX8 186 yX8_allOff : Cond) ∈ bw := bw_of (i := 1020) (by decide +kernel) rfl
theorem bw_1022 : (.instanceMethod yX8_allOff : Cond) ∈ bw := bw_of (i := 1022) (by decide +kernel) rfl
theorem bw_1023 : (.code yX8_allOff cX8_allOff 4 (some .int) : Cond) ∈ bw := bw_of (i := 1023) (by decide +kernel) rfl
theorem bw_1024 : (.methodLink RL 109 yX8_printsNeeded : Cond) ∈ bw := bw_of (i := 1024) (by decide +kernel) rfl
theorem bw_1025 : (.instanceMethod yX8_printsNeeded : Cond) ∈ bw := bw_of (i := 1025) (by decide +kernel) rfl
theorem bw_1026 : (.selects RX8 yX8_printsNeeded yX8_printsNeeded : Cond) ∈ bw := bw_of (i := 1026) (by decide +kernel) rfl
theorem bw_1027 : (.code yX8_printsNeeded cX8_printsNeeded 3 (some .int) : Cond) ∈ bw := bw_of (i := 1027) (by decide +kernel) rfl
theorem bw_1028 : (.methodLink RX8 189 yX8_takeBack : Cond) ∈ bw := bw_of (i := 1028) (by decide +kernel) rfl
theorem bw_1030 : (.instanceMethod yX8_takeBack : Cond) ∈ bw := bw_of (i := 1030) (by decide +kernel) rfl
theorem bw_1031 : (.code yX8_takeBack cX8_takeBack 2 (Option.none : Option Jvm.ClassFile.FieldType) : Cond) ∈ bw := bw_of (i := 1031) (by decide +kernel) rfl
theorem bw_1032 : (.methodLink RL 116 yX8_put : Cond) ∈ bw := bw_of (i := 1032) (by decide +kernel) rfl
theorem bw_1033 : (.instanceMethod yX8_put : Cond) ∈ bw := bw_of (i := 1033) (by decide +kernel) rfl
theorem bw_1034 : (.selects RX8 yX8_put yX8_put : Cond) ∈ bw := bw_of (i := 1034) (by decide +kernel) rfl
theorem bw_1035 : (.code yX8_put cX8_put 5 (some .int) : Cond) ∈ bw := bw_of (i := 1035) (by decide +kernel) rfl
theorem bw_1036 : (.methodLink RX8 197 yX8_charactersIn : Cond) ∈ bw := bw_of (i := 1036) (by decide +kernel) rfl
theorem bw_1037 : (.static yX8_charactersIn : Cond) ∈ bw := bw_of (i := 1037) (by decide +kernel) rfl
theorem bw_1038 : (.code yX8_charactersIn cX8_charactersIn 5 (some .int) : Cond) ∈ bw := bw_of (i := 1038) (by decide +kernel) rfl
theorem bw_1039 : (.constantLong "TimingLightsModel" 192 255 : Cond) ∈ bw := bw_of (i := 1039) (by decide +kernel) rfl
theorem bw_1040 : (.methodLink RX8 194 yX8_isCharacter : Cond) ∈ bw := bw_of (i := 1040) (by decide +kernel) rfl
theorem bw_1041 : (.static yX8_isCharacter : Cond) ∈ bw := bw_of (i := 1041) (by decide +kernel) rfl
theorem bw_1042 : (.code yX8_isCharacter cX8_isCharacter 1 (some .boolean) : Cond) ∈ bw := bw_of (i := 1042) (by decide +kernel) rfl
theorem bw_1043 : (.methodLink RL 120 yX8_wipe : Cond) ∈ bw := bw_of (i := 1043) (by decide +kernel) rfl
theorem bw_1044 : (.instanceMethod yX8_wipe : Cond) ∈ bw := bw_of (i := 1044) (by decide +kernel) rfl
theorem bw_1045 : (.selects RX8 yX8_wipe yX8_wipe : Cond) ∈ bw := bw_of (i := 1045) (by decide +kernel) rfl
theorem bw_1046 : (.code yX8_wipe cX8_wipe 2 (some .int) : Cond) ∈ bw := bw_of (i := 1046) (by decide +kernel) rfl
theorem bw_1047 : (.methodLink RL 124 yX8_fault : Cond) ∈ bw := bw_of (i := 1047) (by decide +kernel) rfl
theorem bw_1048 : (.instanceMethod yX8_fault : Cond) ∈ bw := bw_of (i := 1048) (by decide +kernel) rfl
theorem bw_1049 : (.selects RX8 yX8_fault yX8_fault : Cond) ∈ bw := bw_of (i := 1049) (by decide +kernel) rfl
theorem bw_1050 : (.code yX8_fault cX8_fault 1 (some .int) : Cond) ∈ bw := bw_of (i := 1050) (by decide +kernel) rfl
theorem bw_1051 : (.methodLink RX8 226 yX8_findFault : Cond) ∈ bw := bw_of (i := 1051) (by decide +kernel) rfl
theorem bw_1053 : (.instanceMethod yX8_findFault : Cond) ∈ bw := bw_of (i := 1053) (by decide +kernel) rfl
theorem bw_1054 : (.code yX8_findFault cX8_findFault 1 (some .int) : Cond) ∈ bw := bw_of (i := 1054) (by decide +kernel) rfl
theorem bw_1055 : (.methodLink RX8 223 yX8_readsOrder : Cond) ∈ bw := bw_of (i := 1055) (by decide +kernel) rfl
theorem bw_1057 : (.instanceMethod yX8_readsOrder : Cond) ∈ bw := bw_of (i := 1057) (by decide +kernel) rfl
theorem bw_1058 : (.code yX8_readsOrder cX8_readsOrder 1 (some .boolean) : Cond) ∈ bw := bw_of (i := 1058) (by decide +kernel) rfl
theorem bw_1059 : (.methodLink RX8 204 yX8_code : Cond) ∈ bw := bw_of (i := 1059) (by decide +kernel) rfl
theorem bw_1061 : (.instanceMethod yX8_code : Cond) ∈ bw := bw_of (i := 1061) (by decide +kernel) rfl
theorem bw_1062 : (.code yX8_code cX8_code 1 (some .int) : Cond) ∈ bw := bw_of (i := 1062) (by decide +kernel) rfl
theorem bw_1063 : (.methodLink RX8 207 yX8_readsNumber : Cond) ∈ bw := bw_of (i := 1063) (by decide +kernel) rfl
theorem bw_1065 : (.instanceMethod yX8_readsNumber : Cond) ∈ bw := bw_of (i := 1065) (by decide +kernel) rfl
theorem bw_1066 : (.code yX8_readsNumber cX8_readsNumber 3 (some .boolean) : Cond) ∈ bw := bw_of (i := 1066) (by decide +kernel) rfl
theorem bw_1067 : (.methodLink RX8 214 yX8_takes : Cond) ∈ bw := bw_of (i := 1067) (by decide +kernel) rfl
theorem bw_1069 : (.instanceMethod yX8_takes : Cond) ∈ bw := bw_of (i := 1069) (by decide +kernel) rfl
theorem bw_1070 : (.code yX8_takes cX8_takes 3 (some .boolean) : Cond) ∈ bw := bw_of (i := 1070) (by decide +kernel) rfl
theorem bw_1071 : (.methodLink RX8 210 yX8_readsColour : Cond) ∈ bw := bw_of (i := 1071) (by decide +kernel) rfl
theorem bw_1073 : (.instanceMethod yX8_readsColour : Cond) ∈ bw := bw_of (i := 1073) (by decide +kernel) rfl
theorem bw_1074 : (.code yX8_readsColour cX8_readsColour 2 (some .boolean) : Cond) ∈ bw := bw_of (i := 1074) (by decide +kernel) rfl
theorem bw_1075 : (.methodLink RX8 220 yX8_readsWish : Cond) ∈ bw := bw_of (i := 1075) (by decide +kernel) rfl
theorem bw_1077 : (.instanceMethod yX8_readsWish : Cond) ∈ bw := bw_of (i := 1077) (by decide +kernel) rfl
theorem bw_1078 : (.code yX8_readsWish cX8_readsWish 3 (some .boolean) : Cond) ∈ bw := bw_of (i := 1078) (by decide +kernel) rfl
theorem bw_1079 : (.methodLink RL 128 yX8_carryOut : Cond) ∈ bw := bw_of (i := 1079) (by decide +kernel) rfl
theorem bw_1080 : (.instanceMethod yX8_carryOut : Cond) ∈ bw := bw_of (i := 1080) (by decide +kernel) rfl
theorem bw_1081 : (.selects RX8 yX8_carryOut yX8_carryOut : Cond) ∈ bw := bw_of (i := 1081) (by decide +kernel) rfl
theorem bw_1082 : (.code yX8_carryOut cX8_carryOut 3 (some .int) : Cond) ∈ bw := bw_of (i := 1082) (by decide +kernel) rfl
theorem bw_1083 : (.methodLink RX8 229 yX8_doesOrder : Cond) ∈ bw := bw_of (i := 1083) (by decide +kernel) rfl
theorem bw_1085 : (.instanceMethod yX8_doesOrder : Cond) ∈ bw := bw_of (i := 1085) (by decide +kernel) rfl
theorem bw_1086 : (.code yX8_doesOrder cX8_doesOrder 1 (some .int) : Cond) ∈ bw := bw_of (i := 1086) (by decide +kernel) rfl
theorem bw_1087 : (.constantLong "TimingLightsLaw" 110 4294967295 : Cond) ∈ bw := bw_of (i := 1087) (by decide +kernel) rfl
theorem bw_1088 : (.fieldLink RJ0 9 "java/lang/String" "value" "[B" : Cond) ∈ bw := bw_of (i := 1088) (by decide +kernel) rfl
theorem bw_1089 : (.fieldLink RJ0 15 "java/lang/String" "coder" "B" : Cond) ∈ bw := bw_of (i := 1089) (by decide +kernel) rfl
theorem inb_X1 : ∀ w ∈ wsX10, w ∈ bw := by decide +kernel
theorem inb_X2 : ∀ w ∈ wsX20, w ∈ bw := by decide +kernel
theorem inb_X3 : ∀ w ∈ wsX30, w ∈ bw := by decide +kernel
theorem inb_X4 : ∀ w ∈ wsX40, w ∈ bw := by decide +kernel
theorem inb_X7 : ∀ w ∈ wsX70, w ∈ bw := by decide +kernel
theorem inb_X8 : ∀ w ∈ wsX80, w ∈ bw := by decide +kernel
end
section
theorem dX0_changeSetting_0 : decode cX0_changeSetting 0 = .ok (.iload_n 1, 1) := by decide +kernel
theorem dX0_changeSetting_1 : decode cX0_changeSetting 1 = .ok (.iconst 0, 1) := by decide +kernel
theorem dX0_changeSetting_2 : decode cX0_changeSetting 2 = .ok (.iconst 3, 1) := by decide +kernel
theorem dX0_changeSetting_3 : decode cX0_changeSetting 3 = .ok (.invokestatic 9, 3) := by decide +kernel
theorem dX0_changeSetting_6 : decode cX0_changeSetting 6 = .ok (.ifCond .eq 20, 3) := by decide +kernel
theorem dX0_changeSetting_9 : decode cX0_changeSetting 9 = .ok (.iload_n 2, 1) := by decide +kernel
theorem dX0_changeSetting_10 : decode cX0_changeSetting 10 = .ok (.getstatic 13, 3) := by decide +kernel
theorem dX0_changeSetting_13 : decode cX0_changeSetting 13 = .ok (.iload_n 1, 1) := by decide +kernel
theorem dX0_changeSetting_14 : decode cX0_changeSetting 14 = .ok (.iaload, 1) := by decide +kernel
theorem dX0_changeSetting_15 : decode cX0_changeSetting 15 = .ok (.getstatic 17, 3) := by decide +kernel
theorem dX0_changeSetting_18 : decode cX0_changeSetting 18 = .ok (.iload_n 1, 1) := by decide +kernel
theorem dX0_changeSetting_19 : decode cX0_changeSetting 19 = .ok (.iaload, 1) := by decide +kernel
theorem dX0_changeSetting_20 : decode cX0_changeSetting 20 = .ok (.invokestatic 9, 3) := by decide +kernel
theorem dX0_changeSetting_23 : decode cX0_changeSetting 23 = .ok (.ifCond .ne 6, 3) := by decide +kernel
theorem dX0_changeSetting_26 : decode cX0_changeSetting 26 = .ok (.bipush (-2), 2) := by decide +kernel
theorem dX0_changeSetting_28 : decode cX0_changeSetting 28 = .ok (.ireturn, 1) := by decide +kernel
theorem dX0_changeSetting_29 : decode cX0_changeSetting 29 = .ok (.aload_n 0, 1) := by decide +kernel
theorem dX0_changeSetting_30 : decode cX0_changeSetting 30 = .ok (.iconst 0, 1) := by decide +kernel
theorem dX0_changeSetting_31 : decode cX0_changeSetting 31 = .ok (.iload_n 1, 1) := by decide +kernel
theorem dX0_changeSetting_32 : decode cX0_changeSetting 32 = .ok (.iadd, 1) := by decide +kernel
theorem dX0_changeSetting_33 : decode cX0_changeSetting 33 = .ok (.iload_n 2, 1) := by decide +kernel
theorem dX0_changeSetting_34 : decode cX0_changeSetting 34 = .ok (.invokestatic 22, 3) := by decide +kernel
theorem dX0_changeSetting_37 : decode cX0_changeSetting 37 = .ok (.ireturn, 1) := by decide +kernel
theorem dX0_addShot_0 : decode cX0_addShot 0 = .ok (.iload_n 1, 1) := by decide +kernel
theorem dX0_addShot_1 : decode cX0_addShot 1 = .ok (.iconst 0, 1) := by decide +kernel
theorem dX0_addShot_2 : decode cX0_addShot 2 = .ok (.aload_n 0, 1) := by decide +kernel
theorem dX0_addShot_3 : decode cX0_addShot 3 = .ok (.invokevirtual 28, 3) := by decide +kernel
theorem dX0_addShot_6 : decode cX0_addShot 6 = .ok (.invokestatic 9, 3) := by decide +kernel
theorem dX0_addShot_9 : decode cX0_addShot 9 = .ok (.ifCond .ne 5, 3) := by decide +kernel
theorem dX0_addShot_12 : decode cX0_addShot 12 = .ok (.iconst (-1), 1) := by decide +kernel
theorem dX0_addShot_13 : decode cX0_addShot 13 = .ok (.ireturn, 1) := by decide +kernel
theorem dX0_addShot_14 : decode cX0_addShot 14 = .ok (.iload_n 2, 1) := by decide +kernel
theorem dX0_addShot_15 : decode cX0_addShot 15 = .ok (.iconst 1, 1) := by decide +kernel
theorem dX0_addShot_16 : decode cX0_addShot 16 = .ok (.bipush 99, 2) := by decide +kernel
theorem dX0_addShot_18 : decode cX0_addShot 18 = .ok (.invokestatic 9, 3) := by decide +kernel
theorem dX0_addShot_21 : decode cX0_addShot 21 = .ok (.ifCond .eq 26, 3) := by decide +kernel
theorem dX0_addShot_24 : decode cX0_addShot 24 = .ok (.iload_n 3, 1) := by decide +kernel
theorem dX0_addShot_25 : decode cX0_addShot 25 = .ok (.invokestatic 32, 3) := by decide +kernel
theorem dX0_addShot_28 : decode cX0_addShot 28 = .ok (.ifCond .eq 19, 3) := by decide +kernel
theorem dX0_addShot_31 : decode cX0_addShot 31 = .ok (.iload 4, 2) := by decide +kernel
theorem dX0_addShot_33 : decode cX0_addShot 33 = .ok (.invokestatic 32, 3) := by decide +kernel
theorem dX0_addShot_36 : decode cX0_addShot 36 = .ok (.ifCond .eq 11, 3) := by decide +kernel
theorem dX0_addShot_39 : decode cX0_addShot 39 = .ok (.iload 5, 2) := by decide +kernel
theorem dX0_addShot_41 : decode cX0_addShot 41 = .ok (.invokestatic 32, 3) := by decide +kernel
theorem dX0_addShot_44 : decode cX0_addShot 44 = .ok (.ifCond .ne 6, 3) := by decide +kernel
theorem dX0_addShot_47 : decode cX0_addShot 47 = .ok (.bipush (-2), 2) := by decide +kernel
theorem dX0_addShot_49 : decode cX0_addShot 49 = .ok (.ireturn, 1) := by decide +kernel
theorem dX0_addShot_50 : decode cX0_addShot 50 = .ok (.aload_n 0, 1) := by decide +kernel
theorem dX0_addShot_51 : decode cX0_addShot 51 = .ok (.invokevirtual 28, 3) := by decide +kernel
theorem dX0_addShot_54 : decode cX0_addShot 54 = .ok (.bipush 20, 2) := by decide +kernel
theorem dX0_addShot_56 : decode cX0_addShot 56 = .ok (.if_icmp .lt 6, 3) := by decide +kernel
theorem dX0_addShot_59 : decode cX0_addShot 59 = .ok (.bipush (-4), 2) := by decide +kernel
theorem dX0_addShot_61 : decode cX0_addShot 61 = .ok (.ireturn, 1) := by decide +kernel
theorem dX0_addShot_62 : decode cX0_addShot 62 = .ok (.aload_n 0, 1) := by decide +kernel
theorem dX0_addShot_63 : decode cX0_addShot 63 = .ok (.iload_n 1, 1) := by decide +kernel
theorem dX0_addShot_64 : decode cX0_addShot 64 = .ok (.invokevirtual 36, 3) := by decide +kernel
theorem dX0_addShot_67 : decode cX0_addShot 67 = .ok (.aload_n 0, 1) := by decide +kernel
theorem dX0_addShot_68 : decode cX0_addShot 68 = .ok (.iload_n 1, 1) := by decide +kernel
theorem dX0_addShot_69 : decode cX0_addShot 69 = .ok (.iconst 0, 1) := by decide +kernel
theorem dX0_addShot_70 : decode cX0_addShot 70 = .ok (.iload_n 2, 1) := by decide +kernel
theorem dX0_addShot_71 : decode cX0_addShot 71 = .ok (.invokevirtual 40, 3) := by decide +kernel
theorem dX0_addShot_74 : decode cX0_addShot 74 = .ok (.aload_n 0, 1) := by decide +kernel
theorem dX0_addShot_75 : decode cX0_addShot 75 = .ok (.iload_n 1, 1) := by decide +kernel
theorem dX0_addShot_76 : decode cX0_addShot 76 = .ok (.iconst 1, 1) := by decide +kernel
theorem dX0_addShot_77 : decode cX0_addShot 77 = .ok (.iconst 0, 1) := by decide +kernel
theorem dX0_addShot_78 : decode cX0_addShot 78 = .ok (.invokevirtual 40, 3) := by decide +kernel
theorem dX0_addShot_81 : decode cX0_addShot 81 = .ok (.aload_n 0, 1) := by decide +kernel
theorem dX0_addShot_82 : decode cX0_addShot 82 = .ok (.iload_n 1, 1) := by decide +kernel
theorem dX0_addShot_83 : decode cX0_addShot 83 = .ok (.iconst 2, 1) := by decide +kernel
theorem dX0_addShot_84 : decode cX0_addShot 84 = .ok (.iload_n 3, 1) := by decide +kernel
theorem dX0_addShot_85 : decode cX0_addShot 85 = .ok (.invokevirtual 40, 3) := by decide +kernel
theorem dX0_addShot_88 : decode cX0_addShot 88 = .ok (.aload_n 0, 1) := by decide +kernel
theorem dX0_addShot_89 : decode cX0_addShot 89 = .ok (.iload_n 1, 1) := by decide +kernel
theorem dX0_addShot_90 : decode cX0_addShot 90 = .ok (.iconst 3, 1) := by decide +kernel
theorem dX0_addShot_91 : decode cX0_addShot 91 = .ok (.iload 4, 2) := by decide +kernel
theorem dX0_addShot_93 : decode cX0_addShot 93 = .ok (.invokevirtual 40, 3) := by decide +kernel
theorem dX0_addShot_96 : decode cX0_addShot 96 = .ok (.aload_n 0, 1) := by decide +kernel
theorem dX0_addShot_97 : decode cX0_addShot 97 = .ok (.iload_n 1, 1) := by decide +kernel
theorem dX0_addShot_98 : decode cX0_addShot 98 = .ok (.iconst 4, 1) := by decide +kernel
theorem dX0_addShot_99 : decode cX0_addShot 99 = .ok (.iload 5, 2) := by decide +kernel
theorem dX0_addShot_101 : decode cX0_addShot 101 = .ok (.invokevirtual 40, 3) := by decide +kernel
theorem dX0_addShot_104 : decode cX0_addShot 104 = .ok (.iconst 0, 1) := by decide +kernel
theorem dX0_addShot_105 : decode cX0_addShot 105 = .ok (.istore 6, 2) := by decide +kernel
theorem dX0_addShot_107 : decode cX0_addShot 107 = .ok (.iload 6, 2) := by decide +kernel
theorem dX0_addShot_109 : decode cX0_addShot 109 = .ok (.iconst 3, 1) := by decide +kernel
theorem dX0_addShot_110 : decode cX0_addShot 110 = .ok (.if_icmp .ge 31, 3) := by decide +kernel
theorem dX0_addShot_113 : decode cX0_addShot 113 = .ok (.aload_n 0, 1) := by decide +kernel
theorem dX0_addShot_114 : decode cX0_addShot 114 = .ok (.iload_n 1, 1) := by decide +kernel
theorem dX0_addShot_115 : decode cX0_addShot 115 = .ok (.iconst 5, 1) := by decide +kernel
theorem dX0_addShot_116 : decode cX0_addShot 116 = .ok (.iload 6, 2) := by decide +kernel
theorem dX0_addShot_118 : decode cX0_addShot 118 = .ok (.iadd, 1) := by decide +kernel
theorem dX0_addShot_119 : decode cX0_addShot 119 = .ok (.iconst 0, 1) := by decide +kernel
theorem dX0_addShot_120 : decode cX0_addShot 120 = .ok (.invokevirtual 40, 3) := by decide +kernel
theorem dX0_addShot_123 : decode cX0_addShot 123 = .ok (.aload_n 0, 1) := by decide +kernel
theorem dX0_addShot_124 : decode cX0_addShot 124 = .ok (.iload_n 1, 1) := by decide +kernel
theorem dX0_addShot_125 : decode cX0_addShot 125 = .ok (.bipush 8, 2) := by decide +kernel
theorem dX0_addShot_127 : decode cX0_addShot 127 = .ok (.iload 6, 2) := by decide +kernel
theorem dX0_addShot_129 : decode cX0_addShot 129 = .ok (.iadd, 1) := by decide +kernel
theorem dX0_addShot_130 : decode cX0_addShot 130 = .ok (.bipush 25, 2) := by decide +kernel
theorem dX0_addShot_132 : decode cX0_addShot 132 = .ok (.invokevirtual 40, 3) := by decide +kernel
theorem dX0_addShot_135 : decode cX0_addShot 135 = .ok (.iinc 6 1, 3) := by decide +kernel
theorem dX0_addShot_138 : decode cX0_addShot 138 = .ok (.goto (-31), 3) := by decide +kernel
theorem dX0_addShot_141 : decode cX0_addShot 141 = .ok (.aload_n 0, 1) := by decide +kernel
theorem dX0_addShot_142 : decode cX0_addShot 142 = .ok (.invokevirtual 28, 3) := by decide +kernel
theorem dX0_addShot_145 : decode cX0_addShot 145 = .ok (.ireturn, 1) := by decide +kernel
theorem dX0_dropShot_0 : decode cX0_dropShot 0 = .ok (.aload_n 0, 1) := by decide +kernel
theorem dX0_dropShot_1 : decode cX0_dropShot 1 = .ok (.iload_n 1, 1) := by decide +kernel
theorem dX0_dropShot_2 : decode cX0_dropShot 2 = .ok (.invokevirtual 44, 3) := by decide +kernel
theorem dX0_dropShot_5 : decode cX0_dropShot 5 = .ok (.ifCond .ne 5, 3) := by decide +kernel
theorem dX0_dropShot_8 : decode cX0_dropShot 8 = .ok (.iconst (-1), 1) := by decide +kernel
theorem dX0_dropShot_9 : decode cX0_dropShot 9 = .ok (.ireturn, 1) := by decide +kernel
theorem dX0_dropShot_10 : decode cX0_dropShot 10 = .ok (.aload_n 0, 1) := by decide +kernel
theorem dX0_dropShot_11 : decode cX0_dropShot 11 = .ok (.iload_n 1, 1) := by decide +kernel
theorem dX0_dropShot_12 : decode cX0_dropShot 12 = .ok (.invokevirtual 47, 3) := by decide +kernel
theorem dX0_dropShot_15 : decode cX0_dropShot 15 = .ok (.aload_n 0, 1) := by decide +kernel
theorem dX0_dropShot_16 : decode cX0_dropShot 16 = .ok (.invokevirtual 28, 3) := by decide +kernel
theorem dX0_dropShot_19 : decode cX0_dropShot 19 = .ok (.ireturn, 1) := by decide +kernel
theorem dX0_changeLight_0 : decode cX0_changeLight 0 = .ok (.aload_n 0, 1) := by decide +kernel
theorem dX0_changeLight_1 : decode cX0_changeLight 1 = .ok (.iload_n 1, 1) := by decide +kernel
theorem dX0_changeLight_2 : decode cX0_changeLight 2 = .ok (.invokevirtual 44, 3) := by decide +kernel
theorem dX0_changeLight_5 : decode cX0_changeLight 5 = .ok (.ifCond .ne 5, 3) := by decide +kernel
theorem dX0_changeLight_8 : decode cX0_changeLight 8 = .ok (.iconst (-1), 1) := by decide +kernel
theorem dX0_changeLight_9 : decode cX0_changeLight 9 = .ok (.ireturn, 1) := by decide +kernel
theorem dX0_changeLight_10 : decode cX0_changeLight 10 = .ok (.iload_n 2, 1) := by decide +kernel
theorem dX0_changeLight_11 : decode cX0_changeLight 11 = .ok (.invokestatic 50, 3) := by decide +kernel
theorem dX0_changeLight_14 : decode cX0_changeLight 14 = .ok (.ifCond .eq 10, 3) := by decide +kernel
theorem dX0_changeLight_17 : decode cX0_changeLight 17 = .ok (.iload_n 3, 1) := by decide +kernel
theorem dX0_changeLight_18 : decode cX0_changeLight 18 = .ok (.invokestatic 32, 3) := by decide +kernel
theorem dX0_changeLight_21 : decode cX0_changeLight 21 = .ok (.ifCond .ne 6, 3) := by decide +kernel
theorem dX0_changeLight_24 : decode cX0_changeLight 24 = .ok (.bipush (-2), 2) := by decide +kernel
theorem dX0_changeLight_26 : decode cX0_changeLight 26 = .ok (.ireturn, 1) := by decide +kernel
theorem dX0_changeLight_27 : decode cX0_changeLight 27 = .ok (.aload_n 0, 1) := by decide +kernel
theorem dX0_changeLight_28 : decode cX0_changeLight 28 = .ok (.iload_n 1, 1) := by decide +kernel
theorem dX0_changeLight_29 : decode cX0_changeLight 29 = .ok (.bipush 8, 2) := by decide +kernel
theorem dX0_changeLight_31 : decode cX0_changeLight 31 = .ok (.iload_n 2, 1) := by decide +kernel
theorem dX0_changeLight_32 : decode cX0_changeLight 32 = .ok (.iadd, 1) := by decide +kernel
theorem dX0_changeLight_33 : decode cX0_changeLight 33 = .ok (.invokevirtual 53, 3) := by decide +kernel
theorem dX0_changeLight_36 : decode cX0_changeLight 36 = .ok (.istore 4, 2) := by decide +kernel
theorem dX0_changeLight_38 : decode cX0_changeLight 38 = .ok (.aload_n 0, 1) := by decide +kernel
theorem dX0_changeLight_39 : decode cX0_changeLight 39 = .ok (.iload_n 1, 1) := by decide +kernel
theorem dX0_changeLight_40 : decode cX0_changeLight 40 = .ok (.bipush 8, 2) := by decide +kernel
theorem dX0_changeLight_42 : decode cX0_changeLight 42 = .ok (.iload_n 2, 1) := by decide +kernel
theorem dX0_changeLight_43 : decode cX0_changeLight 43 = .ok (.iadd, 1) := by decide +kernel
theorem dX0_changeLight_44 : decode cX0_changeLight 44 = .ok (.iload_n 3, 1) := by decide +kernel
theorem dX0_changeLight_45 : decode cX0_changeLight 45 = .ok (.invokevirtual 40, 3) := by decide +kernel
theorem dX0_changeLight_48 : decode cX0_changeLight 48 = .ok (.iload 4, 2) := by decide +kernel
theorem dX0_changeLight_50 : decode cX0_changeLight 50 = .ok (.ireturn, 1) := by decide +kernel
theorem dX0_changeWish_0 : decode cX0_changeWish 0 = .ok (.aload_n 0, 1) := by decide +kernel
theorem dX0_changeWish_1 : decode cX0_changeWish 1 = .ok (.iload_n 1, 1) := by decide +kernel
theorem dX0_changeWish_2 : decode cX0_changeWish 2 = .ok (.invokevirtual 44, 3) := by decide +kernel
theorem dX0_changeWish_5 : decode cX0_changeWish 5 = .ok (.ifCond .ne 5, 3) := by decide +kernel
theorem dX0_changeWish_8 : decode cX0_changeWish 8 = .ok (.iconst (-1), 1) := by decide +kernel
theorem dX0_changeWish_9 : decode cX0_changeWish 9 = .ok (.ireturn, 1) := by decide +kernel
theorem dX0_changeWish_10 : decode cX0_changeWish 10 = .ok (.iload_n 2, 1) := by decide +kernel
theorem dX0_changeWish_11 : decode cX0_changeWish 11 = .ok (.invokestatic 50, 3) := by decide +kernel
theorem dX0_changeWish_14 : decode cX0_changeWish 14 = .ok (.ifCond .eq 14, 3) := by decide +kernel
theorem dX0_changeWish_17 : decode cX0_changeWish 17 = .ok (.iload_n 3, 1) := by decide +kernel
theorem dX0_changeWish_18 : decode cX0_changeWish 18 = .ok (.bipush (-10), 2) := by decide +kernel
theorem dX0_changeWish_20 : decode cX0_changeWish 20 = .ok (.bipush 10, 2) := by decide +kernel
theorem dX0_changeWish_22 : decode cX0_changeWish 22 = .ok (.invokestatic 9, 3) := by decide +kernel
theorem dX0_changeWish_25 : decode cX0_changeWish 25 = .ok (.ifCond .ne 6, 3) := by decide +kernel
theorem dX0_changeWish_28 : decode cX0_changeWish 28 = .ok (.bipush (-2), 2) := by decide +kernel
theorem dX0_changeWish_30 : decode cX0_changeWish 30 = .ok (.ireturn, 1) := by decide +kernel
theorem dX0_changeWish_31 : decode cX0_changeWish 31 = .ok (.aload_n 0, 1) := by decide +kernel
theorem dX0_changeWish_32 : decode cX0_changeWish 32 = .ok (.iload_n 1, 1) := by decide +kernel
theorem dX0_changeWish_33 : decode cX0_changeWish 33 = .ok (.iconst 5, 1) := by decide +kernel
theorem dX0_changeWish_34 : decode cX0_changeWish 34 = .ok (.iload_n 2, 1) := by decide +kernel
theorem dX0_changeWish_35 : decode cX0_changeWish 35 = .ok (.iadd, 1) := by decide +kernel
theorem dX0_changeWish_36 : decode cX0_changeWish 36 = .ok (.invokevirtual 53, 3) := by decide +kernel
theorem dX0_changeWish_39 : decode cX0_changeWish 39 = .ok (.istore 4, 2) := by decide +kernel
theorem dX0_changeWish_41 : decode cX0_changeWish 41 = .ok (.aload_n 0, 1) := by decide +kernel
theorem dX0_changeWish_42 : decode cX0_changeWish 42 = .ok (.iload_n 1, 1) := by decide +kernel
theorem dX0_changeWish_43 : decode cX0_changeWish 43 = .ok (.iconst 5, 1) := by decide +kernel
theorem dX0_changeWish_44 : decode cX0_changeWish 44 = .ok (.iload_n 2, 1) := by decide +kernel
theorem dX0_changeWish_45 : decode cX0_changeWish 45 = .ok (.iadd, 1) := by decide +kernel
theorem dX0_changeWish_46 : decode cX0_changeWish 46 = .ok (.iload_n 3, 1) := by decide +kernel
theorem dX0_changeWish_47 : decode cX0_changeWish 47 = .ok (.invokevirtual 40, 3) := by decide +kernel
theorem dX0_changeWish_50 : decode cX0_changeWish 50 = .ok (.iload 4, 2) := by decide +kernel
theorem dX0_changeWish_52 : decode cX0_changeWish 52 = .ok (.bipush 10, 2) := by decide +kernel
theorem dX0_changeWish_54 : decode cX0_changeWish 54 = .ok (.iadd, 1) := by decide +kernel
theorem dX0_changeWish_55 : decode cX0_changeWish 55 = .ok (.ireturn, 1) := by decide +kernel
theorem dX0_moveShot_0 : decode cX0_moveShot 0 = .ok (.aload_n 0, 1) := by decide +kernel
theorem dX0_moveShot_1 : decode cX0_moveShot 1 = .ok (.iload_n 1, 1) := by decide +kernel
theorem dX0_moveShot_2 : decode cX0_moveShot 2 = .ok (.invokevirtual 44, 3) := by decide +kernel
theorem dX0_moveShot_5 : decode cX0_moveShot 5 = .ok (.ifCond .eq 11, 3) := by decide +kernel
theorem dX0_moveShot_8 : decode cX0_moveShot 8 = .ok (.aload_n 0, 1) := by decide +kernel
theorem dX0_moveShot_9 : decode cX0_moveShot 9 = .ok (.iload_n 2, 1) := by decide +kernel
theorem dX0_moveShot_10 : decode cX0_moveShot 10 = .ok (.invokevirtual 44, 3) := by decide +kernel
theorem dX0_moveShot_13 : decode cX0_moveShot 13 = .ok (.ifCond .ne 5, 3) := by decide +kernel
theorem dX0_moveShot_16 : decode cX0_moveShot 16 = .ok (.iconst (-1), 1) := by decide +kernel
theorem dX0_moveShot_17 : decode cX0_moveShot 17 = .ok (.ireturn, 1) := by decide +kernel
theorem dX0_moveShot_18 : decode cX0_moveShot 18 = .ok (.iload_n 1, 1) := by decide +kernel
theorem dX0_moveShot_19 : decode cX0_moveShot 19 = .ok (.istore_n 3, 1) := by decide +kernel
theorem dX0_moveShot_20 : decode cX0_moveShot 20 = .ok (.iload_n 3, 1) := by decide +kernel
theorem dX0_moveShot_21 : decode cX0_moveShot 21 = .ok (.iload_n 2, 1) := by decide +kernel
theorem dX0_moveShot_22 : decode cX0_moveShot 22 = .ok (.if_icmp .ge 17, 3) := by decide +kernel
theorem dX0_moveShot_25 : decode cX0_moveShot 25 = .ok (.aload_n 0, 1) := by decide +kernel
theorem dX0_moveShot_26 : decode cX0_moveShot 26 = .ok (.iload_n 3, 1) := by decide +kernel
theorem dX0_moveShot_27 : decode cX0_moveShot 27 = .ok (.iload_n 3, 1) := by decide +kernel
theorem dX0_moveShot_28 : decode cX0_moveShot 28 = .ok (.iconst 1, 1) := by decide +kernel
theorem dX0_moveShot_29 : decode cX0_moveShot 29 = .ok (.iadd, 1) := by decide +kernel
theorem dX0_moveShot_30 : decode cX0_moveShot 30 = .ok (.invokevirtual 57, 3) := by decide +kernel
theorem dX0_moveShot_33 : decode cX0_moveShot 33 = .ok (.iinc 3 1, 3) := by decide +kernel
theorem dX0_moveShot_36 : decode cX0_moveShot 36 = .ok (.goto (-16), 3) := by decide +kernel
theorem dX0_moveShot_39 : decode cX0_moveShot 39 = .ok (.iload_n 1, 1) := by decide +kernel
theorem dX0_moveShot_40 : decode cX0_moveShot 40 = .ok (.istore_n 3, 1) := by decide +kernel
theorem dX0_moveShot_41 : decode cX0_moveShot 41 = .ok (.iload_n 3, 1) := by decide +kernel
theorem dX0_moveShot_42 : decode cX0_moveShot 42 = .ok (.iload_n 2, 1) := by decide +kernel
theorem dX0_moveShot_43 : decode cX0_moveShot 43 = .ok (.if_icmp .le 17, 3) := by decide +kernel
theorem dX0_moveShot_46 : decode cX0_moveShot 46 = .ok (.aload_n 0, 1) := by decide +kernel
theorem dX0_moveShot_47 : decode cX0_moveShot 47 = .ok (.iload_n 3, 1) := by decide +kernel
theorem dX0_moveShot_48 : decode cX0_moveShot 48 = .ok (.iload_n 3, 1) := by decide +kernel
theorem dX0_moveShot_49 : decode cX0_moveShot 49 = .ok (.iconst 1, 1) := by decide +kernel
theorem dX0_moveShot_50 : decode cX0_moveShot 50 = .ok (.isub, 1) := by decide +kernel
theorem dX0_moveShot_51 : decode cX0_moveShot 51 = .ok (.invokevirtual 57, 3) := by decide +kernel
theorem dX0_moveShot_54 : decode cX0_moveShot 54 = .ok (.iinc 3 (-1), 3) := by decide +kernel
theorem dX0_moveShot_57 : decode cX0_moveShot 57 = .ok (.goto (-16), 3) := by decide +kernel
theorem dX0_moveShot_60 : decode cX0_moveShot 60 = .ok (.iload_n 2, 1) := by decide +kernel
theorem dX0_moveShot_61 : decode cX0_moveShot 61 = .ok (.iload_n 1, 1) := by decide +kernel
theorem dX0_moveShot_62 : decode cX0_moveShot 62 = .ok (.isub, 1) := by decide +kernel
theorem dX0_moveShot_63 : decode cX0_moveShot 63 = .ok (.invokestatic 61, 3) := by decide +kernel
theorem dX0_moveShot_66 : decode cX0_moveShot 66 = .ok (.ireturn, 1) := by decide +kernel
theorem dX0_splitShot_0 : decode cX0_splitShot 0 = .ok (.aload_n 0, 1) := by decide +kernel
theorem dX0_splitShot_1 : decode cX0_splitShot 1 = .ok (.iload_n 1, 1) := by decide +kernel
theorem dX0_splitShot_2 : decode cX0_splitShot 2 = .ok (.invokevirtual 44, 3) := by decide +kernel
theorem dX0_splitShot_5 : decode cX0_splitShot 5 = .ok (.ifCond .ne 5, 3) := by decide +kernel
theorem dX0_splitShot_8 : decode cX0_splitShot 8 = .ok (.iconst (-1), 1) := by decide +kernel
theorem dX0_splitShot_9 : decode cX0_splitShot 9 = .ok (.ireturn, 1) := by decide +kernel
theorem dX0_splitShot_10 : decode cX0_splitShot 10 = .ok (.iload_n 2, 1) := by decide +kernel
theorem dX0_splitShot_11 : decode cX0_splitShot 11 = .ok (.iconst 1, 1) := by decide +kernel
theorem dX0_splitShot_12 : decode cX0_splitShot 12 = .ok (.bipush 98, 2) := by decide +kernel
theorem dX0_splitShot_14 : decode cX0_splitShot 14 = .ok (.invokestatic 9, 3) := by decide +kernel
theorem dX0_splitShot_17 : decode cX0_splitShot 17 = .ok (.ifCond .ne 6, 3) := by decide +kernel
theorem dX0_splitShot_20 : decode cX0_splitShot 20 = .ok (.bipush (-2), 2) := by decide +kernel
theorem dX0_splitShot_22 : decode cX0_splitShot 22 = .ok (.ireturn, 1) := by decide +kernel
theorem dX0_splitShot_23 : decode cX0_splitShot 23 = .ok (.aload_n 0, 1) := by decide +kernel
theorem dX0_splitShot_24 : decode cX0_splitShot 24 = .ok (.iload_n 1, 1) := by decide +kernel
theorem dX0_splitShot_25 : decode cX0_splitShot 25 = .ok (.iconst 0, 1) := by decide +kernel
theorem dX0_splitShot_26 : decode cX0_splitShot 26 = .ok (.invokevirtual 53, 3) := by decide +kernel
theorem dX0_splitShot_29 : decode cX0_splitShot 29 = .ok (.iload_n 2, 1) := by decide +kernel
theorem dX0_splitShot_30 : decode cX0_splitShot 30 = .ok (.isub, 1) := by decide +kernel
theorem dX0_splitShot_31 : decode cX0_splitShot 31 = .ok (.istore_n 3, 1) := by decide +kernel
theorem dX0_splitShot_32 : decode cX0_splitShot 32 = .ok (.iload_n 3, 1) := by decide +kernel
theorem dX0_splitShot_33 : decode cX0_splitShot 33 = .ok (.ifCond .gt 6, 3) := by decide +kernel
theorem dX0_splitShot_36 : decode cX0_splitShot 36 = .ok (.bipush (-5), 2) := by decide +kernel
theorem dX0_splitShot_38 : decode cX0_splitShot 38 = .ok (.ireturn, 1) := by decide +kernel
theorem dX0_splitShot_39 : decode cX0_splitShot 39 = .ok (.aload_n 0, 1) := by decide +kernel
theorem dX0_splitShot_40 : decode cX0_splitShot 40 = .ok (.invokevirtual 28, 3) := by decide +kernel
theorem dX0_splitShot_43 : decode cX0_splitShot 43 = .ok (.bipush 20, 2) := by decide +kernel
theorem dX0_splitShot_45 : decode cX0_splitShot 45 = .ok (.if_icmp .lt 6, 3) := by decide +kernel
theorem dX0_splitShot_48 : decode cX0_splitShot 48 = .ok (.bipush (-4), 2) := by decide +kernel
theorem dX0_splitShot_50 : decode cX0_splitShot 50 = .ok (.ireturn, 1) := by decide +kernel
theorem dX0_splitShot_51 : decode cX0_splitShot 51 = .ok (.aload_n 0, 1) := by decide +kernel
theorem dX0_splitShot_52 : decode cX0_splitShot 52 = .ok (.iload_n 1, 1) := by decide +kernel
theorem dX0_splitShot_53 : decode cX0_splitShot 53 = .ok (.invokevirtual 36, 3) := by decide +kernel
theorem dX0_splitShot_56 : decode cX0_splitShot 56 = .ok (.aload_n 0, 1) := by decide +kernel
theorem dX0_splitShot_57 : decode cX0_splitShot 57 = .ok (.iload_n 1, 1) := by decide +kernel
theorem dX0_splitShot_58 : decode cX0_splitShot 58 = .ok (.iconst 0, 1) := by decide +kernel
theorem dX0_splitShot_59 : decode cX0_splitShot 59 = .ok (.iload_n 2, 1) := by decide +kernel
theorem dX0_splitShot_60 : decode cX0_splitShot 60 = .ok (.invokevirtual 40, 3) := by decide +kernel
theorem dX0_splitShot_63 : decode cX0_splitShot 63 = .ok (.aload_n 0, 1) := by decide +kernel
theorem dX0_splitShot_64 : decode cX0_splitShot 64 = .ok (.iload_n 1, 1) := by decide +kernel
theorem dX0_splitShot_65 : decode cX0_splitShot 65 = .ok (.iconst 1, 1) := by decide +kernel
theorem dX0_splitShot_66 : decode cX0_splitShot 66 = .ok (.iconst 0, 1) := by decide +kernel
theorem dX0_splitShot_67 : decode cX0_splitShot 67 = .ok (.invokevirtual 40, 3) := by decide +kernel
theorem dX0_splitShot_70 : decode cX0_splitShot 70 = .ok (.aload_n 0, 1) := by decide +kernel
theorem dX0_splitShot_71 : decode cX0_splitShot 71 = .ok (.iload_n 1, 1) := by decide +kernel
theorem dX0_splitShot_72 : decode cX0_splitShot 72 = .ok (.iconst 1, 1) := by decide +kernel
theorem dX0_splitShot_73 : decode cX0_splitShot 73 = .ok (.iadd, 1) := by decide +kernel
theorem dX0_splitShot_74 : decode cX0_splitShot 74 = .ok (.iconst 0, 1) := by decide +kernel
theorem dX0_splitShot_75 : decode cX0_splitShot 75 = .ok (.iload_n 3, 1) := by decide +kernel
theorem dX0_splitShot_76 : decode cX0_splitShot 76 = .ok (.invokevirtual 40, 3) := by decide +kernel
theorem dX0_splitShot_79 : decode cX0_splitShot 79 = .ok (.aload_n 0, 1) := by decide +kernel
theorem dX0_splitShot_80 : decode cX0_splitShot 80 = .ok (.iload_n 1, 1) := by decide +kernel
theorem dX0_splitShot_81 : decode cX0_splitShot 81 = .ok (.iconst 1, 1) := by decide +kernel
theorem dX0_splitShot_82 : decode cX0_splitShot 82 = .ok (.iadd, 1) := by decide +kernel
theorem dX0_splitShot_83 : decode cX0_splitShot 83 = .ok (.iconst 1, 1) := by decide +kernel
theorem dX0_splitShot_84 : decode cX0_splitShot 84 = .ok (.iconst 0, 1) := by decide +kernel
theorem dX0_splitShot_85 : decode cX0_splitShot 85 = .ok (.invokevirtual 40, 3) := by decide +kernel
theorem dX0_splitShot_88 : decode cX0_splitShot 88 = .ok (.aload_n 0, 1) := by decide +kernel
theorem dX0_splitShot_89 : decode cX0_splitShot 89 = .ok (.invokevirtual 28, 3) := by decide +kernel
theorem dX0_splitShot_92 : decode cX0_splitShot 92 = .ok (.ireturn, 1) := by decide +kernel
theorem dX0_joinShots_0 : decode cX0_joinShots 0 = .ok (.aload_n 0, 1) := by decide +kernel
theorem dX0_joinShots_1 : decode cX0_joinShots 1 = .ok (.iload_n 1, 1) := by decide +kernel
theorem dX0_joinShots_2 : decode cX0_joinShots 2 = .ok (.invokevirtual 44, 3) := by decide +kernel
theorem dX0_joinShots_5 : decode cX0_joinShots 5 = .ok (.ifCond .eq 13, 3) := by decide +kernel
theorem dX0_joinShots_8 : decode cX0_joinShots 8 = .ok (.aload_n 0, 1) := by decide +kernel
theorem dX0_joinShots_9 : decode cX0_joinShots 9 = .ok (.iload_n 1, 1) := by decide +kernel
theorem dX0_joinShots_10 : decode cX0_joinShots 10 = .ok (.iconst 1, 1) := by decide +kernel
theorem dX0_joinShots_11 : decode cX0_joinShots 11 = .ok (.iadd, 1) := by decide +kernel
theorem dX0_joinShots_12 : decode cX0_joinShots 12 = .ok (.invokevirtual 44, 3) := by decide +kernel
theorem dX0_joinShots_15 : decode cX0_joinShots 15 = .ok (.ifCond .ne 5, 3) := by decide +kernel
theorem dX0_joinShots_18 : decode cX0_joinShots 18 = .ok (.iconst (-1), 1) := by decide +kernel
theorem dX0_joinShots_19 : decode cX0_joinShots 19 = .ok (.ireturn, 1) := by decide +kernel
theorem dX0_joinShots_20 : decode cX0_joinShots 20 = .ok (.aload_n 0, 1) := by decide +kernel
theorem dX0_joinShots_21 : decode cX0_joinShots 21 = .ok (.iload_n 1, 1) := by decide +kernel
theorem dX0_joinShots_22 : decode cX0_joinShots 22 = .ok (.iconst 0, 1) := by decide +kernel
theorem dX0_joinShots_23 : decode cX0_joinShots 23 = .ok (.invokevirtual 53, 3) := by decide +kernel
theorem dX0_joinShots_26 : decode cX0_joinShots 26 = .ok (.aload_n 0, 1) := by decide +kernel
theorem dX0_joinShots_27 : decode cX0_joinShots 27 = .ok (.iload_n 1, 1) := by decide +kernel
theorem dX0_joinShots_28 : decode cX0_joinShots 28 = .ok (.iconst 1, 1) := by decide +kernel
theorem dX0_joinShots_29 : decode cX0_joinShots 29 = .ok (.iadd, 1) := by decide +kernel
theorem dX0_joinShots_30 : decode cX0_joinShots 30 = .ok (.iconst 0, 1) := by decide +kernel
theorem dX0_joinShots_31 : decode cX0_joinShots 31 = .ok (.invokevirtual 53, 3) := by decide +kernel
theorem dX0_joinShots_34 : decode cX0_joinShots 34 = .ok (.iadd, 1) := by decide +kernel
theorem dX0_joinShots_35 : decode cX0_joinShots 35 = .ok (.istore_n 2, 1) := by decide +kernel
theorem dX0_joinShots_36 : decode cX0_joinShots 36 = .ok (.iload_n 2, 1) := by decide +kernel
theorem dX0_joinShots_37 : decode cX0_joinShots 37 = .ok (.bipush 99, 2) := by decide +kernel
theorem dX0_joinShots_39 : decode cX0_joinShots 39 = .ok (.if_icmp .gt 14, 3) := by decide +kernel
theorem dX0_joinShots_42 : decode cX0_joinShots 42 = .ok (.aload_n 0, 1) := by decide +kernel
theorem dX0_joinShots_43 : decode cX0_joinShots 43 = .ok (.iload_n 1, 1) := by decide +kernel
theorem dX0_joinShots_44 : decode cX0_joinShots 44 = .ok (.iload_n 1, 1) := by decide +kernel
theorem dX0_joinShots_45 : decode cX0_joinShots 45 = .ok (.iconst 1, 1) := by decide +kernel
theorem dX0_joinShots_46 : decode cX0_joinShots 46 = .ok (.iadd, 1) := by decide +kernel
theorem dX0_joinShots_47 : decode cX0_joinShots 47 = .ok (.invokestatic 67, 3) := by decide +kernel
theorem dX0_joinShots_50 : decode cX0_joinShots 50 = .ok (.ifCond .ne 6, 3) := by decide +kernel
theorem dX0_joinShots_53 : decode cX0_joinShots 53 = .ok (.bipush (-5), 2) := by decide +kernel
theorem dX0_joinShots_55 : decode cX0_joinShots 55 = .ok (.ireturn, 1) := by decide +kernel
theorem dX0_joinShots_56 : decode cX0_joinShots 56 = .ok (.aload_n 0, 1) := by decide +kernel
theorem dX0_joinShots_57 : decode cX0_joinShots 57 = .ok (.iload_n 1, 1) := by decide +kernel
theorem dX0_joinShots_58 : decode cX0_joinShots 58 = .ok (.iconst 1, 1) := by decide +kernel
theorem dX0_joinShots_59 : decode cX0_joinShots 59 = .ok (.iadd, 1) := by decide +kernel
theorem dX0_joinShots_60 : decode cX0_joinShots 60 = .ok (.invokevirtual 47, 3) := by decide +kernel
theorem dX0_joinShots_63 : decode cX0_joinShots 63 = .ok (.aload_n 0, 1) := by decide +kernel
theorem dX0_joinShots_64 : decode cX0_joinShots 64 = .ok (.iload_n 1, 1) := by decide +kernel
theorem dX0_joinShots_65 : decode cX0_joinShots 65 = .ok (.iconst 0, 1) := by decide +kernel
theorem dX0_joinShots_66 : decode cX0_joinShots 66 = .ok (.iload_n 2, 1) := by decide +kernel
theorem dX0_joinShots_67 : decode cX0_joinShots 67 = .ok (.invokevirtual 40, 3) := by decide +kernel
theorem dX0_joinShots_70 : decode cX0_joinShots 70 = .ok (.aload_n 0, 1) := by decide +kernel
theorem dX0_joinShots_71 : decode cX0_joinShots 71 = .ok (.iload_n 1, 1) := by decide +kernel
theorem dX0_joinShots_72 : decode cX0_joinShots 72 = .ok (.iconst 1, 1) := by decide +kernel
theorem dX0_joinShots_73 : decode cX0_joinShots 73 = .ok (.iconst 0, 1) := by decide +kernel
theorem dX0_joinShots_74 : decode cX0_joinShots 74 = .ok (.invokevirtual 40, 3) := by decide +kernel
theorem dX0_joinShots_77 : decode cX0_joinShots 77 = .ok (.iload_n 2, 1) := by decide +kernel
theorem dX0_joinShots_78 : decode cX0_joinShots 78 = .ok (.ireturn, 1) := by decide +kernel
theorem dX0_isSameStock_0 : decode cX0_isSameStock 0 = .ok (.iconst 2, 1) := by decide +kernel
theorem dX0_isSameStock_1 : decode cX0_isSameStock 1 = .ok (.istore_n 3, 1) := by decide +kernel
theorem dX0_isSameStock_2 : decode cX0_isSameStock 2 = .ok (.iload_n 3, 1) := by decide +kernel
theorem dX0_isSameStock_3 : decode cX0_isSameStock 3 = .ok (.iconst 5, 1) := by decide +kernel
theorem dX0_isSameStock_4 : decode cX0_isSameStock 4 = .ok (.if_icmp .ge 26, 3) := by decide +kernel
theorem dX0_isSameStock_7 : decode cX0_isSameStock 7 = .ok (.aload_n 0, 1) := by decide +kernel
theorem dX0_isSameStock_8 : decode cX0_isSameStock 8 = .ok (.iload_n 1, 1) := by decide +kernel
theorem dX0_isSameStock_9 : decode cX0_isSameStock 9 = .ok (.iload_n 3, 1) := by decide +kernel
theorem dX0_isSameStock_10 : decode cX0_isSameStock 10 = .ok (.invokevirtual 53, 3) := by decide +kernel
theorem dX0_isSameStock_13 : decode cX0_isSameStock 13 = .ok (.aload_n 0, 1) := by decide +kernel
theorem dX0_isSameStock_14 : decode cX0_isSameStock 14 = .ok (.iload_n 2, 1) := by decide +kernel
theorem dX0_isSameStock_15 : decode cX0_isSameStock 15 = .ok (.iload_n 3, 1) := by decide +kernel
theorem dX0_isSameStock_16 : decode cX0_isSameStock 16 = .ok (.invokevirtual 53, 3) := by decide +kernel
theorem dX0_isSameStock_19 : decode cX0_isSameStock 19 = .ok (.if_icmp .eq 5, 3) := by decide +kernel
theorem dX0_isSameStock_22 : decode cX0_isSameStock 22 = .ok (.iconst 0, 1) := by decide +kernel
theorem dX0_isSameStock_23 : decode cX0_isSameStock 23 = .ok (.ireturn, 1) := by decide +kernel
theorem dX0_isSameStock_24 : decode cX0_isSameStock 24 = .ok (.iinc 3 1, 3) := by decide +kernel
theorem dX0_isSameStock_27 : decode cX0_isSameStock 27 = .ok (.goto (-25), 3) := by decide +kernel
theorem dX0_isSameStock_30 : decode cX0_isSameStock 30 = .ok (.iconst 1, 1) := by decide +kernel
theorem dX0_isSameStock_31 : decode cX0_isSameStock 31 = .ok (.ireturn, 1) := by decide +kernel
theorem dX0_makePrint_0 : decode cX0_makePrint 0 = .ok (.aload_n 0, 1) := by decide +kernel
theorem dX0_makePrint_1 : decode cX0_makePrint 1 = .ok (.invokestatic 71, 3) := by decide +kernel
theorem dX0_makePrint_4 : decode cX0_makePrint 4 = .ok (.istore_n 1, 1) := by decide +kernel
theorem dX0_makePrint_5 : decode cX0_makePrint 5 = .ok (.iconst 0, 1) := by decide +kernel
theorem dX0_makePrint_6 : decode cX0_makePrint 6 = .ok (.istore_n 2, 1) := by decide +kernel
theorem dX0_makePrint_7 : decode cX0_makePrint 7 = .ok (.iload_n 2, 1) := by decide +kernel
theorem dX0_makePrint_8 : decode cX0_makePrint 8 = .ok (.iconst 3, 1) := by decide +kernel
theorem dX0_makePrint_9 : decode cX0_makePrint 9 = .ok (.if_icmp .ge 27, 3) := by decide +kernel
theorem dX0_makePrint_12 : decode cX0_makePrint 12 = .ok (.aload_n 0, 1) := by decide +kernel
theorem dX0_makePrint_13 : decode cX0_makePrint 13 = .ok (.iconst 4, 1) := by decide +kernel
theorem dX0_makePrint_14 : decode cX0_makePrint 14 = .ok (.iload_n 2, 1) := by decide +kernel
theorem dX0_makePrint_15 : decode cX0_makePrint 15 = .ok (.iadd, 1) := by decide +kernel
theorem dX0_makePrint_16 : decode cX0_makePrint 16 = .ok (.invokevirtual 75, 3) := by decide +kernel
theorem dX0_makePrint_19 : decode cX0_makePrint 19 = .ok (.iload_n 1, 1) := by decide +kernel
theorem dX0_makePrint_20 : decode cX0_makePrint 20 = .ok (.iadd, 1) := by decide +kernel
theorem dX0_makePrint_21 : decode cX0_makePrint 21 = .ok (.sipush 999, 3) := by decide +kernel
theorem dX0_makePrint_24 : decode cX0_makePrint 24 = .ok (.if_icmp .le 6, 3) := by decide +kernel
theorem dX0_makePrint_27 : decode cX0_makePrint 27 = .ok (.bipush (-5), 2) := by decide +kernel
theorem dX0_makePrint_29 : decode cX0_makePrint 29 = .ok (.ireturn, 1) := by decide +kernel
theorem dX0_makePrint_30 : decode cX0_makePrint 30 = .ok (.iinc 2 1, 3) := by decide +kernel
theorem dX0_makePrint_33 : decode cX0_makePrint 33 = .ok (.goto (-26), 3) := by decide +kernel
theorem dX0_makePrint_36 : decode cX0_makePrint 36 = .ok (.aload_n 0, 1) := by decide +kernel
theorem dX0_makePrint_37 : decode cX0_makePrint 37 = .ok (.invokevirtual 28, 3) := by decide +kernel
theorem dX0_makePrint_40 : decode cX0_makePrint 40 = .ok (.ifCond .ne 8, 3) := by decide +kernel
theorem dX0_makePrint_43 : decode cX0_makePrint 43 = .ok (.bipush (-5), 2) := by decide +kernel
theorem dX0_makePrint_45 : decode cX0_makePrint 45 = .ok (.goto 7, 3) := by decide +kernel
theorem dX0_makePrint_48 : decode cX0_makePrint 48 = .ok (.aload_n 0, 1) := by decide +kernel
theorem dX0_makePrint_49 : decode cX0_makePrint 49 = .ok (.invokestatic 78, 3) := by decide +kernel
theorem dX0_makePrint_52 : decode cX0_makePrint 52 = .ok (.ireturn, 1) := by decide +kernel
theorem dX0_runPrinter_0 : decode cX0_runPrinter 0 = .ok (.iconst 0, 1) := by decide +kernel
theorem dX0_runPrinter_1 : decode cX0_runPrinter 1 = .ok (.istore_n 1, 1) := by decide +kernel
theorem dX0_runPrinter_2 : decode cX0_runPrinter 2 = .ok (.iconst 0, 1) := by decide +kernel
theorem dX0_runPrinter_3 : decode cX0_runPrinter 3 = .ok (.istore_n 2, 1) := by decide +kernel
theorem dX0_runPrinter_4 : decode cX0_runPrinter 4 = .ok (.iload_n 2, 1) := by decide +kernel
theorem dX0_runPrinter_5 : decode cX0_runPrinter 5 = .ok (.aload_n 0, 1) := by decide +kernel
theorem dX0_runPrinter_6 : decode cX0_runPrinter 6 = .ok (.invokevirtual 28, 3) := by decide +kernel
theorem dX0_runPrinter_9 : decode cX0_runPrinter 9 = .ok (.if_icmp .ge 78, 3) := by decide +kernel
theorem dX0_runPrinter_12 : decode cX0_runPrinter 12 = .ok (.iload_n 2, 1) := by decide +kernel
theorem dX0_runPrinter_13 : decode cX0_runPrinter 13 = .ok (.bipush 20, 2) := by decide +kernel
theorem dX0_runPrinter_15 : decode cX0_runPrinter 15 = .ok (.if_icmp .ge 72, 3) := by decide +kernel
theorem dX0_runPrinter_18 : decode cX0_runPrinter 18 = .ok (.iconst 0, 1) := by decide +kernel
theorem dX0_runPrinter_19 : decode cX0_runPrinter 19 = .ok (.istore_n 3, 1) := by decide +kernel
theorem dX0_runPrinter_20 : decode cX0_runPrinter 20 = .ok (.iload_n 3, 1) := by decide +kernel
theorem dX0_runPrinter_21 : decode cX0_runPrinter 21 = .ok (.iconst 3, 1) := by decide +kernel
theorem dX0_runPrinter_22 : decode cX0_runPrinter 22 = .ok (.if_icmp .ge 36, 3) := by decide +kernel
theorem dX0_runPrinter_25 : decode cX0_runPrinter 25 = .ok (.aload_n 0, 1) := by decide +kernel
theorem dX0_runPrinter_26 : decode cX0_runPrinter 26 = .ok (.iload_n 2, 1) := by decide +kernel
theorem dX0_runPrinter_27 : decode cX0_runPrinter 27 = .ok (.iload_n 3, 1) := by decide +kernel
theorem dX0_runPrinter_28 : decode cX0_runPrinter 28 = .ok (.aload_n 0, 1) := by decide +kernel
theorem dX0_runPrinter_29 : decode cX0_runPrinter 29 = .ok (.bipush 7, 2) := by decide +kernel
theorem dX0_runPrinter_31 : decode cX0_runPrinter 31 = .ok (.iload_n 3, 1) := by decide +kernel
theorem dX0_runPrinter_32 : decode cX0_runPrinter 32 = .ok (.iadd, 1) := by decide +kernel
theorem dX0_runPrinter_33 : decode cX0_runPrinter 33 = .ok (.invokevirtual 75, 3) := by decide +kernel
theorem dX0_runPrinter_36 : decode cX0_runPrinter 36 = .ok (.invokestatic 81, 3) := by decide +kernel
theorem dX0_runPrinter_39 : decode cX0_runPrinter 39 = .ok (.istore 4, 2) := by decide +kernel
theorem dX0_runPrinter_41 : decode cX0_runPrinter 41 = .ok (.aload_n 0, 1) := by decide +kernel
theorem dX0_runPrinter_42 : decode cX0_runPrinter 42 = .ok (.iload_n 2, 1) := by decide +kernel
theorem dX0_runPrinter_43 : decode cX0_runPrinter 43 = .ok (.bipush 11, 2) := by decide +kernel
theorem dX0_runPrinter_45 : decode cX0_runPrinter 45 = .ok (.iload_n 3, 1) := by decide +kernel
theorem dX0_runPrinter_46 : decode cX0_runPrinter 46 = .ok (.iadd, 1) := by decide +kernel
theorem dX0_runPrinter_47 : decode cX0_runPrinter 47 = .ok (.iload 4, 2) := by decide +kernel
theorem dX0_runPrinter_49 : decode cX0_runPrinter 49 = .ok (.invokevirtual 40, 3) := by decide +kernel
theorem dX0_runPrinter_52 : decode cX0_runPrinter 52 = .ok (.iinc 3 1, 3) := by decide +kernel
theorem dX0_runPrinter_55 : decode cX0_runPrinter 55 = .ok (.goto (-35), 3) := by decide +kernel
theorem dX0_runPrinter_58 : decode cX0_runPrinter 58 = .ok (.aload_n 0, 1) := by decide +kernel
theorem dX0_runPrinter_59 : decode cX0_runPrinter 59 = .ok (.iload_n 2, 1) := by decide +kernel
theorem dX0_runPrinter_60 : decode cX0_runPrinter 60 = .ok (.iconst 1, 1) := by decide +kernel
theorem dX0_runPrinter_61 : decode cX0_runPrinter 61 = .ok (.iconst 1, 1) := by decide +kernel
theorem dX0_runPrinter_62 : decode cX0_runPrinter 62 = .ok (.invokevirtual 40, 3) := by decide +kernel
theorem dX0_runPrinter_65 : decode cX0_runPrinter 65 = .ok (.iload_n 1, 1) := by decide +kernel
theorem dX0_runPrinter_66 : decode cX0_runPrinter 66 = .ok (.aload_n 0, 1) := by decide +kernel
theorem dX0_runPrinter_67 : decode cX0_runPrinter 67 = .ok (.iload_n 2, 1) := by decide +kernel
theorem dX0_runPrinter_68 : decode cX0_runPrinter 68 = .ok (.invokestatic 87, 3) := by decide +kernel
theorem dX0_runPrinter_71 : decode cX0_runPrinter 71 = .ok (.ifCond .eq 7, 3) := by decide +kernel
theorem dX0_runPrinter_74 : decode cX0_runPrinter 74 = .ok (.iconst 1, 1) := by decide +kernel
theorem dX0_runPrinter_75 : decode cX0_runPrinter 75 = .ok (.goto 4, 3) := by decide +kernel
theorem dX0_runPrinter_78 : decode cX0_runPrinter 78 = .ok (.iconst 0, 1) := by decide +kernel
theorem dX0_runPrinter_79 : decode cX0_runPrinter 79 = .ok (.iadd, 1) := by decide +kernel
theorem dX0_runPrinter_80 : decode cX0_runPrinter 80 = .ok (.istore_n 1, 1) := by decide +kernel
theorem dX0_runPrinter_81 : decode cX0_runPrinter 81 = .ok (.iinc 2 1, 3) := by decide +kernel
theorem dX0_runPrinter_84 : decode cX0_runPrinter 84 = .ok (.goto (-80), 3) := by decide +kernel
theorem dX0_runPrinter_87 : decode cX0_runPrinter 87 = .ok (.aload_n 0, 1) := by decide +kernel
theorem dX0_runPrinter_88 : decode cX0_runPrinter 88 = .ok (.invokestatic 71, 3) := by decide +kernel
theorem dX0_runPrinter_91 : decode cX0_runPrinter 91 = .ok (.istore_n 2, 1) := by decide +kernel
theorem dX0_runPrinter_92 : decode cX0_runPrinter 92 = .ok (.iconst 0, 1) := by decide +kernel
theorem dX0_runPrinter_93 : decode cX0_runPrinter 93 = .ok (.istore_n 3, 1) := by decide +kernel
theorem dX0_runPrinter_94 : decode cX0_runPrinter 94 = .ok (.iload_n 3, 1) := by decide +kernel
theorem dX0_runPrinter_95 : decode cX0_runPrinter 95 = .ok (.iconst 3, 1) := by decide +kernel
theorem dX0_runPrinter_96 : decode cX0_runPrinter 96 = .ok (.if_icmp .ge 25, 3) := by decide +kernel
theorem dX0_runPrinter_99 : decode cX0_runPrinter 99 = .ok (.aload_n 0, 1) := by decide +kernel
theorem dX0_runPrinter_100 : decode cX0_runPrinter 100 = .ok (.iconst 4, 1) := by decide +kernel
theorem dX0_runPrinter_101 : decode cX0_runPrinter 101 = .ok (.iload_n 3, 1) := by decide +kernel
theorem dX0_runPrinter_102 : decode cX0_runPrinter 102 = .ok (.iadd, 1) := by decide +kernel
theorem dX0_runPrinter_103 : decode cX0_runPrinter 103 = .ok (.aload_n 0, 1) := by decide +kernel
theorem dX0_runPrinter_104 : decode cX0_runPrinter 104 = .ok (.iconst 4, 1) := by decide +kernel
theorem dX0_runPrinter_105 : decode cX0_runPrinter 105 = .ok (.iload_n 3, 1) := by decide +kernel
theorem dX0_runPrinter_106 : decode cX0_runPrinter 106 = .ok (.iadd, 1) := by decide +kernel
theorem dX0_runPrinter_107 : decode cX0_runPrinter 107 = .ok (.invokevirtual 75, 3) := by decide +kernel
theorem dX0_runPrinter_110 : decode cX0_runPrinter 110 = .ok (.iload_n 2, 1) := by decide +kernel
theorem dX0_runPrinter_111 : decode cX0_runPrinter 111 = .ok (.iadd, 1) := by decide +kernel
theorem dX0_runPrinter_112 : decode cX0_runPrinter 112 = .ok (.invokevirtual 91, 3) := by decide +kernel
theorem dX0_runPrinter_115 : decode cX0_runPrinter 115 = .ok (.iinc 3 1, 3) := by decide +kernel
theorem dX0_runPrinter_118 : decode cX0_runPrinter 118 = .ok (.goto (-24), 3) := by decide +kernel
theorem dX0_runPrinter_121 : decode cX0_runPrinter 121 = .ok (.aload_n 0, 1) := by decide +kernel
theorem dX0_runPrinter_122 : decode cX0_runPrinter 122 = .ok (.bipush 10, 2) := by decide +kernel
theorem dX0_runPrinter_124 : decode cX0_runPrinter 124 = .ok (.aload_n 0, 1) := by decide +kernel
theorem dX0_runPrinter_125 : decode cX0_runPrinter 125 = .ok (.bipush 10, 2) := by decide +kernel
theorem dX0_runPrinter_127 : decode cX0_runPrinter 127 = .ok (.invokevirtual 75, 3) := by decide +kernel
theorem dX0_runPrinter_130 : decode cX0_runPrinter 130 = .ok (.iconst 1, 1) := by decide +kernel
theorem dX0_runPrinter_131 : decode cX0_runPrinter 131 = .ok (.iadd, 1) := by decide +kernel
theorem dX0_runPrinter_132 : decode cX0_runPrinter 132 = .ok (.invokevirtual 91, 3) := by decide +kernel
theorem dX0_runPrinter_135 : decode cX0_runPrinter 135 = .ok (.iload_n 1, 1) := by decide +kernel
theorem dX0_runPrinter_136 : decode cX0_runPrinter 136 = .ok (.ireturn, 1) := by decide +kernel
theorem dX0_hoursOfPrint_0 : decode cX0_hoursOfPrint 0 = .ok (.aload_n 0, 1) := by decide +kernel
theorem dX0_hoursOfPrint_1 : decode cX0_hoursOfPrint 1 = .ok (.aload_n 0, 1) := by decide +kernel
theorem dX0_hoursOfPrint_2 : decode cX0_hoursOfPrint 2 = .ok (.invokevirtual 28, 3) := by decide +kernel
theorem dX0_hoursOfPrint_5 : decode cX0_hoursOfPrint 5 = .ok (.invokestatic 94, 3) := by decide +kernel
theorem dX0_hoursOfPrint_8 : decode cX0_hoursOfPrint 8 = .ok (.bipush 99, 2) := by decide +kernel
theorem dX0_hoursOfPrint_10 : decode cX0_hoursOfPrint 10 = .ok (.iadd, 1) := by decide +kernel
theorem dX0_hoursOfPrint_11 : decode cX0_hoursOfPrint 11 = .ok (.bipush 100, 2) := by decide +kernel
theorem dX0_hoursOfPrint_13 : decode cX0_hoursOfPrint 13 = .ok (.idiv, 1) := by decide +kernel
theorem dX0_hoursOfPrint_14 : decode cX0_hoursOfPrint 14 = .ok (.ireturn, 1) := by decide +kernel
theorem dX0_correctShot_0 : decode cX0_correctShot 0 = .ok (.aload_n 0, 1) := by decide +kernel
theorem dX0_correctShot_1 : decode cX0_correctShot 1 = .ok (.iload_n 1, 1) := by decide +kernel
theorem dX0_correctShot_2 : decode cX0_correctShot 2 = .ok (.invokevirtual 44, 3) := by decide +kernel
theorem dX0_correctShot_5 : decode cX0_correctShot 5 = .ok (.ifCond .ne 5, 3) := by decide +kernel
theorem dX0_correctShot_8 : decode cX0_correctShot 8 = .ok (.iconst (-1), 1) := by decide +kernel
theorem dX0_correctShot_9 : decode cX0_correctShot 9 = .ok (.ireturn, 1) := by decide +kernel
theorem dX0_correctShot_10 : decode cX0_correctShot 10 = .ok (.aload_n 0, 1) := by decide +kernel
theorem dX0_correctShot_11 : decode cX0_correctShot 11 = .ok (.iload_n 1, 1) := by decide +kernel
theorem dX0_correctShot_12 : decode cX0_correctShot 12 = .ok (.invokestatic 98, 3) := by decide +kernel
theorem dX0_correctShot_15 : decode cX0_correctShot 15 = .ok (.ifCond .ne 6, 3) := by decide +kernel
theorem dX0_correctShot_18 : decode cX0_correctShot 18 = .ok (.bipush (-5), 2) := by decide +kernel
theorem dX0_correctShot_20 : decode cX0_correctShot 20 = .ok (.ireturn, 1) := by decide +kernel
theorem dX0_correctShot_21 : decode cX0_correctShot 21 = .ok (.iconst 0, 1) := by decide +kernel
theorem dX0_correctShot_22 : decode cX0_correctShot 22 = .ok (.istore_n 2, 1) := by decide +kernel
theorem dX0_correctShot_23 : decode cX0_correctShot 23 = .ok (.iconst 0, 1) := by decide +kernel
theorem dX0_correctShot_24 : decode cX0_correctShot 24 = .ok (.istore_n 3, 1) := by decide +kernel
theorem dX0_correctShot_25 : decode cX0_correctShot 25 = .ok (.iload_n 3, 1) := by decide +kernel
theorem dX0_correctShot_26 : decode cX0_correctShot 26 = .ok (.iconst 3, 1) := by decide +kernel
theorem dX0_correctShot_27 : decode cX0_correctShot 27 = .ok (.if_icmp .ge 18, 3) := by decide +kernel
theorem dX0_correctShot_30 : decode cX0_correctShot 30 = .ok (.iload_n 2, 1) := by decide +kernel
theorem dX0_correctShot_31 : decode cX0_correctShot 31 = .ok (.aload_n 0, 1) := by decide +kernel
theorem dX0_correctShot_32 : decode cX0_correctShot 32 = .ok (.iload_n 1, 1) := by decide +kernel
theorem dX0_correctShot_33 : decode cX0_correctShot 33 = .ok (.iload_n 3, 1) := by decide +kernel
theorem dX0_correctShot_34 : decode cX0_correctShot 34 = .ok (.invokestatic 101, 3) := by decide +kernel
theorem dX0_correctShot_37 : decode cX0_correctShot 37 = .ok (.iadd, 1) := by decide +kernel
theorem dX0_correctShot_38 : decode cX0_correctShot 38 = .ok (.istore_n 2, 1) := by decide +kernel
theorem dX0_correctShot_39 : decode cX0_correctShot 39 = .ok (.iinc 3 1, 3) := by decide +kernel
theorem dX0_correctShot_42 : decode cX0_correctShot 42 = .ok (.goto (-17), 3) := by decide +kernel
theorem dX0_correctShot_45 : decode cX0_correctShot 45 = .ok (.aload_n 0, 1) := by decide +kernel
theorem dX0_correctShot_46 : decode cX0_correctShot 46 = .ok (.iload_n 1, 1) := by decide +kernel
theorem dX0_correctShot_47 : decode cX0_correctShot 47 = .ok (.iconst 1, 1) := by decide +kernel
theorem dX0_correctShot_48 : decode cX0_correctShot 48 = .ok (.iconst 0, 1) := by decide +kernel
theorem dX0_correctShot_49 : decode cX0_correctShot 49 = .ok (.invokevirtual 40, 3) := by decide +kernel
theorem dX0_correctShot_52 : decode cX0_correctShot 52 = .ok (.aload_n 0, 1) := by decide +kernel
theorem dX0_correctShot_53 : decode cX0_correctShot 53 = .ok (.bipush 11, 2) := by decide +kernel
theorem dX0_correctShot_55 : decode cX0_correctShot 55 = .ok (.aload_n 0, 1) := by decide +kernel
theorem dX0_correctShot_56 : decode cX0_correctShot 56 = .ok (.bipush 11, 2) := by decide +kernel
theorem dX0_correctShot_58 : decode cX0_correctShot 58 = .ok (.invokevirtual 75, 3) := by decide +kernel
theorem dX0_correctShot_61 : decode cX0_correctShot 61 = .ok (.iload_n 2, 1) := by decide +kernel
theorem dX0_correctShot_62 : decode cX0_correctShot 62 = .ok (.iadd, 1) := by decide +kernel
theorem dX0_correctShot_63 : decode cX0_correctShot 63 = .ok (.invokevirtual 91, 3) := by decide +kernel
theorem dX0_correctShot_66 : decode cX0_correctShot 66 = .ok (.iload_n 2, 1) := by decide +kernel
theorem dX0_correctShot_67 : decode cX0_correctShot 67 = .ok (.ireturn, 1) := by decide +kernel
theorem dX0_correctLight_0 : decode cX0_correctLight 0 = .ok (.aload_n 0, 1) := by decide +kernel
theorem dX0_correctLight_1 : decode cX0_correctLight 1 = .ok (.iload_n 1, 1) := by decide +kernel
theorem dX0_correctLight_2 : decode cX0_correctLight 2 = .ok (.bipush 11, 2) := by decide +kernel
theorem dX0_correctLight_4 : decode cX0_correctLight 4 = .ok (.iload_n 2, 1) := by decide +kernel
theorem dX0_correctLight_5 : decode cX0_correctLight 5 = .ok (.iadd, 1) := by decide +kernel
theorem dX0_correctLight_6 : decode cX0_correctLight 6 = .ok (.invokevirtual 53, 3) := by decide +kernel
theorem dX0_correctLight_9 : decode cX0_correctLight 9 = .ok (.istore_n 3, 1) := by decide +kernel
theorem dX0_correctLight_10 : decode cX0_correctLight 10 = .ok (.iconst 1, 1) := by decide +kernel
theorem dX0_correctLight_11 : decode cX0_correctLight 11 = .ok (.aload_n 0, 1) := by decide +kernel
theorem dX0_correctLight_12 : decode cX0_correctLight 12 = .ok (.iconst 0, 1) := by decide +kernel
theorem dX0_correctLight_13 : decode cX0_correctLight 13 = .ok (.invokevirtual 75, 3) := by decide +kernel
theorem dX0_correctLight_16 : decode cX0_correctLight 16 = .ok (.invokestatic 104, 3) := by decide +kernel
theorem dX0_correctLight_19 : decode cX0_correctLight 19 = .ok (.istore 4, 2) := by decide +kernel
theorem dX0_correctLight_21 : decode cX0_correctLight 21 = .ok (.iload_n 3, 1) := by decide +kernel
theorem dX0_correctLight_22 : decode cX0_correctLight 22 = .ok (.iload 4, 2) := by decide +kernel
theorem dX0_correctLight_24 : decode cX0_correctLight 24 = .ok (.idiv, 1) := by decide +kernel
theorem dX0_correctLight_25 : decode cX0_correctLight 25 = .ok (.iload 4, 2) := by decide +kernel
theorem dX0_correctLight_27 : decode cX0_correctLight 27 = .ok (.imul, 1) := by decide +kernel
theorem dX0_correctLight_28 : decode cX0_correctLight 28 = .ok (.istore 5, 2) := by decide +kernel
theorem dX0_correctLight_30 : decode cX0_correctLight 30 = .ok (.aload_n 0, 1) := by decide +kernel
theorem dX0_correctLight_31 : decode cX0_correctLight 31 = .ok (.iload_n 1, 1) := by decide +kernel
theorem dX0_correctLight_32 : decode cX0_correctLight 32 = .ok (.bipush 8, 2) := by decide +kernel
theorem dX0_correctLight_34 : decode cX0_correctLight 34 = .ok (.iload_n 2, 1) := by decide +kernel
theorem dX0_correctLight_35 : decode cX0_correctLight 35 = .ok (.iadd, 1) := by decide +kernel
theorem dX0_correctLight_36 : decode cX0_correctLight 36 = .ok (.invokevirtual 53, 3) := by decide +kernel
theorem dX0_correctLight_39 : decode cX0_correctLight 39 = .ok (.istore 6, 2) := by decide +kernel
theorem dX0_correctLight_41 : decode cX0_correctLight 41 = .ok (.iload 6, 2) := by decide +kernel
theorem dX0_correctLight_43 : decode cX0_correctLight 43 = .ok (.iload 5, 2) := by decide +kernel
theorem dX0_correctLight_45 : decode cX0_correctLight 45 = .ok (.isub, 1) := by decide +kernel
theorem dX0_correctLight_46 : decode cX0_correctLight 46 = .ok (.invokestatic 107, 3) := by decide +kernel
theorem dX0_correctLight_49 : decode cX0_correctLight 49 = .ok (.istore 7, 2) := by decide +kernel
theorem dX0_correctLight_51 : decode cX0_correctLight 51 = .ok (.aload_n 0, 1) := by decide +kernel
theorem dX0_correctLight_52 : decode cX0_correctLight 52 = .ok (.iload_n 1, 1) := by decide +kernel
theorem dX0_correctLight_53 : decode cX0_correctLight 53 = .ok (.bipush 8, 2) := by decide +kernel
theorem dX0_correctLight_55 : decode cX0_correctLight 55 = .ok (.iload_n 2, 1) := by decide +kernel
theorem dX0_correctLight_56 : decode cX0_correctLight 56 = .ok (.iadd, 1) := by decide +kernel
theorem dX0_correctLight_57 : decode cX0_correctLight 57 = .ok (.iload 7, 2) := by decide +kernel
theorem dX0_correctLight_59 : decode cX0_correctLight 59 = .ok (.invokevirtual 40, 3) := by decide +kernel
theorem dX0_correctLight_62 : decode cX0_correctLight 62 = .ok (.iload 7, 2) := by decide +kernel
theorem dX0_correctLight_64 : decode cX0_correctLight 64 = .ok (.iload 6, 2) := by decide +kernel
theorem dX0_correctLight_66 : decode cX0_correctLight 66 = .ok (.isub, 1) := by decide +kernel
theorem dX0_correctLight_67 : decode cX0_correctLight 67 = .ok (.invokestatic 61, 3) := by decide +kernel
theorem dX0_correctLight_70 : decode cX0_correctLight 70 = .ok (.ireturn, 1) := by decide +kernel
theorem dX0_correctBadShots_0 : decode cX0_correctBadShots 0 = .ok (.iconst 0, 1) := by decide +kernel
theorem dX0_correctBadShots_1 : decode cX0_correctBadShots 1 = .ok (.istore_n 1, 1) := by decide +kernel
theorem dX0_correctBadShots_2 : decode cX0_correctBadShots 2 = .ok (.iconst 0, 1) := by decide +kernel
theorem dX0_correctBadShots_3 : decode cX0_correctBadShots 3 = .ok (.istore_n 2, 1) := by decide +kernel
theorem dX0_correctBadShots_4 : decode cX0_correctBadShots 4 = .ok (.iload_n 2, 1) := by decide +kernel
theorem dX0_correctBadShots_5 : decode cX0_correctBadShots 5 = .ok (.aload_n 0, 1) := by decide +kernel
theorem dX0_correctBadShots_6 : decode cX0_correctBadShots 6 = .ok (.invokevirtual 28, 3) := by decide +kernel
theorem dX0_correctBadShots_9 : decode cX0_correctBadShots 9 = .ok (.if_icmp .ge 32, 3) := by decide +kernel
theorem dX0_correctBadShots_12 : decode cX0_correctBadShots 12 = .ok (.iload_n 2, 1) := by decide +kernel
theorem dX0_correctBadShots_13 : decode cX0_correctBadShots 13 = .ok (.bipush 20, 2) := by decide +kernel
theorem dX0_correctBadShots_15 : decode cX0_correctBadShots 15 = .ok (.if_icmp .ge 26, 3) := by decide +kernel
theorem dX0_correctBadShots_18 : decode cX0_correctBadShots 18 = .ok (.aload_n 0, 1) := by decide +kernel
theorem dX0_correctBadShots_19 : decode cX0_correctBadShots 19 = .ok (.iload_n 2, 1) := by decide +kernel
theorem dX0_correctBadShots_20 : decode cX0_correctBadShots 20 = .ok (.invokestatic 87, 3) := by decide +kernel
theorem dX0_correctBadShots_23 : decode cX0_correctBadShots 23 = .ok (.ifCond .eq 12, 3) := by decide +kernel
theorem dX0_correctBadShots_26 : decode cX0_correctBadShots 26 = .ok (.aload_n 0, 1) := by decide +kernel
theorem dX0_correctBadShots_27 : decode cX0_correctBadShots 27 = .ok (.iload_n 2, 1) := by decide +kernel
theorem dX0_correctBadShots_28 : decode cX0_correctBadShots 28 = .ok (.invokestatic 110, 3) := by decide +kernel
theorem dX0_correctBadShots_31 : decode cX0_correctBadShots 31 = .ok (.pop, 1) := by decide +kernel
theorem dX0_correctBadShots_32 : decode cX0_correctBadShots 32 = .ok (.iinc 1 1, 3) := by decide +kernel
theorem dX0_correctBadShots_35 : decode cX0_correctBadShots 35 = .ok (.iinc 2 1, 3) := by decide +kernel
theorem dX0_correctBadShots_38 : decode cX0_correctBadShots 38 = .ok (.goto (-34), 3) := by decide +kernel
theorem dX0_correctBadShots_41 : decode cX0_correctBadShots 41 = .ok (.iload_n 1, 1) := by decide +kernel
theorem dX0_correctBadShots_42 : decode cX0_correctBadShots 42 = .ok (.ireturn, 1) := by decide +kernel
theorem dX0_setByCard_0 : decode cX0_setByCard 0 = .ok (.iconst 0, 1) := by decide +kernel
theorem dX0_setByCard_1 : decode cX0_setByCard 1 = .ok (.istore_n 1, 1) := by decide +kernel
theorem dX0_setByCard_2 : decode cX0_setByCard 2 = .ok (.iconst 0, 1) := by decide +kernel
theorem dX0_setByCard_3 : decode cX0_setByCard 3 = .ok (.istore_n 2, 1) := by decide +kernel
theorem dX0_setByCard_4 : decode cX0_setByCard 4 = .ok (.iload_n 2, 1) := by decide +kernel
theorem dX0_setByCard_5 : decode cX0_setByCard 5 = .ok (.iconst 3, 1) := by decide +kernel
theorem dX0_setByCard_6 : decode cX0_setByCard 6 = .ok (.if_icmp .ge 33, 3) := by decide +kernel
theorem dX0_setByCard_9 : decode cX0_setByCard 9 = .ok (.bipush 20, 2) := by decide +kernel
theorem dX0_setByCard_11 : decode cX0_setByCard 11 = .ok (.aload_n 0, 1) := by decide +kernel
theorem dX0_setByCard_12 : decode cX0_setByCard 12 = .ok (.iload_n 2, 1) := by decide +kernel
theorem dX0_setByCard_13 : decode cX0_setByCard 13 = .ok (.invokevirtual 113, 3) := by decide +kernel
theorem dX0_setByCard_16 : decode cX0_setByCard 16 = .ok (.invokestatic 116, 3) := by decide +kernel
theorem dX0_setByCard_19 : decode cX0_setByCard 19 = .ok (.istore_n 3, 1) := by decide +kernel
theorem dX0_setByCard_20 : decode cX0_setByCard 20 = .ok (.aload_n 0, 1) := by decide +kernel
theorem dX0_setByCard_21 : decode cX0_setByCard 21 = .ok (.bipush 7, 2) := by decide +kernel
theorem dX0_setByCard_23 : decode cX0_setByCard 23 = .ok (.iload_n 2, 1) := by decide +kernel
theorem dX0_setByCard_24 : decode cX0_setByCard 24 = .ok (.iadd, 1) := by decide +kernel
theorem dX0_setByCard_25 : decode cX0_setByCard 25 = .ok (.iload_n 3, 1) := by decide +kernel
theorem dX0_setByCard_26 : decode cX0_setByCard 26 = .ok (.invokevirtual 91, 3) := by decide +kernel
theorem dX0_setByCard_29 : decode cX0_setByCard 29 = .ok (.iload_n 1, 1) := by decide +kernel
theorem dX0_setByCard_30 : decode cX0_setByCard 30 = .ok (.iload_n 3, 1) := by decide +kernel
theorem dX0_setByCard_31 : decode cX0_setByCard 31 = .ok (.iadd, 1) := by decide +kernel
theorem dX0_setByCard_32 : decode cX0_setByCard 32 = .ok (.istore_n 1, 1) := by decide +kernel
theorem dX0_setByCard_33 : decode cX0_setByCard 33 = .ok (.iinc 2 1, 3) := by decide +kernel
theorem dX0_setByCard_36 : decode cX0_setByCard 36 = .ok (.goto (-32), 3) := by decide +kernel
theorem dX0_setByCard_39 : decode cX0_setByCard 39 = .ok (.iload_n 1, 1) := by decide +kernel
theorem dX0_setByCard_40 : decode cX0_setByCard 40 = .ok (.ireturn, 1) := by decide +kernel
theorem dX0_changeTrim_0 : decode cX0_changeTrim 0 = .ok (.iload_n 1, 1) := by decide +kernel
theorem dX0_changeTrim_1 : decode cX0_changeTrim 1 = .ok (.invokestatic 50, 3) := by decide +kernel
theorem dX0_changeTrim_4 : decode cX0_changeTrim 4 = .ok (.ifCond .eq 14, 3) := by decide +kernel
theorem dX0_changeTrim_7 : decode cX0_changeTrim 7 = .ok (.iload_n 2, 1) := by decide +kernel
theorem dX0_changeTrim_8 : decode cX0_changeTrim 8 = .ok (.bipush (-20), 2) := by decide +kernel
theorem dX0_changeTrim_10 : decode cX0_changeTrim 10 = .ok (.bipush 20, 2) := by decide +kernel
theorem dX0_changeTrim_12 : decode cX0_changeTrim 12 = .ok (.invokestatic 9, 3) := by decide +kernel
theorem dX0_changeTrim_15 : decode cX0_changeTrim 15 = .ok (.ifCond .ne 6, 3) := by decide +kernel
theorem dX0_changeTrim_18 : decode cX0_changeTrim 18 = .ok (.bipush (-2), 2) := by decide +kernel
theorem dX0_changeTrim_20 : decode cX0_changeTrim 20 = .ok (.ireturn, 1) := by decide +kernel
theorem dX0_changeTrim_21 : decode cX0_changeTrim 21 = .ok (.aload_n 0, 1) := by decide +kernel
theorem dX0_changeTrim_22 : decode cX0_changeTrim 22 = .ok (.bipush 7, 2) := by decide +kernel
theorem dX0_changeTrim_24 : decode cX0_changeTrim 24 = .ok (.iload_n 1, 1) := by decide +kernel
theorem dX0_changeTrim_25 : decode cX0_changeTrim 25 = .ok (.iadd, 1) := by decide +kernel
theorem dX0_changeTrim_26 : decode cX0_changeTrim 26 = .ok (.iload_n 2, 1) := by decide +kernel
theorem dX0_changeTrim_27 : decode cX0_changeTrim 27 = .ok (.invokestatic 22, 3) := by decide +kernel
theorem dX0_changeTrim_30 : decode cX0_changeTrim 30 = .ok (.bipush 20, 2) := by decide +kernel
theorem dX0_changeTrim_32 : decode cX0_changeTrim 32 = .ok (.iadd, 1) := by decide +kernel
theorem dX0_changeTrim_33 : decode cX0_changeTrim 33 = .ok (.ireturn, 1) := by decide +kernel
theorem dX0_changeLamp_0 : decode cX0_changeLamp 0 = .ok (.iload_n 1, 1) := by decide +kernel
theorem dX0_changeLamp_1 : decode cX0_changeLamp 1 = .ok (.invokestatic 50, 3) := by decide +kernel
theorem dX0_changeLamp_4 : decode cX0_changeLamp 4 = .ok (.ifCond .eq 14, 3) := by decide +kernel
theorem dX0_changeLamp_7 : decode cX0_changeLamp 7 = .ok (.aload_n 0, 1) := by decide +kernel
theorem dX0_changeLamp_8 : decode cX0_changeLamp 8 = .ok (.iconst 4, 1) := by decide +kernel
theorem dX0_changeLamp_9 : decode cX0_changeLamp 9 = .ok (.iload_n 1, 1) := by decide +kernel
theorem dX0_changeLamp_10 : decode cX0_changeLamp 10 = .ok (.iadd, 1) := by decide +kernel
theorem dX0_changeLamp_11 : decode cX0_changeLamp 11 = .ok (.iconst 0, 1) := by decide +kernel
theorem dX0_changeLamp_12 : decode cX0_changeLamp 12 = .ok (.invokestatic 22, 3) := by decide +kernel
theorem dX0_changeLamp_15 : decode cX0_changeLamp 15 = .ok (.goto 5, 3) := by decide +kernel
theorem dX0_changeLamp_18 : decode cX0_changeLamp 18 = .ok (.bipush (-2), 2) := by decide +kernel
theorem dX0_changeLamp_20 : decode cX0_changeLamp 20 = .ok (.ireturn, 1) := by decide +kernel
theorem dX0_exchange_0 : decode cX0_exchange 0 = .ok (.aload_n 0, 1) := by decide +kernel
theorem dX0_exchange_1 : decode cX0_exchange 1 = .ok (.iload_n 1, 1) := by decide +kernel
theorem dX0_exchange_2 : decode cX0_exchange 2 = .ok (.invokevirtual 75, 3) := by decide +kernel
theorem dX0_exchange_5 : decode cX0_exchange 5 = .ok (.istore_n 3, 1) := by decide +kernel
theorem dX0_exchange_6 : decode cX0_exchange 6 = .ok (.aload_n 0, 1) := by decide +kernel
theorem dX0_exchange_7 : decode cX0_exchange 7 = .ok (.iload_n 1, 1) := by decide +kernel
theorem dX0_exchange_8 : decode cX0_exchange 8 = .ok (.iload_n 2, 1) := by decide +kernel
theorem dX0_exchange_9 : decode cX0_exchange 9 = .ok (.invokevirtual 91, 3) := by decide +kernel
theorem dX0_exchange_12 : decode cX0_exchange 12 = .ok (.iload_n 3, 1) := by decide +kernel
theorem dX0_exchange_13 : decode cX0_exchange 13 = .ok (.ireturn, 1) := by decide +kernel
theorem dX1_init_0 : decode cX1_init 0 = .ok (.aload_n 0, 1) := by decide +kernel
theorem dX1_init_1 : decode cX1_init 1 = .ok (.invokespecial 1, 3) := by decide +kernel
theorem dX1_init_4 : decode cX1_init 4 = .ok (.aload_n 0, 1) := by decide +kernel
theorem dX1_init_5 : decode cX1_init 5 = .ok (.new 7, 3) := by decide +kernel
theorem dX1_init_8 : decode cX1_init 8 = .ok (.dup, 1) := by decide +kernel
theorem dX1_init_9 : decode cX1_init 9 = .ok (.bipush 6, 2) := by decide +kernel
theorem dX1_init_11 : decode cX1_init 11 = .ok (.invokespecial 11, 3) := by decide +kernel
theorem dX1_init_14 : decode cX1_init 14 = .ok (.putfield 14, 3) := by decide +kernel
theorem dX1_init_17 : decode cX1_init 17 = .ok (.return_, 1) := by decide +kernel
theorem dX1_size_0 : decode cX1_size 0 = .ok (.aload_n 0, 1) := by decide +kernel
theorem dX1_size_1 : decode cX1_size 1 = .ok (.getfield 18, 3) := by decide +kernel
theorem dX1_size_4 : decode cX1_size 4 = .ok (.ireturn, 1) := by decide +kernel
theorem dX1_record_0 : decode cX1_record 0 = .ok (.aload_n 0, 1) := by decide +kernel
theorem dX1_record_1 : decode cX1_record 1 = .ok (.getfield 14, 3) := by decide +kernel
theorem dX1_record_4 : decode cX1_record 4 = .ok (.aload_n 0, 1) := by decide +kernel
theorem dX1_record_5 : decode cX1_record 5 = .ok (.getfield 22, 3) := by decide +kernel
theorem dX1_record_8 : decode cX1_record 8 = .ok (.aload_n 0, 1) := by decide +kernel
theorem dX1_record_9 : decode cX1_record 9 = .ok (.getfield 18, 3) := by decide +kernel
theorem dX1_record_12 : decode cX1_record 12 = .ok (.iadd, 1) := by decide +kernel
theorem dX1_record_13 : decode cX1_record 13 = .ok (.bipush 6, 2) := by decide +kernel
theorem dX1_record_15 : decode cX1_record 15 = .ok (.irem, 1) := by decide +kernel
theorem dX1_record_16 : decode cX1_record 16 = .ok (.aload_n 1, 1) := by decide +kernel
theorem dX1_record_17 : decode cX1_record 17 = .ok (.invokevirtual 25, 3) := by decide +kernel
theorem dX1_record_20 : decode cX1_record 20 = .ok (.aload_n 0, 1) := by decide +kernel
theorem dX1_record_21 : decode cX1_record 21 = .ok (.getfield 18, 3) := by decide +kernel
theorem dX1_record_24 : decode cX1_record 24 = .ok (.bipush 6, 2) := by decide +kernel
theorem dX1_record_26 : decode cX1_record 26 = .ok (.if_icmp .ge 16, 3) := by decide +kernel
theorem dX1_record_29 : decode cX1_record 29 = .ok (.aload_n 0, 1) := by decide +kernel
theorem dX1_record_30 : decode cX1_record 30 = .ok (.dup, 1) := by decide +kernel
theorem dX1_record_31 : decode cX1_record 31 = .ok (.getfield 18, 3) := by decide +kernel
theorem dX1_record_34 : decode cX1_record 34 = .ok (.iconst 1, 1) := by decide +kernel
theorem dX1_record_35 : decode cX1_record 35 = .ok (.iadd, 1) := by decide +kernel
theorem dX1_record_36 : decode cX1_record 36 = .ok (.putfield 18, 3) := by decide +kernel
theorem dX1_record_39 : decode cX1_record 39 = .ok (.goto 16, 3) := by decide +kernel
theorem dX1_record_42 : decode cX1_record 42 = .ok (.aload_n 0, 1) := by decide +kernel
theorem dX1_record_43 : decode cX1_record 43 = .ok (.aload_n 0, 1) := by decide +kernel
theorem dX1_record_44 : decode cX1_record 44 = .ok (.getfield 22, 3) := by decide +kernel
theorem dX1_record_47 : decode cX1_record 47 = .ok (.iconst 1, 1) := by decide +kernel
theorem dX1_record_48 : decode cX1_record 48 = .ok (.iadd, 1) := by decide +kernel
theorem dX1_record_49 : decode cX1_record 49 = .ok (.bipush 6, 2) := by decide +kernel
theorem dX1_record_51 : decode cX1_record 51 = .ok (.irem, 1) := by decide +kernel
theorem dX1_record_52 : decode cX1_record 52 = .ok (.putfield 22, 3) := by decide +kernel
theorem dX1_record_55 : decode cX1_record 55 = .ok (.return_, 1) := by decide +kernel
theorem dX1_takeBack_0 : decode cX1_takeBack 0 = .ok (.aload_n 0, 1) := by decide +kernel
theorem dX1_takeBack_1 : decode cX1_takeBack 1 = .ok (.getfield 18, 3) := by decide +kernel
theorem dX1_takeBack_4 : decode cX1_takeBack 4 = .ok (.ifCond .le 33, 3) := by decide +kernel
theorem dX1_takeBack_7 : decode cX1_takeBack 7 = .ok (.aload_n 0, 1) := by decide +kernel
theorem dX1_takeBack_8 : decode cX1_takeBack 8 = .ok (.dup, 1) := by decide +kernel
theorem dX1_takeBack_9 : decode cX1_takeBack 9 = .ok (.getfield 18, 3) := by decide +kernel
theorem dX1_takeBack_12 : decode cX1_takeBack 12 = .ok (.iconst 1, 1) := by decide +kernel
theorem dX1_takeBack_13 : decode cX1_takeBack 13 = .ok (.isub, 1) := by decide +kernel
theorem dX1_takeBack_14 : decode cX1_takeBack 14 = .ok (.putfield 18, 3) := by decide +kernel
theorem dX1_takeBack_17 : decode cX1_takeBack 17 = .ok (.aload_n 0, 1) := by decide +kernel
theorem dX1_takeBack_18 : decode cX1_takeBack 18 = .ok (.getfield 14, 3) := by decide +kernel
theorem dX1_takeBack_21 : decode cX1_takeBack 21 = .ok (.aload_n 0, 1) := by decide +kernel
theorem dX1_takeBack_22 : decode cX1_takeBack 22 = .ok (.getfield 22, 3) := by decide +kernel
theorem dX1_takeBack_25 : decode cX1_takeBack 25 = .ok (.aload_n 0, 1) := by decide +kernel
theorem dX1_takeBack_26 : decode cX1_takeBack 26 = .ok (.getfield 18, 3) := by decide +kernel
theorem dX1_takeBack_29 : decode cX1_takeBack 29 = .ok (.iadd, 1) := by decide +kernel
theorem dX1_takeBack_30 : decode cX1_takeBack 30 = .ok (.bipush 6, 2) := by decide +kernel
theorem dX1_takeBack_32 : decode cX1_takeBack 32 = .ok (.irem, 1) := by decide +kernel
theorem dX1_takeBack_33 : decode cX1_takeBack 33 = .ok (.aload_n 1, 1) := by decide +kernel
theorem dX1_takeBack_34 : decode cX1_takeBack 34 = .ok (.invokevirtual 29, 3) := by decide +kernel
theorem dX1_takeBack_37 : decode cX1_takeBack 37 = .ok (.return_, 1) := by decide +kernel
theorem dX2_init_0 : decode cX2_init 0 = .ok (.aload_n 0, 1) := by decide +kernel
theorem dX2_init_1 : decode cX2_init 1 = .ok (.invokespecial 3, 3) := by decide +kernel
theorem dX2_init_4 : decode cX2_init 4 = .ok (.aload_n 0, 1) := by decide +kernel
theorem dX2_init_5 : decode cX2_init 5 = .ok (.bipush 80, 2) := by decide +kernel
theorem dX2_init_7 : decode cX2_init 7 = .ok (.newarray .char, 2) := by decide +kernel
theorem dX2_init_9 : decode cX2_init 9 = .ok (.putfield 11, 3) := by decide +kernel
theorem dX2_init_12 : decode cX2_init 12 = .ok (.aload_n 0, 1) := by decide +kernel
theorem dX2_init_13 : decode cX2_init 13 = .ok (.iconst 4, 1) := by decide +kernel
theorem dX2_init_14 : decode cX2_init 14 = .ok (.newarray .int, 2) := by decide +kernel
theorem dX2_init_16 : decode cX2_init 16 = .ok (.putfield 15, 3) := by decide +kernel
theorem dX2_init_19 : decode cX2_init 19 = .ok (.return_, 1) := by decide +kernel
theorem dX2_length_0 : decode cX2_length 0 = .ok (.aload_n 0, 1) := by decide +kernel
theorem dX2_length_1 : decode cX2_length 1 = .ok (.getfield 19, 3) := by decide +kernel
theorem dX2_length_4 : decode cX2_length 4 = .ok (.ireturn, 1) := by decide +kernel
theorem dX2_letter_0 : decode cX2_letter 0 = .ok (.aload_n 0, 1) := by decide +kernel
theorem dX2_letter_1 : decode cX2_letter 1 = .ok (.getfield 23, 3) := by decide +kernel
theorem dX2_letter_4 : decode cX2_letter 4 = .ok (.ireturn, 1) := by decide +kernel
theorem dX2_colour_0 : decode cX2_colour 0 = .ok (.aload_n 0, 1) := by decide +kernel
theorem dX2_colour_1 : decode cX2_colour 1 = .ok (.getfield 26, 3) := by decide +kernel
theorem dX2_colour_4 : decode cX2_colour 4 = .ok (.ireturn, 1) := by decide +kernel
theorem dX2_isMinus_0 : decode cX2_isMinus 0 = .ok (.aload_n 0, 1) := by decide +kernel
theorem dX2_isMinus_1 : decode cX2_isMinus 1 = .ok (.getfield 29, 3) := by decide +kernel
theorem dX2_isMinus_4 : decode cX2_isMinus 4 = .ok (.ireturn, 1) := by decide +kernel
theorem dX2_number_0 : decode cX2_number 0 = .ok (.iload_n 1, 1) := by decide +kernel
theorem dX2_number_1 : decode cX2_number 1 = .ok (.ifCond .lt 21, 3) := by decide +kernel
theorem dX2_number_4 : decode cX2_number 4 = .ok (.iload_n 1, 1) := by decide +kernel
theorem dX2_number_5 : decode cX2_number 5 = .ok (.aload_n 0, 1) := by decide +kernel
theorem dX2_number_6 : decode cX2_number 6 = .ok (.getfield 15, 3) := by decide +kernel
theorem dX2_number_9 : decode cX2_number 9 = .ok (.arraylength, 1) := by decide +kernel
theorem dX2_number_10 : decode cX2_number 10 = .ok (.if_icmp .ge 12, 3) := by decide +kernel
theorem dX2_number_13 : decode cX2_number 13 = .ok (.aload_n 0, 1) := by decide +kernel
theorem dX2_number_14 : decode cX2_number 14 = .ok (.getfield 15, 3) := by decide +kernel
theorem dX2_number_17 : decode cX2_number 17 = .ok (.iload_n 1, 1) := by decide +kernel
theorem dX2_number_18 : decode cX2_number 18 = .ok (.iaload, 1) := by decide +kernel
theorem dX2_number_19 : decode cX2_number 19 = .ok (.goto 4, 3) := by decide +kernel
theorem dX2_number_22 : decode cX2_number 22 = .ok (.iconst 0, 1) := by decide +kernel
theorem dX2_number_23 : decode cX2_number 23 = .ok (.ireturn, 1) := by decide +kernel
theorem dX2_clear_0 : decode cX2_clear 0 = .ok (.aload_n 0, 1) := by decide +kernel
theorem dX2_clear_1 : decode cX2_clear 1 = .ok (.getfield 19, 3) := by decide +kernel
theorem dX2_clear_4 : decode cX2_clear 4 = .ok (.istore_n 1, 1) := by decide +kernel
theorem dX2_clear_5 : decode cX2_clear 5 = .ok (.aload_n 0, 1) := by decide +kernel
theorem dX2_clear_6 : decode cX2_clear 6 = .ok (.iconst 0, 1) := by decide +kernel
theorem dX2_clear_7 : decode cX2_clear 7 = .ok (.putfield 19, 3) := by decide +kernel
theorem dX2_clear_10 : decode cX2_clear 10 = .ok (.iload_n 1, 1) := by decide +kernel
theorem dX2_clear_11 : decode cX2_clear 11 = .ok (.ireturn, 1) := by decide +kernel
theorem dX2_append_0 : decode cX2_append 0 = .ok (.lload_n 1, 1) := by decide +kernel
theorem dX2_append_1 : decode cX2_append 1 = .ok (.invokestatic 33, 3) := by decide +kernel
theorem dX2_append_4 : decode cX2_append 4 = .ok (.istore_n 3, 1) := by decide +kernel
theorem dX2_append_5 : decode cX2_append 5 = .ok (.iload_n 3, 1) := by decide +kernel
theorem dX2_append_6 : decode cX2_append 6 = .ok (.ifCond .ne 6, 3) := by decide +kernel
theorem dX2_append_9 : decode cX2_append 9 = .ok (.bipush (-2), 2) := by decide +kernel
theorem dX2_append_11 : decode cX2_append 11 = .ok (.ireturn, 1) := by decide +kernel
theorem dX2_append_12 : decode cX2_append 12 = .ok (.aload_n 0, 1) := by decide +kernel
theorem dX2_append_13 : decode cX2_append 13 = .ok (.getfield 19, 3) := by decide +kernel
theorem dX2_append_16 : decode cX2_append 16 = .ok (.iload_n 3, 1) := by decide +kernel
theorem dX2_append_17 : decode cX2_append 17 = .ok (.iadd, 1) := by decide +kernel
theorem dX2_append_18 : decode cX2_append 18 = .ok (.bipush 80, 2) := by decide +kernel
theorem dX2_append_20 : decode cX2_append 20 = .ok (.if_icmp .le 6, 3) := by decide +kernel
theorem dX2_append_23 : decode cX2_append 23 = .ok (.bipush (-4), 2) := by decide +kernel
theorem dX2_append_25 : decode cX2_append 25 = .ok (.ireturn, 1) := by decide +kernel
theorem dX2_append_26 : decode cX2_append 26 = .ok (.iload_n 3, 1) := by decide +kernel
theorem dX2_append_27 : decode cX2_append 27 = .ok (.iconst 1, 1) := by decide +kernel
theorem dX2_append_28 : decode cX2_append 28 = .ok (.isub, 1) := by decide +kernel
theorem dX2_append_29 : decode cX2_append 29 = .ok (.istore 4, 2) := by decide +kernel
theorem dX2_append_31 : decode cX2_append 31 = .ok (.iload 4, 2) := by decide +kernel
theorem dX2_append_33 : decode cX2_append 33 = .ok (.ifCond .lt 26, 3) := by decide +kernel
theorem dX2_append_36 : decode cX2_append 36 = .ok (.aload_n 0, 1) := by decide +kernel
theorem dX2_append_37 : decode cX2_append 37 = .ok (.lload_n 1, 1) := by decide +kernel
theorem dX2_append_38 : decode cX2_append 38 = .ok (.bipush 8, 2) := by decide +kernel
theorem dX2_append_40 : decode cX2_append 40 = .ok (.iload 4, 2) := by decide +kernel
theorem dX2_append_42 : decode cX2_append 42 = .ok (.imul, 1) := by decide +kernel
theorem dX2_append_43 : decode cX2_append 43 = .ok (.lushr, 1) := by decide +kernel
theorem dX2_append_44 : decode cX2_append 44 = .ok (.ldc2_w 37, 3) := by decide +kernel
theorem dX2_append_47 : decode cX2_append 47 = .ok (.land, 1) := by decide +kernel
theorem dX2_append_48 : decode cX2_append 48 = .ok (.l2i, 1) := by decide +kernel
theorem dX2_append_49 : decode cX2_append 49 = .ok (.i2c, 1) := by decide +kernel
theorem dX2_append_50 : decode cX2_append 50 = .ok (.invokevirtual 39, 3) := by decide +kernel
theorem dX2_append_53 : decode cX2_append 53 = .ok (.iinc 4 (-1), 3) := by decide +kernel
theorem dX2_append_56 : decode cX2_append 56 = .ok (.goto (-25), 3) := by decide +kernel
theorem dX2_append_59 : decode cX2_append 59 = .ok (.aload_n 0, 1) := by decide +kernel
theorem dX2_append_60 : decode cX2_append 60 = .ok (.getfield 19, 3) := by decide +kernel
theorem dX2_append_63 : decode cX2_append 63 = .ok (.ireturn, 1) := by decide +kernel
theorem dX2_charactersIn_0 : decode cX2_charactersIn 0 = .ok (.lload_n 0, 1) := by decide +kernel
theorem dX2_charactersIn_1 : decode cX2_charactersIn 1 = .ok (.lstore_n 2, 1) := by decide +kernel
theorem dX2_charactersIn_2 : decode cX2_charactersIn 2 = .ok (.iconst 0, 1) := by decide +kernel
theorem dX2_charactersIn_3 : decode cX2_charactersIn 3 = .ok (.istore 4, 2) := by decide +kernel
theorem dX2_charactersIn_5 : decode cX2_charactersIn 5 = .ok (.iload 4, 2) := by decide +kernel
theorem dX2_charactersIn_7 : decode cX2_charactersIn 7 = .ok (.bipush 8, 2) := by decide +kernel
theorem dX2_charactersIn_9 : decode cX2_charactersIn 9 = .ok (.if_icmp .ge 30, 3) := by decide +kernel
theorem dX2_charactersIn_12 : decode cX2_charactersIn 12 = .ok (.lload_n 2, 1) := by decide +kernel
theorem dX2_charactersIn_13 : decode cX2_charactersIn 13 = .ok (.ldc2_w 37, 3) := by decide +kernel
theorem dX2_charactersIn_16 : decode cX2_charactersIn 16 = .ok (.land, 1) := by decide +kernel
theorem dX2_charactersIn_17 : decode cX2_charactersIn 17 = .ok (.l2i, 1) := by decide +kernel
theorem dX2_charactersIn_18 : decode cX2_charactersIn 18 = .ok (.bipush 33, 2) := by decide +kernel
theorem dX2_charactersIn_20 : decode cX2_charactersIn 20 = .ok (.bipush 126, 2) := by decide +kernel
theorem dX2_charactersIn_22 : decode cX2_charactersIn 22 = .ok (.invokestatic 43, 3) := by decide +kernel
theorem dX2_charactersIn_25 : decode cX2_charactersIn 25 = .ok (.ifCond .eq 14, 3) := by decide +kernel
theorem dX2_charactersIn_28 : decode cX2_charactersIn 28 = .ok (.lload_n 2, 1) := by decide +kernel
theorem dX2_charactersIn_29 : decode cX2_charactersIn 29 = .ok (.bipush 8, 2) := by decide +kernel
theorem dX2_charactersIn_31 : decode cX2_charactersIn 31 = .ok (.lushr, 1) := by decide +kernel
theorem dX2_charactersIn_32 : decode cX2_charactersIn 32 = .ok (.lstore_n 2, 1) := by decide +kernel
theorem dX2_charactersIn_33 : decode cX2_charactersIn 33 = .ok (.iinc 4 1, 3) := by decide +kernel
theorem dX2_charactersIn_36 : decode cX2_charactersIn 36 = .ok (.goto (-31), 3) := by decide +kernel
theorem dX2_charactersIn_39 : decode cX2_charactersIn 39 = .ok (.lload_n 2, 1) := by decide +kernel
theorem dX2_charactersIn_40 : decode cX2_charactersIn 40 = .ok (.lconst 0, 1) := by decide +kernel
theorem dX2_charactersIn_41 : decode cX2_charactersIn 41 = .ok (.lcmp, 1) := by decide +kernel
theorem dX2_charactersIn_42 : decode cX2_charactersIn 42 = .ok (.ifCond .ne 8, 3) := by decide +kernel
theorem dX2_charactersIn_45 : decode cX2_charactersIn 45 = .ok (.iload 4, 2) := by decide +kernel
theorem dX2_charactersIn_47 : decode cX2_charactersIn 47 = .ok (.goto 4, 3) := by decide +kernel
theorem dX2_charactersIn_50 : decode cX2_charactersIn 50 = .ok (.iconst 0, 1) := by decide +kernel
theorem dX2_charactersIn_51 : decode cX2_charactersIn 51 = .ok (.ireturn, 1) := by decide +kernel
theorem dX2_write_0 : decode cX2_write 0 = .ok (.aload_n 0, 1) := by decide +kernel
theorem dX2_write_1 : decode cX2_write 1 = .ok (.getfield 19, 3) := by decide +kernel
theorem dX2_write_4 : decode cX2_write 4 = .ok (.ifCond .lt 35, 3) := by decide +kernel
theorem dX2_write_7 : decode cX2_write 7 = .ok (.aload_n 0, 1) := by decide +kernel
theorem dX2_write_8 : decode cX2_write 8 = .ok (.getfield 19, 3) := by decide +kernel
theorem dX2_write_11 : decode cX2_write 11 = .ok (.aload_n 0, 1) := by decide +kernel
theorem dX2_write_12 : decode cX2_write 12 = .ok (.getfield 11, 3) := by decide +kernel
theorem dX2_write_15 : decode cX2_write 15 = .ok (.arraylength, 1) := by decide +kernel
theorem dX2_write_16 : decode cX2_write 16 = .ok (.if_icmp .ge 23, 3) := by decide +kernel
theorem dX2_write_19 : decode cX2_write 19 = .ok (.aload_n 0, 1) := by decide +kernel
theorem dX2_write_20 : decode cX2_write 20 = .ok (.getfield 11, 3) := by decide +kernel
theorem dX2_write_23 : decode cX2_write 23 = .ok (.aload_n 0, 1) := by decide +kernel
theorem dX2_write_24 : decode cX2_write 24 = .ok (.getfield 19, 3) := by decide +kernel
theorem dX2_write_27 : decode cX2_write 27 = .ok (.iload_n 1, 1) := by decide +kernel
theorem dX2_write_28 : decode cX2_write 28 = .ok (.castore, 1) := by decide +kernel
theorem dX2_write_29 : decode cX2_write 29 = .ok (.aload_n 0, 1) := by decide +kernel
theorem dX2_write_30 : decode cX2_write 30 = .ok (.dup, 1) := by decide +kernel
theorem dX2_write_31 : decode cX2_write 31 = .ok (.getfield 19, 3) := by decide +kernel
theorem dX2_write_34 : decode cX2_write 34 = .ok (.iconst 1, 1) := by decide +kernel
theorem dX2_write_35 : decode cX2_write 35 = .ok (.iadd, 1) := by decide +kernel
theorem dX2_write_36 : decode cX2_write 36 = .ok (.putfield 19, 3) := by decide +kernel
theorem dX2_write_39 : decode cX2_write 39 = .ok (.return_, 1) := by decide +kernel
theorem dX2_firstFault_0 : decode cX2_firstFault 0 = .ok (.aload_n 0, 1) := by decide +kernel
theorem dX2_firstFault_1 : decode cX2_firstFault 1 = .ok (.invokevirtual 47, 3) := by decide +kernel
theorem dX2_firstFault_4 : decode cX2_firstFault 4 = .ok (.iconst 0, 1) := by decide +kernel
theorem dX2_firstFault_5 : decode cX2_firstFault 5 = .ok (.istore_n 1, 1) := by decide +kernel
theorem dX2_firstFault_6 : decode cX2_firstFault 6 = .ok (.iload_n 1, 1) := by decide +kernel
theorem dX2_firstFault_7 : decode cX2_firstFault 7 = .ok (.bipush 80, 2) := by decide +kernel
theorem dX2_firstFault_9 : decode cX2_firstFault 9 = .ok (.if_icmp .ge 35, 3) := by decide +kernel
theorem dX2_firstFault_12 : decode cX2_firstFault 12 = .ok (.aload_n 0, 1) := by decide +kernel
theorem dX2_firstFault_13 : decode cX2_firstFault 13 = .ok (.invokevirtual 50, 3) := by decide +kernel
theorem dX2_firstFault_16 : decode cX2_firstFault 16 = .ok (.ifCond .ne 8, 3) := by decide +kernel
theorem dX2_firstFault_19 : decode cX2_firstFault 19 = .ok (.aload_n 0, 1) := by decide +kernel
theorem dX2_firstFault_20 : decode cX2_firstFault 20 = .ok (.getfield 54, 3) := by decide +kernel
theorem dX2_firstFault_23 : decode cX2_firstFault 23 = .ok (.ireturn, 1) := by decide +kernel
theorem dX2_firstFault_24 : decode cX2_firstFault 24 = .ok (.aload_n 0, 1) := by decide +kernel
theorem dX2_firstFault_25 : decode cX2_firstFault 25 = .ok (.getfield 54, 3) := by decide +kernel
theorem dX2_firstFault_28 : decode cX2_firstFault 28 = .ok (.aload_n 0, 1) := by decide +kernel
theorem dX2_firstFault_29 : decode cX2_firstFault 29 = .ok (.getfield 19, 3) := by decide +kernel
theorem dX2_firstFault_32 : decode cX2_firstFault 32 = .ok (.if_icmp .lt 6, 3) := by decide +kernel
theorem dX2_firstFault_35 : decode cX2_firstFault 35 = .ok (.bipush (-6), 2) := by decide +kernel
theorem dX2_firstFault_37 : decode cX2_firstFault 37 = .ok (.ireturn, 1) := by decide +kernel
theorem dX2_firstFault_38 : decode cX2_firstFault 38 = .ok (.iinc 1 1, 3) := by decide +kernel
theorem dX2_firstFault_41 : decode cX2_firstFault 41 = .ok (.goto (-35), 3) := by decide +kernel
theorem dX2_firstFault_44 : decode cX2_firstFault 44 = .ok (.aload_n 0, 1) := by decide +kernel
theorem dX2_firstFault_45 : decode cX2_firstFault 45 = .ok (.getfield 54, 3) := by decide +kernel
theorem dX2_firstFault_48 : decode cX2_firstFault 48 = .ok (.ireturn, 1) := by decide +kernel
theorem dX2_startReading_0 : decode cX2_startReading 0 = .ok (.aload_n 0, 1) := by decide +kernel
theorem dX2_startReading_1 : decode cX2_startReading 1 = .ok (.iconst 0, 1) := by decide +kernel
theorem dX2_startReading_2 : decode cX2_startReading 2 = .ok (.putfield 54, 3) := by decide +kernel
theorem dX2_startReading_5 : decode cX2_startReading 5 = .ok (.return_, 1) := by decide +kernel
theorem dX2_nextOrder_0 : decode cX2_nextOrder 0 = .ok (.aload_n 0, 1) := by decide +kernel
theorem dX2_nextOrder_1 : decode cX2_nextOrder 1 = .ok (.getfield 54, 3) := by decide +kernel
theorem dX2_nextOrder_4 : decode cX2_nextOrder 4 = .ok (.ifCond .le 14, 3) := by decide +kernel
theorem dX2_nextOrder_7 : decode cX2_nextOrder 7 = .ok (.aload_n 0, 1) := by decide +kernel
theorem dX2_nextOrder_8 : decode cX2_nextOrder 8 = .ok (.bipush 59, 2) := by decide +kernel
theorem dX2_nextOrder_10 : decode cX2_nextOrder 10 = .ok (.invokevirtual 57, 3) := by decide +kernel
theorem dX2_nextOrder_13 : decode cX2_nextOrder 13 = .ok (.ifCond .ne 5, 3) := by decide +kernel
theorem dX2_nextOrder_16 : decode cX2_nextOrder 16 = .ok (.iconst 0, 1) := by decide +kernel
theorem dX2_nextOrder_17 : decode cX2_nextOrder 17 = .ok (.ireturn, 1) := by decide +kernel
theorem dX2_nextOrder_18 : decode cX2_nextOrder 18 = .ok (.aload_n 0, 1) := by decide +kernel
theorem dX2_nextOrder_19 : decode cX2_nextOrder 19 = .ok (.iconst 0, 1) := by decide +kernel
theorem dX2_nextOrder_20 : decode cX2_nextOrder 20 = .ok (.putfield 61, 3) := by decide +kernel
theorem dX2_nextOrder_23 : decode cX2_nextOrder 23 = .ok (.aload_n 0, 1) := by decide +kernel
theorem dX2_nextOrder_24 : decode cX2_nextOrder 24 = .ok (.aload_n 0, 1) := by decide +kernel
theorem dX2_nextOrder_25 : decode cX2_nextOrder 25 = .ok (.invokevirtual 64, 3) := by decide +kernel
theorem dX2_nextOrder_28 : decode cX2_nextOrder 28 = .ok (.putfield 23, 3) := by decide +kernel
theorem dX2_nextOrder_31 : decode cX2_nextOrder 31 = .ok (.aload_n 0, 1) := by decide +kernel
theorem dX2_nextOrder_32 : decode cX2_nextOrder 32 = .ok (.getfield 23, 3) := by decide +kernel
theorem dX2_nextOrder_35 : decode cX2_nextOrder 35 = .ok (.invokestatic 68, 3) := by decide +kernel
theorem dX2_nextOrder_38 : decode cX2_nextOrder 38 = .ok (.astore_n 1, 1) := by decide +kernel
theorem dX2_nextOrder_39 : decode cX2_nextOrder 39 = .ok (.iconst 0, 1) := by decide +kernel
theorem dX2_nextOrder_40 : decode cX2_nextOrder 40 = .ok (.istore_n 2, 1) := by decide +kernel
theorem dX2_nextOrder_41 : decode cX2_nextOrder 41 = .ok (.iload_n 2, 1) := by decide +kernel
theorem dX2_nextOrder_42 : decode cX2_nextOrder 42 = .ok (.aload_n 1, 1) := by decide +kernel
theorem dX2_nextOrder_43 : decode cX2_nextOrder 43 = .ok (.invokevirtual 72, 3) := by decide +kernel
theorem dX2_nextOrder_46 : decode cX2_nextOrder 46 = .ok (.if_icmp .ge 23, 3) := by decide +kernel
theorem dX2_nextOrder_49 : decode cX2_nextOrder 49 = .ok (.aload_n 0, 1) := by decide +kernel
theorem dX2_nextOrder_50 : decode cX2_nextOrder 50 = .ok (.aload_n 1, 1) := by decide +kernel
theorem dX2_nextOrder_51 : decode cX2_nextOrder 51 = .ok (.iload_n 2, 1) := by decide +kernel
theorem dX2_nextOrder_52 : decode cX2_nextOrder 52 = .ok (.invokevirtual 76, 3) := by decide +kernel
theorem dX2_nextOrder_55 : decode cX2_nextOrder 55 = .ok (.invokevirtual 80, 3) := by decide +kernel
theorem dX2_nextOrder_58 : decode cX2_nextOrder 58 = .ok (.ifCond .ne 5, 3) := by decide +kernel
theorem dX2_nextOrder_61 : decode cX2_nextOrder 61 = .ok (.iconst 0, 1) := by decide +kernel
theorem dX2_nextOrder_62 : decode cX2_nextOrder 62 = .ok (.ireturn, 1) := by decide +kernel
theorem dX2_nextOrder_63 : decode cX2_nextOrder 63 = .ok (.iinc 2 1, 3) := by decide +kernel
theorem dX2_nextOrder_66 : decode cX2_nextOrder 66 = .ok (.goto (-25), 3) := by decide +kernel
theorem dX2_nextOrder_69 : decode cX2_nextOrder 69 = .ok (.aload_n 1, 1) := by decide +kernel
theorem dX2_nextOrder_70 : decode cX2_nextOrder 70 = .ok (.invokevirtual 83, 3) := by decide +kernel
theorem dX2_nextOrder_73 : decode cX2_nextOrder 73 = .ok (.ifCond .ne 7, 3) := by decide +kernel
theorem dX2_nextOrder_76 : decode cX2_nextOrder 76 = .ok (.iconst 1, 1) := by decide +kernel
theorem dX2_nextOrder_77 : decode cX2_nextOrder 77 = .ok (.goto 4, 3) := by decide +kernel
theorem dX2_nextOrder_80 : decode cX2_nextOrder 80 = .ok (.iconst 0, 1) := by decide +kernel
theorem dX2_nextOrder_81 : decode cX2_nextOrder 81 = .ok (.ireturn, 1) := by decide +kernel
theorem dX2_formOf_0 : decode cX2_formOf 0 = .ok (.iload_n 0, 1) := by decide +kernel
theorem dX2_formOf_1 : decode cX2_formOf 1 = .ok (.tableswitch 131 97 119 #[125, 131, 122, 131, 131, 131, 131, 131, 131, 131, 128, 110, 116, 131, 131, 119, 131, 131, 107, 131, 131, 131, 113], 107) := by decide +kernel
theorem dX2_formOf_108 : decode cX2_formOf 108 = .ok (.ldc 86, 2) := by decide +kernel
theorem dX2_formOf_110 : decode cX2_formOf 110 = .ok (.areturn, 1) := by decide +kernel
theorem dX2_formOf_111 : decode cX2_formOf 111 = .ok (.ldc 88, 2) := by decide +kernel
theorem dX2_formOf_113 : decode cX2_formOf 113 = .ok (.areturn, 1) := by decide +kernel
theorem dX2_formOf_114 : decode cX2_formOf 114 = .ok (.ldc 90, 2) := by decide +kernel
theorem dX2_formOf_116 : decode cX2_formOf 116 = .ok (.areturn, 1) := by decide +kernel
theorem dX2_formOf_117 : decode cX2_formOf 117 = .ok (.ldc 92, 2) := by decide +kernel
theorem dX2_formOf_119 : decode cX2_formOf 119 = .ok (.areturn, 1) := by decide +kernel
theorem dX2_formOf_120 : decode cX2_formOf 120 = .ok (.ldc 94, 2) := by decide +kernel
theorem dX2_formOf_122 : decode cX2_formOf 122 = .ok (.areturn, 1) := by decide +kernel
theorem dX2_formOf_123 : decode cX2_formOf 123 = .ok (.ldc 96, 2) := by decide +kernel
theorem dX2_formOf_125 : decode cX2_formOf 125 = .ok (.areturn, 1) := by decide +kernel
theorem dX2_formOf_126 : decode cX2_formOf 126 = .ok (.ldc 98, 2) := by decide +kernel
theorem dX2_formOf_128 : decode cX2_formOf 128 = .ok (.areturn, 1) := by decide +kernel
theorem dX2_formOf_129 : decode cX2_formOf 129 = .ok (.ldc 100, 2) := by decide +kernel
theorem dX2_formOf_131 : decode cX2_formOf 131 = .ok (.areturn, 1) := by decide +kernel
theorem dX2_formOf_132 : decode cX2_formOf 132 = .ok (.ldc 102, 2) := by decide +kernel
theorem dX2_formOf_134 : decode cX2_formOf 134 = .ok (.areturn, 1) := by decide +kernel
theorem dX2_readPart_0 : decode cX2_readPart 0 = .ok (.iload_n 1, 1) := by decide +kernel
theorem dX2_readPart_1 : decode cX2_readPart 1 = .ok (.lookupswitch 87 #[(67, 40), (78, 35), (83, 45)], 35) := by decide +kernel
theorem dX2_readPart_36 : decode cX2_readPart 36 = .ok (.aload_n 0, 1) := by decide +kernel
theorem dX2_readPart_37 : decode cX2_readPart 37 = .ok (.invokevirtual 104, 3) := by decide +kernel
theorem dX2_readPart_40 : decode cX2_readPart 40 = .ok (.ireturn, 1) := by decide +kernel
theorem dX2_readPart_41 : decode cX2_readPart 41 = .ok (.aload_n 0, 1) := by decide +kernel
theorem dX2_readPart_42 : decode cX2_readPart 42 = .ok (.invokevirtual 107, 3) := by decide +kernel
theorem dX2_readPart_45 : decode cX2_readPart 45 = .ok (.ireturn, 1) := by decide +kernel
theorem dX2_readPart_46 : decode cX2_readPart 46 = .ok (.aload_n 0, 1) := by decide +kernel
theorem dX2_readPart_47 : decode cX2_readPart 47 = .ok (.aload_n 0, 1) := by decide +kernel
theorem dX2_readPart_48 : decode cX2_readPart 48 = .ok (.invokevirtual 64, 3) := by decide +kernel
theorem dX2_readPart_51 : decode cX2_readPart 51 = .ok (.bipush 45, 2) := by decide +kernel
theorem dX2_readPart_53 : decode cX2_readPart 53 = .ok (.if_icmp .ne 7, 3) := by decide +kernel
theorem dX2_readPart_56 : decode cX2_readPart 56 = .ok (.iconst 1, 1) := by decide +kernel
theorem dX2_readPart_57 : decode cX2_readPart 57 = .ok (.goto 4, 3) := by decide +kernel
theorem dX2_readPart_60 : decode cX2_readPart 60 = .ok (.iconst 0, 1) := by decide +kernel
theorem dX2_readPart_61 : decode cX2_readPart 61 = .ok (.putfield 29, 3) := by decide +kernel
theorem dX2_readPart_64 : decode cX2_readPart 64 = .ok (.aload_n 0, 1) := by decide +kernel
theorem dX2_readPart_65 : decode cX2_readPart 65 = .ok (.bipush 45, 2) := by decide +kernel
theorem dX2_readPart_67 : decode cX2_readPart 67 = .ok (.invokevirtual 57, 3) := by decide +kernel
theorem dX2_readPart_70 : decode cX2_readPart 70 = .ok (.ifCond .ne 12, 3) := by decide +kernel
theorem dX2_readPart_73 : decode cX2_readPart 73 = .ok (.aload_n 0, 1) := by decide +kernel
theorem dX2_readPart_74 : decode cX2_readPart 74 = .ok (.bipush 43, 2) := by decide +kernel
theorem dX2_readPart_76 : decode cX2_readPart 76 = .ok (.invokevirtual 57, 3) := by decide +kernel
theorem dX2_readPart_79 : decode cX2_readPart 79 = .ok (.ifCond .eq 7, 3) := by decide +kernel
theorem dX2_readPart_82 : decode cX2_readPart 82 = .ok (.iconst 1, 1) := by decide +kernel
theorem dX2_readPart_83 : decode cX2_readPart 83 = .ok (.goto 4, 3) := by decide +kernel
theorem dX2_readPart_86 : decode cX2_readPart 86 = .ok (.iconst 0, 1) := by decide +kernel
theorem dX2_readPart_87 : decode cX2_readPart 87 = .ok (.ireturn, 1) := by decide +kernel
theorem dX2_readPart_88 : decode cX2_readPart 88 = .ok (.aload_n 0, 1) := by decide +kernel
theorem dX2_readPart_89 : decode cX2_readPart 89 = .ok (.iload_n 1, 1) := by decide +kernel
theorem dX2_readPart_90 : decode cX2_readPart 90 = .ok (.invokevirtual 57, 3) := by decide +kernel
theorem dX2_readPart_93 : decode cX2_readPart 93 = .ok (.ireturn, 1) := by decide +kernel
theorem dX2_readNumber_0 : decode cX2_readNumber 0 = .ok (.aload_n 0, 1) := by decide +kernel
theorem dX2_readNumber_1 : decode cX2_readNumber 1 = .ok (.invokevirtual 110, 3) := by decide +kernel
theorem dX2_readNumber_4 : decode cX2_readNumber 4 = .ok (.ifCond .ne 5, 3) := by decide +kernel
theorem dX2_readNumber_7 : decode cX2_readNumber 7 = .ok (.iconst 0, 1) := by decide +kernel
theorem dX2_readNumber_8 : decode cX2_readNumber 8 = .ok (.ireturn, 1) := by decide +kernel
theorem dX2_readNumber_9 : decode cX2_readNumber 9 = .ok (.aload_n 0, 1) := by decide +kernel
theorem dX2_readNumber_10 : decode cX2_readNumber 10 = .ok (.invokevirtual 64, 3) := by decide +kernel
theorem dX2_readNumber_13 : decode cX2_readNumber 13 = .ok (.bipush 48, 2) := by decide +kernel
theorem dX2_readNumber_15 : decode cX2_readNumber 15 = .ok (.isub, 1) := by decide +kernel
theorem dX2_readNumber_16 : decode cX2_readNumber 16 = .ok (.istore_n 1, 1) := by decide +kernel
theorem dX2_readNumber_17 : decode cX2_readNumber 17 = .ok (.aload_n 0, 1) := by decide +kernel
theorem dX2_readNumber_18 : decode cX2_readNumber 18 = .ok (.dup, 1) := by decide +kernel
theorem dX2_readNumber_19 : decode cX2_readNumber 19 = .ok (.getfield 54, 3) := by decide +kernel
theorem dX2_readNumber_22 : decode cX2_readNumber 22 = .ok (.iconst 1, 1) := by decide +kernel
theorem dX2_readNumber_23 : decode cX2_readNumber 23 = .ok (.iadd, 1) := by decide +kernel
theorem dX2_readNumber_24 : decode cX2_readNumber 24 = .ok (.putfield 54, 3) := by decide +kernel
theorem dX2_readNumber_27 : decode cX2_readNumber 27 = .ok (.iload_n 1, 1) := by decide +kernel
theorem dX2_readNumber_28 : decode cX2_readNumber 28 = .ok (.ifCond .le 33, 3) := by decide +kernel
theorem dX2_readNumber_31 : decode cX2_readNumber 31 = .ok (.aload_n 0, 1) := by decide +kernel
theorem dX2_readNumber_32 : decode cX2_readNumber 32 = .ok (.invokevirtual 110, 3) := by decide +kernel
theorem dX2_readNumber_35 : decode cX2_readNumber 35 = .ok (.ifCond .eq 26, 3) := by decide +kernel
theorem dX2_readNumber_38 : decode cX2_readNumber 38 = .ok (.iload_n 1, 1) := by decide +kernel
theorem dX2_readNumber_39 : decode cX2_readNumber 39 = .ok (.bipush 10, 2) := by decide +kernel
theorem dX2_readNumber_41 : decode cX2_readNumber 41 = .ok (.imul, 1) := by decide +kernel
theorem dX2_readNumber_42 : decode cX2_readNumber 42 = .ok (.aload_n 0, 1) := by decide +kernel
theorem dX2_readNumber_43 : decode cX2_readNumber 43 = .ok (.invokevirtual 64, 3) := by decide +kernel
theorem dX2_readNumber_46 : decode cX2_readNumber 46 = .ok (.iadd, 1) := by decide +kernel
theorem dX2_readNumber_47 : decode cX2_readNumber 47 = .ok (.bipush 48, 2) := by decide +kernel
theorem dX2_readNumber_49 : decode cX2_readNumber 49 = .ok (.isub, 1) := by decide +kernel
theorem dX2_readNumber_50 : decode cX2_readNumber 50 = .ok (.istore_n 1, 1) := by decide +kernel
theorem dX2_readNumber_51 : decode cX2_readNumber 51 = .ok (.aload_n 0, 1) := by decide +kernel
theorem dX2_readNumber_52 : decode cX2_readNumber 52 = .ok (.dup, 1) := by decide +kernel
theorem dX2_readNumber_53 : decode cX2_readNumber 53 = .ok (.getfield 54, 3) := by decide +kernel
theorem dX2_readNumber_56 : decode cX2_readNumber 56 = .ok (.iconst 1, 1) := by decide +kernel
theorem dX2_readNumber_57 : decode cX2_readNumber 57 = .ok (.iadd, 1) := by decide +kernel
theorem dX2_readNumber_58 : decode cX2_readNumber 58 = .ok (.putfield 54, 3) := by decide +kernel
theorem dX2_readNumber_61 : decode cX2_readNumber 61 = .ok (.aload_n 0, 1) := by decide +kernel
theorem dX2_readNumber_62 : decode cX2_readNumber 62 = .ok (.getfield 61, 3) := by decide +kernel
theorem dX2_readNumber_65 : decode cX2_readNumber 65 = .ok (.ifCond .lt 35, 3) := by decide +kernel
theorem dX2_readNumber_68 : decode cX2_readNumber 68 = .ok (.aload_n 0, 1) := by decide +kernel
theorem dX2_readNumber_69 : decode cX2_readNumber 69 = .ok (.getfield 61, 3) := by decide +kernel
theorem dX2_readNumber_72 : decode cX2_readNumber 72 = .ok (.aload_n 0, 1) := by decide +kernel
theorem dX2_readNumber_73 : decode cX2_readNumber 73 = .ok (.getfield 15, 3) := by decide +kernel
theorem dX2_readNumber_76 : decode cX2_readNumber 76 = .ok (.arraylength, 1) := by decide +kernel
theorem dX2_readNumber_77 : decode cX2_readNumber 77 = .ok (.if_icmp .ge 23, 3) := by decide +kernel
theorem dX2_readNumber_80 : decode cX2_readNumber 80 = .ok (.aload_n 0, 1) := by decide +kernel
theorem dX2_readNumber_81 : decode cX2_readNumber 81 = .ok (.getfield 15, 3) := by decide +kernel
theorem dX2_readNumber_84 : decode cX2_readNumber 84 = .ok (.aload_n 0, 1) := by decide +kernel
theorem dX2_readNumber_85 : decode cX2_readNumber 85 = .ok (.getfield 61, 3) := by decide +kernel
theorem dX2_readNumber_88 : decode cX2_readNumber 88 = .ok (.iload_n 1, 1) := by decide +kernel
theorem dX2_readNumber_89 : decode cX2_readNumber 89 = .ok (.iastore, 1) := by decide +kernel
theorem dX2_readNumber_90 : decode cX2_readNumber 90 = .ok (.aload_n 0, 1) := by decide +kernel
theorem dX2_readNumber_91 : decode cX2_readNumber 91 = .ok (.dup, 1) := by decide +kernel
theorem dX2_readNumber_92 : decode cX2_readNumber 92 = .ok (.getfield 61, 3) := by decide +kernel
theorem dX2_readNumber_95 : decode cX2_readNumber 95 = .ok (.iconst 1, 1) := by decide +kernel
theorem dX2_readNumber_96 : decode cX2_readNumber 96 = .ok (.iadd, 1) := by decide +kernel
theorem dX2_readNumber_97 : decode cX2_readNumber 97 = .ok (.putfield 61, 3) := by decide +kernel
theorem dX2_readNumber_100 : decode cX2_readNumber 100 = .ok (.iconst 1, 1) := by decide +kernel
theorem dX2_readNumber_101 : decode cX2_readNumber 101 = .ok (.ireturn, 1) := by decide +kernel
theorem dX2_readColour_0 : decode cX2_readColour 0 = .ok (.aload_n 0, 1) := by decide +kernel
theorem dX2_readColour_1 : decode cX2_readColour 1 = .ok (.invokevirtual 64, 3) := by decide +kernel
theorem dX2_readColour_4 : decode cX2_readColour 4 = .ok (.istore_n 1, 1) := by decide +kernel
theorem dX2_readColour_5 : decode cX2_readColour 5 = .ok (.aload_n 0, 1) := by decide +kernel
theorem dX2_readColour_6 : decode cX2_readColour 6 = .ok (.iload_n 1, 1) := by decide +kernel
theorem dX2_readColour_7 : decode cX2_readColour 7 = .ok (.bipush 114, 2) := by decide +kernel
theorem dX2_readColour_9 : decode cX2_readColour 9 = .ok (.if_icmp .ne 7, 3) := by decide +kernel
theorem dX2_readColour_12 : decode cX2_readColour 12 = .ok (.iconst 0, 1) := by decide +kernel
theorem dX2_readColour_13 : decode cX2_readColour 13 = .ok (.goto 14, 3) := by decide +kernel
theorem dX2_readColour_16 : decode cX2_readColour 16 = .ok (.iload_n 1, 1) := by decide +kernel
theorem dX2_readColour_17 : decode cX2_readColour 17 = .ok (.bipush 103, 2) := by decide +kernel
theorem dX2_readColour_19 : decode cX2_readColour 19 = .ok (.if_icmp .ne 7, 3) := by decide +kernel
theorem dX2_readColour_22 : decode cX2_readColour 22 = .ok (.iconst 1, 1) := by decide +kernel
theorem dX2_readColour_23 : decode cX2_readColour 23 = .ok (.goto 4, 3) := by decide +kernel
theorem dX2_readColour_26 : decode cX2_readColour 26 = .ok (.iconst 2, 1) := by decide +kernel
theorem dX2_readColour_27 : decode cX2_readColour 27 = .ok (.putfield 26, 3) := by decide +kernel
theorem dX2_readColour_30 : decode cX2_readColour 30 = .ok (.aload_n 0, 1) := by decide +kernel
theorem dX2_readColour_31 : decode cX2_readColour 31 = .ok (.bipush 114, 2) := by decide +kernel
theorem dX2_readColour_33 : decode cX2_readColour 33 = .ok (.invokevirtual 57, 3) := by decide +kernel
theorem dX2_readColour_36 : decode cX2_readColour 36 = .ok (.ifCond .ne 21, 3) := by decide +kernel
theorem dX2_readColour_39 : decode cX2_readColour 39 = .ok (.aload_n 0, 1) := by decide +kernel
theorem dX2_readColour_40 : decode cX2_readColour 40 = .ok (.bipush 103, 2) := by decide +kernel
theorem dX2_readColour_42 : decode cX2_readColour 42 = .ok (.invokevirtual 57, 3) := by decide +kernel
theorem dX2_readColour_45 : decode cX2_readColour 45 = .ok (.ifCond .ne 12, 3) := by decide +kernel
theorem dX2_readColour_48 : decode cX2_readColour 48 = .ok (.aload_n 0, 1) := by decide +kernel
theorem dX2_readColour_49 : decode cX2_readColour 49 = .ok (.bipush 98, 2) := by decide +kernel
theorem dX2_readColour_51 : decode cX2_readColour 51 = .ok (.invokevirtual 57, 3) := by decide +kernel
theorem dX2_readColour_54 : decode cX2_readColour 54 = .ok (.ifCond .eq 7, 3) := by decide +kernel
theorem dX2_readColour_57 : decode cX2_readColour 57 = .ok (.iconst 1, 1) := by decide +kernel
theorem dX2_readColour_58 : decode cX2_readColour 58 = .ok (.goto 4, 3) := by decide +kernel
theorem dX2_readColour_61 : decode cX2_readColour 61 = .ok (.iconst 0, 1) := by decide +kernel
theorem dX2_readColour_62 : decode cX2_readColour 62 = .ok (.ireturn, 1) := by decide +kernel
theorem dX2_readSign_0 : decode cX2_readSign 0 = .ok (.aload_n 0, 1) := by decide +kernel
theorem dX2_readSign_1 : decode cX2_readSign 1 = .ok (.invokevirtual 64, 3) := by decide +kernel
theorem dX2_readSign_4 : decode cX2_readSign 4 = .ok (.iload_n 1, 1) := by decide +kernel
theorem dX2_readSign_5 : decode cX2_readSign 5 = .ok (.if_icmp .eq 5, 3) := by decide +kernel
theorem dX2_readSign_8 : decode cX2_readSign 8 = .ok (.iconst 0, 1) := by decide +kernel
theorem dX2_readSign_9 : decode cX2_readSign 9 = .ok (.ireturn, 1) := by decide +kernel
theorem dX2_readSign_10 : decode cX2_readSign 10 = .ok (.aload_n 0, 1) := by decide +kernel
theorem dX2_readSign_11 : decode cX2_readSign 11 = .ok (.dup, 1) := by decide +kernel
theorem dX2_readSign_12 : decode cX2_readSign 12 = .ok (.getfield 54, 3) := by decide +kernel
theorem dX2_readSign_15 : decode cX2_readSign 15 = .ok (.iconst 1, 1) := by decide +kernel
theorem dX2_readSign_16 : decode cX2_readSign 16 = .ok (.iadd, 1) := by decide +kernel
theorem dX2_readSign_17 : decode cX2_readSign 17 = .ok (.putfield 54, 3) := by decide +kernel
theorem dX2_readSign_20 : decode cX2_readSign 20 = .ok (.iconst 1, 1) := by decide +kernel
theorem dX2_readSign_21 : decode cX2_readSign 21 = .ok (.ireturn, 1) := by decide +kernel
theorem dX2_isDigitHere_0 : decode cX2_isDigitHere 0 = .ok (.aload_n 0, 1) := by decide +kernel
theorem dX2_isDigitHere_1 : decode cX2_isDigitHere 1 = .ok (.invokevirtual 64, 3) := by decide +kernel
theorem dX2_isDigitHere_4 : decode cX2_isDigitHere 4 = .ok (.bipush 48, 2) := by decide +kernel
theorem dX2_isDigitHere_6 : decode cX2_isDigitHere 6 = .ok (.bipush 57, 2) := by decide +kernel
theorem dX2_isDigitHere_8 : decode cX2_isDigitHere 8 = .ok (.invokestatic 43, 3) := by decide +kernel
theorem dX2_isDigitHere_11 : decode cX2_isDigitHere 11 = .ok (.ireturn, 1) := by decide +kernel
theorem dX2_here_0 : decode cX2_here 0 = .ok (.aload_n 0, 1) := by decide +kernel
theorem dX2_here_1 : decode cX2_here 1 = .ok (.getfield 54, 3) := by decide +kernel
theorem dX2_here_4 : decode cX2_here 4 = .ok (.ifCond .lt 38, 3) := by decide +kernel
theorem dX2_here_7 : decode cX2_here 7 = .ok (.aload_n 0, 1) := by decide +kernel
theorem dX2_here_8 : decode cX2_here 8 = .ok (.getfield 54, 3) := by decide +kernel
theorem dX2_here_11 : decode cX2_here 11 = .ok (.aload_n 0, 1) := by decide +kernel
theorem dX2_here_12 : decode cX2_here 12 = .ok (.getfield 19, 3) := by decide +kernel
theorem dX2_here_15 : decode cX2_here 15 = .ok (.if_icmp .ge 27, 3) := by decide +kernel
theorem dX2_here_18 : decode cX2_here 18 = .ok (.aload_n 0, 1) := by decide +kernel
theorem dX2_here_19 : decode cX2_here 19 = .ok (.getfield 54, 3) := by decide +kernel
theorem dX2_here_22 : decode cX2_here 22 = .ok (.aload_n 0, 1) := by decide +kernel
theorem dX2_here_23 : decode cX2_here 23 = .ok (.getfield 11, 3) := by decide +kernel
theorem dX2_here_26 : decode cX2_here 26 = .ok (.arraylength, 1) := by decide +kernel
theorem dX2_here_27 : decode cX2_here 27 = .ok (.if_icmp .ge 15, 3) := by decide +kernel
theorem dX2_here_30 : decode cX2_here 30 = .ok (.aload_n 0, 1) := by decide +kernel
theorem dX2_here_31 : decode cX2_here 31 = .ok (.getfield 11, 3) := by decide +kernel
theorem dX2_here_34 : decode cX2_here 34 = .ok (.aload_n 0, 1) := by decide +kernel
theorem dX2_here_35 : decode cX2_here 35 = .ok (.getfield 54, 3) := by decide +kernel
theorem dX2_here_38 : decode cX2_here 38 = .ok (.caload, 1) := by decide +kernel
theorem dX2_here_39 : decode cX2_here 39 = .ok (.goto 4, 3) := by decide +kernel
theorem dX2_here_42 : decode cX2_here 42 = .ok (.iconst 0, 1) := by decide +kernel
theorem dX2_here_43 : decode cX2_here 43 = .ok (.ireturn, 1) := by decide +kernel
theorem dX3_init_0 : decode cX3_init 0 = .ok (.aload_n 0, 1) := by decide +kernel
theorem dX3_init_1 : decode cX3_init 1 = .ok (.invokespecial 5, 3) := by decide +kernel
theorem dX3_init_4 : decode cX3_init 4 = .ok (.aload_n 0, 1) := by decide +kernel
theorem dX3_init_5 : decode cX3_init 5 = .ok (.sipush 293, 3) := by decide +kernel
theorem dX3_init_8 : decode cX3_init 8 = .ok (.newarray .int, 2) := by decide +kernel
theorem dX3_init_10 : decode cX3_init 10 = .ok (.putfield 11, 3) := by decide +kernel
theorem dX3_init_13 : decode cX3_init 13 = .ok (.getstatic 15, 3) := by decide +kernel
theorem dX3_init_16 : decode cX3_init 16 = .ok (.iconst 0, 1) := by decide +kernel
theorem dX3_init_17 : decode cX3_init 17 = .ok (.aload_n 0, 1) := by decide +kernel
theorem dX3_init_18 : decode cX3_init 18 = .ok (.getfield 11, 3) := by decide +kernel
theorem dX3_init_21 : decode cX3_init 21 = .ok (.iconst 0, 1) := by decide +kernel
theorem dX3_init_22 : decode cX3_init 22 = .ok (.iconst 4, 1) := by decide +kernel
theorem dX3_init_23 : decode cX3_init 23 = .ok (.invokestatic 18, 3) := by decide +kernel
theorem dX3_init_26 : decode cX3_init 26 = .ok (.return_, 1) := by decide +kernel
theorem dX3_read_0 : decode cX3_read 0 = .ok (.iload_n 1, 1) := by decide +kernel
theorem dX3_read_1 : decode cX3_read 1 = .ok (.ifCond .lt 21, 3) := by decide +kernel
theorem dX3_read_4 : decode cX3_read 4 = .ok (.iload_n 1, 1) := by decide +kernel
theorem dX3_read_5 : decode cX3_read 5 = .ok (.aload_n 0, 1) := by decide +kernel
theorem dX3_read_6 : decode cX3_read 6 = .ok (.getfield 11, 3) := by decide +kernel
theorem dX3_read_9 : decode cX3_read 9 = .ok (.arraylength, 1) := by decide +kernel
theorem dX3_read_10 : decode cX3_read 10 = .ok (.if_icmp .ge 12, 3) := by decide +kernel
theorem dX3_read_13 : decode cX3_read 13 = .ok (.aload_n 0, 1) := by decide +kernel
theorem dX3_read_14 : decode cX3_read 14 = .ok (.getfield 11, 3) := by decide +kernel
theorem dX3_read_17 : decode cX3_read 17 = .ok (.iload_n 1, 1) := by decide +kernel
theorem dX3_read_18 : decode cX3_read 18 = .ok (.iaload, 1) := by decide +kernel
theorem dX3_read_19 : decode cX3_read 19 = .ok (.goto 4, 3) := by decide +kernel
theorem dX3_read_22 : decode cX3_read 22 = .ok (.iconst 0, 1) := by decide +kernel
theorem dX3_read_23 : decode cX3_read 23 = .ok (.ireturn, 1) := by decide +kernel
theorem dX3_write_0 : decode cX3_write 0 = .ok (.iload_n 1, 1) := by decide +kernel
theorem dX3_write_1 : decode cX3_write 1 = .ok (.ifCond .lt 19, 3) := by decide +kernel
theorem dX3_write_4 : decode cX3_write 4 = .ok (.iload_n 1, 1) := by decide +kernel
theorem dX3_write_5 : decode cX3_write 5 = .ok (.aload_n 0, 1) := by decide +kernel
theorem dX3_write_6 : decode cX3_write 6 = .ok (.getfield 11, 3) := by decide +kernel
theorem dX3_write_9 : decode cX3_write 9 = .ok (.arraylength, 1) := by decide +kernel
theorem dX3_write_10 : decode cX3_write 10 = .ok (.if_icmp .ge 10, 3) := by decide +kernel
theorem dX3_write_13 : decode cX3_write 13 = .ok (.aload_n 0, 1) := by decide +kernel
theorem dX3_write_14 : decode cX3_write 14 = .ok (.getfield 11, 3) := by decide +kernel
theorem dX3_write_17 : decode cX3_write 17 = .ok (.iload_n 1, 1) := by decide +kernel
theorem dX3_write_18 : decode cX3_write 18 = .ok (.iload_n 2, 1) := by decide +kernel
theorem dX3_write_19 : decode cX3_write 19 = .ok (.iastore, 1) := by decide +kernel
theorem dX3_write_20 : decode cX3_write 20 = .ok (.return_, 1) := by decide +kernel
theorem dX3_readShot_0 : decode cX3_readShot 0 = .ok (.bipush 13, 2) := by decide +kernel
theorem dX3_readShot_2 : decode cX3_readShot 2 = .ok (.iload_n 1, 1) := by decide +kernel
theorem dX3_readShot_3 : decode cX3_readShot 3 = .ok (.bipush 14, 2) := by decide +kernel
theorem dX3_readShot_5 : decode cX3_readShot 5 = .ok (.imul, 1) := by decide +kernel
theorem dX3_readShot_6 : decode cX3_readShot 6 = .ok (.iadd, 1) := by decide +kernel
theorem dX3_readShot_7 : decode cX3_readShot 7 = .ok (.iload_n 2, 1) := by decide +kernel
theorem dX3_readShot_8 : decode cX3_readShot 8 = .ok (.iadd, 1) := by decide +kernel
theorem dX3_readShot_9 : decode cX3_readShot 9 = .ok (.istore_n 3, 1) := by decide +kernel
theorem dX3_readShot_10 : decode cX3_readShot 10 = .ok (.iload_n 3, 1) := by decide +kernel
theorem dX3_readShot_11 : decode cX3_readShot 11 = .ok (.ifCond .lt 21, 3) := by decide +kernel
theorem dX3_readShot_14 : decode cX3_readShot 14 = .ok (.iload_n 3, 1) := by decide +kernel
theorem dX3_readShot_15 : decode cX3_readShot 15 = .ok (.aload_n 0, 1) := by decide +kernel
theorem dX3_readShot_16 : decode cX3_readShot 16 = .ok (.getfield 11, 3) := by decide +kernel
theorem dX3_readShot_19 : decode cX3_readShot 19 = .ok (.arraylength, 1) := by decide +kernel
theorem dX3_readShot_20 : decode cX3_readShot 20 = .ok (.if_icmp .ge 12, 3) := by decide +kernel
theorem dX3_readShot_23 : decode cX3_readShot 23 = .ok (.aload_n 0, 1) := by decide +kernel
theorem dX3_readShot_24 : decode cX3_readShot 24 = .ok (.getfield 11, 3) := by decide +kernel
theorem dX3_readShot_27 : decode cX3_readShot 27 = .ok (.iload_n 3, 1) := by decide +kernel
theorem dX3_readShot_28 : decode cX3_readShot 28 = .ok (.iaload, 1) := by decide +kernel
theorem dX3_readShot_29 : decode cX3_readShot 29 = .ok (.goto 4, 3) := by decide +kernel
theorem dX3_readShot_32 : decode cX3_readShot 32 = .ok (.iconst 0, 1) := by decide +kernel
theorem dX3_readShot_33 : decode cX3_readShot 33 = .ok (.ireturn, 1) := by decide +kernel
theorem dX3_writeShot_0 : decode cX3_writeShot 0 = .ok (.bipush 13, 2) := by decide +kernel
theorem dX3_writeShot_2 : decode cX3_writeShot 2 = .ok (.iload_n 1, 1) := by decide +kernel
theorem dX3_writeShot_3 : decode cX3_writeShot 3 = .ok (.bipush 14, 2) := by decide +kernel
theorem dX3_writeShot_5 : decode cX3_writeShot 5 = .ok (.imul, 1) := by decide +kernel
theorem dX3_writeShot_6 : decode cX3_writeShot 6 = .ok (.iadd, 1) := by decide +kernel
theorem dX3_writeShot_7 : decode cX3_writeShot 7 = .ok (.iload_n 2, 1) := by decide +kernel
theorem dX3_writeShot_8 : decode cX3_writeShot 8 = .ok (.iadd, 1) := by decide +kernel
theorem dX3_writeShot_9 : decode cX3_writeShot 9 = .ok (.istore 4, 2) := by decide +kernel
theorem dX3_writeShot_11 : decode cX3_writeShot 11 = .ok (.iload 4, 2) := by decide +kernel
theorem dX3_writeShot_13 : decode cX3_writeShot 13 = .ok (.ifCond .lt 21, 3) := by decide +kernel
theorem dX3_writeShot_16 : decode cX3_writeShot 16 = .ok (.iload 4, 2) := by decide +kernel
theorem dX3_writeShot_18 : decode cX3_writeShot 18 = .ok (.aload_n 0, 1) := by decide +kernel
theorem dX3_writeShot_19 : decode cX3_writeShot 19 = .ok (.getfield 11, 3) := by decide +kernel
theorem dX3_writeShot_22 : decode cX3_writeShot 22 = .ok (.arraylength, 1) := by decide +kernel
theorem dX3_writeShot_23 : decode cX3_writeShot 23 = .ok (.if_icmp .ge 11, 3) := by decide +kernel
theorem dX3_writeShot_26 : decode cX3_writeShot 26 = .ok (.aload_n 0, 1) := by decide +kernel
theorem dX3_writeShot_27 : decode cX3_writeShot 27 = .ok (.getfield 11, 3) := by decide +kernel
theorem dX3_writeShot_30 : decode cX3_writeShot 30 = .ok (.iload 4, 2) := by decide +kernel
theorem dX3_writeShot_32 : decode cX3_writeShot 32 = .ok (.iload_n 3, 1) := by decide +kernel
theorem dX3_writeShot_33 : decode cX3_writeShot 33 = .ok (.iastore, 1) := by decide +kernel
theorem dX3_writeShot_34 : decode cX3_writeShot 34 = .ok (.return_, 1) := by decide +kernel
theorem dX3_lampLoss_0 : decode cX3_lampLoss 0 = .ok (.iload_n 1, 1) := by decide +kernel
theorem dX3_lampLoss_1 : decode cX3_lampLoss 1 = .ok (.ifCond .lt 29, 3) := by decide +kernel
theorem dX3_lampLoss_4 : decode cX3_lampLoss 4 = .ok (.iload_n 1, 1) := by decide +kernel
theorem dX3_lampLoss_5 : decode cX3_lampLoss 5 = .ok (.iconst 3, 1) := by decide +kernel
theorem dX3_lampLoss_6 : decode cX3_lampLoss 6 = .ok (.if_icmp .ge 24, 3) := by decide +kernel
theorem dX3_lampLoss_9 : decode cX3_lampLoss 9 = .ok (.aload_n 0, 1) := by decide +kernel
theorem dX3_lampLoss_10 : decode cX3_lampLoss 10 = .ok (.getfield 11, 3) := by decide +kernel
theorem dX3_lampLoss_13 : decode cX3_lampLoss 13 = .ok (.iconst 4, 1) := by decide +kernel
theorem dX3_lampLoss_14 : decode cX3_lampLoss 14 = .ok (.iload_n 1, 1) := by decide +kernel
theorem dX3_lampLoss_15 : decode cX3_lampLoss 15 = .ok (.iadd, 1) := by decide +kernel
theorem dX3_lampLoss_16 : decode cX3_lampLoss 16 = .ok (.iaload, 1) := by decide +kernel
theorem dX3_lampLoss_17 : decode cX3_lampLoss 17 = .ok (.aload_n 0, 1) := by decide +kernel
theorem dX3_lampLoss_18 : decode cX3_lampLoss 18 = .ok (.getfield 11, 3) := by decide +kernel
theorem dX3_lampLoss_21 : decode cX3_lampLoss 21 = .ok (.iconst 3, 1) := by decide +kernel
theorem dX3_lampLoss_22 : decode cX3_lampLoss 22 = .ok (.iaload, 1) := by decide +kernel
theorem dX3_lampLoss_23 : decode cX3_lampLoss 23 = .ok (.imul, 1) := by decide +kernel
theorem dX3_lampLoss_24 : decode cX3_lampLoss 24 = .ok (.bipush 100, 2) := by decide +kernel
theorem dX3_lampLoss_26 : decode cX3_lampLoss 26 = .ok (.idiv, 1) := by decide +kernel
theorem dX3_lampLoss_27 : decode cX3_lampLoss 27 = .ok (.goto 4, 3) := by decide +kernel
theorem dX3_lampLoss_30 : decode cX3_lampLoss 30 = .ok (.iconst 0, 1) := by decide +kernel
theorem dX3_lampLoss_31 : decode cX3_lampLoss 31 = .ok (.ireturn, 1) := by decide +kernel
theorem dX3_shots_0 : decode cX3_shots 0 = .ok (.aload_n 0, 1) := by decide +kernel
theorem dX3_shots_1 : decode cX3_shots 1 = .ok (.bipush 12, 2) := by decide +kernel
theorem dX3_shots_3 : decode cX3_shots 3 = .ok (.invokevirtual 24, 3) := by decide +kernel
theorem dX3_shots_6 : decode cX3_shots 6 = .ok (.ireturn, 1) := by decide +kernel
theorem dX3_hasShot_0 : decode cX3_hasShot 0 = .ok (.iload_n 1, 1) := by decide +kernel
theorem dX3_hasShot_1 : decode cX3_hasShot 1 = .ok (.ifCond .lt 15, 3) := by decide +kernel
theorem dX3_hasShot_4 : decode cX3_hasShot 4 = .ok (.iload_n 1, 1) := by decide +kernel
theorem dX3_hasShot_5 : decode cX3_hasShot 5 = .ok (.aload_n 0, 1) := by decide +kernel
theorem dX3_hasShot_6 : decode cX3_hasShot 6 = .ok (.invokevirtual 28, 3) := by decide +kernel
theorem dX3_hasShot_9 : decode cX3_hasShot 9 = .ok (.if_icmp .ge 7, 3) := by decide +kernel
theorem dX3_hasShot_12 : decode cX3_hasShot 12 = .ok (.iconst 1, 1) := by decide +kernel
theorem dX3_hasShot_13 : decode cX3_hasShot 13 = .ok (.goto 4, 3) := by decide +kernel
theorem dX3_hasShot_16 : decode cX3_hasShot 16 = .ok (.iconst 0, 1) := by decide +kernel
theorem dX3_hasShot_17 : decode cX3_hasShot 17 = .ok (.ireturn, 1) := by decide +kernel
theorem dX3_openPlace_0 : decode cX3_openPlace 0 = .ok (.aload_n 0, 1) := by decide +kernel
theorem dX3_openPlace_1 : decode cX3_openPlace 1 = .ok (.invokevirtual 28, 3) := by decide +kernel
theorem dX3_openPlace_4 : decode cX3_openPlace 4 = .ok (.bipush 19, 2) := by decide +kernel
theorem dX3_openPlace_6 : decode cX3_openPlace 6 = .ok (.invokestatic 32, 3) := by decide +kernel
theorem dX3_openPlace_9 : decode cX3_openPlace 9 = .ok (.istore_n 2, 1) := by decide +kernel
theorem dX3_openPlace_10 : decode cX3_openPlace 10 = .ok (.iload_n 2, 1) := by decide +kernel
theorem dX3_openPlace_11 : decode cX3_openPlace 11 = .ok (.iload_n 1, 1) := by decide +kernel
theorem dX3_openPlace_12 : decode cX3_openPlace 12 = .ok (.if_icmp .le 17, 3) := by decide +kernel
theorem dX3_openPlace_15 : decode cX3_openPlace 15 = .ok (.aload_n 0, 1) := by decide +kernel
theorem dX3_openPlace_16 : decode cX3_openPlace 16 = .ok (.iload_n 2, 1) := by decide +kernel
theorem dX3_openPlace_17 : decode cX3_openPlace 17 = .ok (.iconst 1, 1) := by decide +kernel
theorem dX3_openPlace_18 : decode cX3_openPlace 18 = .ok (.isub, 1) := by decide +kernel
theorem dX3_openPlace_19 : decode cX3_openPlace 19 = .ok (.iload_n 2, 1) := by decide +kernel
theorem dX3_openPlace_20 : decode cX3_openPlace 20 = .ok (.invokevirtual 38, 3) := by decide +kernel
theorem dX3_openPlace_23 : decode cX3_openPlace 23 = .ok (.iinc 2 (-1), 3) := by decide +kernel
theorem dX3_openPlace_26 : decode cX3_openPlace 26 = .ok (.goto (-16), 3) := by decide +kernel
theorem dX3_openPlace_29 : decode cX3_openPlace 29 = .ok (.aload_n 0, 1) := by decide +kernel
theorem dX3_openPlace_30 : decode cX3_openPlace 30 = .ok (.bipush 12, 2) := by decide +kernel
theorem dX3_openPlace_32 : decode cX3_openPlace 32 = .ok (.aload_n 0, 1) := by decide +kernel
theorem dX3_openPlace_33 : decode cX3_openPlace 33 = .ok (.invokevirtual 28, 3) := by decide +kernel
theorem dX3_openPlace_36 : decode cX3_openPlace 36 = .ok (.iconst 1, 1) := by decide +kernel
theorem dX3_openPlace_37 : decode cX3_openPlace 37 = .ok (.iadd, 1) := by decide +kernel
theorem dX3_openPlace_38 : decode cX3_openPlace 38 = .ok (.invokevirtual 42, 3) := by decide +kernel
theorem dX3_openPlace_41 : decode cX3_openPlace 41 = .ok (.return_, 1) := by decide +kernel
theorem dX3_closePlace_0 : decode cX3_closePlace 0 = .ok (.iload_n 1, 1) := by decide +kernel
theorem dX3_closePlace_1 : decode cX3_closePlace 1 = .ok (.istore_n 2, 1) := by decide +kernel
theorem dX3_closePlace_2 : decode cX3_closePlace 2 = .ok (.iload_n 2, 1) := by decide +kernel
theorem dX3_closePlace_3 : decode cX3_closePlace 3 = .ok (.aload_n 0, 1) := by decide +kernel
theorem dX3_closePlace_4 : decode cX3_closePlace 4 = .ok (.invokevirtual 28, 3) := by decide +kernel
theorem dX3_closePlace_7 : decode cX3_closePlace 7 = .ok (.iconst 1, 1) := by decide +kernel
theorem dX3_closePlace_8 : decode cX3_closePlace 8 = .ok (.isub, 1) := by decide +kernel
theorem dX3_closePlace_9 : decode cX3_closePlace 9 = .ok (.if_icmp .ge 17, 3) := by decide +kernel
theorem dX3_closePlace_12 : decode cX3_closePlace 12 = .ok (.aload_n 0, 1) := by decide +kernel
theorem dX3_closePlace_13 : decode cX3_closePlace 13 = .ok (.iload_n 2, 1) := by decide +kernel
theorem dX3_closePlace_14 : decode cX3_closePlace 14 = .ok (.iconst 1, 1) := by decide +kernel
theorem dX3_closePlace_15 : decode cX3_closePlace 15 = .ok (.iadd, 1) := by decide +kernel
theorem dX3_closePlace_16 : decode cX3_closePlace 16 = .ok (.iload_n 2, 1) := by decide +kernel
theorem dX3_closePlace_17 : decode cX3_closePlace 17 = .ok (.invokevirtual 38, 3) := by decide +kernel
theorem dX3_closePlace_20 : decode cX3_closePlace 20 = .ok (.iinc 2 1, 3) := by decide +kernel
theorem dX3_closePlace_23 : decode cX3_closePlace 23 = .ok (.goto (-21), 3) := by decide +kernel
theorem dX3_closePlace_26 : decode cX3_closePlace 26 = .ok (.aload_n 0, 1) := by decide +kernel
theorem dX3_closePlace_27 : decode cX3_closePlace 27 = .ok (.bipush 12, 2) := by decide +kernel
theorem dX3_closePlace_29 : decode cX3_closePlace 29 = .ok (.aload_n 0, 1) := by decide +kernel
theorem dX3_closePlace_30 : decode cX3_closePlace 30 = .ok (.invokevirtual 28, 3) := by decide +kernel
theorem dX3_closePlace_33 : decode cX3_closePlace 33 = .ok (.iconst 1, 1) := by decide +kernel
theorem dX3_closePlace_34 : decode cX3_closePlace 34 = .ok (.isub, 1) := by decide +kernel
theorem dX3_closePlace_35 : decode cX3_closePlace 35 = .ok (.invokevirtual 42, 3) := by decide +kernel
theorem dX3_closePlace_38 : decode cX3_closePlace 38 = .ok (.return_, 1) := by decide +kernel
theorem dX3_copyShot_0 : decode cX3_copyShot 0 = .ok (.iconst 0, 1) := by decide +kernel
theorem dX3_copyShot_1 : decode cX3_copyShot 1 = .ok (.istore_n 3, 1) := by decide +kernel
theorem dX3_copyShot_2 : decode cX3_copyShot 2 = .ok (.iload_n 3, 1) := by decide +kernel
theorem dX3_copyShot_3 : decode cX3_copyShot 3 = .ok (.bipush 14, 2) := by decide +kernel
theorem dX3_copyShot_5 : decode cX3_copyShot 5 = .ok (.if_icmp .ge 21, 3) := by decide +kernel
theorem dX3_copyShot_8 : decode cX3_copyShot 8 = .ok (.aload_n 0, 1) := by decide +kernel
theorem dX3_copyShot_9 : decode cX3_copyShot 9 = .ok (.iload_n 2, 1) := by decide +kernel
theorem dX3_copyShot_10 : decode cX3_copyShot 10 = .ok (.iload_n 3, 1) := by decide +kernel
theorem dX3_copyShot_11 : decode cX3_copyShot 11 = .ok (.aload_n 0, 1) := by decide +kernel
theorem dX3_copyShot_12 : decode cX3_copyShot 12 = .ok (.iload_n 1, 1) := by decide +kernel
theorem dX3_copyShot_13 : decode cX3_copyShot 13 = .ok (.iload_n 3, 1) := by decide +kernel
theorem dX3_copyShot_14 : decode cX3_copyShot 14 = .ok (.invokevirtual 45, 3) := by decide +kernel
theorem dX3_copyShot_17 : decode cX3_copyShot 17 = .ok (.invokevirtual 48, 3) := by decide +kernel
theorem dX3_copyShot_20 : decode cX3_copyShot 20 = .ok (.iinc 3 1, 3) := by decide +kernel
theorem dX3_copyShot_23 : decode cX3_copyShot 23 = .ok (.goto (-21), 3) := by decide +kernel
theorem dX3_copyShot_26 : decode cX3_copyShot 26 = .ok (.return_, 1) := by decide +kernel
theorem dX3_swapShots_0 : decode cX3_swapShots 0 = .ok (.iconst 0, 1) := by decide +kernel
theorem dX3_swapShots_1 : decode cX3_swapShots 1 = .ok (.istore_n 3, 1) := by decide +kernel
theorem dX3_swapShots_2 : decode cX3_swapShots 2 = .ok (.iload_n 3, 1) := by decide +kernel
theorem dX3_swapShots_3 : decode cX3_swapShots 3 = .ok (.bipush 14, 2) := by decide +kernel
theorem dX3_swapShots_5 : decode cX3_swapShots 5 = .ok (.if_icmp .ge 37, 3) := by decide +kernel
theorem dX3_swapShots_8 : decode cX3_swapShots 8 = .ok (.aload_n 0, 1) := by decide +kernel
theorem dX3_swapShots_9 : decode cX3_swapShots 9 = .ok (.iload_n 1, 1) := by decide +kernel
theorem dX3_swapShots_10 : decode cX3_swapShots 10 = .ok (.iload_n 3, 1) := by decide +kernel
theorem dX3_swapShots_11 : decode cX3_swapShots 11 = .ok (.invokevirtual 45, 3) := by decide +kernel
theorem dX3_swapShots_14 : decode cX3_swapShots 14 = .ok (.istore 4, 2) := by decide +kernel
theorem dX3_swapShots_16 : decode cX3_swapShots 16 = .ok (.aload_n 0, 1) := by decide +kernel
theorem dX3_swapShots_17 : decode cX3_swapShots 17 = .ok (.iload_n 1, 1) := by decide +kernel
theorem dX3_swapShots_18 : decode cX3_swapShots 18 = .ok (.iload_n 3, 1) := by decide +kernel
theorem dX3_swapShots_19 : decode cX3_swapShots 19 = .ok (.aload_n 0, 1) := by decide +kernel
theorem dX3_swapShots_20 : decode cX3_swapShots 20 = .ok (.iload_n 2, 1) := by decide +kernel
theorem dX3_swapShots_21 : decode cX3_swapShots 21 = .ok (.iload_n 3, 1) := by decide +kernel
theorem dX3_swapShots_22 : decode cX3_swapShots 22 = .ok (.invokevirtual 45, 3) := by decide +kernel
theorem dX3_swapShots_25 : decode cX3_swapShots 25 = .ok (.invokevirtual 48, 3) := by decide +kernel
theorem dX3_swapShots_28 : decode cX3_swapShots 28 = .ok (.aload_n 0, 1) := by decide +kernel
theorem dX3_swapShots_29 : decode cX3_swapShots 29 = .ok (.iload_n 2, 1) := by decide +kernel
theorem dX3_swapShots_30 : decode cX3_swapShots 30 = .ok (.iload_n 3, 1) := by decide +kernel
theorem dX3_swapShots_31 : decode cX3_swapShots 31 = .ok (.iload 4, 2) := by decide +kernel
theorem dX3_swapShots_33 : decode cX3_swapShots 33 = .ok (.invokevirtual 48, 3) := by decide +kernel
theorem dX3_swapShots_36 : decode cX3_swapShots 36 = .ok (.iinc 3 1, 3) := by decide +kernel
theorem dX3_swapShots_39 : decode cX3_swapShots 39 = .ok (.goto (-37), 3) := by decide +kernel
theorem dX3_swapShots_42 : decode cX3_swapShots 42 = .ok (.return_, 1) := by decide +kernel
theorem dX3_become_0 : decode cX3_become 0 = .ok (.aload_n 1, 1) := by decide +kernel
theorem dX3_become_1 : decode cX3_become 1 = .ok (.getfield 11, 3) := by decide +kernel
theorem dX3_become_4 : decode cX3_become 4 = .ok (.iconst 0, 1) := by decide +kernel
theorem dX3_become_5 : decode cX3_become 5 = .ok (.aload_n 0, 1) := by decide +kernel
theorem dX3_become_6 : decode cX3_become 6 = .ok (.getfield 11, 3) := by decide +kernel
theorem dX3_become_9 : decode cX3_become 9 = .ok (.iconst 0, 1) := by decide +kernel
theorem dX3_become_10 : decode cX3_become 10 = .ok (.sipush 293, 3) := by decide +kernel
theorem dX3_become_13 : decode cX3_become 13 = .ok (.invokestatic 18, 3) := by decide +kernel
theorem dX3_become_16 : decode cX3_become 16 = .ok (.return_, 1) := by decide +kernel
theorem dX3_writeTo_0 : decode cX3_writeTo 0 = .ok (.iload_n 2, 1) := by decide +kernel
theorem dX3_writeTo_1 : decode cX3_writeTo 1 = .ok (.ifCond .lt 26, 3) := by decide +kernel
theorem dX3_writeTo_4 : decode cX3_writeTo 4 = .ok (.iload_n 2, 1) := by decide +kernel
theorem dX3_writeTo_5 : decode cX3_writeTo 5 = .ok (.aload_n 1, 1) := by decide +kernel
theorem dX3_writeTo_6 : decode cX3_writeTo 6 = .ok (.arraylength, 1) := by decide +kernel
theorem dX3_writeTo_7 : decode cX3_writeTo 7 = .ok (.sipush 293, 3) := by decide +kernel
theorem dX3_writeTo_10 : decode cX3_writeTo 10 = .ok (.isub, 1) := by decide +kernel
theorem dX3_writeTo_11 : decode cX3_writeTo 11 = .ok (.if_icmp .gt 16, 3) := by decide +kernel
theorem dX3_writeTo_14 : decode cX3_writeTo 14 = .ok (.aload_n 0, 1) := by decide +kernel
theorem dX3_writeTo_15 : decode cX3_writeTo 15 = .ok (.getfield 11, 3) := by decide +kernel
theorem dX3_writeTo_18 : decode cX3_writeTo 18 = .ok (.iconst 0, 1) := by decide +kernel
theorem dX3_writeTo_19 : decode cX3_writeTo 19 = .ok (.aload_n 1, 1) := by decide +kernel
theorem dX3_writeTo_20 : decode cX3_writeTo 20 = .ok (.iload_n 2, 1) := by decide +kernel
theorem dX3_writeTo_21 : decode cX3_writeTo 21 = .ok (.sipush 293, 3) := by decide +kernel
theorem dX3_writeTo_24 : decode cX3_writeTo 24 = .ok (.invokestatic 18, 3) := by decide +kernel
theorem dX3_writeTo_27 : decode cX3_writeTo 27 = .ok (.return_, 1) := by decide +kernel
theorem dX3_readFrom_0 : decode cX3_readFrom 0 = .ok (.iload_n 2, 1) := by decide +kernel
theorem dX3_readFrom_1 : decode cX3_readFrom 1 = .ok (.ifCond .lt 26, 3) := by decide +kernel
theorem dX3_readFrom_4 : decode cX3_readFrom 4 = .ok (.iload_n 2, 1) := by decide +kernel
theorem dX3_readFrom_5 : decode cX3_readFrom 5 = .ok (.aload_n 1, 1) := by decide +kernel
theorem dX3_readFrom_6 : decode cX3_readFrom 6 = .ok (.arraylength, 1) := by decide +kernel
theorem dX3_readFrom_7 : decode cX3_readFrom 7 = .ok (.sipush 293, 3) := by decide +kernel
theorem dX3_readFrom_10 : decode cX3_readFrom 10 = .ok (.isub, 1) := by decide +kernel
theorem dX3_readFrom_11 : decode cX3_readFrom 11 = .ok (.if_icmp .gt 16, 3) := by decide +kernel
theorem dX3_readFrom_14 : decode cX3_readFrom 14 = .ok (.aload_n 1, 1) := by decide +kernel
theorem dX3_readFrom_15 : decode cX3_readFrom 15 = .ok (.iload_n 2, 1) := by decide +kernel
theorem dX3_readFrom_16 : decode cX3_readFrom 16 = .ok (.aload_n 0, 1) := by decide +kernel
theorem dX3_readFrom_17 : decode cX3_readFrom 17 = .ok (.getfield 11, 3) := by decide +kernel
theorem dX3_readFrom_20 : decode cX3_readFrom 20 = .ok (.iconst 0, 1) := by decide +kernel
theorem dX3_readFrom_21 : decode cX3_readFrom 21 = .ok (.sipush 293, 3) := by decide +kernel
theorem dX3_readFrom_24 : decode cX3_readFrom 24 = .ok (.invokestatic 18, 3) := by decide +kernel
theorem dX3_readFrom_27 : decode cX3_readFrom 27 = .ok (.return_, 1) := by decide +kernel
theorem dX4_init_0 : decode cX4_init 0 = .ok (.aload_n 0, 1) := by decide +kernel
theorem dX4_init_1 : decode cX4_init 1 = .ok (.invokespecial 1, 3) := by decide +kernel
theorem dX4_init_4 : decode cX4_init 4 = .ok (.aload_n 0, 1) := by decide +kernel
theorem dX4_init_5 : decode cX4_init 5 = .ok (.iconst 0, 1) := by decide +kernel
theorem dX4_init_6 : decode cX4_init 6 = .ok (.iload_n 1, 1) := by decide +kernel
theorem dX4_init_7 : decode cX4_init 7 = .ok (.invokestatic 7, 3) := by decide +kernel
theorem dX4_init_10 : decode cX4_init 10 = .ok (.sipush 293, 3) := by decide +kernel
theorem dX4_init_13 : decode cX4_init 13 = .ok (.imul, 1) := by decide +kernel
theorem dX4_init_14 : decode cX4_init 14 = .ok (.newarray .int, 2) := by decide +kernel
theorem dX4_init_16 : decode cX4_init 16 = .ok (.putfield 15, 3) := by decide +kernel
theorem dX4_init_19 : decode cX4_init 19 = .ok (.return_, 1) := by decide +kernel
theorem dX4_keep_0 : decode cX4_keep 0 = .ok (.aload_n 2, 1) := by decide +kernel
theorem dX4_keep_1 : decode cX4_keep 1 = .ok (.aload_n 0, 1) := by decide +kernel
theorem dX4_keep_2 : decode cX4_keep 2 = .ok (.getfield 15, 3) := by decide +kernel
theorem dX4_keep_5 : decode cX4_keep 5 = .ok (.iload_n 1, 1) := by decide +kernel
theorem dX4_keep_6 : decode cX4_keep 6 = .ok (.sipush 293, 3) := by decide +kernel
theorem dX4_keep_9 : decode cX4_keep 9 = .ok (.imul, 1) := by decide +kernel
theorem dX4_keep_10 : decode cX4_keep 10 = .ok (.invokevirtual 21, 3) := by decide +kernel
theorem dX4_keep_13 : decode cX4_keep 13 = .ok (.return_, 1) := by decide +kernel
theorem dX4_give_0 : decode cX4_give 0 = .ok (.aload_n 2, 1) := by decide +kernel
theorem dX4_give_1 : decode cX4_give 1 = .ok (.aload_n 0, 1) := by decide +kernel
theorem dX4_give_2 : decode cX4_give 2 = .ok (.getfield 15, 3) := by decide +kernel
theorem dX4_give_5 : decode cX4_give 5 = .ok (.iload_n 1, 1) := by decide +kernel
theorem dX4_give_6 : decode cX4_give 6 = .ok (.sipush 293, 3) := by decide +kernel
theorem dX4_give_9 : decode cX4_give 9 = .ok (.imul, 1) := by decide +kernel
theorem dX4_give_10 : decode cX4_give 10 = .ok (.invokevirtual 25, 3) := by decide +kernel
theorem dX4_give_13 : decode cX4_give 13 = .ok (.return_, 1) := by decide +kernel
theorem dX5_printsWith_0 : decode cX5_printsWith 0 = .ok (.aload_n 0, 1) := by decide +kernel
theorem dX5_printsWith_1 : decode cX5_printsWith 1 = .ok (.iload_n 1, 1) := by decide +kernel
theorem dX5_printsWith_2 : decode cX5_printsWith 2 = .ok (.iconst 2, 1) := by decide +kernel
theorem dX5_printsWith_3 : decode cX5_printsWith 3 = .ok (.iload_n 2, 1) := by decide +kernel
theorem dX5_printsWith_4 : decode cX5_printsWith 4 = .ok (.iadd, 1) := by decide +kernel
theorem dX5_printsWith_5 : decode cX5_printsWith 5 = .ok (.invokevirtual 11, 3) := by decide +kernel
theorem dX5_printsWith_8 : decode cX5_printsWith 8 = .ok (.istore 5, 2) := by decide +kernel
theorem dX5_printsWith_10 : decode cX5_printsWith 10 = .ok (.bipush 25, 2) := by decide +kernel
theorem dX5_printsWith_12 : decode cX5_printsWith 12 = .ok (.iload_n 3, 1) := by decide +kernel
theorem dX5_printsWith_13 : decode cX5_printsWith 13 = .ok (.iadd, 1) := by decide +kernel
theorem dX5_printsWith_14 : decode cX5_printsWith 14 = .ok (.iload 4, 2) := by decide +kernel
theorem dX5_printsWith_16 : decode cX5_printsWith 16 = .ok (.iadd, 1) := by decide +kernel
theorem dX5_printsWith_17 : decode cX5_printsWith 17 = .ok (.aload_n 0, 1) := by decide +kernel
theorem dX5_printsWith_18 : decode cX5_printsWith 18 = .ok (.iload_n 2, 1) := by decide +kernel
theorem dX5_printsWith_19 : decode cX5_printsWith 19 = .ok (.invokevirtual 15, 3) := by decide +kernel
theorem dX5_printsWith_22 : decode cX5_printsWith 22 = .ok (.isub, 1) := by decide +kernel
theorem dX5_printsWith_23 : decode cX5_printsWith 23 = .ok (.iload 5, 2) := by decide +kernel
theorem dX5_printsWith_25 : decode cX5_printsWith 25 = .ok (.isub, 1) := by decide +kernel
theorem dX5_printsWith_26 : decode cX5_printsWith 26 = .ok (.invokestatic 19, 3) := by decide +kernel
theorem dX5_printsWith_29 : decode cX5_printsWith 29 = .ok (.ireturn, 1) := by decide +kernel
theorem dX5_printsNow_0 : decode cX5_printsNow 0 = .ok (.aload_n 0, 1) := by decide +kernel
theorem dX5_printsNow_1 : decode cX5_printsNow 1 = .ok (.iload_n 1, 1) := by decide +kernel
theorem dX5_printsNow_2 : decode cX5_printsNow 2 = .ok (.bipush 8, 2) := by decide +kernel
theorem dX5_printsNow_4 : decode cX5_printsNow 4 = .ok (.iload_n 2, 1) := by decide +kernel
theorem dX5_printsNow_5 : decode cX5_printsNow 5 = .ok (.iadd, 1) := by decide +kernel
theorem dX5_printsNow_6 : decode cX5_printsNow 6 = .ok (.invokevirtual 11, 3) := by decide +kernel
theorem dX5_printsNow_9 : decode cX5_printsNow 9 = .ok (.istore_n 3, 1) := by decide +kernel
theorem dX5_printsNow_10 : decode cX5_printsNow 10 = .ok (.aload_n 0, 1) := by decide +kernel
theorem dX5_printsNow_11 : decode cX5_printsNow 11 = .ok (.iload_n 1, 1) := by decide +kernel
theorem dX5_printsNow_12 : decode cX5_printsNow 12 = .ok (.iload_n 2, 1) := by decide +kernel
theorem dX5_printsNow_13 : decode cX5_printsNow 13 = .ok (.iload_n 3, 1) := by decide +kernel
theorem dX5_printsNow_14 : decode cX5_printsNow 14 = .ok (.aload_n 0, 1) := by decide +kernel
theorem dX5_printsNow_15 : decode cX5_printsNow 15 = .ok (.bipush 7, 2) := by decide +kernel
theorem dX5_printsNow_17 : decode cX5_printsNow 17 = .ok (.iload_n 2, 1) := by decide +kernel
theorem dX5_printsNow_18 : decode cX5_printsNow 18 = .ok (.iadd, 1) := by decide +kernel
theorem dX5_printsNow_19 : decode cX5_printsNow 19 = .ok (.invokevirtual 22, 3) := by decide +kernel
theorem dX5_printsNow_22 : decode cX5_printsNow 22 = .ok (.invokestatic 25, 3) := by decide +kernel
theorem dX5_printsNow_25 : decode cX5_printsNow 25 = .ok (.ireturn, 1) := by decide +kernel
theorem dX5_offWith_0 : decode cX5_offWith 0 = .ok (.aload_n 0, 1) := by decide +kernel
theorem dX5_offWith_1 : decode cX5_offWith 1 = .ok (.iload_n 1, 1) := by decide +kernel
theorem dX5_offWith_2 : decode cX5_offWith 2 = .ok (.bipush 8, 2) := by decide +kernel
theorem dX5_offWith_4 : decode cX5_offWith 4 = .ok (.iload_n 2, 1) := by decide +kernel
theorem dX5_offWith_5 : decode cX5_offWith 5 = .ok (.iadd, 1) := by decide +kernel
theorem dX5_offWith_6 : decode cX5_offWith 6 = .ok (.invokevirtual 11, 3) := by decide +kernel
theorem dX5_offWith_9 : decode cX5_offWith 9 = .ok (.istore 4, 2) := by decide +kernel
theorem dX5_offWith_11 : decode cX5_offWith 11 = .ok (.aload_n 0, 1) := by decide +kernel
theorem dX5_offWith_12 : decode cX5_offWith 12 = .ok (.iload_n 1, 1) := by decide +kernel
theorem dX5_offWith_13 : decode cX5_offWith 13 = .ok (.iconst 5, 1) := by decide +kernel
theorem dX5_offWith_14 : decode cX5_offWith 14 = .ok (.iload_n 2, 1) := by decide +kernel
theorem dX5_offWith_15 : decode cX5_offWith 15 = .ok (.iadd, 1) := by decide +kernel
theorem dX5_offWith_16 : decode cX5_offWith 16 = .ok (.invokevirtual 11, 3) := by decide +kernel
theorem dX5_offWith_19 : decode cX5_offWith 19 = .ok (.istore 5, 2) := by decide +kernel
theorem dX5_offWith_21 : decode cX5_offWith 21 = .ok (.aload_n 0, 1) := by decide +kernel
theorem dX5_offWith_22 : decode cX5_offWith 22 = .ok (.iload_n 1, 1) := by decide +kernel
theorem dX5_offWith_23 : decode cX5_offWith 23 = .ok (.iload_n 2, 1) := by decide +kernel
theorem dX5_offWith_24 : decode cX5_offWith 24 = .ok (.iload 4, 2) := by decide +kernel
theorem dX5_offWith_26 : decode cX5_offWith 26 = .ok (.iload_n 3, 1) := by decide +kernel
theorem dX5_offWith_27 : decode cX5_offWith 27 = .ok (.invokestatic 25, 3) := by decide +kernel
theorem dX5_offWith_30 : decode cX5_offWith 30 = .ok (.bipush 25, 2) := by decide +kernel
theorem dX5_offWith_32 : decode cX5_offWith 32 = .ok (.isub, 1) := by decide +kernel
theorem dX5_offWith_33 : decode cX5_offWith 33 = .ok (.iload 5, 2) := by decide +kernel
theorem dX5_offWith_35 : decode cX5_offWith 35 = .ok (.isub, 1) := by decide +kernel
theorem dX5_offWith_36 : decode cX5_offWith 36 = .ok (.ireturn, 1) := by decide +kernel
theorem dX5_offNow_0 : decode cX5_offNow 0 = .ok (.aload_n 0, 1) := by decide +kernel
theorem dX5_offNow_1 : decode cX5_offNow 1 = .ok (.iload_n 1, 1) := by decide +kernel
theorem dX5_offNow_2 : decode cX5_offNow 2 = .ok (.iload_n 2, 1) := by decide +kernel
theorem dX5_offNow_3 : decode cX5_offNow 3 = .ok (.aload_n 0, 1) := by decide +kernel
theorem dX5_offNow_4 : decode cX5_offNow 4 = .ok (.bipush 7, 2) := by decide +kernel
theorem dX5_offNow_6 : decode cX5_offNow 6 = .ok (.iload_n 2, 1) := by decide +kernel
theorem dX5_offNow_7 : decode cX5_offNow 7 = .ok (.iadd, 1) := by decide +kernel
theorem dX5_offNow_8 : decode cX5_offNow 8 = .ok (.invokevirtual 22, 3) := by decide +kernel
theorem dX5_offNow_11 : decode cX5_offNow 11 = .ok (.invokestatic 31, 3) := by decide +kernel
theorem dX5_offNow_14 : decode cX5_offNow 14 = .ok (.ireturn, 1) := by decide +kernel
theorem dX5_feetBefore_0 : decode cX5_feetBefore 0 = .ok (.iconst 0, 1) := by decide +kernel
theorem dX5_feetBefore_1 : decode cX5_feetBefore 1 = .ok (.istore_n 2, 1) := by decide +kernel
theorem dX5_feetBefore_2 : decode cX5_feetBefore 2 = .ok (.iconst 0, 1) := by decide +kernel
theorem dX5_feetBefore_3 : decode cX5_feetBefore 3 = .ok (.istore_n 3, 1) := by decide +kernel
theorem dX5_feetBefore_4 : decode cX5_feetBefore 4 = .ok (.iload_n 3, 1) := by decide +kernel
theorem dX5_feetBefore_5 : decode cX5_feetBefore 5 = .ok (.iload_n 1, 1) := by decide +kernel
theorem dX5_feetBefore_6 : decode cX5_feetBefore 6 = .ok (.if_icmp .ge 24, 3) := by decide +kernel
theorem dX5_feetBefore_9 : decode cX5_feetBefore 9 = .ok (.iload_n 3, 1) := by decide +kernel
theorem dX5_feetBefore_10 : decode cX5_feetBefore 10 = .ok (.bipush 20, 2) := by decide +kernel
theorem dX5_feetBefore_12 : decode cX5_feetBefore 12 = .ok (.if_icmp .ge 18, 3) := by decide +kernel
theorem dX5_feetBefore_15 : decode cX5_feetBefore 15 = .ok (.iload_n 2, 1) := by decide +kernel
theorem dX5_feetBefore_16 : decode cX5_feetBefore 16 = .ok (.aload_n 0, 1) := by decide +kernel
theorem dX5_feetBefore_17 : decode cX5_feetBefore 17 = .ok (.iload_n 3, 1) := by decide +kernel
theorem dX5_feetBefore_18 : decode cX5_feetBefore 18 = .ok (.iconst 0, 1) := by decide +kernel
theorem dX5_feetBefore_19 : decode cX5_feetBefore 19 = .ok (.invokevirtual 11, 3) := by decide +kernel
theorem dX5_feetBefore_22 : decode cX5_feetBefore 22 = .ok (.iadd, 1) := by decide +kernel
theorem dX5_feetBefore_23 : decode cX5_feetBefore 23 = .ok (.istore_n 2, 1) := by decide +kernel
theorem dX5_feetBefore_24 : decode cX5_feetBefore 24 = .ok (.iinc 3 1, 3) := by decide +kernel
theorem dX5_feetBefore_27 : decode cX5_feetBefore 27 = .ok (.goto (-23), 3) := by decide +kernel
theorem dX5_feetBefore_30 : decode cX5_feetBefore 30 = .ok (.iload_n 2, 1) := by decide +kernel
theorem dX5_feetBefore_31 : decode cX5_feetBefore 31 = .ok (.ireturn, 1) := by decide +kernel
theorem dX5_isAnswered_0 : decode cX5_isAnswered 0 = .ok (.aload_n 0, 1) := by decide +kernel
theorem dX5_isAnswered_1 : decode cX5_isAnswered 1 = .ok (.iload_n 1, 1) := by decide +kernel
theorem dX5_isAnswered_2 : decode cX5_isAnswered 2 = .ok (.iconst 1, 1) := by decide +kernel
theorem dX5_isAnswered_3 : decode cX5_isAnswered 3 = .ok (.invokevirtual 11, 3) := by decide +kernel
theorem dX5_isAnswered_6 : decode cX5_isAnswered 6 = .ok (.ifCond .eq 7, 3) := by decide +kernel
theorem dX5_isAnswered_9 : decode cX5_isAnswered 9 = .ok (.iconst 1, 1) := by decide +kernel
theorem dX5_isAnswered_10 : decode cX5_isAnswered 10 = .ok (.goto 4, 3) := by decide +kernel
theorem dX5_isAnswered_13 : decode cX5_isAnswered 13 = .ok (.iconst 0, 1) := by decide +kernel
theorem dX5_isAnswered_14 : decode cX5_isAnswered 14 = .ok (.ireturn, 1) := by decide +kernel
theorem dX5_isBad_0 : decode cX5_isBad 0 = .ok (.iconst 0, 1) := by decide +kernel
theorem dX5_isBad_1 : decode cX5_isBad 1 = .ok (.istore_n 2, 1) := by decide +kernel
theorem dX5_isBad_2 : decode cX5_isBad 2 = .ok (.iconst 0, 1) := by decide +kernel
theorem dX5_isBad_3 : decode cX5_isBad 3 = .ok (.istore_n 3, 1) := by decide +kernel
theorem dX5_isBad_4 : decode cX5_isBad 4 = .ok (.iload_n 3, 1) := by decide +kernel
theorem dX5_isBad_5 : decode cX5_isBad 5 = .ok (.iconst 3, 1) := by decide +kernel
theorem dX5_isBad_6 : decode cX5_isBad 6 = .ok (.if_icmp .ge 26, 3) := by decide +kernel
theorem dX5_isBad_9 : decode cX5_isBad 9 = .ok (.iload_n 2, 1) := by decide +kernel
theorem dX5_isBad_10 : decode cX5_isBad 10 = .ok (.aload_n 0, 1) := by decide +kernel
theorem dX5_isBad_11 : decode cX5_isBad 11 = .ok (.iload_n 1, 1) := by decide +kernel
theorem dX5_isBad_12 : decode cX5_isBad 12 = .ok (.bipush 11, 2) := by decide +kernel
theorem dX5_isBad_14 : decode cX5_isBad 14 = .ok (.iload_n 3, 1) := by decide +kernel
theorem dX5_isBad_15 : decode cX5_isBad 15 = .ok (.iadd, 1) := by decide +kernel
theorem dX5_isBad_16 : decode cX5_isBad 16 = .ok (.invokevirtual 11, 3) := by decide +kernel
theorem dX5_isBad_19 : decode cX5_isBad 19 = .ok (.invokestatic 35, 3) := by decide +kernel
theorem dX5_isBad_22 : decode cX5_isBad 22 = .ok (.invokestatic 40, 3) := by decide +kernel
theorem dX5_isBad_25 : decode cX5_isBad 25 = .ok (.istore_n 2, 1) := by decide +kernel
theorem dX5_isBad_26 : decode cX5_isBad 26 = .ok (.iinc 3 1, 3) := by decide +kernel
theorem dX5_isBad_29 : decode cX5_isBad 29 = .ok (.goto (-25), 3) := by decide +kernel
theorem dX5_isBad_32 : decode cX5_isBad 32 = .ok (.aload_n 0, 1) := by decide +kernel
theorem dX5_isBad_33 : decode cX5_isBad 33 = .ok (.iload_n 1, 1) := by decide +kernel
theorem dX5_isBad_34 : decode cX5_isBad 34 = .ok (.invokestatic 43, 3) := by decide +kernel
theorem dX5_isBad_37 : decode cX5_isBad 37 = .ok (.ifCond .eq 16, 3) := by decide +kernel
theorem dX5_isBad_40 : decode cX5_isBad 40 = .ok (.iload_n 2, 1) := by decide +kernel
theorem dX5_isBad_41 : decode cX5_isBad 41 = .ok (.aload_n 0, 1) := by decide +kernel
theorem dX5_isBad_42 : decode cX5_isBad 42 = .ok (.iconst 1, 1) := by decide +kernel
theorem dX5_isBad_43 : decode cX5_isBad 43 = .ok (.invokevirtual 22, 3) := by decide +kernel
theorem dX5_isBad_46 : decode cX5_isBad 46 = .ok (.if_icmp .le 7, 3) := by decide +kernel
theorem dX5_isBad_49 : decode cX5_isBad 49 = .ok (.iconst 1, 1) := by decide +kernel
theorem dX5_isBad_50 : decode cX5_isBad 50 = .ok (.goto 4, 3) := by decide +kernel
theorem dX5_isBad_53 : decode cX5_isBad 53 = .ok (.iconst 0, 1) := by decide +kernel
theorem dX5_isBad_54 : decode cX5_isBad 54 = .ok (.ireturn, 1) := by decide +kernel
theorem dX5_isOff_0 : decode cX5_isOff 0 = .ok (.iconst 0, 1) := by decide +kernel
theorem dX5_isOff_1 : decode cX5_isOff 1 = .ok (.istore_n 2, 1) := by decide +kernel
theorem dX5_isOff_2 : decode cX5_isOff 2 = .ok (.iconst 0, 1) := by decide +kernel
theorem dX5_isOff_3 : decode cX5_isOff 3 = .ok (.istore_n 3, 1) := by decide +kernel
theorem dX5_isOff_4 : decode cX5_isOff 4 = .ok (.iload_n 3, 1) := by decide +kernel
theorem dX5_isOff_5 : decode cX5_isOff 5 = .ok (.iconst 3, 1) := by decide +kernel
theorem dX5_isOff_6 : decode cX5_isOff 6 = .ok (.if_icmp .ge 35, 3) := by decide +kernel
theorem dX5_isOff_9 : decode cX5_isOff 9 = .ok (.aload_n 0, 1) := by decide +kernel
theorem dX5_isOff_10 : decode cX5_isOff 10 = .ok (.bipush 7, 2) := by decide +kernel
theorem dX5_isOff_12 : decode cX5_isOff 12 = .ok (.iload_n 3, 1) := by decide +kernel
theorem dX5_isOff_13 : decode cX5_isOff 13 = .ok (.iadd, 1) := by decide +kernel
theorem dX5_isOff_14 : decode cX5_isOff 14 = .ok (.invokevirtual 22, 3) := by decide +kernel
theorem dX5_isOff_17 : decode cX5_isOff 17 = .ok (.istore 4, 2) := by decide +kernel
theorem dX5_isOff_19 : decode cX5_isOff 19 = .ok (.iload_n 2, 1) := by decide +kernel
theorem dX5_isOff_20 : decode cX5_isOff 20 = .ok (.aload_n 0, 1) := by decide +kernel
theorem dX5_isOff_21 : decode cX5_isOff 21 = .ok (.iload_n 1, 1) := by decide +kernel
theorem dX5_isOff_22 : decode cX5_isOff 22 = .ok (.iload_n 3, 1) := by decide +kernel
theorem dX5_isOff_23 : decode cX5_isOff 23 = .ok (.iload 4, 2) := by decide +kernel
theorem dX5_isOff_25 : decode cX5_isOff 25 = .ok (.invokestatic 31, 3) := by decide +kernel
theorem dX5_isOff_28 : decode cX5_isOff 28 = .ok (.invokestatic 35, 3) := by decide +kernel
theorem dX5_isOff_31 : decode cX5_isOff 31 = .ok (.invokestatic 40, 3) := by decide +kernel
theorem dX5_isOff_34 : decode cX5_isOff 34 = .ok (.istore_n 2, 1) := by decide +kernel
theorem dX5_isOff_35 : decode cX5_isOff 35 = .ok (.iinc 3 1, 3) := by decide +kernel
theorem dX5_isOff_38 : decode cX5_isOff 38 = .ok (.goto (-34), 3) := by decide +kernel
theorem dX5_isOff_41 : decode cX5_isOff 41 = .ok (.iload_n 2, 1) := by decide +kernel
theorem dX5_isOff_42 : decode cX5_isOff 42 = .ok (.aload_n 0, 1) := by decide +kernel
theorem dX5_isOff_43 : decode cX5_isOff 43 = .ok (.iconst 1, 1) := by decide +kernel
theorem dX5_isOff_44 : decode cX5_isOff 44 = .ok (.invokevirtual 22, 3) := by decide +kernel
theorem dX5_isOff_47 : decode cX5_isOff 47 = .ok (.if_icmp .le 7, 3) := by decide +kernel
theorem dX5_isOff_50 : decode cX5_isOff 50 = .ok (.iconst 1, 1) := by decide +kernel
theorem dX5_isOff_51 : decode cX5_isOff 51 = .ok (.goto 4, 3) := by decide +kernel
theorem dX5_isOff_54 : decode cX5_isOff 54 = .ok (.iconst 0, 1) := by decide +kernel
theorem dX5_isOff_55 : decode cX5_isOff 55 = .ok (.ireturn, 1) := by decide +kernel
theorem dX5_jumps_0 : decode cX5_jumps 0 = .ok (.aload_n 0, 1) := by decide +kernel
theorem dX5_jumps_1 : decode cX5_jumps 1 = .ok (.iload_n 1, 1) := by decide +kernel
theorem dX5_jumps_2 : decode cX5_jumps 2 = .ok (.iconst 1, 1) := by decide +kernel
theorem dX5_jumps_3 : decode cX5_jumps 3 = .ok (.iadd, 1) := by decide +kernel
theorem dX5_jumps_4 : decode cX5_jumps 4 = .ok (.invokevirtual 47, 3) := by decide +kernel
theorem dX5_jumps_7 : decode cX5_jumps 7 = .ok (.ifCond .ne 5, 3) := by decide +kernel
theorem dX5_jumps_10 : decode cX5_jumps 10 = .ok (.iconst 0, 1) := by decide +kernel
theorem dX5_jumps_11 : decode cX5_jumps 11 = .ok (.ireturn, 1) := by decide +kernel
theorem dX5_jumps_12 : decode cX5_jumps 12 = .ok (.iconst 0, 1) := by decide +kernel
theorem dX5_jumps_13 : decode cX5_jumps 13 = .ok (.istore_n 2, 1) := by decide +kernel
theorem dX5_jumps_14 : decode cX5_jumps 14 = .ok (.iconst 0, 1) := by decide +kernel
theorem dX5_jumps_15 : decode cX5_jumps 15 = .ok (.istore_n 3, 1) := by decide +kernel
theorem dX5_jumps_16 : decode cX5_jumps 16 = .ok (.iload_n 3, 1) := by decide +kernel
theorem dX5_jumps_17 : decode cX5_jumps 17 = .ok (.iconst 3, 1) := by decide +kernel
theorem dX5_jumps_18 : decode cX5_jumps 18 = .ok (.if_icmp .ge 36, 3) := by decide +kernel
theorem dX5_jumps_21 : decode cX5_jumps 21 = .ok (.aload_n 0, 1) := by decide +kernel
theorem dX5_jumps_22 : decode cX5_jumps 22 = .ok (.iload_n 1, 1) := by decide +kernel
theorem dX5_jumps_23 : decode cX5_jumps 23 = .ok (.iconst 1, 1) := by decide +kernel
theorem dX5_jumps_24 : decode cX5_jumps 24 = .ok (.iadd, 1) := by decide +kernel
theorem dX5_jumps_25 : decode cX5_jumps 25 = .ok (.iload_n 3, 1) := by decide +kernel
theorem dX5_jumps_26 : decode cX5_jumps 26 = .ok (.invokestatic 51, 3) := by decide +kernel
theorem dX5_jumps_29 : decode cX5_jumps 29 = .ok (.aload_n 0, 1) := by decide +kernel
theorem dX5_jumps_30 : decode cX5_jumps 30 = .ok (.iload_n 1, 1) := by decide +kernel
theorem dX5_jumps_31 : decode cX5_jumps 31 = .ok (.iload_n 3, 1) := by decide +kernel
theorem dX5_jumps_32 : decode cX5_jumps 32 = .ok (.invokestatic 51, 3) := by decide +kernel
theorem dX5_jumps_35 : decode cX5_jumps 35 = .ok (.isub, 1) := by decide +kernel
theorem dX5_jumps_36 : decode cX5_jumps 36 = .ok (.istore 4, 2) := by decide +kernel
theorem dX5_jumps_38 : decode cX5_jumps 38 = .ok (.iload_n 2, 1) := by decide +kernel
theorem dX5_jumps_39 : decode cX5_jumps 39 = .ok (.iload 4, 2) := by decide +kernel
theorem dX5_jumps_41 : decode cX5_jumps 41 = .ok (.invokestatic 35, 3) := by decide +kernel
theorem dX5_jumps_44 : decode cX5_jumps 44 = .ok (.invokestatic 40, 3) := by decide +kernel
theorem dX5_jumps_47 : decode cX5_jumps 47 = .ok (.istore_n 2, 1) := by decide +kernel
theorem dX5_jumps_48 : decode cX5_jumps 48 = .ok (.iinc 3 1, 3) := by decide +kernel
theorem dX5_jumps_51 : decode cX5_jumps 51 = .ok (.goto (-35), 3) := by decide +kernel
theorem dX5_jumps_54 : decode cX5_jumps 54 = .ok (.iload_n 2, 1) := by decide +kernel
theorem dX5_jumps_55 : decode cX5_jumps 55 = .ok (.aload_n 0, 1) := by decide +kernel
theorem dX5_jumps_56 : decode cX5_jumps 56 = .ok (.iconst 2, 1) := by decide +kernel
theorem dX5_jumps_57 : decode cX5_jumps 57 = .ok (.invokevirtual 22, 3) := by decide +kernel
theorem dX5_jumps_60 : decode cX5_jumps 60 = .ok (.if_icmp .le 7, 3) := by decide +kernel
theorem dX5_jumps_63 : decode cX5_jumps 63 = .ok (.iconst 1, 1) := by decide +kernel
theorem dX5_jumps_64 : decode cX5_jumps 64 = .ok (.goto 4, 3) := by decide +kernel
theorem dX5_jumps_67 : decode cX5_jumps 67 = .ok (.iconst 0, 1) := by decide +kernel
theorem dX5_jumps_68 : decode cX5_jumps 68 = .ok (.ireturn, 1) := by decide +kernel
theorem dX5_holds_0 : decode cX5_holds 0 = .ok (.iload_n 2, 1) := by decide +kernel
theorem dX5_holds_1 : decode cX5_holds 1 = .ok (.tableswitch 55 0 3 #[31, 37, 43, 49], 31) := by decide +kernel
theorem dX5_holds_32 : decode cX5_holds 32 = .ok (.aload_n 0, 1) := by decide +kernel
theorem dX5_holds_33 : decode cX5_holds 33 = .ok (.iload_n 1, 1) := by decide +kernel
theorem dX5_holds_34 : decode cX5_holds 34 = .ok (.invokestatic 43, 3) := by decide +kernel
theorem dX5_holds_37 : decode cX5_holds 37 = .ok (.ireturn, 1) := by decide +kernel
theorem dX5_holds_38 : decode cX5_holds 38 = .ok (.aload_n 0, 1) := by decide +kernel
theorem dX5_holds_39 : decode cX5_holds 39 = .ok (.iload_n 1, 1) := by decide +kernel
theorem dX5_holds_40 : decode cX5_holds 40 = .ok (.invokestatic 55, 3) := by decide +kernel
theorem dX5_holds_43 : decode cX5_holds 43 = .ok (.ireturn, 1) := by decide +kernel
theorem dX5_holds_44 : decode cX5_holds 44 = .ok (.aload_n 0, 1) := by decide +kernel
theorem dX5_holds_45 : decode cX5_holds 45 = .ok (.iload_n 1, 1) := by decide +kernel
theorem dX5_holds_46 : decode cX5_holds 46 = .ok (.invokestatic 58, 3) := by decide +kernel
theorem dX5_holds_49 : decode cX5_holds 49 = .ok (.ireturn, 1) := by decide +kernel
theorem dX5_holds_50 : decode cX5_holds 50 = .ok (.aload_n 0, 1) := by decide +kernel
theorem dX5_holds_51 : decode cX5_holds 51 = .ok (.iload_n 1, 1) := by decide +kernel
theorem dX5_holds_52 : decode cX5_holds 52 = .ok (.invokestatic 61, 3) := by decide +kernel
theorem dX5_holds_55 : decode cX5_holds 55 = .ok (.ireturn, 1) := by decide +kernel
theorem dX5_holds_56 : decode cX5_holds 56 = .ok (.iconst 0, 1) := by decide +kernel
theorem dX5_holds_57 : decode cX5_holds 57 = .ok (.ireturn, 1) := by decide +kernel
theorem dX5_setOf_0 : decode cX5_setOf 0 = .ok (.iconst 0, 1) := by decide +kernel
theorem dX5_setOf_1 : decode cX5_setOf 1 = .ok (.istore_n 2, 1) := by decide +kernel
theorem dX5_setOf_2 : decode cX5_setOf 2 = .ok (.iconst 0, 1) := by decide +kernel
theorem dX5_setOf_3 : decode cX5_setOf 3 = .ok (.istore_n 3, 1) := by decide +kernel
theorem dX5_setOf_4 : decode cX5_setOf 4 = .ok (.iload_n 3, 1) := by decide +kernel
theorem dX5_setOf_5 : decode cX5_setOf 5 = .ok (.aload_n 0, 1) := by decide +kernel
theorem dX5_setOf_6 : decode cX5_setOf 6 = .ok (.invokevirtual 64, 3) := by decide +kernel
theorem dX5_setOf_9 : decode cX5_setOf 9 = .ok (.if_icmp .ge 30, 3) := by decide +kernel
theorem dX5_setOf_12 : decode cX5_setOf 12 = .ok (.iload_n 3, 1) := by decide +kernel
theorem dX5_setOf_13 : decode cX5_setOf 13 = .ok (.bipush 20, 2) := by decide +kernel
theorem dX5_setOf_15 : decode cX5_setOf 15 = .ok (.if_icmp .ge 24, 3) := by decide +kernel
theorem dX5_setOf_18 : decode cX5_setOf 18 = .ok (.aload_n 0, 1) := by decide +kernel
theorem dX5_setOf_19 : decode cX5_setOf 19 = .ok (.iload_n 3, 1) := by decide +kernel
theorem dX5_setOf_20 : decode cX5_setOf 20 = .ok (.iload_n 1, 1) := by decide +kernel
theorem dX5_setOf_21 : decode cX5_setOf 21 = .ok (.invokestatic 68, 3) := by decide +kernel
theorem dX5_setOf_24 : decode cX5_setOf 24 = .ok (.ifCond .eq 9, 3) := by decide +kernel
theorem dX5_setOf_27 : decode cX5_setOf 27 = .ok (.iload_n 2, 1) := by decide +kernel
theorem dX5_setOf_28 : decode cX5_setOf 28 = .ok (.iconst 1, 1) := by decide +kernel
theorem dX5_setOf_29 : decode cX5_setOf 29 = .ok (.iload_n 3, 1) := by decide +kernel
theorem dX5_setOf_30 : decode cX5_setOf 30 = .ok (.ishl, 1) := by decide +kernel
theorem dX5_setOf_31 : decode cX5_setOf 31 = .ok (.ior, 1) := by decide +kernel
theorem dX5_setOf_32 : decode cX5_setOf 32 = .ok (.istore_n 2, 1) := by decide +kernel
theorem dX5_setOf_33 : decode cX5_setOf 33 = .ok (.iinc 3 1, 3) := by decide +kernel
theorem dX5_setOf_36 : decode cX5_setOf 36 = .ok (.goto (-32), 3) := by decide +kernel
theorem dX5_setOf_39 : decode cX5_setOf 39 = .ok (.iload_n 2, 1) := by decide +kernel
theorem dX5_setOf_40 : decode cX5_setOf 40 = .ok (.ireturn, 1) := by decide +kernel
theorem dX6_lightNeeded_0 : decode cX6_lightNeeded 0 = .ok (.aload_n 0, 1) := by decide +kernel
theorem dX6_lightNeeded_1 : decode cX6_lightNeeded 1 = .ok (.iload_n 1, 1) := by decide +kernel
theorem dX6_lightNeeded_2 : decode cX6_lightNeeded 2 = .ok (.iconst 2, 1) := by decide +kernel
theorem dX6_lightNeeded_3 : decode cX6_lightNeeded 3 = .ok (.iload_n 2, 1) := by decide +kernel
theorem dX6_lightNeeded_4 : decode cX6_lightNeeded 4 = .ok (.iadd, 1) := by decide +kernel
theorem dX6_lightNeeded_5 : decode cX6_lightNeeded 5 = .ok (.invokevirtual 11, 3) := by decide +kernel
theorem dX6_lightNeeded_8 : decode cX6_lightNeeded 8 = .ok (.istore 4, 2) := by decide +kernel
theorem dX6_lightNeeded_10 : decode cX6_lightNeeded 10 = .ok (.aload_n 0, 1) := by decide +kernel
theorem dX6_lightNeeded_11 : decode cX6_lightNeeded 11 = .ok (.iload_n 1, 1) := by decide +kernel
theorem dX6_lightNeeded_12 : decode cX6_lightNeeded 12 = .ok (.iconst 5, 1) := by decide +kernel
theorem dX6_lightNeeded_13 : decode cX6_lightNeeded 13 = .ok (.iload_n 2, 1) := by decide +kernel
theorem dX6_lightNeeded_14 : decode cX6_lightNeeded 14 = .ok (.iadd, 1) := by decide +kernel
theorem dX6_lightNeeded_15 : decode cX6_lightNeeded 15 = .ok (.invokevirtual 11, 3) := by decide +kernel
theorem dX6_lightNeeded_18 : decode cX6_lightNeeded 18 = .ok (.istore 5, 2) := by decide +kernel
theorem dX6_lightNeeded_20 : decode cX6_lightNeeded 20 = .ok (.iload 4, 2) := by decide +kernel
theorem dX6_lightNeeded_22 : decode cX6_lightNeeded 22 = .ok (.iload 5, 2) := by decide +kernel
theorem dX6_lightNeeded_24 : decode cX6_lightNeeded 24 = .ok (.iadd, 1) := by decide +kernel
theorem dX6_lightNeeded_25 : decode cX6_lightNeeded 25 = .ok (.iload_n 3, 1) := by decide +kernel
theorem dX6_lightNeeded_26 : decode cX6_lightNeeded 26 = .ok (.iadd, 1) := by decide +kernel
theorem dX6_lightNeeded_27 : decode cX6_lightNeeded 27 = .ok (.aload_n 0, 1) := by decide +kernel
theorem dX6_lightNeeded_28 : decode cX6_lightNeeded 28 = .ok (.bipush 7, 2) := by decide +kernel
theorem dX6_lightNeeded_30 : decode cX6_lightNeeded 30 = .ok (.iload_n 2, 1) := by decide +kernel
theorem dX6_lightNeeded_31 : decode cX6_lightNeeded 31 = .ok (.iadd, 1) := by decide +kernel
theorem dX6_lightNeeded_32 : decode cX6_lightNeeded 32 = .ok (.invokevirtual 15, 3) := by decide +kernel
theorem dX6_lightNeeded_35 : decode cX6_lightNeeded 35 = .ok (.isub, 1) := by decide +kernel
theorem dX6_lightNeeded_36 : decode cX6_lightNeeded 36 = .ok (.ireturn, 1) := by decide +kernel
theorem dX6_hoursLeft_0 : decode cX6_hoursLeft 0 = .ok (.aload_n 0, 1) := by decide +kernel
theorem dX6_hoursLeft_1 : decode cX6_hoursLeft 1 = .ok (.iconst 4, 1) := by decide +kernel
theorem dX6_hoursLeft_2 : decode cX6_hoursLeft 2 = .ok (.iload_n 1, 1) := by decide +kernel
theorem dX6_hoursLeft_3 : decode cX6_hoursLeft 3 = .ok (.iadd, 1) := by decide +kernel
theorem dX6_hoursLeft_4 : decode cX6_hoursLeft 4 = .ok (.invokevirtual 15, 3) := by decide +kernel
theorem dX6_hoursLeft_7 : decode cX6_hoursLeft 7 = .ok (.istore_n 2, 1) := by decide +kernel
theorem dX6_hoursLeft_8 : decode cX6_hoursLeft 8 = .ok (.aload_n 0, 1) := by decide +kernel
theorem dX6_hoursLeft_9 : decode cX6_hoursLeft 9 = .ok (.iconst 3, 1) := by decide +kernel
theorem dX6_hoursLeft_10 : decode cX6_hoursLeft 10 = .ok (.invokevirtual 15, 3) := by decide +kernel
theorem dX6_hoursLeft_13 : decode cX6_hoursLeft 13 = .ok (.istore_n 3, 1) := by decide +kernel
theorem dX6_hoursLeft_14 : decode cX6_hoursLeft 14 = .ok (.iconst 0, 1) := by decide +kernel
theorem dX6_hoursLeft_15 : decode cX6_hoursLeft 15 = .ok (.istore 4, 2) := by decide +kernel
theorem dX6_hoursLeft_17 : decode cX6_hoursLeft 17 = .ok (.iload 4, 2) := by decide +kernel
theorem dX6_hoursLeft_19 : decode cX6_hoursLeft 19 = .ok (.sipush 500, 3) := by decide +kernel
theorem dX6_hoursLeft_22 : decode cX6_hoursLeft 22 = .ok (.if_icmp .gt 29, 3) := by decide +kernel
theorem dX6_hoursLeft_25 : decode cX6_hoursLeft 25 = .ok (.aload_n 0, 1) := by decide +kernel
theorem dX6_hoursLeft_26 : decode cX6_hoursLeft 26 = .ok (.iload_n 1, 1) := by decide +kernel
theorem dX6_hoursLeft_27 : decode cX6_hoursLeft 27 = .ok (.iload_n 2, 1) := by decide +kernel
theorem dX6_hoursLeft_28 : decode cX6_hoursLeft 28 = .ok (.iload 4, 2) := by decide +kernel
theorem dX6_hoursLeft_30 : decode cX6_hoursLeft 30 = .ok (.iadd, 1) := by decide +kernel
theorem dX6_hoursLeft_31 : decode cX6_hoursLeft 31 = .ok (.iload_n 3, 1) := by decide +kernel
theorem dX6_hoursLeft_32 : decode cX6_hoursLeft 32 = .ok (.imul, 1) := by decide +kernel
theorem dX6_hoursLeft_33 : decode cX6_hoursLeft 33 = .ok (.bipush 100, 2) := by decide +kernel
theorem dX6_hoursLeft_35 : decode cX6_hoursLeft 35 = .ok (.idiv, 1) := by decide +kernel
theorem dX6_hoursLeft_36 : decode cX6_hoursLeft 36 = .ok (.invokestatic 21, 3) := by decide +kernel
theorem dX6_hoursLeft_39 : decode cX6_hoursLeft 39 = .ok (.ifCond .eq 6, 3) := by decide +kernel
theorem dX6_hoursLeft_42 : decode cX6_hoursLeft 42 = .ok (.iload 4, 2) := by decide +kernel
theorem dX6_hoursLeft_44 : decode cX6_hoursLeft 44 = .ok (.ireturn, 1) := by decide +kernel
theorem dX6_hoursLeft_45 : decode cX6_hoursLeft 45 = .ok (.iinc 4 1, 3) := by decide +kernel
theorem dX6_hoursLeft_48 : decode cX6_hoursLeft 48 = .ok (.goto (-31), 3) := by decide +kernel
theorem dX6_hoursLeft_51 : decode cX6_hoursLeft 51 = .ok (.bipush (-6), 2) := by decide +kernel
theorem dX6_hoursLeft_53 : decode cX6_hoursLeft 53 = .ok (.ireturn, 1) := by decide +kernel
theorem dX6_isSomeLightOut_0 : decode cX6_isSomeLightOut 0 = .ok (.iconst 0, 1) := by decide +kernel
theorem dX6_isSomeLightOut_1 : decode cX6_isSomeLightOut 1 = .ok (.istore_n 3, 1) := by decide +kernel
theorem dX6_isSomeLightOut_2 : decode cX6_isSomeLightOut 2 = .ok (.iload_n 3, 1) := by decide +kernel
theorem dX6_isSomeLightOut_3 : decode cX6_isSomeLightOut 3 = .ok (.aload_n 0, 1) := by decide +kernel
theorem dX6_isSomeLightOut_4 : decode cX6_isSomeLightOut 4 = .ok (.invokevirtual 25, 3) := by decide +kernel
theorem dX6_isSomeLightOut_7 : decode cX6_isSomeLightOut 7 = .ok (.if_icmp .ge 30, 3) := by decide +kernel
theorem dX6_isSomeLightOut_10 : decode cX6_isSomeLightOut 10 = .ok (.iload_n 3, 1) := by decide +kernel
theorem dX6_isSomeLightOut_11 : decode cX6_isSomeLightOut 11 = .ok (.bipush 20, 2) := by decide +kernel
theorem dX6_isSomeLightOut_13 : decode cX6_isSomeLightOut 13 = .ok (.if_icmp .ge 24, 3) := by decide +kernel
theorem dX6_isSomeLightOut_16 : decode cX6_isSomeLightOut 16 = .ok (.aload_n 0, 1) := by decide +kernel
theorem dX6_isSomeLightOut_17 : decode cX6_isSomeLightOut 17 = .ok (.iload_n 3, 1) := by decide +kernel
theorem dX6_isSomeLightOut_18 : decode cX6_isSomeLightOut 18 = .ok (.iload_n 1, 1) := by decide +kernel
theorem dX6_isSomeLightOut_19 : decode cX6_isSomeLightOut 19 = .ok (.iload_n 2, 1) := by decide +kernel
theorem dX6_isSomeLightOut_20 : decode cX6_isSomeLightOut 20 = .ok (.invokestatic 29, 3) := by decide +kernel
theorem dX6_isSomeLightOut_23 : decode cX6_isSomeLightOut 23 = .ok (.invokestatic 33, 3) := by decide +kernel
theorem dX6_isSomeLightOut_26 : decode cX6_isSomeLightOut 26 = .ok (.ifCond .ne 5, 3) := by decide +kernel
theorem dX6_isSomeLightOut_29 : decode cX6_isSomeLightOut 29 = .ok (.iconst 1, 1) := by decide +kernel
theorem dX6_isSomeLightOut_30 : decode cX6_isSomeLightOut 30 = .ok (.ireturn, 1) := by decide +kernel
theorem dX6_isSomeLightOut_31 : decode cX6_isSomeLightOut 31 = .ok (.iinc 3 1, 3) := by decide +kernel
theorem dX6_isSomeLightOut_34 : decode cX6_isSomeLightOut 34 = .ok (.goto (-32), 3) := by decide +kernel
theorem dX6_isSomeLightOut_37 : decode cX6_isSomeLightOut 37 = .ok (.iconst 0, 1) := by decide +kernel
theorem dX6_isSomeLightOut_38 : decode cX6_isSomeLightOut 38 = .ok (.ireturn, 1) := by decide +kernel
theorem dX6_leastOffTrim_0 : decode cX6_leastOffTrim 0 = .ok (.iconst 0, 1) := by decide +kernel
theorem dX6_leastOffTrim_1 : decode cX6_leastOffTrim 1 = .ok (.istore_n 2, 1) := by decide +kernel
theorem dX6_leastOffTrim_2 : decode cX6_leastOffTrim 2 = .ok (.aload_n 0, 1) := by decide +kernel
theorem dX6_leastOffTrim_3 : decode cX6_leastOffTrim 3 = .ok (.iload_n 1, 1) := by decide +kernel
theorem dX6_leastOffTrim_4 : decode cX6_leastOffTrim 4 = .ok (.iconst 0, 1) := by decide +kernel
theorem dX6_leastOffTrim_5 : decode cX6_leastOffTrim 5 = .ok (.invokestatic 37, 3) := by decide +kernel
theorem dX6_leastOffTrim_8 : decode cX6_leastOffTrim 8 = .ok (.istore_n 3, 1) := by decide +kernel
theorem dX6_leastOffTrim_9 : decode cX6_leastOffTrim 9 = .ok (.iconst 2, 1) := by decide +kernel
theorem dX6_leastOffTrim_10 : decode cX6_leastOffTrim 10 = .ok (.istore 4, 2) := by decide +kernel
theorem dX6_leastOffTrim_12 : decode cX6_leastOffTrim 12 = .ok (.iload 4, 2) := by decide +kernel
theorem dX6_leastOffTrim_14 : decode cX6_leastOffTrim 14 = .ok (.bipush 41, 2) := by decide +kernel
theorem dX6_leastOffTrim_16 : decode cX6_leastOffTrim 16 = .ok (.if_icmp .gt 51, 3) := by decide +kernel
theorem dX6_leastOffTrim_19 : decode cX6_leastOffTrim 19 = .ok (.iload 4, 2) := by decide +kernel
theorem dX6_leastOffTrim_21 : decode cX6_leastOffTrim 21 = .ok (.iconst 2, 1) := by decide +kernel
theorem dX6_leastOffTrim_22 : decode cX6_leastOffTrim 22 = .ok (.irem, 1) := by decide +kernel
theorem dX6_leastOffTrim_23 : decode cX6_leastOffTrim 23 = .ok (.ifCond .ne 10, 3) := by decide +kernel
theorem dX6_leastOffTrim_26 : decode cX6_leastOffTrim 26 = .ok (.iload 4, 2) := by decide +kernel
theorem dX6_leastOffTrim_28 : decode cX6_leastOffTrim 28 = .ok (.iconst 2, 1) := by decide +kernel
theorem dX6_leastOffTrim_29 : decode cX6_leastOffTrim 29 = .ok (.idiv, 1) := by decide +kernel
theorem dX6_leastOffTrim_30 : decode cX6_leastOffTrim 30 = .ok (.goto 8, 3) := by decide +kernel
theorem dX6_leastOffTrim_33 : decode cX6_leastOffTrim 33 = .ok (.iload 4, 2) := by decide +kernel
theorem dX6_leastOffTrim_35 : decode cX6_leastOffTrim 35 = .ok (.iconst 2, 1) := by decide +kernel
theorem dX6_leastOffTrim_36 : decode cX6_leastOffTrim 36 = .ok (.idiv, 1) := by decide +kernel
theorem dX6_leastOffTrim_37 : decode cX6_leastOffTrim 37 = .ok (.ineg, 1) := by decide +kernel
theorem dX6_leastOffTrim_38 : decode cX6_leastOffTrim 38 = .ok (.istore 5, 2) := by decide +kernel
theorem dX6_leastOffTrim_40 : decode cX6_leastOffTrim 40 = .ok (.aload_n 0, 1) := by decide +kernel
theorem dX6_leastOffTrim_41 : decode cX6_leastOffTrim 41 = .ok (.iload_n 1, 1) := by decide +kernel
theorem dX6_leastOffTrim_42 : decode cX6_leastOffTrim 42 = .ok (.iload 5, 2) := by decide +kernel
theorem dX6_leastOffTrim_44 : decode cX6_leastOffTrim 44 = .ok (.invokestatic 37, 3) := by decide +kernel
theorem dX6_leastOffTrim_47 : decode cX6_leastOffTrim 47 = .ok (.istore 6, 2) := by decide +kernel
theorem dX6_leastOffTrim_49 : decode cX6_leastOffTrim 49 = .ok (.iload 6, 2) := by decide +kernel
theorem dX6_leastOffTrim_51 : decode cX6_leastOffTrim 51 = .ok (.iload_n 3, 1) := by decide +kernel
theorem dX6_leastOffTrim_52 : decode cX6_leastOffTrim 52 = .ok (.if_icmp .ge 9, 3) := by decide +kernel
theorem dX6_leastOffTrim_55 : decode cX6_leastOffTrim 55 = .ok (.iload 6, 2) := by decide +kernel
theorem dX6_leastOffTrim_57 : decode cX6_leastOffTrim 57 = .ok (.istore_n 3, 1) := by decide +kernel
theorem dX6_leastOffTrim_58 : decode cX6_leastOffTrim 58 = .ok (.iload 5, 2) := by decide +kernel
theorem dX6_leastOffTrim_60 : decode cX6_leastOffTrim 60 = .ok (.istore_n 2, 1) := by decide +kernel
theorem dX6_leastOffTrim_61 : decode cX6_leastOffTrim 61 = .ok (.iinc 4 1, 3) := by decide +kernel
theorem dX6_leastOffTrim_64 : decode cX6_leastOffTrim 64 = .ok (.goto (-52), 3) := by decide +kernel
theorem dX6_leastOffTrim_67 : decode cX6_leastOffTrim 67 = .ok (.iload_n 2, 1) := by decide +kernel
theorem dX6_leastOffTrim_68 : decode cX6_leastOffTrim 68 = .ok (.ireturn, 1) := by decide +kernel
theorem dX6_offTogether_0 : decode cX6_offTogether 0 = .ok (.iconst 0, 1) := by decide +kernel
theorem dX6_offTogether_1 : decode cX6_offTogether 1 = .ok (.istore_n 3, 1) := by decide +kernel
theorem dX6_offTogether_2 : decode cX6_offTogether 2 = .ok (.iconst 0, 1) := by decide +kernel
theorem dX6_offTogether_3 : decode cX6_offTogether 3 = .ok (.istore 4, 2) := by decide +kernel
theorem dX6_offTogether_5 : decode cX6_offTogether 5 = .ok (.iload 4, 2) := by decide +kernel
theorem dX6_offTogether_7 : decode cX6_offTogether 7 = .ok (.aload_n 0, 1) := by decide +kernel
theorem dX6_offTogether_8 : decode cX6_offTogether 8 = .ok (.invokevirtual 25, 3) := by decide +kernel
theorem dX6_offTogether_11 : decode cX6_offTogether 11 = .ok (.if_icmp .ge 30, 3) := by decide +kernel
theorem dX6_offTogether_14 : decode cX6_offTogether 14 = .ok (.iload 4, 2) := by decide +kernel
theorem dX6_offTogether_16 : decode cX6_offTogether 16 = .ok (.bipush 20, 2) := by decide +kernel
theorem dX6_offTogether_18 : decode cX6_offTogether 18 = .ok (.if_icmp .ge 23, 3) := by decide +kernel
theorem dX6_offTogether_21 : decode cX6_offTogether 21 = .ok (.iload_n 3, 1) := by decide +kernel
theorem dX6_offTogether_22 : decode cX6_offTogether 22 = .ok (.aload_n 0, 1) := by decide +kernel
theorem dX6_offTogether_23 : decode cX6_offTogether 23 = .ok (.iload 4, 2) := by decide +kernel
theorem dX6_offTogether_25 : decode cX6_offTogether 25 = .ok (.iload_n 1, 1) := by decide +kernel
theorem dX6_offTogether_26 : decode cX6_offTogether 26 = .ok (.iload_n 2, 1) := by decide +kernel
theorem dX6_offTogether_27 : decode cX6_offTogether 27 = .ok (.invokestatic 41, 3) := by decide +kernel
theorem dX6_offTogether_30 : decode cX6_offTogether 30 = .ok (.invokestatic 46, 3) := by decide +kernel
theorem dX6_offTogether_33 : decode cX6_offTogether 33 = .ok (.iadd, 1) := by decide +kernel
theorem dX6_offTogether_34 : decode cX6_offTogether 34 = .ok (.istore_n 3, 1) := by decide +kernel
theorem dX6_offTogether_35 : decode cX6_offTogether 35 = .ok (.iinc 4 1, 3) := by decide +kernel
theorem dX6_offTogether_38 : decode cX6_offTogether 38 = .ok (.goto (-33), 3) := by decide +kernel
theorem dX6_offTogether_41 : decode cX6_offTogether 41 = .ok (.iload_n 3, 1) := by decide +kernel
theorem dX6_offTogether_42 : decode cX6_offTogether 42 = .ok (.ireturn, 1) := by decide +kernel
theorem dX6_printsUntilGood_0 : decode cX6_printsUntilGood 0 = .ok (.iconst 1, 1) := by decide +kernel
theorem dX6_printsUntilGood_1 : decode cX6_printsUntilGood 1 = .ok (.istore_n 1, 1) := by decide +kernel
theorem dX6_printsUntilGood_2 : decode cX6_printsUntilGood 2 = .ok (.iload_n 1, 1) := by decide +kernel
theorem dX6_printsUntilGood_3 : decode cX6_printsUntilGood 3 = .ok (.bipush 20, 2) := by decide +kernel
theorem dX6_printsUntilGood_5 : decode cX6_printsUntilGood 5 = .ok (.if_icmp .gt 23, 3) := by decide +kernel
theorem dX6_printsUntilGood_8 : decode cX6_printsUntilGood 8 = .ok (.aload_n 0, 1) := by decide +kernel
theorem dX6_printsUntilGood_9 : decode cX6_printsUntilGood 9 = .ok (.invokestatic 51, 3) := by decide +kernel
theorem dX6_printsUntilGood_12 : decode cX6_printsUntilGood 12 = .ok (.ifCond .ne 5, 3) := by decide +kernel
theorem dX6_printsUntilGood_15 : decode cX6_printsUntilGood 15 = .ok (.iload_n 1, 1) := by decide +kernel
theorem dX6_printsUntilGood_16 : decode cX6_printsUntilGood 16 = .ok (.ireturn, 1) := by decide +kernel
theorem dX6_printsUntilGood_17 : decode cX6_printsUntilGood 17 = .ok (.aload_n 0, 1) := by decide +kernel
theorem dX6_printsUntilGood_18 : decode cX6_printsUntilGood 18 = .ok (.invokestatic 57, 3) := by decide +kernel
theorem dX6_printsUntilGood_21 : decode cX6_printsUntilGood 21 = .ok (.pop, 1) := by decide +kernel
theorem dX6_printsUntilGood_22 : decode cX6_printsUntilGood 22 = .ok (.iinc 1 1, 3) := by decide +kernel
theorem dX6_printsUntilGood_25 : decode cX6_printsUntilGood 25 = .ok (.goto (-23), 3) := by decide +kernel
theorem dX6_printsUntilGood_28 : decode cX6_printsUntilGood 28 = .ok (.bipush (-6), 2) := by decide +kernel
theorem dX6_printsUntilGood_30 : decode cX6_printsUntilGood 30 = .ok (.ireturn, 1) := by decide +kernel
theorem dX7_init_0 : decode cX7_init 0 = .ok (.aload_n 0, 1) := by decide +kernel
theorem dX7_init_1 : decode cX7_init 1 = .ok (.invokespecial 1, 3) := by decide +kernel
theorem dX7_init_4 : decode cX7_init 4 = .ok (.aload_n 0, 1) := by decide +kernel
theorem dX7_init_5 : decode cX7_init 5 = .ok (.new 7, 3) := by decide +kernel
theorem dX7_init_8 : decode cX7_init 8 = .ok (.dup, 1) := by decide +kernel
theorem dX7_init_9 : decode cX7_init 9 = .ok (.invokespecial 9, 3) := by decide +kernel
theorem dX7_init_12 : decode cX7_init 12 = .ok (.putfield 10, 3) := by decide +kernel
theorem dX7_init_15 : decode cX7_init 15 = .ok (.aload_n 0, 1) := by decide +kernel
theorem dX7_init_16 : decode cX7_init 16 = .ok (.new 7, 3) := by decide +kernel
theorem dX7_init_19 : decode cX7_init 19 = .ok (.dup, 1) := by decide +kernel
theorem dX7_init_20 : decode cX7_init 20 = .ok (.invokespecial 9, 3) := by decide +kernel
theorem dX7_init_23 : decode cX7_init 23 = .ok (.putfield 16, 3) := by decide +kernel
theorem dX7_init_26 : decode cX7_init 26 = .ok (.aload_n 0, 1) := by decide +kernel
theorem dX7_init_27 : decode cX7_init 27 = .ok (.new 7, 3) := by decide +kernel
theorem dX7_init_30 : decode cX7_init 30 = .ok (.dup, 1) := by decide +kernel
theorem dX7_init_31 : decode cX7_init 31 = .ok (.invokespecial 9, 3) := by decide +kernel
theorem dX7_init_34 : decode cX7_init 34 = .ok (.putfield 19, 3) := by decide +kernel
theorem dX7_init_37 : decode cX7_init 37 = .ok (.aload_n 0, 1) := by decide +kernel
theorem dX7_init_38 : decode cX7_init 38 = .ok (.new 22, 3) := by decide +kernel
theorem dX7_init_41 : decode cX7_init 41 = .ok (.dup, 1) := by decide +kernel
theorem dX7_init_42 : decode cX7_init 42 = .ok (.invokespecial 24, 3) := by decide +kernel
theorem dX7_init_45 : decode cX7_init 45 = .ok (.putfield 25, 3) := by decide +kernel
theorem dX7_init_48 : decode cX7_init 48 = .ok (.aload_n 0, 1) := by decide +kernel
theorem dX7_init_49 : decode cX7_init 49 = .ok (.new 29, 3) := by decide +kernel
theorem dX7_init_52 : decode cX7_init 52 = .ok (.dup, 1) := by decide +kernel
theorem dX7_init_53 : decode cX7_init 53 = .ok (.invokespecial 31, 3) := by decide +kernel
theorem dX7_init_56 : decode cX7_init 56 = .ok (.putfield 32, 3) := by decide +kernel
theorem dX7_init_59 : decode cX7_init 59 = .ok (.aload_n 0, 1) := by decide +kernel
theorem dX7_init_60 : decode cX7_init 60 = .ok (.new 36, 3) := by decide +kernel
theorem dX7_init_63 : decode cX7_init 63 = .ok (.dup, 1) := by decide +kernel
theorem dX7_init_64 : decode cX7_init 64 = .ok (.iconst 2, 1) := by decide +kernel
theorem dX7_init_65 : decode cX7_init 65 = .ok (.invokespecial 38, 3) := by decide +kernel
theorem dX7_init_68 : decode cX7_init 68 = .ok (.putfield 41, 3) := by decide +kernel
theorem dX7_init_71 : decode cX7_init 71 = .ok (.return_, 1) := by decide +kernel
theorem dX7_set_0 : decode cX7_set 0 = .ok (.aload_n 0, 1) := by decide +kernel
theorem dX7_set_1 : decode cX7_set 1 = .ok (.getfield 16, 3) := by decide +kernel
theorem dX7_set_4 : decode cX7_set 4 = .ok (.aload_n 0, 1) := by decide +kernel
theorem dX7_set_5 : decode cX7_set 5 = .ok (.getfield 10, 3) := by decide +kernel
theorem dX7_set_8 : decode cX7_set 8 = .ok (.invokevirtual 45, 3) := by decide +kernel
theorem dX7_set_11 : decode cX7_set 11 = .ok (.aload_n 0, 1) := by decide +kernel
theorem dX7_set_12 : decode cX7_set 12 = .ok (.aload_n 0, 1) := by decide +kernel
theorem dX7_set_13 : decode cX7_set 13 = .ok (.getfield 10, 3) := by decide +kernel
theorem dX7_set_16 : decode cX7_set 16 = .ok (.iload_n 1, 1) := by decide +kernel
theorem dX7_set_17 : decode cX7_set 17 = .ok (.iload_n 2, 1) := by decide +kernel
theorem dX7_set_18 : decode cX7_set 18 = .ok (.invokestatic 49, 3) := by decide +kernel
theorem dX7_set_21 : decode cX7_set 21 = .ok (.invokevirtual 55, 3) := by decide +kernel
theorem dX7_set_24 : decode cX7_set 24 = .ok (.ireturn, 1) := by decide +kernel
theorem dX7_shot_0 : decode cX7_shot 0 = .ok (.aload_n 0, 1) := by decide +kernel
theorem dX7_shot_1 : decode cX7_shot 1 = .ok (.getfield 16, 3) := by decide +kernel
theorem dX7_shot_4 : decode cX7_shot 4 = .ok (.aload_n 0, 1) := by decide +kernel
theorem dX7_shot_5 : decode cX7_shot 5 = .ok (.getfield 10, 3) := by decide +kernel
theorem dX7_shot_8 : decode cX7_shot 8 = .ok (.invokevirtual 45, 3) := by decide +kernel
theorem dX7_shot_11 : decode cX7_shot 11 = .ok (.aload_n 0, 1) := by decide +kernel
theorem dX7_shot_12 : decode cX7_shot 12 = .ok (.aload_n 0, 1) := by decide +kernel
theorem dX7_shot_13 : decode cX7_shot 13 = .ok (.getfield 10, 3) := by decide +kernel
theorem dX7_shot_16 : decode cX7_shot 16 = .ok (.iload_n 1, 1) := by decide +kernel
theorem dX7_shot_17 : decode cX7_shot 17 = .ok (.iload_n 2, 1) := by decide +kernel
theorem dX7_shot_18 : decode cX7_shot 18 = .ok (.iload_n 3, 1) := by decide +kernel
theorem dX7_shot_19 : decode cX7_shot 19 = .ok (.iload 4, 2) := by decide +kernel
theorem dX7_shot_21 : decode cX7_shot 21 = .ok (.iload 5, 2) := by decide +kernel
theorem dX7_shot_23 : decode cX7_shot 23 = .ok (.invokestatic 59, 3) := by decide +kernel
theorem dX7_shot_26 : decode cX7_shot 26 = .ok (.invokevirtual 55, 3) := by decide +kernel
theorem dX7_shot_29 : decode cX7_shot 29 = .ok (.ireturn, 1) := by decide +kernel
theorem dX7_takeOut_0 : decode cX7_takeOut 0 = .ok (.aload_n 0, 1) := by decide +kernel
theorem dX7_takeOut_1 : decode cX7_takeOut 1 = .ok (.getfield 16, 3) := by decide +kernel
theorem dX7_takeOut_4 : decode cX7_takeOut 4 = .ok (.aload_n 0, 1) := by decide +kernel
theorem dX7_takeOut_5 : decode cX7_takeOut 5 = .ok (.getfield 10, 3) := by decide +kernel
theorem dX7_takeOut_8 : decode cX7_takeOut 8 = .ok (.invokevirtual 45, 3) := by decide +kernel
theorem dX7_takeOut_11 : decode cX7_takeOut 11 = .ok (.aload_n 0, 1) := by decide +kernel
theorem dX7_takeOut_12 : decode cX7_takeOut 12 = .ok (.aload_n 0, 1) := by decide +kernel
theorem dX7_takeOut_13 : decode cX7_takeOut 13 = .ok (.getfield 10, 3) := by decide +kernel
theorem dX7_takeOut_16 : decode cX7_takeOut 16 = .ok (.iload_n 1, 1) := by decide +kernel
theorem dX7_takeOut_17 : decode cX7_takeOut 17 = .ok (.invokestatic 63, 3) := by decide +kernel
theorem dX7_takeOut_20 : decode cX7_takeOut 20 = .ok (.invokevirtual 55, 3) := by decide +kernel
theorem dX7_takeOut_23 : decode cX7_takeOut 23 = .ok (.ireturn, 1) := by decide +kernel
theorem dX7_light_0 : decode cX7_light 0 = .ok (.aload_n 0, 1) := by decide +kernel
theorem dX7_light_1 : decode cX7_light 1 = .ok (.getfield 16, 3) := by decide +kernel
theorem dX7_light_4 : decode cX7_light 4 = .ok (.aload_n 0, 1) := by decide +kernel
theorem dX7_light_5 : decode cX7_light 5 = .ok (.getfield 10, 3) := by decide +kernel
theorem dX7_light_8 : decode cX7_light 8 = .ok (.invokevirtual 45, 3) := by decide +kernel
theorem dX7_light_11 : decode cX7_light 11 = .ok (.aload_n 0, 1) := by decide +kernel
theorem dX7_light_12 : decode cX7_light 12 = .ok (.aload_n 0, 1) := by decide +kernel
theorem dX7_light_13 : decode cX7_light 13 = .ok (.getfield 10, 3) := by decide +kernel
theorem dX7_light_16 : decode cX7_light 16 = .ok (.iload_n 1, 1) := by decide +kernel
theorem dX7_light_17 : decode cX7_light 17 = .ok (.iload_n 2, 1) := by decide +kernel
theorem dX7_light_18 : decode cX7_light 18 = .ok (.iload_n 3, 1) := by decide +kernel
theorem dX7_light_19 : decode cX7_light 19 = .ok (.invokestatic 67, 3) := by decide +kernel
theorem dX7_light_22 : decode cX7_light 22 = .ok (.invokevirtual 55, 3) := by decide +kernel
theorem dX7_light_25 : decode cX7_light 25 = .ok (.ireturn, 1) := by decide +kernel
theorem dX7_wish_0 : decode cX7_wish 0 = .ok (.aload_n 0, 1) := by decide +kernel
theorem dX7_wish_1 : decode cX7_wish 1 = .ok (.getfield 16, 3) := by decide +kernel
theorem dX7_wish_4 : decode cX7_wish 4 = .ok (.aload_n 0, 1) := by decide +kernel
theorem dX7_wish_5 : decode cX7_wish 5 = .ok (.getfield 10, 3) := by decide +kernel
theorem dX7_wish_8 : decode cX7_wish 8 = .ok (.invokevirtual 45, 3) := by decide +kernel
theorem dX7_wish_11 : decode cX7_wish 11 = .ok (.aload_n 0, 1) := by decide +kernel
theorem dX7_wish_12 : decode cX7_wish 12 = .ok (.aload_n 0, 1) := by decide +kernel
theorem dX7_wish_13 : decode cX7_wish 13 = .ok (.getfield 10, 3) := by decide +kernel
theorem dX7_wish_16 : decode cX7_wish 16 = .ok (.iload_n 1, 1) := by decide +kernel
theorem dX7_wish_17 : decode cX7_wish 17 = .ok (.iload_n 2, 1) := by decide +kernel
theorem dX7_wish_18 : decode cX7_wish 18 = .ok (.iload_n 3, 1) := by decide +kernel
theorem dX7_wish_19 : decode cX7_wish 19 = .ok (.invokestatic 71, 3) := by decide +kernel
theorem dX7_wish_22 : decode cX7_wish 22 = .ok (.invokevirtual 55, 3) := by decide +kernel
theorem dX7_wish_25 : decode cX7_wish 25 = .ok (.ireturn, 1) := by decide +kernel
theorem dX7_move_0 : decode cX7_move 0 = .ok (.aload_n 0, 1) := by decide +kernel
theorem dX7_move_1 : decode cX7_move 1 = .ok (.getfield 16, 3) := by decide +kernel
theorem dX7_move_4 : decode cX7_move 4 = .ok (.aload_n 0, 1) := by decide +kernel
theorem dX7_move_5 : decode cX7_move 5 = .ok (.getfield 10, 3) := by decide +kernel
theorem dX7_move_8 : decode cX7_move 8 = .ok (.invokevirtual 45, 3) := by decide +kernel
theorem dX7_move_11 : decode cX7_move 11 = .ok (.aload_n 0, 1) := by decide +kernel
theorem dX7_move_12 : decode cX7_move 12 = .ok (.aload_n 0, 1) := by decide +kernel
theorem dX7_move_13 : decode cX7_move 13 = .ok (.getfield 10, 3) := by decide +kernel
theorem dX7_move_16 : decode cX7_move 16 = .ok (.iload_n 1, 1) := by decide +kernel
theorem dX7_move_17 : decode cX7_move 17 = .ok (.iload_n 2, 1) := by decide +kernel
theorem dX7_move_18 : decode cX7_move 18 = .ok (.invokestatic 74, 3) := by decide +kernel
theorem dX7_move_21 : decode cX7_move 21 = .ok (.invokevirtual 55, 3) := by decide +kernel
theorem dX7_move_24 : decode cX7_move 24 = .ok (.ireturn, 1) := by decide +kernel
theorem dX7_split_0 : decode cX7_split 0 = .ok (.aload_n 0, 1) := by decide +kernel
theorem dX7_split_1 : decode cX7_split 1 = .ok (.getfield 16, 3) := by decide +kernel
theorem dX7_split_4 : decode cX7_split 4 = .ok (.aload_n 0, 1) := by decide +kernel
theorem dX7_split_5 : decode cX7_split 5 = .ok (.getfield 10, 3) := by decide +kernel
theorem dX7_split_8 : decode cX7_split 8 = .ok (.invokevirtual 45, 3) := by decide +kernel
theorem dX7_split_11 : decode cX7_split 11 = .ok (.aload_n 0, 1) := by decide +kernel
theorem dX7_split_12 : decode cX7_split 12 = .ok (.aload_n 0, 1) := by decide +kernel
theorem dX7_split_13 : decode cX7_split 13 = .ok (.getfield 10, 3) := by decide +kernel
theorem dX7_split_16 : decode cX7_split 16 = .ok (.iload_n 1, 1) := by decide +kernel
theorem dX7_split_17 : decode cX7_split 17 = .ok (.iload_n 2, 1) := by decide +kernel
theorem dX7_split_18 : decode cX7_split 18 = .ok (.invokestatic 77, 3) := by decide +kernel
theorem dX7_split_21 : decode cX7_split 21 = .ok (.invokevirtual 55, 3) := by decide +kernel
theorem dX7_split_24 : decode cX7_split 24 = .ok (.ireturn, 1) := by decide +kernel
theorem dX7_join_0 : decode cX7_join 0 = .ok (.aload_n 0, 1) := by decide +kernel
theorem dX7_join_1 : decode cX7_join 1 = .ok (.getfield 16, 3) := by decide +kernel
theorem dX7_join_4 : decode cX7_join 4 = .ok (.aload_n 0, 1) := by decide +kernel
theorem dX7_join_5 : decode cX7_join 5 = .ok (.getfield 10, 3) := by decide +kernel
theorem dX7_join_8 : decode cX7_join 8 = .ok (.invokevirtual 45, 3) := by decide +kernel
theorem dX7_join_11 : decode cX7_join 11 = .ok (.aload_n 0, 1) := by decide +kernel
theorem dX7_join_12 : decode cX7_join 12 = .ok (.aload_n 0, 1) := by decide +kernel
theorem dX7_join_13 : decode cX7_join 13 = .ok (.getfield 10, 3) := by decide +kernel
theorem dX7_join_16 : decode cX7_join 16 = .ok (.iload_n 1, 1) := by decide +kernel
theorem dX7_join_17 : decode cX7_join 17 = .ok (.invokestatic 80, 3) := by decide +kernel
theorem dX7_join_20 : decode cX7_join 20 = .ok (.invokevirtual 55, 3) := by decide +kernel
theorem dX7_join_23 : decode cX7_join 23 = .ok (.ireturn, 1) := by decide +kernel
theorem dX7_print_0 : decode cX7_print 0 = .ok (.aload_n 0, 1) := by decide +kernel
theorem dX7_print_1 : decode cX7_print 1 = .ok (.getfield 16, 3) := by decide +kernel
theorem dX7_print_4 : decode cX7_print 4 = .ok (.aload_n 0, 1) := by decide +kernel
theorem dX7_print_5 : decode cX7_print 5 = .ok (.getfield 10, 3) := by decide +kernel
theorem dX7_print_8 : decode cX7_print 8 = .ok (.invokevirtual 45, 3) := by decide +kernel
theorem dX7_print_11 : decode cX7_print 11 = .ok (.aload_n 0, 1) := by decide +kernel
theorem dX7_print_12 : decode cX7_print 12 = .ok (.aload_n 0, 1) := by decide +kernel
theorem dX7_print_13 : decode cX7_print 13 = .ok (.getfield 10, 3) := by decide +kernel
theorem dX7_print_16 : decode cX7_print 16 = .ok (.invokestatic 83, 3) := by decide +kernel
theorem dX7_print_19 : decode cX7_print 19 = .ok (.invokevirtual 55, 3) := by decide +kernel
theorem dX7_print_22 : decode cX7_print 22 = .ok (.ireturn, 1) := by decide +kernel
theorem dX7_correct_0 : decode cX7_correct 0 = .ok (.aload_n 0, 1) := by decide +kernel
theorem dX7_correct_1 : decode cX7_correct 1 = .ok (.getfield 16, 3) := by decide +kernel
theorem dX7_correct_4 : decode cX7_correct 4 = .ok (.aload_n 0, 1) := by decide +kernel
theorem dX7_correct_5 : decode cX7_correct 5 = .ok (.getfield 10, 3) := by decide +kernel
theorem dX7_correct_8 : decode cX7_correct 8 = .ok (.invokevirtual 45, 3) := by decide +kernel
theorem dX7_correct_11 : decode cX7_correct 11 = .ok (.aload_n 0, 1) := by decide +kernel
theorem dX7_correct_12 : decode cX7_correct 12 = .ok (.aload_n 0, 1) := by decide +kernel
theorem dX7_correct_13 : decode cX7_correct 13 = .ok (.getfield 10, 3) := by decide +kernel
theorem dX7_correct_16 : decode cX7_correct 16 = .ok (.iload_n 1, 1) := by decide +kernel
theorem dX7_correct_17 : decode cX7_correct 17 = .ok (.invokestatic 87, 3) := by decide +kernel
theorem dX7_correct_20 : decode cX7_correct 20 = .ok (.invokevirtual 55, 3) := by decide +kernel
theorem dX7_correct_23 : decode cX7_correct 23 = .ok (.ireturn, 1) := by decide +kernel
theorem dX7_correctAll_0 : decode cX7_correctAll 0 = .ok (.aload_n 0, 1) := by decide +kernel
theorem dX7_correctAll_1 : decode cX7_correctAll 1 = .ok (.getfield 16, 3) := by decide +kernel
theorem dX7_correctAll_4 : decode cX7_correctAll 4 = .ok (.aload_n 0, 1) := by decide +kernel
theorem dX7_correctAll_5 : decode cX7_correctAll 5 = .ok (.getfield 10, 3) := by decide +kernel
theorem dX7_correctAll_8 : decode cX7_correctAll 8 = .ok (.invokevirtual 45, 3) := by decide +kernel
theorem dX7_correctAll_11 : decode cX7_correctAll 11 = .ok (.aload_n 0, 1) := by decide +kernel
theorem dX7_correctAll_12 : decode cX7_correctAll 12 = .ok (.aload_n 0, 1) := by decide +kernel
theorem dX7_correctAll_13 : decode cX7_correctAll 13 = .ok (.getfield 10, 3) := by decide +kernel
theorem dX7_correctAll_16 : decode cX7_correctAll 16 = .ok (.invokestatic 90, 3) := by decide +kernel
theorem dX7_correctAll_19 : decode cX7_correctAll 19 = .ok (.invokevirtual 55, 3) := by decide +kernel
theorem dX7_correctAll_22 : decode cX7_correctAll 22 = .ok (.ireturn, 1) := by decide +kernel
theorem dX7_card_0 : decode cX7_card 0 = .ok (.aload_n 0, 1) := by decide +kernel
theorem dX7_card_1 : decode cX7_card 1 = .ok (.getfield 16, 3) := by decide +kernel
theorem dX7_card_4 : decode cX7_card 4 = .ok (.aload_n 0, 1) := by decide +kernel
theorem dX7_card_5 : decode cX7_card 5 = .ok (.getfield 10, 3) := by decide +kernel
theorem dX7_card_8 : decode cX7_card 8 = .ok (.invokevirtual 45, 3) := by decide +kernel
theorem dX7_card_11 : decode cX7_card 11 = .ok (.aload_n 0, 1) := by decide +kernel
theorem dX7_card_12 : decode cX7_card 12 = .ok (.aload_n 0, 1) := by decide +kernel
theorem dX7_card_13 : decode cX7_card 13 = .ok (.getfield 10, 3) := by decide +kernel
theorem dX7_card_16 : decode cX7_card 16 = .ok (.invokestatic 93, 3) := by decide +kernel
theorem dX7_card_19 : decode cX7_card 19 = .ok (.invokevirtual 55, 3) := by decide +kernel
theorem dX7_card_22 : decode cX7_card 22 = .ok (.ireturn, 1) := by decide +kernel
theorem dX7_trim_0 : decode cX7_trim 0 = .ok (.aload_n 0, 1) := by decide +kernel
theorem dX7_trim_1 : decode cX7_trim 1 = .ok (.getfield 16, 3) := by decide +kernel
theorem dX7_trim_4 : decode cX7_trim 4 = .ok (.aload_n 0, 1) := by decide +kernel
theorem dX7_trim_5 : decode cX7_trim 5 = .ok (.getfield 10, 3) := by decide +kernel
theorem dX7_trim_8 : decode cX7_trim 8 = .ok (.invokevirtual 45, 3) := by decide +kernel
theorem dX7_trim_11 : decode cX7_trim 11 = .ok (.aload_n 0, 1) := by decide +kernel
theorem dX7_trim_12 : decode cX7_trim 12 = .ok (.aload_n 0, 1) := by decide +kernel
theorem dX7_trim_13 : decode cX7_trim 13 = .ok (.getfield 10, 3) := by decide +kernel
theorem dX7_trim_16 : decode cX7_trim 16 = .ok (.iload_n 1, 1) := by decide +kernel
theorem dX7_trim_17 : decode cX7_trim 17 = .ok (.iload_n 2, 1) := by decide +kernel
theorem dX7_trim_18 : decode cX7_trim 18 = .ok (.invokestatic 96, 3) := by decide +kernel
theorem dX7_trim_21 : decode cX7_trim 21 = .ok (.invokevirtual 55, 3) := by decide +kernel
theorem dX7_trim_24 : decode cX7_trim 24 = .ok (.ireturn, 1) := by decide +kernel
theorem dX7_lamp_0 : decode cX7_lamp 0 = .ok (.aload_n 0, 1) := by decide +kernel
theorem dX7_lamp_1 : decode cX7_lamp 1 = .ok (.getfield 16, 3) := by decide +kernel
theorem dX7_lamp_4 : decode cX7_lamp 4 = .ok (.aload_n 0, 1) := by decide +kernel
theorem dX7_lamp_5 : decode cX7_lamp 5 = .ok (.getfield 10, 3) := by decide +kernel
theorem dX7_lamp_8 : decode cX7_lamp 8 = .ok (.invokevirtual 45, 3) := by decide +kernel
theorem dX7_lamp_11 : decode cX7_lamp 11 = .ok (.aload_n 0, 1) := by decide +kernel
theorem dX7_lamp_12 : decode cX7_lamp 12 = .ok (.aload_n 0, 1) := by decide +kernel
theorem dX7_lamp_13 : decode cX7_lamp 13 = .ok (.getfield 10, 3) := by decide +kernel
theorem dX7_lamp_16 : decode cX7_lamp 16 = .ok (.iload_n 1, 1) := by decide +kernel
theorem dX7_lamp_17 : decode cX7_lamp 17 = .ok (.invokestatic 99, 3) := by decide +kernel
theorem dX7_lamp_20 : decode cX7_lamp 20 = .ok (.invokevirtual 55, 3) := by decide +kernel
theorem dX7_lamp_23 : decode cX7_lamp 23 = .ok (.ireturn, 1) := by decide +kernel
theorem dX7_of_0 : decode cX7_of 0 = .ok (.aload_n 0, 1) := by decide +kernel
theorem dX7_of_1 : decode cX7_of 1 = .ok (.getfield 10, 3) := by decide +kernel
theorem dX7_of_4 : decode cX7_of 4 = .ok (.iload_n 1, 1) := by decide +kernel
theorem dX7_of_5 : decode cX7_of 5 = .ok (.invokevirtual 102, 3) := by decide +kernel
theorem dX7_of_8 : decode cX7_of 8 = .ok (.ifCond .ne 5, 3) := by decide +kernel
theorem dX7_of_11 : decode cX7_of 11 = .ok (.iconst (-1), 1) := by decide +kernel
theorem dX7_of_12 : decode cX7_of 12 = .ok (.ireturn, 1) := by decide +kernel
theorem dX7_of_13 : decode cX7_of 13 = .ok (.iload_n 2, 1) := by decide +kernel
theorem dX7_of_14 : decode cX7_of 14 = .ok (.tableswitch 104 0 4 #[34, 44, 53, 70, 87], 34) := by decide +kernel
theorem dX7_of_48 : decode cX7_of 48 = .ok (.aload_n 0, 1) := by decide +kernel
theorem dX7_of_49 : decode cX7_of 49 = .ok (.getfield 10, 3) := by decide +kernel
theorem dX7_of_52 : decode cX7_of 52 = .ok (.iload_n 1, 1) := by decide +kernel
theorem dX7_of_53 : decode cX7_of 53 = .ok (.iconst 0, 1) := by decide +kernel
theorem dX7_of_54 : decode cX7_of 54 = .ok (.invokevirtual 106, 3) := by decide +kernel
theorem dX7_of_57 : decode cX7_of 57 = .ok (.ireturn, 1) := by decide +kernel
theorem dX7_of_58 : decode cX7_of 58 = .ok (.aload_n 0, 1) := by decide +kernel
theorem dX7_of_59 : decode cX7_of 59 = .ok (.getfield 10, 3) := by decide +kernel
theorem dX7_of_62 : decode cX7_of 62 = .ok (.iload_n 1, 1) := by decide +kernel
theorem dX7_of_63 : decode cX7_of 63 = .ok (.invokestatic 110, 3) := by decide +kernel
theorem dX7_of_66 : decode cX7_of 66 = .ok (.ireturn, 1) := by decide +kernel
theorem dX7_of_67 : decode cX7_of 67 = .ok (.aload_n 0, 1) := by decide +kernel
theorem dX7_of_68 : decode cX7_of 68 = .ok (.getfield 10, 3) := by decide +kernel
theorem dX7_of_71 : decode cX7_of 71 = .ok (.iload_n 1, 1) := by decide +kernel
theorem dX7_of_72 : decode cX7_of 72 = .ok (.invokestatic 115, 3) := by decide +kernel
theorem dX7_of_75 : decode cX7_of 75 = .ok (.ifCond .eq 7, 3) := by decide +kernel
theorem dX7_of_78 : decode cX7_of 78 = .ok (.iconst 1, 1) := by decide +kernel
theorem dX7_of_79 : decode cX7_of 79 = .ok (.goto 4, 3) := by decide +kernel
theorem dX7_of_82 : decode cX7_of 82 = .ok (.iconst 0, 1) := by decide +kernel
theorem dX7_of_83 : decode cX7_of 83 = .ok (.ireturn, 1) := by decide +kernel
theorem dX7_of_84 : decode cX7_of 84 = .ok (.aload_n 0, 1) := by decide +kernel
theorem dX7_of_85 : decode cX7_of 85 = .ok (.getfield 10, 3) := by decide +kernel
theorem dX7_of_88 : decode cX7_of 88 = .ok (.iload_n 1, 1) := by decide +kernel
theorem dX7_of_89 : decode cX7_of 89 = .ok (.invokestatic 119, 3) := by decide +kernel
theorem dX7_of_92 : decode cX7_of 92 = .ok (.ifCond .eq 7, 3) := by decide +kernel
theorem dX7_of_95 : decode cX7_of 95 = .ok (.iconst 1, 1) := by decide +kernel
theorem dX7_of_96 : decode cX7_of 96 = .ok (.goto 4, 3) := by decide +kernel
theorem dX7_of_99 : decode cX7_of 99 = .ok (.iconst 0, 1) := by decide +kernel
theorem dX7_of_100 : decode cX7_of 100 = .ok (.ireturn, 1) := by decide +kernel
theorem dX7_of_101 : decode cX7_of 101 = .ok (.aload_n 0, 1) := by decide +kernel
theorem dX7_of_102 : decode cX7_of 102 = .ok (.getfield 10, 3) := by decide +kernel
theorem dX7_of_105 : decode cX7_of 105 = .ok (.iload_n 1, 1) := by decide +kernel
theorem dX7_of_106 : decode cX7_of 106 = .ok (.invokestatic 122, 3) := by decide +kernel
theorem dX7_of_109 : decode cX7_of 109 = .ok (.ifCond .eq 7, 3) := by decide +kernel
theorem dX7_of_112 : decode cX7_of 112 = .ok (.iconst 1, 1) := by decide +kernel
theorem dX7_of_113 : decode cX7_of 113 = .ok (.goto 4, 3) := by decide +kernel
theorem dX7_of_116 : decode cX7_of 116 = .ok (.iconst 0, 1) := by decide +kernel
theorem dX7_of_117 : decode cX7_of 117 = .ok (.ireturn, 1) := by decide +kernel
theorem dX7_of_118 : decode cX7_of 118 = .ok (.bipush (-2), 2) := by decide +kernel
theorem dX7_of_120 : decode cX7_of 120 = .ok (.ireturn, 1) := by decide +kernel
theorem dX7_inColour_0 : decode cX7_inColour 0 = .ok (.aload_n 0, 1) := by decide +kernel
theorem dX7_inColour_1 : decode cX7_inColour 1 = .ok (.getfield 10, 3) := by decide +kernel
theorem dX7_inColour_4 : decode cX7_inColour 4 = .ok (.iload_n 1, 1) := by decide +kernel
theorem dX7_inColour_5 : decode cX7_inColour 5 = .ok (.invokevirtual 102, 3) := by decide +kernel
theorem dX7_inColour_8 : decode cX7_inColour 8 = .ok (.ifCond .ne 5, 3) := by decide +kernel
theorem dX7_inColour_11 : decode cX7_inColour 11 = .ok (.iconst (-1), 1) := by decide +kernel
theorem dX7_inColour_12 : decode cX7_inColour 12 = .ok (.ireturn, 1) := by decide +kernel
theorem dX7_inColour_13 : decode cX7_inColour 13 = .ok (.iload_n 2, 1) := by decide +kernel
theorem dX7_inColour_14 : decode cX7_inColour 14 = .ok (.invokestatic 125, 3) := by decide +kernel
theorem dX7_inColour_17 : decode cX7_inColour 17 = .ok (.ifCond .ne 6, 3) := by decide +kernel
theorem dX7_inColour_20 : decode cX7_inColour 20 = .ok (.bipush (-2), 2) := by decide +kernel
theorem dX7_inColour_22 : decode cX7_inColour 22 = .ok (.ireturn, 1) := by decide +kernel
theorem dX7_inColour_23 : decode cX7_inColour 23 = .ok (.iload_n 3, 1) := by decide +kernel
theorem dX7_inColour_24 : decode cX7_inColour 24 = .ok (.tableswitch 135 0 5 #[40, 52, 67, 80, 90, 103], 40) := by decide +kernel
theorem dX7_inColour_64 : decode cX7_inColour 64 = .ok (.aload_n 0, 1) := by decide +kernel
theorem dX7_inColour_65 : decode cX7_inColour 65 = .ok (.getfield 10, 3) := by decide +kernel
theorem dX7_inColour_68 : decode cX7_inColour 68 = .ok (.iload_n 1, 1) := by decide +kernel
theorem dX7_inColour_69 : decode cX7_inColour 69 = .ok (.iconst 2, 1) := by decide +kernel
theorem dX7_inColour_70 : decode cX7_inColour 70 = .ok (.iload_n 2, 1) := by decide +kernel
theorem dX7_inColour_71 : decode cX7_inColour 71 = .ok (.iadd, 1) := by decide +kernel
theorem dX7_inColour_72 : decode cX7_inColour 72 = .ok (.invokevirtual 106, 3) := by decide +kernel
theorem dX7_inColour_75 : decode cX7_inColour 75 = .ok (.ireturn, 1) := by decide +kernel
theorem dX7_inColour_76 : decode cX7_inColour 76 = .ok (.aload_n 0, 1) := by decide +kernel
theorem dX7_inColour_77 : decode cX7_inColour 77 = .ok (.getfield 10, 3) := by decide +kernel
theorem dX7_inColour_80 : decode cX7_inColour 80 = .ok (.iload_n 1, 1) := by decide +kernel
theorem dX7_inColour_81 : decode cX7_inColour 81 = .ok (.iconst 5, 1) := by decide +kernel
theorem dX7_inColour_82 : decode cX7_inColour 82 = .ok (.iload_n 2, 1) := by decide +kernel
theorem dX7_inColour_83 : decode cX7_inColour 83 = .ok (.iadd, 1) := by decide +kernel
theorem dX7_inColour_84 : decode cX7_inColour 84 = .ok (.invokevirtual 106, 3) := by decide +kernel
theorem dX7_inColour_87 : decode cX7_inColour 87 = .ok (.bipush 10, 2) := by decide +kernel
theorem dX7_inColour_89 : decode cX7_inColour 89 = .ok (.iadd, 1) := by decide +kernel
theorem dX7_inColour_90 : decode cX7_inColour 90 = .ok (.ireturn, 1) := by decide +kernel
theorem dX7_inColour_91 : decode cX7_inColour 91 = .ok (.aload_n 0, 1) := by decide +kernel
theorem dX7_inColour_92 : decode cX7_inColour 92 = .ok (.getfield 10, 3) := by decide +kernel
theorem dX7_inColour_95 : decode cX7_inColour 95 = .ok (.iload_n 1, 1) := by decide +kernel
theorem dX7_inColour_96 : decode cX7_inColour 96 = .ok (.bipush 8, 2) := by decide +kernel
theorem dX7_inColour_98 : decode cX7_inColour 98 = .ok (.iload_n 2, 1) := by decide +kernel
theorem dX7_inColour_99 : decode cX7_inColour 99 = .ok (.iadd, 1) := by decide +kernel
theorem dX7_inColour_100 : decode cX7_inColour 100 = .ok (.invokevirtual 106, 3) := by decide +kernel
theorem dX7_inColour_103 : decode cX7_inColour 103 = .ok (.ireturn, 1) := by decide +kernel
theorem dX7_inColour_104 : decode cX7_inColour 104 = .ok (.aload_n 0, 1) := by decide +kernel
theorem dX7_inColour_105 : decode cX7_inColour 105 = .ok (.getfield 10, 3) := by decide +kernel
theorem dX7_inColour_108 : decode cX7_inColour 108 = .ok (.iload_n 1, 1) := by decide +kernel
theorem dX7_inColour_109 : decode cX7_inColour 109 = .ok (.iload_n 2, 1) := by decide +kernel
theorem dX7_inColour_110 : decode cX7_inColour 110 = .ok (.invokestatic 128, 3) := by decide +kernel
theorem dX7_inColour_113 : decode cX7_inColour 113 = .ok (.ireturn, 1) := by decide +kernel
theorem dX7_inColour_114 : decode cX7_inColour 114 = .ok (.aload_n 0, 1) := by decide +kernel
theorem dX7_inColour_115 : decode cX7_inColour 115 = .ok (.getfield 10, 3) := by decide +kernel
theorem dX7_inColour_118 : decode cX7_inColour 118 = .ok (.iload_n 1, 1) := by decide +kernel
theorem dX7_inColour_119 : decode cX7_inColour 119 = .ok (.iload_n 2, 1) := by decide +kernel
theorem dX7_inColour_120 : decode cX7_inColour 120 = .ok (.invokestatic 131, 3) := by decide +kernel
theorem dX7_inColour_123 : decode cX7_inColour 123 = .ok (.bipush 100, 2) := by decide +kernel
theorem dX7_inColour_125 : decode cX7_inColour 125 = .ok (.iadd, 1) := by decide +kernel
theorem dX7_inColour_126 : decode cX7_inColour 126 = .ok (.ireturn, 1) := by decide +kernel
theorem dX7_inColour_127 : decode cX7_inColour 127 = .ok (.aload_n 0, 1) := by decide +kernel
theorem dX7_inColour_128 : decode cX7_inColour 128 = .ok (.getfield 10, 3) := by decide +kernel
theorem dX7_inColour_131 : decode cX7_inColour 131 = .ok (.iload_n 1, 1) := by decide +kernel
theorem dX7_inColour_132 : decode cX7_inColour 132 = .ok (.invokestatic 115, 3) := by decide +kernel
theorem dX7_inColour_135 : decode cX7_inColour 135 = .ok (.ifCond .eq 21, 3) := by decide +kernel
theorem dX7_inColour_138 : decode cX7_inColour 138 = .ok (.aload_n 0, 1) := by decide +kernel
theorem dX7_inColour_139 : decode cX7_inColour 139 = .ok (.getfield 10, 3) := by decide +kernel
theorem dX7_inColour_142 : decode cX7_inColour 142 = .ok (.iload_n 1, 1) := by decide +kernel
theorem dX7_inColour_143 : decode cX7_inColour 143 = .ok (.bipush 11, 2) := by decide +kernel
theorem dX7_inColour_145 : decode cX7_inColour 145 = .ok (.iload_n 2, 1) := by decide +kernel
theorem dX7_inColour_146 : decode cX7_inColour 146 = .ok (.iadd, 1) := by decide +kernel
theorem dX7_inColour_147 : decode cX7_inColour 147 = .ok (.invokevirtual 106, 3) := by decide +kernel
theorem dX7_inColour_150 : decode cX7_inColour 150 = .ok (.bipush 100, 2) := by decide +kernel
theorem dX7_inColour_152 : decode cX7_inColour 152 = .ok (.iadd, 1) := by decide +kernel
theorem dX7_inColour_153 : decode cX7_inColour 153 = .ok (.goto 5, 3) := by decide +kernel
theorem dX7_inColour_156 : decode cX7_inColour 156 = .ok (.bipush (-6), 2) := by decide +kernel
theorem dX7_inColour_158 : decode cX7_inColour 158 = .ok (.ireturn, 1) := by decide +kernel
theorem dX7_inColour_159 : decode cX7_inColour 159 = .ok (.bipush (-2), 2) := by decide +kernel
theorem dX7_inColour_161 : decode cX7_inColour 161 = .ok (.ireturn, 1) := by decide +kernel
theorem dX7_ofLamp_0 : decode cX7_ofLamp 0 = .ok (.iload_n 1, 1) := by decide +kernel
theorem dX7_ofLamp_1 : decode cX7_ofLamp 1 = .ok (.invokestatic 125, 3) := by decide +kernel
theorem dX7_ofLamp_4 : decode cX7_ofLamp 4 = .ok (.ifCond .ne 6, 3) := by decide +kernel
theorem dX7_ofLamp_7 : decode cX7_ofLamp 7 = .ok (.bipush (-2), 2) := by decide +kernel
theorem dX7_ofLamp_9 : decode cX7_ofLamp 9 = .ok (.ireturn, 1) := by decide +kernel
theorem dX7_ofLamp_10 : decode cX7_ofLamp 10 = .ok (.iload_n 2, 1) := by decide +kernel
theorem dX7_ofLamp_11 : decode cX7_ofLamp 11 = .ok (.tableswitch 60 0 2 #[25, 36, 45], 25) := by decide +kernel
theorem dX7_ofLamp_36 : decode cX7_ofLamp 36 = .ok (.aload_n 0, 1) := by decide +kernel
theorem dX7_ofLamp_37 : decode cX7_ofLamp 37 = .ok (.getfield 10, 3) := by decide +kernel
theorem dX7_ofLamp_40 : decode cX7_ofLamp 40 = .ok (.iconst 4, 1) := by decide +kernel
theorem dX7_ofLamp_41 : decode cX7_ofLamp 41 = .ok (.iload_n 1, 1) := by decide +kernel
theorem dX7_ofLamp_42 : decode cX7_ofLamp 42 = .ok (.iadd, 1) := by decide +kernel
theorem dX7_ofLamp_43 : decode cX7_ofLamp 43 = .ok (.invokevirtual 134, 3) := by decide +kernel
theorem dX7_ofLamp_46 : decode cX7_ofLamp 46 = .ok (.ireturn, 1) := by decide +kernel
theorem dX7_ofLamp_47 : decode cX7_ofLamp 47 = .ok (.aload_n 0, 1) := by decide +kernel
theorem dX7_ofLamp_48 : decode cX7_ofLamp 48 = .ok (.getfield 10, 3) := by decide +kernel
theorem dX7_ofLamp_51 : decode cX7_ofLamp 51 = .ok (.iload_n 1, 1) := by decide +kernel
theorem dX7_ofLamp_52 : decode cX7_ofLamp 52 = .ok (.invokevirtual 137, 3) := by decide +kernel
theorem dX7_ofLamp_55 : decode cX7_ofLamp 55 = .ok (.ireturn, 1) := by decide +kernel
theorem dX7_ofLamp_56 : decode cX7_ofLamp 56 = .ok (.aload_n 0, 1) := by decide +kernel
theorem dX7_ofLamp_57 : decode cX7_ofLamp 57 = .ok (.getfield 10, 3) := by decide +kernel
theorem dX7_ofLamp_60 : decode cX7_ofLamp 60 = .ok (.bipush 7, 2) := by decide +kernel
theorem dX7_ofLamp_62 : decode cX7_ofLamp 62 = .ok (.iload_n 1, 1) := by decide +kernel
theorem dX7_ofLamp_63 : decode cX7_ofLamp 63 = .ok (.iadd, 1) := by decide +kernel
theorem dX7_ofLamp_64 : decode cX7_ofLamp 64 = .ok (.invokevirtual 134, 3) := by decide +kernel
theorem dX7_ofLamp_67 : decode cX7_ofLamp 67 = .ok (.bipush 20, 2) := by decide +kernel
theorem dX7_ofLamp_69 : decode cX7_ofLamp 69 = .ok (.iadd, 1) := by decide +kernel
theorem dX7_ofLamp_70 : decode cX7_ofLamp 70 = .ok (.ireturn, 1) := by decide +kernel
theorem dX7_ofLamp_71 : decode cX7_ofLamp 71 = .ok (.bipush (-2), 2) := by decide +kernel
theorem dX7_ofLamp_73 : decode cX7_ofLamp 73 = .ok (.ireturn, 1) := by decide +kernel
theorem dX7_count_0 : decode cX7_count 0 = .ok (.iload_n 1, 1) := by decide +kernel
theorem dX7_count_1 : decode cX7_count 1 = .ok (.tableswitch 180 0 13 #[71, 79, 94, 104, 113, 122, 131, 141, 150, 150, 150, 150, 164, 172], 71) := by decide +kernel
theorem dX7_count_72 : decode cX7_count 72 = .ok (.aload_n 0, 1) := by decide +kernel
theorem dX7_count_73 : decode cX7_count 73 = .ok (.getfield 10, 3) := by decide +kernel
theorem dX7_count_76 : decode cX7_count 76 = .ok (.invokevirtual 140, 3) := by decide +kernel
theorem dX7_count_79 : decode cX7_count 79 = .ok (.ireturn, 1) := by decide +kernel
theorem dX7_count_80 : decode cX7_count 80 = .ok (.aload_n 0, 1) := by decide +kernel
theorem dX7_count_81 : decode cX7_count 81 = .ok (.getfield 10, 3) := by decide +kernel
theorem dX7_count_84 : decode cX7_count 84 = .ok (.aload_n 0, 1) := by decide +kernel
theorem dX7_count_85 : decode cX7_count 85 = .ok (.getfield 10, 3) := by decide +kernel
theorem dX7_count_88 : decode cX7_count 88 = .ok (.invokevirtual 140, 3) := by decide +kernel
theorem dX7_count_91 : decode cX7_count 91 = .ok (.invokestatic 110, 3) := by decide +kernel
theorem dX7_count_94 : decode cX7_count 94 = .ok (.ireturn, 1) := by decide +kernel
theorem dX7_count_95 : decode cX7_count 95 = .ok (.aload_n 0, 1) := by decide +kernel
theorem dX7_count_96 : decode cX7_count 96 = .ok (.getfield 10, 3) := by decide +kernel
theorem dX7_count_99 : decode cX7_count 99 = .ok (.bipush 10, 2) := by decide +kernel
theorem dX7_count_101 : decode cX7_count 101 = .ok (.invokevirtual 134, 3) := by decide +kernel
theorem dX7_count_104 : decode cX7_count 104 = .ok (.ireturn, 1) := by decide +kernel
theorem dX7_count_105 : decode cX7_count 105 = .ok (.aload_n 0, 1) := by decide +kernel
theorem dX7_count_106 : decode cX7_count 106 = .ok (.getfield 10, 3) := by decide +kernel
theorem dX7_count_109 : decode cX7_count 109 = .ok (.iconst 1, 1) := by decide +kernel
theorem dX7_count_110 : decode cX7_count 110 = .ok (.invokestatic 144, 3) := by decide +kernel
theorem dX7_count_113 : decode cX7_count 113 = .ok (.ireturn, 1) := by decide +kernel
theorem dX7_count_114 : decode cX7_count 114 = .ok (.aload_n 0, 1) := by decide +kernel
theorem dX7_count_115 : decode cX7_count 115 = .ok (.getfield 10, 3) := by decide +kernel
theorem dX7_count_118 : decode cX7_count 118 = .ok (.iconst 0, 1) := by decide +kernel
theorem dX7_count_119 : decode cX7_count 119 = .ok (.invokestatic 144, 3) := by decide +kernel
theorem dX7_count_122 : decode cX7_count 122 = .ok (.ireturn, 1) := by decide +kernel
theorem dX7_count_123 : decode cX7_count 123 = .ok (.aload_n 0, 1) := by decide +kernel
theorem dX7_count_124 : decode cX7_count 124 = .ok (.getfield 10, 3) := by decide +kernel
theorem dX7_count_127 : decode cX7_count 127 = .ok (.iconst 2, 1) := by decide +kernel
theorem dX7_count_128 : decode cX7_count 128 = .ok (.invokestatic 144, 3) := by decide +kernel
theorem dX7_count_131 : decode cX7_count 131 = .ok (.ireturn, 1) := by decide +kernel
theorem dX7_count_132 : decode cX7_count 132 = .ok (.aload_n 0, 1) := by decide +kernel
theorem dX7_count_133 : decode cX7_count 133 = .ok (.getfield 10, 3) := by decide +kernel
theorem dX7_count_136 : decode cX7_count 136 = .ok (.bipush 11, 2) := by decide +kernel
theorem dX7_count_138 : decode cX7_count 138 = .ok (.invokevirtual 134, 3) := by decide +kernel
theorem dX7_count_141 : decode cX7_count 141 = .ok (.ireturn, 1) := by decide +kernel
theorem dX7_count_142 : decode cX7_count 142 = .ok (.aload_n 0, 1) := by decide +kernel
theorem dX7_count_143 : decode cX7_count 143 = .ok (.getfield 10, 3) := by decide +kernel
theorem dX7_count_146 : decode cX7_count 146 = .ok (.iconst 3, 1) := by decide +kernel
theorem dX7_count_147 : decode cX7_count 147 = .ok (.invokestatic 144, 3) := by decide +kernel
theorem dX7_count_150 : decode cX7_count 150 = .ok (.ireturn, 1) := by decide +kernel
theorem dX7_count_151 : decode cX7_count 151 = .ok (.aload_n 0, 1) := by decide +kernel
theorem dX7_count_152 : decode cX7_count 152 = .ok (.getfield 10, 3) := by decide +kernel
theorem dX7_count_155 : decode cX7_count 155 = .ok (.iconst 0, 1) := by decide +kernel
theorem dX7_count_156 : decode cX7_count 156 = .ok (.iload_n 1, 1) := by decide +kernel
theorem dX7_count_157 : decode cX7_count 157 = .ok (.iadd, 1) := by decide +kernel
theorem dX7_count_158 : decode cX7_count 158 = .ok (.bipush 8, 2) := by decide +kernel
theorem dX7_count_160 : decode cX7_count 160 = .ok (.isub, 1) := by decide +kernel
theorem dX7_count_161 : decode cX7_count 161 = .ok (.invokevirtual 134, 3) := by decide +kernel
theorem dX7_count_164 : decode cX7_count 164 = .ok (.ireturn, 1) := by decide +kernel
theorem dX7_count_165 : decode cX7_count 165 = .ok (.aload_n 0, 1) := by decide +kernel
theorem dX7_count_166 : decode cX7_count 166 = .ok (.getfield 25, 3) := by decide +kernel
theorem dX7_count_169 : decode cX7_count 169 = .ok (.invokevirtual 147, 3) := by decide +kernel
theorem dX7_count_172 : decode cX7_count 172 = .ok (.ireturn, 1) := by decide +kernel
theorem dX7_count_173 : decode cX7_count 173 = .ok (.aload_n 0, 1) := by decide +kernel
theorem dX7_count_174 : decode cX7_count 174 = .ok (.getfield 32, 3) := by decide +kernel
theorem dX7_count_177 : decode cX7_count 177 = .ok (.invokevirtual 150, 3) := by decide +kernel
theorem dX7_count_180 : decode cX7_count 180 = .ok (.ireturn, 1) := by decide +kernel
theorem dX7_count_181 : decode cX7_count 181 = .ok (.bipush (-2), 2) := by decide +kernel
theorem dX7_count_183 : decode cX7_count 183 = .ok (.ireturn, 1) := by decide +kernel
theorem dX7_needs_0 : decode cX7_needs 0 = .ok (.aload_n 0, 1) := by decide +kernel
theorem dX7_needs_1 : decode cX7_needs 1 = .ok (.getfield 10, 3) := by decide +kernel
theorem dX7_needs_4 : decode cX7_needs 4 = .ok (.iload_n 1, 1) := by decide +kernel
theorem dX7_needs_5 : decode cX7_needs 5 = .ok (.invokevirtual 102, 3) := by decide +kernel
theorem dX7_needs_8 : decode cX7_needs 8 = .ok (.ifCond .ne 5, 3) := by decide +kernel
theorem dX7_needs_11 : decode cX7_needs 11 = .ok (.iconst (-1), 1) := by decide +kernel
theorem dX7_needs_12 : decode cX7_needs 12 = .ok (.ireturn, 1) := by decide +kernel
theorem dX7_needs_13 : decode cX7_needs 13 = .ok (.iload_n 2, 1) := by decide +kernel
theorem dX7_needs_14 : decode cX7_needs 14 = .ok (.invokestatic 125, 3) := by decide +kernel
theorem dX7_needs_17 : decode cX7_needs 17 = .ok (.ifCond .ne 6, 3) := by decide +kernel
theorem dX7_needs_20 : decode cX7_needs 20 = .ok (.bipush (-2), 2) := by decide +kernel
theorem dX7_needs_22 : decode cX7_needs 22 = .ok (.ireturn, 1) := by decide +kernel
theorem dX7_needs_23 : decode cX7_needs 23 = .ok (.aload_n 0, 1) := by decide +kernel
theorem dX7_needs_24 : decode cX7_needs 24 = .ok (.getfield 10, 3) := by decide +kernel
theorem dX7_needs_27 : decode cX7_needs 27 = .ok (.iload_n 1, 1) := by decide +kernel
theorem dX7_needs_28 : decode cX7_needs 28 = .ok (.iload_n 2, 1) := by decide +kernel
theorem dX7_needs_29 : decode cX7_needs 29 = .ok (.aload_n 0, 1) := by decide +kernel
theorem dX7_needs_30 : decode cX7_needs 30 = .ok (.getfield 10, 3) := by decide +kernel
theorem dX7_needs_33 : decode cX7_needs 33 = .ok (.iload_n 2, 1) := by decide +kernel
theorem dX7_needs_34 : decode cX7_needs 34 = .ok (.invokevirtual 137, 3) := by decide +kernel
theorem dX7_needs_37 : decode cX7_needs 37 = .ok (.invokestatic 153, 3) := by decide +kernel
theorem dX7_needs_40 : decode cX7_needs 40 = .ok (.istore_n 3, 1) := by decide +kernel
theorem dX7_needs_41 : decode cX7_needs 41 = .ok (.iload_n 3, 1) := by decide +kernel
theorem dX7_needs_42 : decode cX7_needs 42 = .ok (.invokestatic 158, 3) := by decide +kernel
theorem dX7_needs_45 : decode cX7_needs 45 = .ok (.ifCond .eq 7, 3) := by decide +kernel
theorem dX7_needs_48 : decode cX7_needs 48 = .ok (.iload_n 3, 1) := by decide +kernel
theorem dX7_needs_49 : decode cX7_needs 49 = .ok (.goto 5, 3) := by decide +kernel
theorem dX7_needs_52 : decode cX7_needs 52 = .ok (.bipush (-6), 2) := by decide +kernel
theorem dX7_needs_54 : decode cX7_needs 54 = .ok (.ireturn, 1) := by decide +kernel
theorem dX7_ifLight_0 : decode cX7_ifLight 0 = .ok (.aload_n 0, 1) := by decide +kernel
theorem dX7_ifLight_1 : decode cX7_ifLight 1 = .ok (.getfield 10, 3) := by decide +kernel
theorem dX7_ifLight_4 : decode cX7_ifLight 4 = .ok (.iload_n 1, 1) := by decide +kernel
theorem dX7_ifLight_5 : decode cX7_ifLight 5 = .ok (.invokevirtual 102, 3) := by decide +kernel
theorem dX7_ifLight_8 : decode cX7_ifLight 8 = .ok (.ifCond .ne 5, 3) := by decide +kernel
theorem dX7_ifLight_11 : decode cX7_ifLight 11 = .ok (.iconst (-1), 1) := by decide +kernel
theorem dX7_ifLight_12 : decode cX7_ifLight 12 = .ok (.ireturn, 1) := by decide +kernel
theorem dX7_ifLight_13 : decode cX7_ifLight 13 = .ok (.iload_n 2, 1) := by decide +kernel
theorem dX7_ifLight_14 : decode cX7_ifLight 14 = .ok (.invokestatic 125, 3) := by decide +kernel
theorem dX7_ifLight_17 : decode cX7_ifLight 17 = .ok (.ifCond .eq 10, 3) := by decide +kernel
theorem dX7_ifLight_20 : decode cX7_ifLight 20 = .ok (.iload_n 3, 1) := by decide +kernel
theorem dX7_ifLight_21 : decode cX7_ifLight 21 = .ok (.invokestatic 158, 3) := by decide +kernel
theorem dX7_ifLight_24 : decode cX7_ifLight 24 = .ok (.ifCond .ne 6, 3) := by decide +kernel
theorem dX7_ifLight_27 : decode cX7_ifLight 27 = .ok (.bipush (-2), 2) := by decide +kernel
theorem dX7_ifLight_29 : decode cX7_ifLight 29 = .ok (.ireturn, 1) := by decide +kernel
theorem dX7_ifLight_30 : decode cX7_ifLight 30 = .ok (.aload_n 0, 1) := by decide +kernel
theorem dX7_ifLight_31 : decode cX7_ifLight 31 = .ok (.getfield 10, 3) := by decide +kernel
theorem dX7_ifLight_34 : decode cX7_ifLight 34 = .ok (.iload_n 1, 1) := by decide +kernel
theorem dX7_ifLight_35 : decode cX7_ifLight 35 = .ok (.iload_n 2, 1) := by decide +kernel
theorem dX7_ifLight_36 : decode cX7_ifLight 36 = .ok (.iload_n 3, 1) := by decide +kernel
theorem dX7_ifLight_37 : decode cX7_ifLight 37 = .ok (.aload_n 0, 1) := by decide +kernel
theorem dX7_ifLight_38 : decode cX7_ifLight 38 = .ok (.getfield 10, 3) := by decide +kernel
theorem dX7_ifLight_41 : decode cX7_ifLight 41 = .ok (.bipush 7, 2) := by decide +kernel
theorem dX7_ifLight_43 : decode cX7_ifLight 43 = .ok (.iload_n 2, 1) := by decide +kernel
theorem dX7_ifLight_44 : decode cX7_ifLight 44 = .ok (.iadd, 1) := by decide +kernel
theorem dX7_ifLight_45 : decode cX7_ifLight 45 = .ok (.invokevirtual 134, 3) := by decide +kernel
theorem dX7_ifLight_48 : decode cX7_ifLight 48 = .ok (.invokestatic 161, 3) := by decide +kernel
theorem dX7_ifLight_51 : decode cX7_ifLight 51 = .ok (.ireturn, 1) := by decide +kernel
theorem dX7_lasts_0 : decode cX7_lasts 0 = .ok (.iload_n 1, 1) := by decide +kernel
theorem dX7_lasts_1 : decode cX7_lasts 1 = .ok (.invokestatic 125, 3) := by decide +kernel
theorem dX7_lasts_4 : decode cX7_lasts 4 = .ok (.ifCond .eq 14, 3) := by decide +kernel
theorem dX7_lasts_7 : decode cX7_lasts 7 = .ok (.aload_n 0, 1) := by decide +kernel
theorem dX7_lasts_8 : decode cX7_lasts 8 = .ok (.getfield 10, 3) := by decide +kernel
theorem dX7_lasts_11 : decode cX7_lasts 11 = .ok (.iload_n 1, 1) := by decide +kernel
theorem dX7_lasts_12 : decode cX7_lasts 12 = .ok (.invokestatic 165, 3) := by decide +kernel
theorem dX7_lasts_15 : decode cX7_lasts 15 = .ok (.goto 5, 3) := by decide +kernel
theorem dX7_lasts_18 : decode cX7_lasts 18 = .ok (.bipush (-2), 2) := by decide +kernel
theorem dX7_lasts_20 : decode cX7_lasts 20 = .ok (.ireturn, 1) := by decide +kernel
theorem dX7_bestTrim_0 : decode cX7_bestTrim 0 = .ok (.iload_n 1, 1) := by decide +kernel
theorem dX7_bestTrim_1 : decode cX7_bestTrim 1 = .ok (.invokestatic 125, 3) := by decide +kernel
theorem dX7_bestTrim_4 : decode cX7_bestTrim 4 = .ok (.ifCond .eq 12, 3) := by decide +kernel
theorem dX7_bestTrim_7 : decode cX7_bestTrim 7 = .ok (.iload_n 2, 1) := by decide +kernel
theorem dX7_bestTrim_8 : decode cX7_bestTrim 8 = .ok (.iconst 0, 1) := by decide +kernel
theorem dX7_bestTrim_9 : decode cX7_bestTrim 9 = .ok (.iconst 1, 1) := by decide +kernel
theorem dX7_bestTrim_10 : decode cX7_bestTrim 10 = .ok (.invokestatic 168, 3) := by decide +kernel
theorem dX7_bestTrim_13 : decode cX7_bestTrim 13 = .ok (.ifCond .ne 6, 3) := by decide +kernel
theorem dX7_bestTrim_16 : decode cX7_bestTrim 16 = .ok (.bipush (-2), 2) := by decide +kernel
theorem dX7_bestTrim_18 : decode cX7_bestTrim 18 = .ok (.ireturn, 1) := by decide +kernel
theorem dX7_bestTrim_19 : decode cX7_bestTrim 19 = .ok (.aload_n 0, 1) := by decide +kernel
theorem dX7_bestTrim_20 : decode cX7_bestTrim 20 = .ok (.getfield 10, 3) := by decide +kernel
theorem dX7_bestTrim_23 : decode cX7_bestTrim 23 = .ok (.iload_n 1, 1) := by decide +kernel
theorem dX7_bestTrim_24 : decode cX7_bestTrim 24 = .ok (.invokestatic 172, 3) := by decide +kernel
theorem dX7_bestTrim_27 : decode cX7_bestTrim 27 = .ok (.istore_n 3, 1) := by decide +kernel
theorem dX7_bestTrim_28 : decode cX7_bestTrim 28 = .ok (.iload_n 2, 1) := by decide +kernel
theorem dX7_bestTrim_29 : decode cX7_bestTrim 29 = .ok (.ifCond .ne 10, 3) := by decide +kernel
theorem dX7_bestTrim_32 : decode cX7_bestTrim 32 = .ok (.iload_n 3, 1) := by decide +kernel
theorem dX7_bestTrim_33 : decode cX7_bestTrim 33 = .ok (.bipush 20, 2) := by decide +kernel
theorem dX7_bestTrim_35 : decode cX7_bestTrim 35 = .ok (.iadd, 1) := by decide +kernel
theorem dX7_bestTrim_36 : decode cX7_bestTrim 36 = .ok (.goto 12, 3) := by decide +kernel
theorem dX7_bestTrim_39 : decode cX7_bestTrim 39 = .ok (.aload_n 0, 1) := by decide +kernel
theorem dX7_bestTrim_40 : decode cX7_bestTrim 40 = .ok (.getfield 10, 3) := by decide +kernel
theorem dX7_bestTrim_43 : decode cX7_bestTrim 43 = .ok (.iload_n 1, 1) := by decide +kernel
theorem dX7_bestTrim_44 : decode cX7_bestTrim 44 = .ok (.iload_n 3, 1) := by decide +kernel
theorem dX7_bestTrim_45 : decode cX7_bestTrim 45 = .ok (.invokestatic 175, 3) := by decide +kernel
theorem dX7_bestTrim_48 : decode cX7_bestTrim 48 = .ok (.ireturn, 1) := by decide +kernel
theorem dX7_printsNeeded_0 : decode cX7_printsNeeded 0 = .ok (.aload_n 0, 1) := by decide +kernel
theorem dX7_printsNeeded_1 : decode cX7_printsNeeded 1 = .ok (.getfield 10, 3) := by decide +kernel
theorem dX7_printsNeeded_4 : decode cX7_printsNeeded 4 = .ok (.invokevirtual 140, 3) := by decide +kernel
theorem dX7_printsNeeded_7 : decode cX7_printsNeeded 7 = .ok (.ifCond .ne 6, 3) := by decide +kernel
theorem dX7_printsNeeded_10 : decode cX7_printsNeeded 10 = .ok (.bipush (-5), 2) := by decide +kernel
theorem dX7_printsNeeded_12 : decode cX7_printsNeeded 12 = .ok (.ireturn, 1) := by decide +kernel
theorem dX7_printsNeeded_13 : decode cX7_printsNeeded 13 = .ok (.aload_n 0, 1) := by decide +kernel
theorem dX7_printsNeeded_14 : decode cX7_printsNeeded 14 = .ok (.getfield 19, 3) := by decide +kernel
theorem dX7_printsNeeded_17 : decode cX7_printsNeeded 17 = .ok (.aload_n 0, 1) := by decide +kernel
theorem dX7_printsNeeded_18 : decode cX7_printsNeeded 18 = .ok (.getfield 10, 3) := by decide +kernel
theorem dX7_printsNeeded_21 : decode cX7_printsNeeded 21 = .ok (.invokevirtual 45, 3) := by decide +kernel
theorem dX7_printsNeeded_24 : decode cX7_printsNeeded 24 = .ok (.aload_n 0, 1) := by decide +kernel
theorem dX7_printsNeeded_25 : decode cX7_printsNeeded 25 = .ok (.getfield 19, 3) := by decide +kernel
theorem dX7_printsNeeded_28 : decode cX7_printsNeeded 28 = .ok (.invokestatic 178, 3) := by decide +kernel
theorem dX7_printsNeeded_31 : decode cX7_printsNeeded 31 = .ok (.ireturn, 1) := by decide +kernel
theorem dX7_put_0 : decode cX7_put 0 = .ok (.aload_n 0, 1) := by decide +kernel
theorem dX7_put_1 : decode cX7_put 1 = .ok (.getfield 25, 3) := by decide +kernel
theorem dX7_put_4 : decode cX7_put 4 = .ok (.lload_n 1, 1) := by decide +kernel
theorem dX7_put_5 : decode cX7_put 5 = .ok (.invokevirtual 181, 3) := by decide +kernel
theorem dX7_put_8 : decode cX7_put 8 = .ok (.ireturn, 1) := by decide +kernel
theorem dX7_wipe_0 : decode cX7_wipe 0 = .ok (.aload_n 0, 1) := by decide +kernel
theorem dX7_wipe_1 : decode cX7_wipe 1 = .ok (.getfield 25, 3) := by decide +kernel
theorem dX7_wipe_4 : decode cX7_wipe 4 = .ok (.invokevirtual 185, 3) := by decide +kernel
theorem dX7_wipe_7 : decode cX7_wipe 7 = .ok (.ireturn, 1) := by decide +kernel
theorem dX7_fault_0 : decode cX7_fault 0 = .ok (.aload_n 0, 1) := by decide +kernel
theorem dX7_fault_1 : decode cX7_fault 1 = .ok (.getfield 25, 3) := by decide +kernel
theorem dX7_fault_4 : decode cX7_fault 4 = .ok (.invokevirtual 188, 3) := by decide +kernel
theorem dX7_fault_7 : decode cX7_fault 7 = .ok (.ireturn, 1) := by decide +kernel
theorem dX7_carryOut_0 : decode cX7_carryOut 0 = .ok (.aload_n 0, 1) := by decide +kernel
theorem dX7_carryOut_1 : decode cX7_carryOut 1 = .ok (.getfield 25, 3) := by decide +kernel
theorem dX7_carryOut_4 : decode cX7_carryOut 4 = .ok (.invokevirtual 188, 3) := by decide +kernel
theorem dX7_carryOut_7 : decode cX7_carryOut 7 = .ok (.bipush (-6), 2) := by decide +kernel
theorem dX7_carryOut_9 : decode cX7_carryOut 9 = .ok (.if_icmp .eq 6, 3) := by decide +kernel
theorem dX7_carryOut_12 : decode cX7_carryOut 12 = .ok (.bipush (-3), 2) := by decide +kernel
theorem dX7_carryOut_14 : decode cX7_carryOut 14 = .ok (.ireturn, 1) := by decide +kernel
theorem dX7_carryOut_15 : decode cX7_carryOut 15 = .ok (.aload_n 0, 1) := by decide +kernel
theorem dX7_carryOut_16 : decode cX7_carryOut 16 = .ok (.getfield 16, 3) := by decide +kernel
theorem dX7_carryOut_19 : decode cX7_carryOut 19 = .ok (.aload_n 0, 1) := by decide +kernel
theorem dX7_carryOut_20 : decode cX7_carryOut 20 = .ok (.getfield 10, 3) := by decide +kernel
theorem dX7_carryOut_23 : decode cX7_carryOut 23 = .ok (.invokevirtual 45, 3) := by decide +kernel
theorem dX7_carryOut_26 : decode cX7_carryOut 26 = .ok (.aload_n 0, 1) := by decide +kernel
theorem dX7_carryOut_27 : decode cX7_carryOut 27 = .ok (.getfield 25, 3) := by decide +kernel
theorem dX7_carryOut_30 : decode cX7_carryOut 30 = .ok (.invokevirtual 191, 3) := by decide +kernel
theorem dX7_carryOut_33 : decode cX7_carryOut 33 = .ok (.iconst 0, 1) := by decide +kernel
theorem dX7_carryOut_34 : decode cX7_carryOut 34 = .ok (.istore_n 1, 1) := by decide +kernel
theorem dX7_carryOut_35 : decode cX7_carryOut 35 = .ok (.iload_n 1, 1) := by decide +kernel
theorem dX7_carryOut_36 : decode cX7_carryOut 36 = .ok (.bipush 80, 2) := by decide +kernel
theorem dX7_carryOut_38 : decode cX7_carryOut 38 = .ok (.if_icmp .ge 26, 3) := by decide +kernel
theorem dX7_carryOut_41 : decode cX7_carryOut 41 = .ok (.aload_n 0, 1) := by decide +kernel
theorem dX7_carryOut_42 : decode cX7_carryOut 42 = .ok (.getfield 25, 3) := by decide +kernel
theorem dX7_carryOut_45 : decode cX7_carryOut 45 = .ok (.invokevirtual 194, 3) := by decide +kernel
theorem dX7_carryOut_48 : decode cX7_carryOut 48 = .ok (.ifCond .eq 16, 3) := by decide +kernel
theorem dX7_carryOut_51 : decode cX7_carryOut 51 = .ok (.aload_n 0, 1) := by decide +kernel
theorem dX7_carryOut_52 : decode cX7_carryOut 52 = .ok (.invokevirtual 198, 3) := by decide +kernel
theorem dX7_carryOut_55 : decode cX7_carryOut 55 = .ok (.ifCond .lt 9, 3) := by decide +kernel
theorem dX7_carryOut_58 : decode cX7_carryOut 58 = .ok (.iinc 1 1, 3) := by decide +kernel
theorem dX7_carryOut_61 : decode cX7_carryOut 61 = .ok (.goto (-26), 3) := by decide +kernel
theorem dX7_carryOut_64 : decode cX7_carryOut 64 = .ok (.aload_n 0, 1) := by decide +kernel
theorem dX7_carryOut_65 : decode cX7_carryOut 65 = .ok (.getfield 25, 3) := by decide +kernel
theorem dX7_carryOut_68 : decode cX7_carryOut 68 = .ok (.invokevirtual 185, 3) := by decide +kernel
theorem dX7_carryOut_71 : decode cX7_carryOut 71 = .ok (.pop, 1) := by decide +kernel
theorem dX7_carryOut_72 : decode cX7_carryOut 72 = .ok (.aload_n 0, 1) := by decide +kernel
theorem dX7_carryOut_73 : decode cX7_carryOut 73 = .ok (.iload_n 1, 1) := by decide +kernel
theorem dX7_carryOut_74 : decode cX7_carryOut 74 = .ok (.invokevirtual 55, 3) := by decide +kernel
theorem dX7_carryOut_77 : decode cX7_carryOut 77 = .ok (.ireturn, 1) := by decide +kernel
theorem dX7_undo_0 : decode cX7_undo 0 = .ok (.aload_n 0, 1) := by decide +kernel
theorem dX7_undo_1 : decode cX7_undo 1 = .ok (.getfield 32, 3) := by decide +kernel
theorem dX7_undo_4 : decode cX7_undo 4 = .ok (.invokevirtual 150, 3) := by decide +kernel
theorem dX7_undo_7 : decode cX7_undo 7 = .ok (.ifCond .ne 6, 3) := by decide +kernel
theorem dX7_undo_10 : decode cX7_undo 10 = .ok (.bipush (-5), 2) := by decide +kernel
theorem dX7_undo_12 : decode cX7_undo 12 = .ok (.ireturn, 1) := by decide +kernel
theorem dX7_undo_13 : decode cX7_undo 13 = .ok (.aload_n 0, 1) := by decide +kernel
theorem dX7_undo_14 : decode cX7_undo 14 = .ok (.getfield 32, 3) := by decide +kernel
theorem dX7_undo_17 : decode cX7_undo 17 = .ok (.aload_n 0, 1) := by decide +kernel
theorem dX7_undo_18 : decode cX7_undo 18 = .ok (.getfield 10, 3) := by decide +kernel
theorem dX7_undo_21 : decode cX7_undo 21 = .ok (.invokevirtual 201, 3) := by decide +kernel
theorem dX7_undo_24 : decode cX7_undo 24 = .ok (.aload_n 0, 1) := by decide +kernel
theorem dX7_undo_25 : decode cX7_undo 25 = .ok (.getfield 32, 3) := by decide +kernel
theorem dX7_undo_28 : decode cX7_undo 28 = .ok (.invokevirtual 150, 3) := by decide +kernel
theorem dX7_undo_31 : decode cX7_undo 31 = .ok (.ireturn, 1) := by decide +kernel
theorem dX7_save_0 : decode cX7_save 0 = .ok (.iload_n 1, 1) := by decide +kernel
theorem dX7_save_1 : decode cX7_save 1 = .ok (.invokestatic 204, 3) := by decide +kernel
theorem dX7_save_4 : decode cX7_save 4 = .ok (.ifCond .ne 6, 3) := by decide +kernel
theorem dX7_save_7 : decode cX7_save 7 = .ok (.bipush (-2), 2) := by decide +kernel
theorem dX7_save_9 : decode cX7_save 9 = .ok (.ireturn, 1) := by decide +kernel
theorem dX7_save_10 : decode cX7_save 10 = .ok (.aload_n 0, 1) := by decide +kernel
theorem dX7_save_11 : decode cX7_save 11 = .ok (.getfield 41, 3) := by decide +kernel
theorem dX7_save_14 : decode cX7_save 14 = .ok (.iload_n 1, 1) := by decide +kernel
theorem dX7_save_15 : decode cX7_save 15 = .ok (.aload_n 0, 1) := by decide +kernel
theorem dX7_save_16 : decode cX7_save 16 = .ok (.getfield 10, 3) := by decide +kernel
theorem dX7_save_19 : decode cX7_save 19 = .ok (.invokevirtual 207, 3) := by decide +kernel
theorem dX7_save_22 : decode cX7_save 22 = .ok (.aload_n 0, 1) := by decide +kernel
theorem dX7_save_23 : decode cX7_save 23 = .ok (.dup, 1) := by decide +kernel
theorem dX7_save_24 : decode cX7_save 24 = .ok (.getfield 211, 3) := by decide +kernel
theorem dX7_save_27 : decode cX7_save 27 = .ok (.iconst 1, 1) := by decide +kernel
theorem dX7_save_28 : decode cX7_save 28 = .ok (.iload_n 1, 1) := by decide +kernel
theorem dX7_save_29 : decode cX7_save 29 = .ok (.ishl, 1) := by decide +kernel
theorem dX7_save_30 : decode cX7_save 30 = .ok (.ior, 1) := by decide +kernel
theorem dX7_save_31 : decode cX7_save 31 = .ok (.putfield 211, 3) := by decide +kernel
theorem dX7_save_34 : decode cX7_save 34 = .ok (.aload_n 0, 1) := by decide +kernel
theorem dX7_save_35 : decode cX7_save 35 = .ok (.getfield 10, 3) := by decide +kernel
theorem dX7_save_38 : decode cX7_save 38 = .ok (.invokevirtual 140, 3) := by decide +kernel
theorem dX7_save_41 : decode cX7_save 41 = .ok (.ireturn, 1) := by decide +kernel
theorem dX7_restore_0 : decode cX7_restore 0 = .ok (.iload_n 1, 1) := by decide +kernel
theorem dX7_restore_1 : decode cX7_restore 1 = .ok (.invokestatic 204, 3) := by decide +kernel
theorem dX7_restore_4 : decode cX7_restore 4 = .ok (.ifCond .ne 6, 3) := by decide +kernel
theorem dX7_restore_7 : decode cX7_restore 7 = .ok (.bipush (-2), 2) := by decide +kernel
theorem dX7_restore_9 : decode cX7_restore 9 = .ok (.ireturn, 1) := by decide +kernel
theorem dX7_restore_10 : decode cX7_restore 10 = .ok (.aload_n 0, 1) := by decide +kernel
theorem dX7_restore_11 : decode cX7_restore 11 = .ok (.getfield 211, 3) := by decide +kernel
theorem dX7_restore_14 : decode cX7_restore 14 = .ok (.iconst 1, 1) := by decide +kernel
theorem dX7_restore_15 : decode cX7_restore 15 = .ok (.iload_n 1, 1) := by decide +kernel
theorem dX7_restore_16 : decode cX7_restore 16 = .ok (.ishl, 1) := by decide +kernel
theorem dX7_restore_17 : decode cX7_restore 17 = .ok (.iand, 1) := by decide +kernel
theorem dX7_restore_18 : decode cX7_restore 18 = .ok (.ifCond .ne 6, 3) := by decide +kernel
theorem dX7_restore_21 : decode cX7_restore 21 = .ok (.bipush (-5), 2) := by decide +kernel
theorem dX7_restore_23 : decode cX7_restore 23 = .ok (.ireturn, 1) := by decide +kernel
theorem dX7_restore_24 : decode cX7_restore 24 = .ok (.aload_n 0, 1) := by decide +kernel
theorem dX7_restore_25 : decode cX7_restore 25 = .ok (.getfield 16, 3) := by decide +kernel
theorem dX7_restore_28 : decode cX7_restore 28 = .ok (.aload_n 0, 1) := by decide +kernel
theorem dX7_restore_29 : decode cX7_restore 29 = .ok (.getfield 10, 3) := by decide +kernel
theorem dX7_restore_32 : decode cX7_restore 32 = .ok (.invokevirtual 45, 3) := by decide +kernel
theorem dX7_restore_35 : decode cX7_restore 35 = .ok (.aload_n 0, 1) := by decide +kernel
theorem dX7_restore_36 : decode cX7_restore 36 = .ok (.getfield 41, 3) := by decide +kernel
theorem dX7_restore_39 : decode cX7_restore 39 = .ok (.iload_n 1, 1) := by decide +kernel
theorem dX7_restore_40 : decode cX7_restore 40 = .ok (.aload_n 0, 1) := by decide +kernel
theorem dX7_restore_41 : decode cX7_restore 41 = .ok (.getfield 10, 3) := by decide +kernel
theorem dX7_restore_44 : decode cX7_restore 44 = .ok (.invokevirtual 215, 3) := by decide +kernel
theorem dX7_restore_47 : decode cX7_restore 47 = .ok (.aload_n 0, 1) := by decide +kernel
theorem dX7_restore_48 : decode cX7_restore 48 = .ok (.aload_n 0, 1) := by decide +kernel
theorem dX7_restore_49 : decode cX7_restore 49 = .ok (.getfield 10, 3) := by decide +kernel
theorem dX7_restore_52 : decode cX7_restore 52 = .ok (.invokevirtual 140, 3) := by decide +kernel
theorem dX7_restore_55 : decode cX7_restore 55 = .ok (.invokevirtual 55, 3) := by decide +kernel
theorem dX7_restore_58 : decode cX7_restore 58 = .ok (.ireturn, 1) := by decide +kernel
theorem dX7_recorded_0 : decode cX7_recorded 0 = .ok (.iload_n 1, 1) := by decide +kernel
theorem dX7_recorded_1 : decode cX7_recorded 1 = .ok (.ifCond .lt 14, 3) := by decide +kernel
theorem dX7_recorded_4 : decode cX7_recorded 4 = .ok (.aload_n 0, 1) := by decide +kernel
theorem dX7_recorded_5 : decode cX7_recorded 5 = .ok (.getfield 32, 3) := by decide +kernel
theorem dX7_recorded_8 : decode cX7_recorded 8 = .ok (.aload_n 0, 1) := by decide +kernel
theorem dX7_recorded_9 : decode cX7_recorded 9 = .ok (.getfield 16, 3) := by decide +kernel
theorem dX7_recorded_12 : decode cX7_recorded 12 = .ok (.invokevirtual 218, 3) := by decide +kernel
theorem dX7_recorded_15 : decode cX7_recorded 15 = .ok (.iload_n 1, 1) := by decide +kernel
theorem dX7_recorded_16 : decode cX7_recorded 16 = .ok (.ireturn, 1) := by decide +kernel
theorem dX7_carryOutOrder_0 : decode cX7_carryOutOrder 0 = .ok (.aload_n 0, 1) := by decide +kernel
theorem dX7_carryOutOrder_1 : decode cX7_carryOutOrder 1 = .ok (.getfield 25, 3) := by decide +kernel
theorem dX7_carryOutOrder_4 : decode cX7_carryOutOrder 4 = .ok (.iconst 0, 1) := by decide +kernel
theorem dX7_carryOutOrder_5 : decode cX7_carryOutOrder 5 = .ok (.invokevirtual 221, 3) := by decide +kernel
theorem dX7_carryOutOrder_8 : decode cX7_carryOutOrder 8 = .ok (.istore_n 1, 1) := by decide +kernel
theorem dX7_carryOutOrder_9 : decode cX7_carryOutOrder 9 = .ok (.aload_n 0, 1) := by decide +kernel
theorem dX7_carryOutOrder_10 : decode cX7_carryOutOrder 10 = .ok (.getfield 25, 3) := by decide +kernel
theorem dX7_carryOutOrder_13 : decode cX7_carryOutOrder 13 = .ok (.iconst 1, 1) := by decide +kernel
theorem dX7_carryOutOrder_14 : decode cX7_carryOutOrder 14 = .ok (.invokevirtual 221, 3) := by decide +kernel
theorem dX7_carryOutOrder_17 : decode cX7_carryOutOrder 17 = .ok (.istore_n 2, 1) := by decide +kernel
theorem dX7_carryOutOrder_18 : decode cX7_carryOutOrder 18 = .ok (.aload_n 0, 1) := by decide +kernel
theorem dX7_carryOutOrder_19 : decode cX7_carryOutOrder 19 = .ok (.getfield 25, 3) := by decide +kernel
theorem dX7_carryOutOrder_22 : decode cX7_carryOutOrder 22 = .ok (.invokevirtual 224, 3) := by decide +kernel
theorem dX7_carryOutOrder_25 : decode cX7_carryOutOrder 25 = .ok (.tableswitch 232 97 119 #[216, 232, 207, 232, 232, 232, 232, 232, 232, 232, 224, 140, 189, 232, 232, 199, 232, 232, 107, 232, 232, 232, 157], 107) := by decide +kernel
theorem dX7_carryOutOrder_132 : decode cX7_carryOutOrder 132 = .ok (.aload_n 0, 1) := by decide +kernel
theorem dX7_carryOutOrder_133 : decode cX7_carryOutOrder 133 = .ok (.getfield 10, 3) := by decide +kernel
theorem dX7_carryOutOrder_136 : decode cX7_carryOutOrder 136 = .ok (.aload_n 0, 1) := by decide +kernel
theorem dX7_carryOutOrder_137 : decode cX7_carryOutOrder 137 = .ok (.getfield 10, 3) := by decide +kernel
theorem dX7_carryOutOrder_140 : decode cX7_carryOutOrder 140 = .ok (.invokevirtual 140, 3) := by decide +kernel
theorem dX7_carryOutOrder_143 : decode cX7_carryOutOrder 143 = .ok (.iload_n 1, 1) := by decide +kernel
theorem dX7_carryOutOrder_144 : decode cX7_carryOutOrder 144 = .ok (.iload_n 2, 1) := by decide +kernel
theorem dX7_carryOutOrder_145 : decode cX7_carryOutOrder 145 = .ok (.aload_n 0, 1) := by decide +kernel
theorem dX7_carryOutOrder_146 : decode cX7_carryOutOrder 146 = .ok (.getfield 25, 3) := by decide +kernel
theorem dX7_carryOutOrder_149 : decode cX7_carryOutOrder 149 = .ok (.iconst 2, 1) := by decide +kernel
theorem dX7_carryOutOrder_150 : decode cX7_carryOutOrder 150 = .ok (.invokevirtual 221, 3) := by decide +kernel
theorem dX7_carryOutOrder_153 : decode cX7_carryOutOrder 153 = .ok (.aload_n 0, 1) := by decide +kernel
theorem dX7_carryOutOrder_154 : decode cX7_carryOutOrder 154 = .ok (.getfield 25, 3) := by decide +kernel
theorem dX7_carryOutOrder_157 : decode cX7_carryOutOrder 157 = .ok (.iconst 3, 1) := by decide +kernel
theorem dX7_carryOutOrder_158 : decode cX7_carryOutOrder 158 = .ok (.invokevirtual 221, 3) := by decide +kernel
theorem dX7_carryOutOrder_161 : decode cX7_carryOutOrder 161 = .ok (.invokestatic 59, 3) := by decide +kernel
theorem dX7_carryOutOrder_164 : decode cX7_carryOutOrder 164 = .ok (.ireturn, 1) := by decide +kernel
theorem dX7_carryOutOrder_165 : decode cX7_carryOutOrder 165 = .ok (.aload_n 0, 1) := by decide +kernel
theorem dX7_carryOutOrder_166 : decode cX7_carryOutOrder 166 = .ok (.getfield 10, 3) := by decide +kernel
theorem dX7_carryOutOrder_169 : decode cX7_carryOutOrder 169 = .ok (.iload_n 1, 1) := by decide +kernel
theorem dX7_carryOutOrder_170 : decode cX7_carryOutOrder 170 = .ok (.aload_n 0, 1) := by decide +kernel
theorem dX7_carryOutOrder_171 : decode cX7_carryOutOrder 171 = .ok (.getfield 25, 3) := by decide +kernel
theorem dX7_carryOutOrder_174 : decode cX7_carryOutOrder 174 = .ok (.invokevirtual 227, 3) := by decide +kernel
theorem dX7_carryOutOrder_177 : decode cX7_carryOutOrder 177 = .ok (.iload_n 2, 1) := by decide +kernel
theorem dX7_carryOutOrder_178 : decode cX7_carryOutOrder 178 = .ok (.invokestatic 67, 3) := by decide +kernel
theorem dX7_carryOutOrder_181 : decode cX7_carryOutOrder 181 = .ok (.ireturn, 1) := by decide +kernel
theorem dX7_carryOutOrder_182 : decode cX7_carryOutOrder 182 = .ok (.aload_n 0, 1) := by decide +kernel
theorem dX7_carryOutOrder_183 : decode cX7_carryOutOrder 183 = .ok (.getfield 10, 3) := by decide +kernel
theorem dX7_carryOutOrder_186 : decode cX7_carryOutOrder 186 = .ok (.iload_n 1, 1) := by decide +kernel
theorem dX7_carryOutOrder_187 : decode cX7_carryOutOrder 187 = .ok (.aload_n 0, 1) := by decide +kernel
theorem dX7_carryOutOrder_188 : decode cX7_carryOutOrder 188 = .ok (.getfield 25, 3) := by decide +kernel
theorem dX7_carryOutOrder_191 : decode cX7_carryOutOrder 191 = .ok (.invokevirtual 227, 3) := by decide +kernel
theorem dX7_carryOutOrder_194 : decode cX7_carryOutOrder 194 = .ok (.aload_n 0, 1) := by decide +kernel
theorem dX7_carryOutOrder_195 : decode cX7_carryOutOrder 195 = .ok (.getfield 25, 3) := by decide +kernel
theorem dX7_carryOutOrder_198 : decode cX7_carryOutOrder 198 = .ok (.invokevirtual 230, 3) := by decide +kernel
theorem dX7_carryOutOrder_201 : decode cX7_carryOutOrder 201 = .ok (.ifCond .eq 8, 3) := by decide +kernel
theorem dX7_carryOutOrder_204 : decode cX7_carryOutOrder 204 = .ok (.iload_n 2, 1) := by decide +kernel
theorem dX7_carryOutOrder_205 : decode cX7_carryOutOrder 205 = .ok (.ineg, 1) := by decide +kernel
theorem dX7_carryOutOrder_206 : decode cX7_carryOutOrder 206 = .ok (.goto 4, 3) := by decide +kernel
theorem dX7_carryOutOrder_209 : decode cX7_carryOutOrder 209 = .ok (.iload_n 2, 1) := by decide +kernel
theorem dX7_carryOutOrder_210 : decode cX7_carryOutOrder 210 = .ok (.invokestatic 71, 3) := by decide +kernel
theorem dX7_carryOutOrder_213 : decode cX7_carryOutOrder 213 = .ok (.ireturn, 1) := by decide +kernel
theorem dX7_carryOutOrder_214 : decode cX7_carryOutOrder 214 = .ok (.aload_n 0, 1) := by decide +kernel
theorem dX7_carryOutOrder_215 : decode cX7_carryOutOrder 215 = .ok (.getfield 10, 3) := by decide +kernel
theorem dX7_carryOutOrder_218 : decode cX7_carryOutOrder 218 = .ok (.iload_n 1, 1) := by decide +kernel
theorem dX7_carryOutOrder_219 : decode cX7_carryOutOrder 219 = .ok (.iload_n 2, 1) := by decide +kernel
theorem dX7_carryOutOrder_220 : decode cX7_carryOutOrder 220 = .ok (.invokestatic 74, 3) := by decide +kernel
theorem dX7_carryOutOrder_223 : decode cX7_carryOutOrder 223 = .ok (.ireturn, 1) := by decide +kernel
theorem dX7_carryOutOrder_224 : decode cX7_carryOutOrder 224 = .ok (.aload_n 0, 1) := by decide +kernel
theorem dX7_carryOutOrder_225 : decode cX7_carryOutOrder 225 = .ok (.getfield 10, 3) := by decide +kernel
theorem dX7_carryOutOrder_228 : decode cX7_carryOutOrder 228 = .ok (.invokestatic 83, 3) := by decide +kernel
theorem dX7_carryOutOrder_231 : decode cX7_carryOutOrder 231 = .ok (.ireturn, 1) := by decide +kernel
theorem dX7_carryOutOrder_232 : decode cX7_carryOutOrder 232 = .ok (.aload_n 0, 1) := by decide +kernel
theorem dX7_carryOutOrder_233 : decode cX7_carryOutOrder 233 = .ok (.getfield 10, 3) := by decide +kernel
theorem dX7_carryOutOrder_236 : decode cX7_carryOutOrder 236 = .ok (.iload_n 1, 1) := by decide +kernel
theorem dX7_carryOutOrder_237 : decode cX7_carryOutOrder 237 = .ok (.invokestatic 87, 3) := by decide +kernel
theorem dX7_carryOutOrder_240 : decode cX7_carryOutOrder 240 = .ok (.ireturn, 1) := by decide +kernel
theorem dX7_carryOutOrder_241 : decode cX7_carryOutOrder 241 = .ok (.aload_n 0, 1) := by decide +kernel
theorem dX7_carryOutOrder_242 : decode cX7_carryOutOrder 242 = .ok (.getfield 10, 3) := by decide +kernel
theorem dX7_carryOutOrder_245 : decode cX7_carryOutOrder 245 = .ok (.invokestatic 90, 3) := by decide +kernel
theorem dX7_carryOutOrder_248 : decode cX7_carryOutOrder 248 = .ok (.ireturn, 1) := by decide +kernel
theorem dX7_carryOutOrder_249 : decode cX7_carryOutOrder 249 = .ok (.aload_n 0, 1) := by decide +kernel
theorem dX7_carryOutOrder_250 : decode cX7_carryOutOrder 250 = .ok (.getfield 10, 3) := by decide +kernel
theorem dX7_carryOutOrder_253 : decode cX7_carryOutOrder 253 = .ok (.invokestatic 93, 3) := by decide +kernel
theorem dX7_carryOutOrder_256 : decode cX7_carryOutOrder 256 = .ok (.ireturn, 1) := by decide +kernel
theorem dX7_carryOutOrder_257 : decode cX7_carryOutOrder 257 = .ok (.bipush (-3), 2) := by decide +kernel
theorem dX7_carryOutOrder_259 : decode cX7_carryOutOrder 259 = .ok (.ireturn, 1) := by decide +kernel
theorem dX7_isWithin_0 : decode cX7_isWithin 0 = .ok (.iload_n 0, 1) := by decide +kernel
theorem dX7_isWithin_1 : decode cX7_isWithin 1 = .ok (.iload_n 1, 1) := by decide +kernel
theorem dX7_isWithin_2 : decode cX7_isWithin 2 = .ok (.if_icmp .lt 12, 3) := by decide +kernel
theorem dX7_isWithin_5 : decode cX7_isWithin 5 = .ok (.iload_n 0, 1) := by decide +kernel
theorem dX7_isWithin_6 : decode cX7_isWithin 6 = .ok (.iload_n 2, 1) := by decide +kernel
theorem dX7_isWithin_7 : decode cX7_isWithin 7 = .ok (.if_icmp .gt 7, 3) := by decide +kernel
theorem dX7_isWithin_10 : decode cX7_isWithin 10 = .ok (.iconst 1, 1) := by decide +kernel
theorem dX7_isWithin_11 : decode cX7_isWithin 11 = .ok (.goto 4, 3) := by decide +kernel
theorem dX7_isWithin_14 : decode cX7_isWithin 14 = .ok (.iconst 0, 1) := by decide +kernel
theorem dX7_isWithin_15 : decode cX7_isWithin 15 = .ok (.ireturn, 1) := by decide +kernel
theorem dX7_isColour_0 : decode cX7_isColour 0 = .ok (.iload_n 0, 1) := by decide +kernel
theorem dX7_isColour_1 : decode cX7_isColour 1 = .ok (.iconst 0, 1) := by decide +kernel
theorem dX7_isColour_2 : decode cX7_isColour 2 = .ok (.iconst 2, 1) := by decide +kernel
theorem dX7_isColour_3 : decode cX7_isColour 3 = .ok (.invokestatic 168, 3) := by decide +kernel
theorem dX7_isColour_6 : decode cX7_isColour 6 = .ok (.ireturn, 1) := by decide +kernel
theorem dX7_isPoints_0 : decode cX7_isPoints 0 = .ok (.iload_n 0, 1) := by decide +kernel
theorem dX7_isPoints_1 : decode cX7_isPoints 1 = .ok (.iconst 0, 1) := by decide +kernel
theorem dX7_isPoints_2 : decode cX7_isPoints 2 = .ok (.bipush 50, 2) := by decide +kernel
theorem dX7_isPoints_4 : decode cX7_isPoints 4 = .ok (.invokestatic 168, 3) := by decide +kernel
theorem dX7_isPoints_7 : decode cX7_isPoints 7 = .ok (.ireturn, 1) := by decide +kernel
theorem dX7_isSlot_0 : decode cX7_isSlot 0 = .ok (.iload_n 0, 1) := by decide +kernel
theorem dX7_isSlot_1 : decode cX7_isSlot 1 = .ok (.iconst 0, 1) := by decide +kernel
theorem dX7_isSlot_2 : decode cX7_isSlot 2 = .ok (.iconst 1, 1) := by decide +kernel
theorem dX7_isSlot_3 : decode cX7_isSlot 3 = .ok (.invokestatic 168, 3) := by decide +kernel
theorem dX7_isSlot_6 : decode cX7_isSlot 6 = .ok (.ireturn, 1) := by decide +kernel
theorem dX7_bounded_0 : decode cX7_bounded 0 = .ok (.iload_n 0, 1) := by decide +kernel
theorem dX7_bounded_1 : decode cX7_bounded 1 = .ok (.ifCond .ge 7, 3) := by decide +kernel
theorem dX7_bounded_4 : decode cX7_bounded 4 = .ok (.iconst 0, 1) := by decide +kernel
theorem dX7_bounded_5 : decode cX7_bounded 5 = .ok (.goto 15, 3) := by decide +kernel
theorem dX7_bounded_8 : decode cX7_bounded 8 = .ok (.iload_n 0, 1) := by decide +kernel
theorem dX7_bounded_9 : decode cX7_bounded 9 = .ok (.bipush 50, 2) := by decide +kernel
theorem dX7_bounded_11 : decode cX7_bounded 11 = .ok (.if_icmp .le 8, 3) := by decide +kernel
theorem dX7_bounded_14 : decode cX7_bounded 14 = .ok (.bipush 50, 2) := by decide +kernel
theorem dX7_bounded_16 : decode cX7_bounded 16 = .ok (.goto 4, 3) := by decide +kernel
theorem dX7_bounded_19 : decode cX7_bounded 19 = .ok (.iload_n 0, 1) := by decide +kernel
theorem dX7_bounded_20 : decode cX7_bounded 20 = .ok (.ireturn, 1) := by decide +kernel
theorem dX8_init_0 : decode cX8_init 0 = .ok (.aload_n 0, 1) := by decide +kernel
theorem dX8_init_1 : decode cX8_init 1 = .ok (.invokespecial 1, 3) := by decide +kernel
theorem dX8_init_4 : decode cX8_init 4 = .ok (.aload_n 0, 1) := by decide +kernel
theorem dX8_init_5 : decode cX8_init 5 = .ok (.sipush 293, 3) := by decide +kernel
theorem dX8_init_8 : decode cX8_init 8 = .ok (.newarray .int, 2) := by decide +kernel
theorem dX8_init_10 : decode cX8_init 10 = .ok (.putfield 7, 3) := by decide +kernel
theorem dX8_init_13 : decode cX8_init 13 = .ok (.aload_n 0, 1) := by decide +kernel
theorem dX8_init_14 : decode cX8_init 14 = .ok (.sipush 293, 3) := by decide +kernel
theorem dX8_init_17 : decode cX8_init 17 = .ok (.newarray .int, 2) := by decide +kernel
theorem dX8_init_19 : decode cX8_init 19 = .ok (.putfield 13, 3) := by decide +kernel
theorem dX8_init_22 : decode cX8_init 22 = .ok (.aload_n 0, 1) := by decide +kernel
theorem dX8_init_23 : decode cX8_init 23 = .ok (.sipush 1758, 3) := by decide +kernel
theorem dX8_init_26 : decode cX8_init 26 = .ok (.newarray .int, 2) := by decide +kernel
theorem dX8_init_28 : decode cX8_init 28 = .ok (.putfield 16, 3) := by decide +kernel
theorem dX8_init_31 : decode cX8_init 31 = .ok (.aload_n 0, 1) := by decide +kernel
theorem dX8_init_32 : decode cX8_init 32 = .ok (.sipush 586, 3) := by decide +kernel
theorem dX8_init_35 : decode cX8_init 35 = .ok (.newarray .int, 2) := by decide +kernel
theorem dX8_init_37 : decode cX8_init 37 = .ok (.putfield 19, 3) := by decide +kernel
theorem dX8_init_40 : decode cX8_init 40 = .ok (.aload_n 0, 1) := by decide +kernel
theorem dX8_init_41 : decode cX8_init 41 = .ok (.iconst 2, 1) := by decide +kernel
theorem dX8_init_42 : decode cX8_init 42 = .ok (.newarray .int, 2) := by decide +kernel
theorem dX8_init_44 : decode cX8_init 44 = .ok (.putfield 22, 3) := by decide +kernel
theorem dX8_init_47 : decode cX8_init 47 = .ok (.aload_n 0, 1) := by decide +kernel
theorem dX8_init_48 : decode cX8_init 48 = .ok (.bipush 80, 2) := by decide +kernel
theorem dX8_init_50 : decode cX8_init 50 = .ok (.newarray .int, 2) := by decide +kernel
theorem dX8_init_52 : decode cX8_init 52 = .ok (.putfield 25, 3) := by decide +kernel
theorem dX8_init_55 : decode cX8_init 55 = .ok (.aload_n 0, 1) := by decide +kernel
theorem dX8_init_56 : decode cX8_init 56 = .ok (.iconst 4, 1) := by decide +kernel
theorem dX8_init_57 : decode cX8_init 57 = .ok (.newarray .int, 2) := by decide +kernel
theorem dX8_init_59 : decode cX8_init 59 = .ok (.putfield 28, 3) := by decide +kernel
theorem dX8_init_62 : decode cX8_init 62 = .ok (.aload_n 0, 1) := by decide +kernel
theorem dX8_init_63 : decode cX8_init 63 = .ok (.getfield 7, 3) := by decide +kernel
theorem dX8_init_66 : decode cX8_init 66 = .ok (.iconst 0, 1) := by decide +kernel
theorem dX8_init_67 : decode cX8_init 67 = .ok (.iconst 1, 1) := by decide +kernel
theorem dX8_init_68 : decode cX8_init 68 = .ok (.iastore, 1) := by decide +kernel
theorem dX8_init_69 : decode cX8_init 69 = .ok (.aload_n 0, 1) := by decide +kernel
theorem dX8_init_70 : decode cX8_init 70 = .ok (.getfield 7, 3) := by decide +kernel
theorem dX8_init_73 : decode cX8_init 73 = .ok (.iconst 1, 1) := by decide +kernel
theorem dX8_init_74 : decode cX8_init 74 = .ok (.iconst 1, 1) := by decide +kernel
theorem dX8_init_75 : decode cX8_init 75 = .ok (.iastore, 1) := by decide +kernel
theorem dX8_init_76 : decode cX8_init 76 = .ok (.aload_n 0, 1) := by decide +kernel
theorem dX8_init_77 : decode cX8_init 77 = .ok (.getfield 7, 3) := by decide +kernel
theorem dX8_init_80 : decode cX8_init 80 = .ok (.iconst 2, 1) := by decide +kernel
theorem dX8_init_81 : decode cX8_init 81 = .ok (.bipush 8, 2) := by decide +kernel
theorem dX8_init_83 : decode cX8_init 83 = .ok (.iastore, 1) := by decide +kernel
theorem dX8_init_84 : decode cX8_init 84 = .ok (.aload_n 0, 1) := by decide +kernel
theorem dX8_init_85 : decode cX8_init 85 = .ok (.getfield 7, 3) := by decide +kernel
theorem dX8_init_88 : decode cX8_init 88 = .ok (.iconst 3, 1) := by decide +kernel
theorem dX8_init_89 : decode cX8_init 89 = .ok (.bipush 10, 2) := by decide +kernel
theorem dX8_init_91 : decode cX8_init 91 = .ok (.iastore, 1) := by decide +kernel
theorem dX8_init_92 : decode cX8_init 92 = .ok (.return_, 1) := by decide +kernel
theorem dX8_within_0 : decode cX8_within 0 = .ok (.iload_n 0, 1) := by decide +kernel
theorem dX8_within_1 : decode cX8_within 1 = .ok (.iload_n 1, 1) := by decide +kernel
theorem dX8_within_2 : decode cX8_within 2 = .ok (.if_icmp .lt 12, 3) := by decide +kernel
theorem dX8_within_5 : decode cX8_within 5 = .ok (.iload_n 0, 1) := by decide +kernel
theorem dX8_within_6 : decode cX8_within 6 = .ok (.iload_n 2, 1) := by decide +kernel
theorem dX8_within_7 : decode cX8_within 7 = .ok (.if_icmp .gt 7, 3) := by decide +kernel
theorem dX8_within_10 : decode cX8_within 10 = .ok (.iconst 1, 1) := by decide +kernel
theorem dX8_within_11 : decode cX8_within 11 = .ok (.goto 4, 3) := by decide +kernel
theorem dX8_within_14 : decode cX8_within 14 = .ok (.iconst 0, 1) := by decide +kernel
theorem dX8_within_15 : decode cX8_within 15 = .ok (.ireturn, 1) := by decide +kernel
theorem dX8_bounded_0 : decode cX8_bounded 0 = .ok (.iload_n 0, 1) := by decide +kernel
theorem dX8_bounded_1 : decode cX8_bounded 1 = .ok (.ifCond .ge 7, 3) := by decide +kernel
theorem dX8_bounded_4 : decode cX8_bounded 4 = .ok (.iconst 0, 1) := by decide +kernel
theorem dX8_bounded_5 : decode cX8_bounded 5 = .ok (.goto 15, 3) := by decide +kernel
theorem dX8_bounded_8 : decode cX8_bounded 8 = .ok (.iload_n 0, 1) := by decide +kernel
theorem dX8_bounded_9 : decode cX8_bounded 9 = .ok (.bipush 50, 2) := by decide +kernel
theorem dX8_bounded_11 : decode cX8_bounded 11 = .ok (.if_icmp .le 8, 3) := by decide +kernel
theorem dX8_bounded_14 : decode cX8_bounded 14 = .ok (.bipush 50, 2) := by decide +kernel
theorem dX8_bounded_16 : decode cX8_bounded 16 = .ok (.goto 4, 3) := by decide +kernel
theorem dX8_bounded_19 : decode cX8_bounded 19 = .ok (.iload_n 0, 1) := by decide +kernel
theorem dX8_bounded_20 : decode cX8_bounded 20 = .ok (.ireturn, 1) := by decide +kernel
theorem dX8_sizeOf_0 : decode cX8_sizeOf 0 = .ok (.iload_n 0, 1) := by decide +kernel
theorem dX8_sizeOf_1 : decode cX8_sizeOf 1 = .ok (.ifCond .ge 8, 3) := by decide +kernel
theorem dX8_sizeOf_4 : decode cX8_sizeOf 4 = .ok (.iload_n 0, 1) := by decide +kernel
theorem dX8_sizeOf_5 : decode cX8_sizeOf 5 = .ok (.ineg, 1) := by decide +kernel
theorem dX8_sizeOf_6 : decode cX8_sizeOf 6 = .ok (.goto 4, 3) := by decide +kernel
theorem dX8_sizeOf_9 : decode cX8_sizeOf 9 = .ok (.iload_n 0, 1) := by decide +kernel
theorem dX8_sizeOf_10 : decode cX8_sizeOf 10 = .ok (.ireturn, 1) := by decide +kernel
theorem dX8_isShot_0 : decode cX8_isShot 0 = .ok (.iload_n 1, 1) := by decide +kernel
theorem dX8_isShot_1 : decode cX8_isShot 1 = .ok (.iconst 0, 1) := by decide +kernel
theorem dX8_isShot_2 : decode cX8_isShot 2 = .ok (.aload_n 0, 1) := by decide +kernel
theorem dX8_isShot_3 : decode cX8_isShot 3 = .ok (.getfield 7, 3) := by decide +kernel
theorem dX8_isShot_6 : decode cX8_isShot 6 = .ok (.iconst 4, 1) := by decide +kernel
theorem dX8_isShot_7 : decode cX8_isShot 7 = .ok (.iaload, 1) := by decide +kernel
theorem dX8_isShot_8 : decode cX8_isShot 8 = .ok (.iconst 1, 1) := by decide +kernel
theorem dX8_isShot_9 : decode cX8_isShot 9 = .ok (.isub, 1) := by decide +kernel
theorem dX8_isShot_10 : decode cX8_isShot 10 = .ok (.invokestatic 31, 3) := by decide +kernel
theorem dX8_isShot_13 : decode cX8_isShot 13 = .ok (.ireturn, 1) := by decide +kernel
theorem dX8_isColour_0 : decode cX8_isColour 0 = .ok (.iload_n 0, 1) := by decide +kernel
theorem dX8_isColour_1 : decode cX8_isColour 1 = .ok (.iconst 0, 1) := by decide +kernel
theorem dX8_isColour_2 : decode cX8_isColour 2 = .ok (.iconst 2, 1) := by decide +kernel
theorem dX8_isColour_3 : decode cX8_isColour 3 = .ok (.invokestatic 31, 3) := by decide +kernel
theorem dX8_isColour_6 : decode cX8_isColour 6 = .ok (.ireturn, 1) := by decide +kernel
theorem dX8_isPoints_0 : decode cX8_isPoints 0 = .ok (.iload_n 0, 1) := by decide +kernel
theorem dX8_isPoints_1 : decode cX8_isPoints 1 = .ok (.iconst 0, 1) := by decide +kernel
theorem dX8_isPoints_2 : decode cX8_isPoints 2 = .ok (.bipush 50, 2) := by decide +kernel
theorem dX8_isPoints_4 : decode cX8_isPoints 4 = .ok (.invokestatic 31, 3) := by decide +kernel
theorem dX8_isPoints_7 : decode cX8_isPoints 7 = .ok (.ireturn, 1) := by decide +kernel
theorem dX8_of14_0 : decode cX8_of14 0 = .ok (.aload_n 0, 1) := by decide +kernel
theorem dX8_of14_1 : decode cX8_of14 1 = .ok (.getfield 7, 3) := by decide +kernel
theorem dX8_of14_4 : decode cX8_of14 4 = .ok (.bipush 13, 2) := by decide +kernel
theorem dX8_of14_6 : decode cX8_of14 6 = .ok (.bipush 14, 2) := by decide +kernel
theorem dX8_of14_8 : decode cX8_of14 8 = .ok (.iload_n 1, 1) := by decide +kernel
theorem dX8_of14_9 : decode cX8_of14 9 = .ok (.imul, 1) := by decide +kernel
theorem dX8_of14_10 : decode cX8_of14 10 = .ok (.iadd, 1) := by decide +kernel
theorem dX8_of14_11 : decode cX8_of14 11 = .ok (.iload_n 2, 1) := by decide +kernel
theorem dX8_of14_12 : decode cX8_of14 12 = .ok (.iadd, 1) := by decide +kernel
theorem dX8_of14_13 : decode cX8_of14 13 = .ok (.iaload, 1) := by decide +kernel
theorem dX8_of14_14 : decode cX8_of14 14 = .ok (.ireturn, 1) := by decide +kernel
theorem dX8_setOf_0 : decode cX8_setOf 0 = .ok (.aload_n 0, 1) := by decide +kernel
theorem dX8_setOf_1 : decode cX8_setOf 1 = .ok (.getfield 7, 3) := by decide +kernel
theorem dX8_setOf_4 : decode cX8_setOf 4 = .ok (.bipush 13, 2) := by decide +kernel
theorem dX8_setOf_6 : decode cX8_setOf 6 = .ok (.bipush 14, 2) := by decide +kernel
theorem dX8_setOf_8 : decode cX8_setOf 8 = .ok (.iload_n 1, 1) := by decide +kernel
theorem dX8_setOf_9 : decode cX8_setOf 9 = .ok (.imul, 1) := by decide +kernel
theorem dX8_setOf_10 : decode cX8_setOf 10 = .ok (.iadd, 1) := by decide +kernel
theorem dX8_setOf_11 : decode cX8_setOf 11 = .ok (.iload_n 2, 1) := by decide +kernel
theorem dX8_setOf_12 : decode cX8_setOf 12 = .ok (.iadd, 1) := by decide +kernel
theorem dX8_setOf_13 : decode cX8_setOf 13 = .ok (.iload_n 3, 1) := by decide +kernel
theorem dX8_setOf_14 : decode cX8_setOf 14 = .ok (.iastore, 1) := by decide +kernel
theorem dX8_setOf_15 : decode cX8_setOf 15 = .ok (.return_, 1) := by decide +kernel
theorem dX8_putAside_0 : decode cX8_putAside 0 = .ok (.iconst 0, 1) := by decide +kernel
theorem dX8_putAside_1 : decode cX8_putAside 1 = .ok (.istore_n 1, 1) := by decide +kernel
theorem dX8_putAside_2 : decode cX8_putAside 2 = .ok (.iload_n 1, 1) := by decide +kernel
theorem dX8_putAside_3 : decode cX8_putAside 3 = .ok (.sipush 293, 3) := by decide +kernel
theorem dX8_putAside_6 : decode cX8_putAside 6 = .ok (.if_icmp .ge 21, 3) := by decide +kernel
theorem dX8_putAside_9 : decode cX8_putAside 9 = .ok (.aload_n 0, 1) := by decide +kernel
theorem dX8_putAside_10 : decode cX8_putAside 10 = .ok (.getfield 13, 3) := by decide +kernel
theorem dX8_putAside_13 : decode cX8_putAside 13 = .ok (.iload_n 1, 1) := by decide +kernel
theorem dX8_putAside_14 : decode cX8_putAside 14 = .ok (.aload_n 0, 1) := by decide +kernel
theorem dX8_putAside_15 : decode cX8_putAside 15 = .ok (.getfield 7, 3) := by decide +kernel
theorem dX8_putAside_18 : decode cX8_putAside 18 = .ok (.iload_n 1, 1) := by decide +kernel
theorem dX8_putAside_19 : decode cX8_putAside 19 = .ok (.iaload, 1) := by decide +kernel
theorem dX8_putAside_20 : decode cX8_putAside 20 = .ok (.iastore, 1) := by decide +kernel
theorem dX8_putAside_21 : decode cX8_putAside 21 = .ok (.iinc 1 1, 3) := by decide +kernel
theorem dX8_putAside_24 : decode cX8_putAside 24 = .ok (.goto (-22), 3) := by decide +kernel
theorem dX8_putAside_27 : decode cX8_putAside 27 = .ok (.return_, 1) := by decide +kernel
theorem dX8_takeBack_0 : decode cX8_takeBack 0 = .ok (.iconst 0, 1) := by decide +kernel
theorem dX8_takeBack_1 : decode cX8_takeBack 1 = .ok (.istore_n 1, 1) := by decide +kernel
theorem dX8_takeBack_2 : decode cX8_takeBack 2 = .ok (.iload_n 1, 1) := by decide +kernel
theorem dX8_takeBack_3 : decode cX8_takeBack 3 = .ok (.sipush 293, 3) := by decide +kernel
theorem dX8_takeBack_6 : decode cX8_takeBack 6 = .ok (.if_icmp .ge 21, 3) := by decide +kernel
theorem dX8_takeBack_9 : decode cX8_takeBack 9 = .ok (.aload_n 0, 1) := by decide +kernel
theorem dX8_takeBack_10 : decode cX8_takeBack 10 = .ok (.getfield 7, 3) := by decide +kernel
theorem dX8_takeBack_13 : decode cX8_takeBack 13 = .ok (.iload_n 1, 1) := by decide +kernel
theorem dX8_takeBack_14 : decode cX8_takeBack 14 = .ok (.aload_n 0, 1) := by decide +kernel
theorem dX8_takeBack_15 : decode cX8_takeBack 15 = .ok (.getfield 13, 3) := by decide +kernel
theorem dX8_takeBack_18 : decode cX8_takeBack 18 = .ok (.iload_n 1, 1) := by decide +kernel
theorem dX8_takeBack_19 : decode cX8_takeBack 19 = .ok (.iaload, 1) := by decide +kernel
theorem dX8_takeBack_20 : decode cX8_takeBack 20 = .ok (.iastore, 1) := by decide +kernel
theorem dX8_takeBack_21 : decode cX8_takeBack 21 = .ok (.iinc 1 1, 3) := by decide +kernel
theorem dX8_takeBack_24 : decode cX8_takeBack 24 = .ok (.goto (-22), 3) := by decide +kernel
theorem dX8_takeBack_27 : decode cX8_takeBack 27 = .ok (.return_, 1) := by decide +kernel
theorem dX8_push_0 : decode cX8_push 0 = .ok (.aload_n 0, 1) := by decide +kernel
theorem dX8_push_1 : decode cX8_push 1 = .ok (.getfield 35, 3) := by decide +kernel
theorem dX8_push_4 : decode cX8_push 4 = .ok (.bipush 6, 2) := by decide +kernel
theorem dX8_push_6 : decode cX8_push 6 = .ok (.if_icmp .ne 44, 3) := by decide +kernel
theorem dX8_push_9 : decode cX8_push 9 = .ok (.iconst 0, 1) := by decide +kernel
theorem dX8_push_10 : decode cX8_push 10 = .ok (.istore_n 1, 1) := by decide +kernel
theorem dX8_push_11 : decode cX8_push 11 = .ok (.iload_n 1, 1) := by decide +kernel
theorem dX8_push_12 : decode cX8_push 12 = .ok (.sipush 1465, 3) := by decide +kernel
theorem dX8_push_15 : decode cX8_push 15 = .ok (.if_icmp .ge 25, 3) := by decide +kernel
theorem dX8_push_18 : decode cX8_push 18 = .ok (.aload_n 0, 1) := by decide +kernel
theorem dX8_push_19 : decode cX8_push 19 = .ok (.getfield 16, 3) := by decide +kernel
theorem dX8_push_22 : decode cX8_push 22 = .ok (.iload_n 1, 1) := by decide +kernel
theorem dX8_push_23 : decode cX8_push 23 = .ok (.aload_n 0, 1) := by decide +kernel
theorem dX8_push_24 : decode cX8_push 24 = .ok (.getfield 16, 3) := by decide +kernel
theorem dX8_push_27 : decode cX8_push 27 = .ok (.iload_n 1, 1) := by decide +kernel
theorem dX8_push_28 : decode cX8_push 28 = .ok (.sipush 293, 3) := by decide +kernel
theorem dX8_push_31 : decode cX8_push 31 = .ok (.iadd, 1) := by decide +kernel
theorem dX8_push_32 : decode cX8_push 32 = .ok (.iaload, 1) := by decide +kernel
theorem dX8_push_33 : decode cX8_push 33 = .ok (.iastore, 1) := by decide +kernel
theorem dX8_push_34 : decode cX8_push 34 = .ok (.iinc 1 1, 3) := by decide +kernel
theorem dX8_push_37 : decode cX8_push 37 = .ok (.goto (-26), 3) := by decide +kernel
theorem dX8_push_40 : decode cX8_push 40 = .ok (.aload_n 0, 1) := by decide +kernel
theorem dX8_push_41 : decode cX8_push 41 = .ok (.dup, 1) := by decide +kernel
theorem dX8_push_42 : decode cX8_push 42 = .ok (.getfield 35, 3) := by decide +kernel
theorem dX8_push_45 : decode cX8_push 45 = .ok (.iconst 1, 1) := by decide +kernel
theorem dX8_push_46 : decode cX8_push 46 = .ok (.isub, 1) := by decide +kernel
theorem dX8_push_47 : decode cX8_push 47 = .ok (.putfield 35, 3) := by decide +kernel
theorem dX8_push_50 : decode cX8_push 50 = .ok (.iconst 0, 1) := by decide +kernel
theorem dX8_push_51 : decode cX8_push 51 = .ok (.istore_n 1, 1) := by decide +kernel
theorem dX8_push_52 : decode cX8_push 52 = .ok (.iload_n 1, 1) := by decide +kernel
theorem dX8_push_53 : decode cX8_push 53 = .ok (.sipush 293, 3) := by decide +kernel
theorem dX8_push_56 : decode cX8_push 56 = .ok (.if_icmp .ge 30, 3) := by decide +kernel
theorem dX8_push_59 : decode cX8_push 59 = .ok (.aload_n 0, 1) := by decide +kernel
theorem dX8_push_60 : decode cX8_push 60 = .ok (.getfield 16, 3) := by decide +kernel
theorem dX8_push_63 : decode cX8_push 63 = .ok (.aload_n 0, 1) := by decide +kernel
theorem dX8_push_64 : decode cX8_push 64 = .ok (.getfield 35, 3) := by decide +kernel
theorem dX8_push_67 : decode cX8_push 67 = .ok (.sipush 293, 3) := by decide +kernel
theorem dX8_push_70 : decode cX8_push 70 = .ok (.imul, 1) := by decide +kernel
theorem dX8_push_71 : decode cX8_push 71 = .ok (.iload_n 1, 1) := by decide +kernel
theorem dX8_push_72 : decode cX8_push 72 = .ok (.iadd, 1) := by decide +kernel
theorem dX8_push_73 : decode cX8_push 73 = .ok (.aload_n 0, 1) := by decide +kernel
theorem dX8_push_74 : decode cX8_push 74 = .ok (.getfield 13, 3) := by decide +kernel
theorem dX8_push_77 : decode cX8_push 77 = .ok (.iload_n 1, 1) := by decide +kernel
theorem dX8_push_78 : decode cX8_push 78 = .ok (.iaload, 1) := by decide +kernel
theorem dX8_push_79 : decode cX8_push 79 = .ok (.iastore, 1) := by decide +kernel
theorem dX8_push_80 : decode cX8_push 80 = .ok (.iinc 1 1, 3) := by decide +kernel
theorem dX8_push_83 : decode cX8_push 83 = .ok (.goto (-31), 3) := by decide +kernel
theorem dX8_push_86 : decode cX8_push 86 = .ok (.aload_n 0, 1) := by decide +kernel
theorem dX8_push_87 : decode cX8_push 87 = .ok (.dup, 1) := by decide +kernel
theorem dX8_push_88 : decode cX8_push 88 = .ok (.getfield 35, 3) := by decide +kernel
theorem dX8_push_91 : decode cX8_push 91 = .ok (.iconst 1, 1) := by decide +kernel
theorem dX8_push_92 : decode cX8_push 92 = .ok (.iadd, 1) := by decide +kernel
theorem dX8_push_93 : decode cX8_push 93 = .ok (.putfield 35, 3) := by decide +kernel
theorem dX8_push_96 : decode cX8_push 96 = .ok (.return_, 1) := by decide +kernel
theorem dX8_recorded_0 : decode cX8_recorded 0 = .ok (.iload_n 1, 1) := by decide +kernel
theorem dX8_recorded_1 : decode cX8_recorded 1 = .ok (.ifCond .lt 7, 3) := by decide +kernel
theorem dX8_recorded_4 : decode cX8_recorded 4 = .ok (.aload_n 0, 1) := by decide +kernel
theorem dX8_recorded_5 : decode cX8_recorded 5 = .ok (.invokevirtual 39, 3) := by decide +kernel
theorem dX8_recorded_8 : decode cX8_recorded 8 = .ok (.iload_n 1, 1) := by decide +kernel
theorem dX8_recorded_9 : decode cX8_recorded 9 = .ok (.ireturn, 1) := by decide +kernel
theorem dX8_undo_0 : decode cX8_undo 0 = .ok (.aload_n 0, 1) := by decide +kernel
theorem dX8_undo_1 : decode cX8_undo 1 = .ok (.getfield 35, 3) := by decide +kernel
theorem dX8_undo_4 : decode cX8_undo 4 = .ok (.ifCond .ne 6, 3) := by decide +kernel
theorem dX8_undo_7 : decode cX8_undo 7 = .ok (.bipush (-5), 2) := by decide +kernel
theorem dX8_undo_9 : decode cX8_undo 9 = .ok (.ireturn, 1) := by decide +kernel
theorem dX8_undo_10 : decode cX8_undo 10 = .ok (.aload_n 0, 1) := by decide +kernel
theorem dX8_undo_11 : decode cX8_undo 11 = .ok (.dup, 1) := by decide +kernel
theorem dX8_undo_12 : decode cX8_undo 12 = .ok (.getfield 35, 3) := by decide +kernel
theorem dX8_undo_15 : decode cX8_undo 15 = .ok (.iconst 1, 1) := by decide +kernel
theorem dX8_undo_16 : decode cX8_undo 16 = .ok (.isub, 1) := by decide +kernel
theorem dX8_undo_17 : decode cX8_undo 17 = .ok (.putfield 35, 3) := by decide +kernel
theorem dX8_undo_20 : decode cX8_undo 20 = .ok (.iconst 0, 1) := by decide +kernel
theorem dX8_undo_21 : decode cX8_undo 21 = .ok (.istore_n 1, 1) := by decide +kernel
theorem dX8_undo_22 : decode cX8_undo 22 = .ok (.iload_n 1, 1) := by decide +kernel
theorem dX8_undo_23 : decode cX8_undo 23 = .ok (.sipush 293, 3) := by decide +kernel
theorem dX8_undo_26 : decode cX8_undo 26 = .ok (.if_icmp .ge 30, 3) := by decide +kernel
theorem dX8_undo_29 : decode cX8_undo 29 = .ok (.aload_n 0, 1) := by decide +kernel
theorem dX8_undo_30 : decode cX8_undo 30 = .ok (.getfield 7, 3) := by decide +kernel
theorem dX8_undo_33 : decode cX8_undo 33 = .ok (.iload_n 1, 1) := by decide +kernel
theorem dX8_undo_34 : decode cX8_undo 34 = .ok (.aload_n 0, 1) := by decide +kernel
theorem dX8_undo_35 : decode cX8_undo 35 = .ok (.getfield 16, 3) := by decide +kernel
theorem dX8_undo_38 : decode cX8_undo 38 = .ok (.aload_n 0, 1) := by decide +kernel
theorem dX8_undo_39 : decode cX8_undo 39 = .ok (.getfield 35, 3) := by decide +kernel
theorem dX8_undo_42 : decode cX8_undo 42 = .ok (.sipush 293, 3) := by decide +kernel
theorem dX8_undo_45 : decode cX8_undo 45 = .ok (.imul, 1) := by decide +kernel
theorem dX8_undo_46 : decode cX8_undo 46 = .ok (.iload_n 1, 1) := by decide +kernel
theorem dX8_undo_47 : decode cX8_undo 47 = .ok (.iadd, 1) := by decide +kernel
theorem dX8_undo_48 : decode cX8_undo 48 = .ok (.iaload, 1) := by decide +kernel
theorem dX8_undo_49 : decode cX8_undo 49 = .ok (.iastore, 1) := by decide +kernel
theorem dX8_undo_50 : decode cX8_undo 50 = .ok (.iinc 1 1, 3) := by decide +kernel
theorem dX8_undo_53 : decode cX8_undo 53 = .ok (.goto (-31), 3) := by decide +kernel
theorem dX8_undo_56 : decode cX8_undo 56 = .ok (.aload_n 0, 1) := by decide +kernel
theorem dX8_undo_57 : decode cX8_undo 57 = .ok (.getfield 35, 3) := by decide +kernel
theorem dX8_undo_60 : decode cX8_undo 60 = .ok (.ireturn, 1) := by decide +kernel
theorem dX8_isSlot_0 : decode cX8_isSlot 0 = .ok (.iload_n 0, 1) := by decide +kernel
theorem dX8_isSlot_1 : decode cX8_isSlot 1 = .ok (.iconst 0, 1) := by decide +kernel
theorem dX8_isSlot_2 : decode cX8_isSlot 2 = .ok (.iconst 1, 1) := by decide +kernel
theorem dX8_isSlot_3 : decode cX8_isSlot 3 = .ok (.invokestatic 31, 3) := by decide +kernel
theorem dX8_isSlot_6 : decode cX8_isSlot 6 = .ok (.ireturn, 1) := by decide +kernel
theorem dX8_save_0 : decode cX8_save 0 = .ok (.iload_n 1, 1) := by decide +kernel
theorem dX8_save_1 : decode cX8_save 1 = .ok (.invokestatic 42, 3) := by decide +kernel
theorem dX8_save_4 : decode cX8_save 4 = .ok (.ifCond .ne 6, 3) := by decide +kernel
theorem dX8_save_7 : decode cX8_save 7 = .ok (.bipush (-2), 2) := by decide +kernel
theorem dX8_save_9 : decode cX8_save 9 = .ok (.ireturn, 1) := by decide +kernel
theorem dX8_save_10 : decode cX8_save 10 = .ok (.iconst 0, 1) := by decide +kernel
theorem dX8_save_11 : decode cX8_save 11 = .ok (.istore_n 2, 1) := by decide +kernel
theorem dX8_save_12 : decode cX8_save 12 = .ok (.iload_n 2, 1) := by decide +kernel
theorem dX8_save_13 : decode cX8_save 13 = .ok (.sipush 293, 3) := by decide +kernel
theorem dX8_save_16 : decode cX8_save 16 = .ok (.if_icmp .ge 27, 3) := by decide +kernel
theorem dX8_save_19 : decode cX8_save 19 = .ok (.aload_n 0, 1) := by decide +kernel
theorem dX8_save_20 : decode cX8_save 20 = .ok (.getfield 19, 3) := by decide +kernel
theorem dX8_save_23 : decode cX8_save 23 = .ok (.iload_n 1, 1) := by decide +kernel
theorem dX8_save_24 : decode cX8_save 24 = .ok (.sipush 293, 3) := by decide +kernel
theorem dX8_save_27 : decode cX8_save 27 = .ok (.imul, 1) := by decide +kernel
theorem dX8_save_28 : decode cX8_save 28 = .ok (.iload_n 2, 1) := by decide +kernel
theorem dX8_save_29 : decode cX8_save 29 = .ok (.iadd, 1) := by decide +kernel
theorem dX8_save_30 : decode cX8_save 30 = .ok (.aload_n 0, 1) := by decide +kernel
theorem dX8_save_31 : decode cX8_save 31 = .ok (.getfield 7, 3) := by decide +kernel
theorem dX8_save_34 : decode cX8_save 34 = .ok (.iload_n 2, 1) := by decide +kernel
theorem dX8_save_35 : decode cX8_save 35 = .ok (.iaload, 1) := by decide +kernel
theorem dX8_save_36 : decode cX8_save 36 = .ok (.iastore, 1) := by decide +kernel
theorem dX8_save_37 : decode cX8_save 37 = .ok (.iinc 2 1, 3) := by decide +kernel
theorem dX8_save_40 : decode cX8_save 40 = .ok (.goto (-28), 3) := by decide +kernel
theorem dX8_save_43 : decode cX8_save 43 = .ok (.aload_n 0, 1) := by decide +kernel
theorem dX8_save_44 : decode cX8_save 44 = .ok (.getfield 22, 3) := by decide +kernel
theorem dX8_save_47 : decode cX8_save 47 = .ok (.iload_n 1, 1) := by decide +kernel
theorem dX8_save_48 : decode cX8_save 48 = .ok (.iconst 1, 1) := by decide +kernel
theorem dX8_save_49 : decode cX8_save 49 = .ok (.iastore, 1) := by decide +kernel
theorem dX8_save_50 : decode cX8_save 50 = .ok (.aload_n 0, 1) := by decide +kernel
theorem dX8_save_51 : decode cX8_save 51 = .ok (.getfield 7, 3) := by decide +kernel
theorem dX8_save_54 : decode cX8_save 54 = .ok (.iconst 4, 1) := by decide +kernel
theorem dX8_save_55 : decode cX8_save 55 = .ok (.iaload, 1) := by decide +kernel
theorem dX8_save_56 : decode cX8_save 56 = .ok (.ireturn, 1) := by decide +kernel
theorem dX8_restore_0 : decode cX8_restore 0 = .ok (.iload_n 1, 1) := by decide +kernel
theorem dX8_restore_1 : decode cX8_restore 1 = .ok (.invokestatic 42, 3) := by decide +kernel
theorem dX8_restore_4 : decode cX8_restore 4 = .ok (.ifCond .ne 6, 3) := by decide +kernel
theorem dX8_restore_7 : decode cX8_restore 7 = .ok (.bipush (-2), 2) := by decide +kernel
theorem dX8_restore_9 : decode cX8_restore 9 = .ok (.ireturn, 1) := by decide +kernel
theorem dX8_restore_10 : decode cX8_restore 10 = .ok (.aload_n 0, 1) := by decide +kernel
theorem dX8_restore_11 : decode cX8_restore 11 = .ok (.getfield 22, 3) := by decide +kernel
theorem dX8_restore_14 : decode cX8_restore 14 = .ok (.iload_n 1, 1) := by decide +kernel
theorem dX8_restore_15 : decode cX8_restore 15 = .ok (.iaload, 1) := by decide +kernel
theorem dX8_restore_16 : decode cX8_restore 16 = .ok (.ifCond .ne 6, 3) := by decide +kernel
theorem dX8_restore_19 : decode cX8_restore 19 = .ok (.bipush (-5), 2) := by decide +kernel
theorem dX8_restore_21 : decode cX8_restore 21 = .ok (.ireturn, 1) := by decide +kernel
theorem dX8_restore_22 : decode cX8_restore 22 = .ok (.aload_n 0, 1) := by decide +kernel
theorem dX8_restore_23 : decode cX8_restore 23 = .ok (.invokevirtual 46, 3) := by decide +kernel
theorem dX8_restore_26 : decode cX8_restore 26 = .ok (.aload_n 0, 1) := by decide +kernel
theorem dX8_restore_27 : decode cX8_restore 27 = .ok (.invokevirtual 39, 3) := by decide +kernel
theorem dX8_restore_30 : decode cX8_restore 30 = .ok (.iconst 0, 1) := by decide +kernel
theorem dX8_restore_31 : decode cX8_restore 31 = .ok (.istore_n 2, 1) := by decide +kernel
theorem dX8_restore_32 : decode cX8_restore 32 = .ok (.iload_n 2, 1) := by decide +kernel
theorem dX8_restore_33 : decode cX8_restore 33 = .ok (.sipush 293, 3) := by decide +kernel
theorem dX8_restore_36 : decode cX8_restore 36 = .ok (.if_icmp .ge 27, 3) := by decide +kernel
theorem dX8_restore_39 : decode cX8_restore 39 = .ok (.aload_n 0, 1) := by decide +kernel
theorem dX8_restore_40 : decode cX8_restore 40 = .ok (.getfield 7, 3) := by decide +kernel
theorem dX8_restore_43 : decode cX8_restore 43 = .ok (.iload_n 2, 1) := by decide +kernel
theorem dX8_restore_44 : decode cX8_restore 44 = .ok (.aload_n 0, 1) := by decide +kernel
theorem dX8_restore_45 : decode cX8_restore 45 = .ok (.getfield 19, 3) := by decide +kernel
theorem dX8_restore_48 : decode cX8_restore 48 = .ok (.iload_n 1, 1) := by decide +kernel
theorem dX8_restore_49 : decode cX8_restore 49 = .ok (.sipush 293, 3) := by decide +kernel
theorem dX8_restore_52 : decode cX8_restore 52 = .ok (.imul, 1) := by decide +kernel
theorem dX8_restore_53 : decode cX8_restore 53 = .ok (.iload_n 2, 1) := by decide +kernel
theorem dX8_restore_54 : decode cX8_restore 54 = .ok (.iadd, 1) := by decide +kernel
theorem dX8_restore_55 : decode cX8_restore 55 = .ok (.iaload, 1) := by decide +kernel
theorem dX8_restore_56 : decode cX8_restore 56 = .ok (.iastore, 1) := by decide +kernel
theorem dX8_restore_57 : decode cX8_restore 57 = .ok (.iinc 2 1, 3) := by decide +kernel
theorem dX8_restore_60 : decode cX8_restore 60 = .ok (.goto (-28), 3) := by decide +kernel
theorem dX8_restore_63 : decode cX8_restore 63 = .ok (.aload_n 0, 1) := by decide +kernel
theorem dX8_restore_64 : decode cX8_restore 64 = .ok (.getfield 7, 3) := by decide +kernel
theorem dX8_restore_67 : decode cX8_restore 67 = .ok (.iconst 4, 1) := by decide +kernel
theorem dX8_restore_68 : decode cX8_restore 68 = .ok (.iaload, 1) := by decide +kernel
theorem dX8_restore_69 : decode cX8_restore 69 = .ok (.ireturn, 1) := by decide +kernel
theorem dX8_lost_0 : decode cX8_lost 0 = .ok (.aload_n 0, 1) := by decide +kernel
theorem dX8_lost_1 : decode cX8_lost 1 = .ok (.getfield 7, 3) := by decide +kernel
theorem dX8_lost_4 : decode cX8_lost 4 = .ok (.bipush 7, 2) := by decide +kernel
theorem dX8_lost_6 : decode cX8_lost 6 = .ok (.iload_n 1, 1) := by decide +kernel
theorem dX8_lost_7 : decode cX8_lost 7 = .ok (.iadd, 1) := by decide +kernel
theorem dX8_lost_8 : decode cX8_lost 8 = .ok (.iaload, 1) := by decide +kernel
theorem dX8_lost_9 : decode cX8_lost 9 = .ok (.aload_n 0, 1) := by decide +kernel
theorem dX8_lost_10 : decode cX8_lost 10 = .ok (.getfield 7, 3) := by decide +kernel
theorem dX8_lost_13 : decode cX8_lost 13 = .ok (.iconst 3, 1) := by decide +kernel
theorem dX8_lost_14 : decode cX8_lost 14 = .ok (.iaload, 1) := by decide +kernel
theorem dX8_lost_15 : decode cX8_lost 15 = .ok (.imul, 1) := by decide +kernel
theorem dX8_lost_16 : decode cX8_lost 16 = .ok (.bipush 100, 2) := by decide +kernel
theorem dX8_lost_18 : decode cX8_lost 18 = .ok (.idiv, 1) := by decide +kernel
theorem dX8_lost_19 : decode cX8_lost 19 = .ok (.ireturn, 1) := by decide +kernel
theorem dX8_printed_0 : decode cX8_printed 0 = .ok (.bipush 25, 2) := by decide +kernel
theorem dX8_printed_2 : decode cX8_printed 2 = .ok (.iload_n 3, 1) := by decide +kernel
theorem dX8_printed_3 : decode cX8_printed 3 = .ok (.iadd, 1) := by decide +kernel
theorem dX8_printed_4 : decode cX8_printed 4 = .ok (.aload_n 0, 1) := by decide +kernel
theorem dX8_printed_5 : decode cX8_printed 5 = .ok (.getfield 7, 3) := by decide +kernel
theorem dX8_printed_8 : decode cX8_printed 8 = .ok (.bipush 10, 2) := by decide +kernel
theorem dX8_printed_10 : decode cX8_printed 10 = .ok (.iload_n 2, 1) := by decide +kernel
theorem dX8_printed_11 : decode cX8_printed 11 = .ok (.iadd, 1) := by decide +kernel
theorem dX8_printed_12 : decode cX8_printed 12 = .ok (.iaload, 1) := by decide +kernel
theorem dX8_printed_13 : decode cX8_printed 13 = .ok (.iadd, 1) := by decide +kernel
theorem dX8_printed_14 : decode cX8_printed 14 = .ok (.aload_n 0, 1) := by decide +kernel
theorem dX8_printed_15 : decode cX8_printed 15 = .ok (.iload_n 2, 1) := by decide +kernel
theorem dX8_printed_16 : decode cX8_printed 16 = .ok (.invokevirtual 49, 3) := by decide +kernel
theorem dX8_printed_19 : decode cX8_printed 19 = .ok (.isub, 1) := by decide +kernel
theorem dX8_printed_20 : decode cX8_printed 20 = .ok (.aload_n 0, 1) := by decide +kernel
theorem dX8_printed_21 : decode cX8_printed 21 = .ok (.iload_n 1, 1) := by decide +kernel
theorem dX8_printed_22 : decode cX8_printed 22 = .ok (.iconst 1, 1) := by decide +kernel
theorem dX8_printed_23 : decode cX8_printed 23 = .ok (.iload_n 2, 1) := by decide +kernel
theorem dX8_printed_24 : decode cX8_printed 24 = .ok (.iadd, 1) := by decide +kernel
theorem dX8_printed_25 : decode cX8_printed 25 = .ok (.invokevirtual 53, 3) := by decide +kernel
theorem dX8_printed_28 : decode cX8_printed 28 = .ok (.isub, 1) := by decide +kernel
theorem dX8_printed_29 : decode cX8_printed 29 = .ok (.invokestatic 57, 3) := by decide +kernel
theorem dX8_printed_32 : decode cX8_printed 32 = .ok (.ireturn, 1) := by decide +kernel
theorem dX8_prints_0 : decode cX8_prints 0 = .ok (.aload_n 0, 1) := by decide +kernel
theorem dX8_prints_1 : decode cX8_prints 1 = .ok (.iload_n 1, 1) := by decide +kernel
theorem dX8_prints_2 : decode cX8_prints 2 = .ok (.iload_n 2, 1) := by decide +kernel
theorem dX8_prints_3 : decode cX8_prints 3 = .ok (.aload_n 0, 1) := by decide +kernel
theorem dX8_prints_4 : decode cX8_prints 4 = .ok (.iload_n 1, 1) := by decide +kernel
theorem dX8_prints_5 : decode cX8_prints 5 = .ok (.bipush 7, 2) := by decide +kernel
theorem dX8_prints_7 : decode cX8_prints 7 = .ok (.iload_n 2, 1) := by decide +kernel
theorem dX8_prints_8 : decode cX8_prints 8 = .ok (.iadd, 1) := by decide +kernel
theorem dX8_prints_9 : decode cX8_prints 9 = .ok (.invokevirtual 53, 3) := by decide +kernel
theorem dX8_prints_12 : decode cX8_prints 12 = .ok (.invokevirtual 60, 3) := by decide +kernel
theorem dX8_prints_15 : decode cX8_prints 15 = .ok (.ireturn, 1) := by decide +kernel
theorem dX8_off_0 : decode cX8_off 0 = .ok (.aload_n 0, 1) := by decide +kernel
theorem dX8_off_1 : decode cX8_off 1 = .ok (.iload_n 1, 1) := by decide +kernel
theorem dX8_off_2 : decode cX8_off 2 = .ok (.iload_n 2, 1) := by decide +kernel
theorem dX8_off_3 : decode cX8_off 3 = .ok (.invokevirtual 64, 3) := by decide +kernel
theorem dX8_off_6 : decode cX8_off 6 = .ok (.bipush 25, 2) := by decide +kernel
theorem dX8_off_8 : decode cX8_off 8 = .ok (.isub, 1) := by decide +kernel
theorem dX8_off_9 : decode cX8_off 9 = .ok (.aload_n 0, 1) := by decide +kernel
theorem dX8_off_10 : decode cX8_off 10 = .ok (.iload_n 1, 1) := by decide +kernel
theorem dX8_off_11 : decode cX8_off 11 = .ok (.iconst 4, 1) := by decide +kernel
theorem dX8_off_12 : decode cX8_off 12 = .ok (.iload_n 2, 1) := by decide +kernel
theorem dX8_off_13 : decode cX8_off 13 = .ok (.iadd, 1) := by decide +kernel
theorem dX8_off_14 : decode cX8_off 14 = .ok (.invokevirtual 53, 3) := by decide +kernel
theorem dX8_off_17 : decode cX8_off 17 = .ok (.isub, 1) := by decide +kernel
theorem dX8_off_18 : decode cX8_off 18 = .ok (.ireturn, 1) := by decide +kernel
theorem dX8_isBad_0 : decode cX8_isBad 0 = .ok (.iconst 0, 1) := by decide +kernel
theorem dX8_isBad_1 : decode cX8_isBad 1 = .ok (.istore_n 2, 1) := by decide +kernel
theorem dX8_isBad_2 : decode cX8_isBad 2 = .ok (.iconst 0, 1) := by decide +kernel
theorem dX8_isBad_3 : decode cX8_isBad 3 = .ok (.istore_n 3, 1) := by decide +kernel
theorem dX8_isBad_4 : decode cX8_isBad 4 = .ok (.iload_n 3, 1) := by decide +kernel
theorem dX8_isBad_5 : decode cX8_isBad 5 = .ok (.iconst 3, 1) := by decide +kernel
theorem dX8_isBad_6 : decode cX8_isBad 6 = .ok (.if_icmp .ge 40, 3) := by decide +kernel
theorem dX8_isBad_9 : decode cX8_isBad 9 = .ok (.iload_n 2, 1) := by decide +kernel
theorem dX8_isBad_10 : decode cX8_isBad 10 = .ok (.ifCond .ne 24, 3) := by decide +kernel
theorem dX8_isBad_13 : decode cX8_isBad 13 = .ok (.aload_n 0, 1) := by decide +kernel
theorem dX8_isBad_14 : decode cX8_isBad 14 = .ok (.iload_n 1, 1) := by decide +kernel
theorem dX8_isBad_15 : decode cX8_isBad 15 = .ok (.bipush 11, 2) := by decide +kernel
theorem dX8_isBad_17 : decode cX8_isBad 17 = .ok (.iload_n 3, 1) := by decide +kernel
theorem dX8_isBad_18 : decode cX8_isBad 18 = .ok (.iadd, 1) := by decide +kernel
theorem dX8_isBad_19 : decode cX8_isBad 19 = .ok (.invokevirtual 53, 3) := by decide +kernel
theorem dX8_isBad_22 : decode cX8_isBad 22 = .ok (.invokestatic 67, 3) := by decide +kernel
theorem dX8_isBad_25 : decode cX8_isBad 25 = .ok (.aload_n 0, 1) := by decide +kernel
theorem dX8_isBad_26 : decode cX8_isBad 26 = .ok (.getfield 7, 3) := by decide +kernel
theorem dX8_isBad_29 : decode cX8_isBad 29 = .ok (.iconst 1, 1) := by decide +kernel
theorem dX8_isBad_30 : decode cX8_isBad 30 = .ok (.iaload, 1) := by decide +kernel
theorem dX8_isBad_31 : decode cX8_isBad 31 = .ok (.if_icmp .le 7, 3) := by decide +kernel
theorem dX8_isBad_34 : decode cX8_isBad 34 = .ok (.iconst 1, 1) := by decide +kernel
theorem dX8_isBad_35 : decode cX8_isBad 35 = .ok (.goto 4, 3) := by decide +kernel
theorem dX8_isBad_38 : decode cX8_isBad 38 = .ok (.iconst 0, 1) := by decide +kernel
theorem dX8_isBad_39 : decode cX8_isBad 39 = .ok (.istore_n 2, 1) := by decide +kernel
theorem dX8_isBad_40 : decode cX8_isBad 40 = .ok (.iinc 3 1, 3) := by decide +kernel
theorem dX8_isBad_43 : decode cX8_isBad 43 = .ok (.goto (-39), 3) := by decide +kernel
theorem dX8_isBad_46 : decode cX8_isBad 46 = .ok (.iload_n 2, 1) := by decide +kernel
theorem dX8_isBad_47 : decode cX8_isBad 47 = .ok (.ifCond .eq 18, 3) := by decide +kernel
theorem dX8_isBad_50 : decode cX8_isBad 50 = .ok (.aload_n 0, 1) := by decide +kernel
theorem dX8_isBad_51 : decode cX8_isBad 51 = .ok (.iload_n 1, 1) := by decide +kernel
theorem dX8_isBad_52 : decode cX8_isBad 52 = .ok (.bipush 10, 2) := by decide +kernel
theorem dX8_isBad_54 : decode cX8_isBad 54 = .ok (.invokevirtual 53, 3) := by decide +kernel
theorem dX8_isBad_57 : decode cX8_isBad 57 = .ok (.iconst 1, 1) := by decide +kernel
theorem dX8_isBad_58 : decode cX8_isBad 58 = .ok (.if_icmp .ne 7, 3) := by decide +kernel
theorem dX8_isBad_61 : decode cX8_isBad 61 = .ok (.iconst 1, 1) := by decide +kernel
theorem dX8_isBad_62 : decode cX8_isBad 62 = .ok (.goto 4, 3) := by decide +kernel
theorem dX8_isBad_65 : decode cX8_isBad 65 = .ok (.iconst 0, 1) := by decide +kernel
theorem dX8_isBad_66 : decode cX8_isBad 66 = .ok (.ireturn, 1) := by decide +kernel
theorem dX8_isOff_0 : decode cX8_isOff 0 = .ok (.iconst 0, 1) := by decide +kernel
theorem dX8_isOff_1 : decode cX8_isOff 1 = .ok (.istore_n 2, 1) := by decide +kernel
theorem dX8_isOff_2 : decode cX8_isOff 2 = .ok (.iconst 0, 1) := by decide +kernel
theorem dX8_isOff_3 : decode cX8_isOff 3 = .ok (.istore_n 3, 1) := by decide +kernel
theorem dX8_isOff_4 : decode cX8_isOff 4 = .ok (.iload_n 3, 1) := by decide +kernel
theorem dX8_isOff_5 : decode cX8_isOff 5 = .ok (.iconst 3, 1) := by decide +kernel
theorem dX8_isOff_6 : decode cX8_isOff 6 = .ok (.if_icmp .ge 37, 3) := by decide +kernel
theorem dX8_isOff_9 : decode cX8_isOff 9 = .ok (.iload_n 2, 1) := by decide +kernel
theorem dX8_isOff_10 : decode cX8_isOff 10 = .ok (.ifCond .ne 21, 3) := by decide +kernel
theorem dX8_isOff_13 : decode cX8_isOff 13 = .ok (.aload_n 0, 1) := by decide +kernel
theorem dX8_isOff_14 : decode cX8_isOff 14 = .ok (.iload_n 1, 1) := by decide +kernel
theorem dX8_isOff_15 : decode cX8_isOff 15 = .ok (.iload_n 3, 1) := by decide +kernel
theorem dX8_isOff_16 : decode cX8_isOff 16 = .ok (.invokevirtual 70, 3) := by decide +kernel
theorem dX8_isOff_19 : decode cX8_isOff 19 = .ok (.invokestatic 67, 3) := by decide +kernel
theorem dX8_isOff_22 : decode cX8_isOff 22 = .ok (.aload_n 0, 1) := by decide +kernel
theorem dX8_isOff_23 : decode cX8_isOff 23 = .ok (.getfield 7, 3) := by decide +kernel
theorem dX8_isOff_26 : decode cX8_isOff 26 = .ok (.iconst 1, 1) := by decide +kernel
theorem dX8_isOff_27 : decode cX8_isOff 27 = .ok (.iaload, 1) := by decide +kernel
theorem dX8_isOff_28 : decode cX8_isOff 28 = .ok (.if_icmp .le 7, 3) := by decide +kernel
theorem dX8_isOff_31 : decode cX8_isOff 31 = .ok (.iconst 1, 1) := by decide +kernel
theorem dX8_isOff_32 : decode cX8_isOff 32 = .ok (.goto 4, 3) := by decide +kernel
theorem dX8_isOff_35 : decode cX8_isOff 35 = .ok (.iconst 0, 1) := by decide +kernel
theorem dX8_isOff_36 : decode cX8_isOff 36 = .ok (.istore_n 2, 1) := by decide +kernel
theorem dX8_isOff_37 : decode cX8_isOff 37 = .ok (.iinc 3 1, 3) := by decide +kernel
theorem dX8_isOff_40 : decode cX8_isOff 40 = .ok (.goto (-36), 3) := by decide +kernel
theorem dX8_isOff_43 : decode cX8_isOff 43 = .ok (.iload_n 2, 1) := by decide +kernel
theorem dX8_isOff_44 : decode cX8_isOff 44 = .ok (.ireturn, 1) := by decide +kernel
theorem dX8_isJump_0 : decode cX8_isJump 0 = .ok (.iconst 0, 1) := by decide +kernel
theorem dX8_isJump_1 : decode cX8_isJump 1 = .ok (.istore_n 2, 1) := by decide +kernel
theorem dX8_isJump_2 : decode cX8_isJump 2 = .ok (.iconst 0, 1) := by decide +kernel
theorem dX8_isJump_3 : decode cX8_isJump 3 = .ok (.istore_n 3, 1) := by decide +kernel
theorem dX8_isJump_4 : decode cX8_isJump 4 = .ok (.iload_n 3, 1) := by decide +kernel
theorem dX8_isJump_5 : decode cX8_isJump 5 = .ok (.iconst 3, 1) := by decide +kernel
theorem dX8_isJump_6 : decode cX8_isJump 6 = .ok (.if_icmp .ge 58, 3) := by decide +kernel
theorem dX8_isJump_9 : decode cX8_isJump 9 = .ok (.iload_n 1, 1) := by decide +kernel
theorem dX8_isJump_10 : decode cX8_isJump 10 = .ok (.iconst 1, 1) := by decide +kernel
theorem dX8_isJump_11 : decode cX8_isJump 11 = .ok (.iadd, 1) := by decide +kernel
theorem dX8_isJump_12 : decode cX8_isJump 12 = .ok (.aload_n 0, 1) := by decide +kernel
theorem dX8_isJump_13 : decode cX8_isJump 13 = .ok (.getfield 7, 3) := by decide +kernel
theorem dX8_isJump_16 : decode cX8_isJump 16 = .ok (.iconst 4, 1) := by decide +kernel
theorem dX8_isJump_17 : decode cX8_isJump 17 = .ok (.iaload, 1) := by decide +kernel
theorem dX8_isJump_18 : decode cX8_isJump 18 = .ok (.if_icmp .ge 46, 3) := by decide +kernel
theorem dX8_isJump_21 : decode cX8_isJump 21 = .ok (.iload_n 2, 1) := by decide +kernel
theorem dX8_isJump_22 : decode cX8_isJump 22 = .ok (.ifCond .ne 30, 3) := by decide +kernel
theorem dX8_isJump_25 : decode cX8_isJump 25 = .ok (.aload_n 0, 1) := by decide +kernel
theorem dX8_isJump_26 : decode cX8_isJump 26 = .ok (.iload_n 1, 1) := by decide +kernel
theorem dX8_isJump_27 : decode cX8_isJump 27 = .ok (.iload_n 3, 1) := by decide +kernel
theorem dX8_isJump_28 : decode cX8_isJump 28 = .ok (.invokevirtual 64, 3) := by decide +kernel
theorem dX8_isJump_31 : decode cX8_isJump 31 = .ok (.aload_n 0, 1) := by decide +kernel
theorem dX8_isJump_32 : decode cX8_isJump 32 = .ok (.iload_n 1, 1) := by decide +kernel
theorem dX8_isJump_33 : decode cX8_isJump 33 = .ok (.iconst 1, 1) := by decide +kernel
theorem dX8_isJump_34 : decode cX8_isJump 34 = .ok (.iadd, 1) := by decide +kernel
theorem dX8_isJump_35 : decode cX8_isJump 35 = .ok (.iload_n 3, 1) := by decide +kernel
theorem dX8_isJump_36 : decode cX8_isJump 36 = .ok (.invokevirtual 64, 3) := by decide +kernel
theorem dX8_isJump_39 : decode cX8_isJump 39 = .ok (.isub, 1) := by decide +kernel
theorem dX8_isJump_40 : decode cX8_isJump 40 = .ok (.invokestatic 67, 3) := by decide +kernel
theorem dX8_isJump_43 : decode cX8_isJump 43 = .ok (.aload_n 0, 1) := by decide +kernel
theorem dX8_isJump_44 : decode cX8_isJump 44 = .ok (.getfield 7, 3) := by decide +kernel
theorem dX8_isJump_47 : decode cX8_isJump 47 = .ok (.iconst 2, 1) := by decide +kernel
theorem dX8_isJump_48 : decode cX8_isJump 48 = .ok (.iaload, 1) := by decide +kernel
theorem dX8_isJump_49 : decode cX8_isJump 49 = .ok (.if_icmp .le 7, 3) := by decide +kernel
theorem dX8_isJump_52 : decode cX8_isJump 52 = .ok (.iconst 1, 1) := by decide +kernel
theorem dX8_isJump_53 : decode cX8_isJump 53 = .ok (.goto 4, 3) := by decide +kernel
theorem dX8_isJump_56 : decode cX8_isJump 56 = .ok (.iconst 0, 1) := by decide +kernel
theorem dX8_isJump_57 : decode cX8_isJump 57 = .ok (.istore_n 2, 1) := by decide +kernel
theorem dX8_isJump_58 : decode cX8_isJump 58 = .ok (.iinc 3 1, 3) := by decide +kernel
theorem dX8_isJump_61 : decode cX8_isJump 61 = .ok (.goto (-57), 3) := by decide +kernel
theorem dX8_isJump_64 : decode cX8_isJump 64 = .ok (.iload_n 2, 1) := by decide +kernel
theorem dX8_isJump_65 : decode cX8_isJump 65 = .ok (.ireturn, 1) := by decide +kernel
theorem dX8_feetTo_0 : decode cX8_feetTo 0 = .ok (.iconst 0, 1) := by decide +kernel
theorem dX8_feetTo_1 : decode cX8_feetTo 1 = .ok (.istore_n 2, 1) := by decide +kernel
theorem dX8_feetTo_2 : decode cX8_feetTo 2 = .ok (.iconst 0, 1) := by decide +kernel
theorem dX8_feetTo_3 : decode cX8_feetTo 3 = .ok (.istore_n 3, 1) := by decide +kernel
theorem dX8_feetTo_4 : decode cX8_feetTo 4 = .ok (.iload_n 3, 1) := by decide +kernel
theorem dX8_feetTo_5 : decode cX8_feetTo 5 = .ok (.iload_n 1, 1) := by decide +kernel
theorem dX8_feetTo_6 : decode cX8_feetTo 6 = .ok (.if_icmp .ge 18, 3) := by decide +kernel
theorem dX8_feetTo_9 : decode cX8_feetTo 9 = .ok (.iload_n 2, 1) := by decide +kernel
theorem dX8_feetTo_10 : decode cX8_feetTo 10 = .ok (.aload_n 0, 1) := by decide +kernel
theorem dX8_feetTo_11 : decode cX8_feetTo 11 = .ok (.iload_n 3, 1) := by decide +kernel
theorem dX8_feetTo_12 : decode cX8_feetTo 12 = .ok (.iconst 0, 1) := by decide +kernel
theorem dX8_feetTo_13 : decode cX8_feetTo 13 = .ok (.invokevirtual 53, 3) := by decide +kernel
theorem dX8_feetTo_16 : decode cX8_feetTo 16 = .ok (.iadd, 1) := by decide +kernel
theorem dX8_feetTo_17 : decode cX8_feetTo 17 = .ok (.istore_n 2, 1) := by decide +kernel
theorem dX8_feetTo_18 : decode cX8_feetTo 18 = .ok (.iinc 3 1, 3) := by decide +kernel
theorem dX8_feetTo_21 : decode cX8_feetTo 21 = .ok (.goto (-17), 3) := by decide +kernel
theorem dX8_feetTo_24 : decode cX8_feetTo 24 = .ok (.iload_n 2, 1) := by decide +kernel
theorem dX8_feetTo_25 : decode cX8_feetTo 25 = .ok (.ireturn, 1) := by decide +kernel
theorem dX8_takeAnswer_0 : decode cX8_takeAnswer 0 = .ok (.bipush 10, 2) := by decide +kernel
theorem dX8_takeAnswer_2 : decode cX8_takeAnswer 2 = .ok (.istore_n 2, 1) := by decide +kernel
theorem dX8_takeAnswer_3 : decode cX8_takeAnswer 3 = .ok (.iload_n 2, 1) := by decide +kernel
theorem dX8_takeAnswer_4 : decode cX8_takeAnswer 4 = .ok (.bipush 14, 2) := by decide +kernel
theorem dX8_takeAnswer_6 : decode cX8_takeAnswer 6 = .ok (.if_icmp .ge 16, 3) := by decide +kernel
theorem dX8_takeAnswer_9 : decode cX8_takeAnswer 9 = .ok (.aload_n 0, 1) := by decide +kernel
theorem dX8_takeAnswer_10 : decode cX8_takeAnswer 10 = .ok (.iload_n 1, 1) := by decide +kernel
theorem dX8_takeAnswer_11 : decode cX8_takeAnswer 11 = .ok (.iload_n 2, 1) := by decide +kernel
theorem dX8_takeAnswer_12 : decode cX8_takeAnswer 12 = .ok (.iconst 0, 1) := by decide +kernel
theorem dX8_takeAnswer_13 : decode cX8_takeAnswer 13 = .ok (.invokevirtual 73, 3) := by decide +kernel
theorem dX8_takeAnswer_16 : decode cX8_takeAnswer 16 = .ok (.iinc 2 1, 3) := by decide +kernel
theorem dX8_takeAnswer_19 : decode cX8_takeAnswer 19 = .ok (.goto (-16), 3) := by decide +kernel
theorem dX8_takeAnswer_22 : decode cX8_takeAnswer 22 = .ok (.return_, 1) := by decide +kernel
theorem dX8_open_0 : decode cX8_open 0 = .ok (.bipush 13, 2) := by decide +kernel
theorem dX8_open_2 : decode cX8_open 2 = .ok (.bipush 14, 2) := by decide +kernel
theorem dX8_open_4 : decode cX8_open 4 = .ok (.aload_n 0, 1) := by decide +kernel
theorem dX8_open_5 : decode cX8_open 5 = .ok (.getfield 7, 3) := by decide +kernel
theorem dX8_open_8 : decode cX8_open 8 = .ok (.iconst 4, 1) := by decide +kernel
theorem dX8_open_9 : decode cX8_open 9 = .ok (.iaload, 1) := by decide +kernel
theorem dX8_open_10 : decode cX8_open 10 = .ok (.iconst 1, 1) := by decide +kernel
theorem dX8_open_11 : decode cX8_open 11 = .ok (.iadd, 1) := by decide +kernel
theorem dX8_open_12 : decode cX8_open 12 = .ok (.imul, 1) := by decide +kernel
theorem dX8_open_13 : decode cX8_open 13 = .ok (.iadd, 1) := by decide +kernel
theorem dX8_open_14 : decode cX8_open 14 = .ok (.iconst 1, 1) := by decide +kernel
theorem dX8_open_15 : decode cX8_open 15 = .ok (.isub, 1) := by decide +kernel
theorem dX8_open_16 : decode cX8_open 16 = .ok (.istore_n 2, 1) := by decide +kernel
theorem dX8_open_17 : decode cX8_open 17 = .ok (.iload_n 2, 1) := by decide +kernel
theorem dX8_open_18 : decode cX8_open 18 = .ok (.bipush 13, 2) := by decide +kernel
theorem dX8_open_20 : decode cX8_open 20 = .ok (.bipush 14, 2) := by decide +kernel
theorem dX8_open_22 : decode cX8_open 22 = .ok (.iload_n 1, 1) := by decide +kernel
theorem dX8_open_23 : decode cX8_open 23 = .ok (.iconst 1, 1) := by decide +kernel
theorem dX8_open_24 : decode cX8_open 24 = .ok (.iadd, 1) := by decide +kernel
theorem dX8_open_25 : decode cX8_open 25 = .ok (.imul, 1) := by decide +kernel
theorem dX8_open_26 : decode cX8_open 26 = .ok (.iadd, 1) := by decide +kernel
theorem dX8_open_27 : decode cX8_open 27 = .ok (.if_icmp .lt 24, 3) := by decide +kernel
theorem dX8_open_30 : decode cX8_open 30 = .ok (.aload_n 0, 1) := by decide +kernel
theorem dX8_open_31 : decode cX8_open 31 = .ok (.getfield 7, 3) := by decide +kernel
theorem dX8_open_34 : decode cX8_open 34 = .ok (.iload_n 2, 1) := by decide +kernel
theorem dX8_open_35 : decode cX8_open 35 = .ok (.aload_n 0, 1) := by decide +kernel
theorem dX8_open_36 : decode cX8_open 36 = .ok (.getfield 7, 3) := by decide +kernel
theorem dX8_open_39 : decode cX8_open 39 = .ok (.iload_n 2, 1) := by decide +kernel
theorem dX8_open_40 : decode cX8_open 40 = .ok (.bipush 14, 2) := by decide +kernel
theorem dX8_open_42 : decode cX8_open 42 = .ok (.isub, 1) := by decide +kernel
theorem dX8_open_43 : decode cX8_open 43 = .ok (.iaload, 1) := by decide +kernel
theorem dX8_open_44 : decode cX8_open 44 = .ok (.iastore, 1) := by decide +kernel
theorem dX8_open_45 : decode cX8_open 45 = .ok (.iinc 2 (-1), 3) := by decide +kernel
theorem dX8_open_48 : decode cX8_open 48 = .ok (.goto (-31), 3) := by decide +kernel
theorem dX8_open_51 : decode cX8_open 51 = .ok (.aload_n 0, 1) := by decide +kernel
theorem dX8_open_52 : decode cX8_open 52 = .ok (.getfield 7, 3) := by decide +kernel
theorem dX8_open_55 : decode cX8_open 55 = .ok (.iconst 4, 1) := by decide +kernel
theorem dX8_open_56 : decode cX8_open 56 = .ok (.dup2, 1) := by decide +kernel
theorem dX8_open_57 : decode cX8_open 57 = .ok (.iaload, 1) := by decide +kernel
theorem dX8_open_58 : decode cX8_open 58 = .ok (.iconst 1, 1) := by decide +kernel
theorem dX8_open_59 : decode cX8_open 59 = .ok (.iadd, 1) := by decide +kernel
theorem dX8_open_60 : decode cX8_open 60 = .ok (.iastore, 1) := by decide +kernel
theorem dX8_open_61 : decode cX8_open 61 = .ok (.return_, 1) := by decide +kernel
theorem dX8_shut_0 : decode cX8_shut 0 = .ok (.aload_n 0, 1) := by decide +kernel
theorem dX8_shut_1 : decode cX8_shut 1 = .ok (.getfield 7, 3) := by decide +kernel
theorem dX8_shut_4 : decode cX8_shut 4 = .ok (.iconst 4, 1) := by decide +kernel
theorem dX8_shut_5 : decode cX8_shut 5 = .ok (.dup2, 1) := by decide +kernel
theorem dX8_shut_6 : decode cX8_shut 6 = .ok (.iaload, 1) := by decide +kernel
theorem dX8_shut_7 : decode cX8_shut 7 = .ok (.iconst 1, 1) := by decide +kernel
theorem dX8_shut_8 : decode cX8_shut 8 = .ok (.isub, 1) := by decide +kernel
theorem dX8_shut_9 : decode cX8_shut 9 = .ok (.iastore, 1) := by decide +kernel
theorem dX8_shut_10 : decode cX8_shut 10 = .ok (.bipush 13, 2) := by decide +kernel
theorem dX8_shut_12 : decode cX8_shut 12 = .ok (.bipush 14, 2) := by decide +kernel
theorem dX8_shut_14 : decode cX8_shut 14 = .ok (.iload_n 1, 1) := by decide +kernel
theorem dX8_shut_15 : decode cX8_shut 15 = .ok (.imul, 1) := by decide +kernel
theorem dX8_shut_16 : decode cX8_shut 16 = .ok (.iadd, 1) := by decide +kernel
theorem dX8_shut_17 : decode cX8_shut 17 = .ok (.istore_n 2, 1) := by decide +kernel
theorem dX8_shut_18 : decode cX8_shut 18 = .ok (.iload_n 2, 1) := by decide +kernel
theorem dX8_shut_19 : decode cX8_shut 19 = .ok (.bipush 13, 2) := by decide +kernel
theorem dX8_shut_21 : decode cX8_shut 21 = .ok (.bipush 14, 2) := by decide +kernel
theorem dX8_shut_23 : decode cX8_shut 23 = .ok (.aload_n 0, 1) := by decide +kernel
theorem dX8_shut_24 : decode cX8_shut 24 = .ok (.getfield 7, 3) := by decide +kernel
theorem dX8_shut_27 : decode cX8_shut 27 = .ok (.iconst 4, 1) := by decide +kernel
theorem dX8_shut_28 : decode cX8_shut 28 = .ok (.iaload, 1) := by decide +kernel
theorem dX8_shut_29 : decode cX8_shut 29 = .ok (.imul, 1) := by decide +kernel
theorem dX8_shut_30 : decode cX8_shut 30 = .ok (.iadd, 1) := by decide +kernel
theorem dX8_shut_31 : decode cX8_shut 31 = .ok (.if_icmp .ge 24, 3) := by decide +kernel
theorem dX8_shut_34 : decode cX8_shut 34 = .ok (.aload_n 0, 1) := by decide +kernel
theorem dX8_shut_35 : decode cX8_shut 35 = .ok (.getfield 7, 3) := by decide +kernel
theorem dX8_shut_38 : decode cX8_shut 38 = .ok (.iload_n 2, 1) := by decide +kernel
theorem dX8_shut_39 : decode cX8_shut 39 = .ok (.aload_n 0, 1) := by decide +kernel
theorem dX8_shut_40 : decode cX8_shut 40 = .ok (.getfield 7, 3) := by decide +kernel
theorem dX8_shut_43 : decode cX8_shut 43 = .ok (.iload_n 2, 1) := by decide +kernel
theorem dX8_shut_44 : decode cX8_shut 44 = .ok (.bipush 14, 2) := by decide +kernel
theorem dX8_shut_46 : decode cX8_shut 46 = .ok (.iadd, 1) := by decide +kernel
theorem dX8_shut_47 : decode cX8_shut 47 = .ok (.iaload, 1) := by decide +kernel
theorem dX8_shut_48 : decode cX8_shut 48 = .ok (.iastore, 1) := by decide +kernel
theorem dX8_shut_49 : decode cX8_shut 49 = .ok (.iinc 2 1, 3) := by decide +kernel
theorem dX8_shut_52 : decode cX8_shut 52 = .ok (.goto (-34), 3) := by decide +kernel
theorem dX8_shut_55 : decode cX8_shut 55 = .ok (.return_, 1) := by decide +kernel
theorem dX8_comes_0 : decode cX8_comes 0 = .ok (.iload_n 1, 1) := by decide +kernel
theorem dX8_comes_1 : decode cX8_comes 1 = .ok (.iconst 0, 1) := by decide +kernel
theorem dX8_comes_2 : decode cX8_comes 2 = .ok (.aload_n 0, 1) := by decide +kernel
theorem dX8_comes_3 : decode cX8_comes 3 = .ok (.getfield 7, 3) := by decide +kernel
theorem dX8_comes_6 : decode cX8_comes 6 = .ok (.iconst 4, 1) := by decide +kernel
theorem dX8_comes_7 : decode cX8_comes 7 = .ok (.iaload, 1) := by decide +kernel
theorem dX8_comes_8 : decode cX8_comes 8 = .ok (.invokestatic 31, 3) := by decide +kernel
theorem dX8_comes_11 : decode cX8_comes 11 = .ok (.ifCond .ne 5, 3) := by decide +kernel
theorem dX8_comes_14 : decode cX8_comes 14 = .ok (.iconst (-1), 1) := by decide +kernel
theorem dX8_comes_15 : decode cX8_comes 15 = .ok (.ireturn, 1) := by decide +kernel
theorem dX8_comes_16 : decode cX8_comes 16 = .ok (.iload_n 2, 1) := by decide +kernel
theorem dX8_comes_17 : decode cX8_comes 17 = .ok (.iconst 1, 1) := by decide +kernel
theorem dX8_comes_18 : decode cX8_comes 18 = .ok (.bipush 99, 2) := by decide +kernel
theorem dX8_comes_20 : decode cX8_comes 20 = .ok (.invokestatic 31, 3) := by decide +kernel
theorem dX8_comes_23 : decode cX8_comes 23 = .ok (.ifCond .eq 26, 3) := by decide +kernel
theorem dX8_comes_26 : decode cX8_comes 26 = .ok (.iload_n 3, 1) := by decide +kernel
theorem dX8_comes_27 : decode cX8_comes 27 = .ok (.invokestatic 77, 3) := by decide +kernel
theorem dX8_comes_30 : decode cX8_comes 30 = .ok (.ifCond .eq 19, 3) := by decide +kernel
theorem dX8_comes_33 : decode cX8_comes 33 = .ok (.iload 4, 2) := by decide +kernel
theorem dX8_comes_35 : decode cX8_comes 35 = .ok (.invokestatic 77, 3) := by decide +kernel
theorem dX8_comes_38 : decode cX8_comes 38 = .ok (.ifCond .eq 11, 3) := by decide +kernel
theorem dX8_comes_41 : decode cX8_comes 41 = .ok (.iload 5, 2) := by decide +kernel
theorem dX8_comes_43 : decode cX8_comes 43 = .ok (.invokestatic 77, 3) := by decide +kernel
theorem dX8_comes_46 : decode cX8_comes 46 = .ok (.ifCond .ne 6, 3) := by decide +kernel
theorem dX8_comes_49 : decode cX8_comes 49 = .ok (.bipush (-2), 2) := by decide +kernel
theorem dX8_comes_51 : decode cX8_comes 51 = .ok (.ireturn, 1) := by decide +kernel
theorem dX8_comes_52 : decode cX8_comes 52 = .ok (.aload_n 0, 1) := by decide +kernel
theorem dX8_comes_53 : decode cX8_comes 53 = .ok (.getfield 7, 3) := by decide +kernel
theorem dX8_comes_56 : decode cX8_comes 56 = .ok (.iconst 4, 1) := by decide +kernel
theorem dX8_comes_57 : decode cX8_comes 57 = .ok (.iaload, 1) := by decide +kernel
theorem dX8_comes_58 : decode cX8_comes 58 = .ok (.bipush 20, 2) := by decide +kernel
theorem dX8_comes_60 : decode cX8_comes 60 = .ok (.if_icmp .ne 6, 3) := by decide +kernel
theorem dX8_comes_63 : decode cX8_comes 63 = .ok (.bipush (-4), 2) := by decide +kernel
theorem dX8_comes_65 : decode cX8_comes 65 = .ok (.ireturn, 1) := by decide +kernel
theorem dX8_comes_66 : decode cX8_comes 66 = .ok (.aload_n 0, 1) := by decide +kernel
theorem dX8_comes_67 : decode cX8_comes 67 = .ok (.iload_n 1, 1) := by decide +kernel
theorem dX8_comes_68 : decode cX8_comes 68 = .ok (.invokevirtual 80, 3) := by decide +kernel
theorem dX8_comes_71 : decode cX8_comes 71 = .ok (.aload_n 0, 1) := by decide +kernel
theorem dX8_comes_72 : decode cX8_comes 72 = .ok (.iload_n 1, 1) := by decide +kernel
theorem dX8_comes_73 : decode cX8_comes 73 = .ok (.iconst 0, 1) := by decide +kernel
theorem dX8_comes_74 : decode cX8_comes 74 = .ok (.iload_n 2, 1) := by decide +kernel
theorem dX8_comes_75 : decode cX8_comes 75 = .ok (.invokevirtual 73, 3) := by decide +kernel
theorem dX8_comes_78 : decode cX8_comes 78 = .ok (.aload_n 0, 1) := by decide +kernel
theorem dX8_comes_79 : decode cX8_comes 79 = .ok (.iload_n 1, 1) := by decide +kernel
theorem dX8_comes_80 : decode cX8_comes 80 = .ok (.iconst 1, 1) := by decide +kernel
theorem dX8_comes_81 : decode cX8_comes 81 = .ok (.iload_n 3, 1) := by decide +kernel
theorem dX8_comes_82 : decode cX8_comes 82 = .ok (.invokevirtual 73, 3) := by decide +kernel
theorem dX8_comes_85 : decode cX8_comes 85 = .ok (.aload_n 0, 1) := by decide +kernel
theorem dX8_comes_86 : decode cX8_comes 86 = .ok (.iload_n 1, 1) := by decide +kernel
theorem dX8_comes_87 : decode cX8_comes 87 = .ok (.iconst 2, 1) := by decide +kernel
theorem dX8_comes_88 : decode cX8_comes 88 = .ok (.iload 4, 2) := by decide +kernel
theorem dX8_comes_90 : decode cX8_comes 90 = .ok (.invokevirtual 73, 3) := by decide +kernel
theorem dX8_comes_93 : decode cX8_comes 93 = .ok (.aload_n 0, 1) := by decide +kernel
theorem dX8_comes_94 : decode cX8_comes 94 = .ok (.iload_n 1, 1) := by decide +kernel
theorem dX8_comes_95 : decode cX8_comes 95 = .ok (.iconst 3, 1) := by decide +kernel
theorem dX8_comes_96 : decode cX8_comes 96 = .ok (.iload 5, 2) := by decide +kernel
theorem dX8_comes_98 : decode cX8_comes 98 = .ok (.invokevirtual 73, 3) := by decide +kernel
theorem dX8_comes_101 : decode cX8_comes 101 = .ok (.iconst 0, 1) := by decide +kernel
theorem dX8_comes_102 : decode cX8_comes 102 = .ok (.istore 6, 2) := by decide +kernel
theorem dX8_comes_104 : decode cX8_comes 104 = .ok (.iload 6, 2) := by decide +kernel
theorem dX8_comes_106 : decode cX8_comes 106 = .ok (.iconst 3, 1) := by decide +kernel
theorem dX8_comes_107 : decode cX8_comes 107 = .ok (.if_icmp .ge 31, 3) := by decide +kernel
theorem dX8_comes_110 : decode cX8_comes 110 = .ok (.aload_n 0, 1) := by decide +kernel
theorem dX8_comes_111 : decode cX8_comes 111 = .ok (.iload_n 1, 1) := by decide +kernel
theorem dX8_comes_112 : decode cX8_comes 112 = .ok (.iconst 4, 1) := by decide +kernel
theorem dX8_comes_113 : decode cX8_comes 113 = .ok (.iload 6, 2) := by decide +kernel
theorem dX8_comes_115 : decode cX8_comes 115 = .ok (.iadd, 1) := by decide +kernel
theorem dX8_comes_116 : decode cX8_comes 116 = .ok (.iconst 0, 1) := by decide +kernel
theorem dX8_comes_117 : decode cX8_comes 117 = .ok (.invokevirtual 73, 3) := by decide +kernel
theorem dX8_comes_120 : decode cX8_comes 120 = .ok (.aload_n 0, 1) := by decide +kernel
theorem dX8_comes_121 : decode cX8_comes 121 = .ok (.iload_n 1, 1) := by decide +kernel
theorem dX8_comes_122 : decode cX8_comes 122 = .ok (.bipush 7, 2) := by decide +kernel
theorem dX8_comes_124 : decode cX8_comes 124 = .ok (.iload 6, 2) := by decide +kernel
theorem dX8_comes_126 : decode cX8_comes 126 = .ok (.iadd, 1) := by decide +kernel
theorem dX8_comes_127 : decode cX8_comes 127 = .ok (.bipush 25, 2) := by decide +kernel
theorem dX8_comes_129 : decode cX8_comes 129 = .ok (.invokevirtual 73, 3) := by decide +kernel
theorem dX8_comes_132 : decode cX8_comes 132 = .ok (.iinc 6 1, 3) := by decide +kernel
theorem dX8_comes_135 : decode cX8_comes 135 = .ok (.goto (-31), 3) := by decide +kernel
theorem dX8_comes_138 : decode cX8_comes 138 = .ok (.aload_n 0, 1) := by decide +kernel
theorem dX8_comes_139 : decode cX8_comes 139 = .ok (.iload_n 1, 1) := by decide +kernel
theorem dX8_comes_140 : decode cX8_comes 140 = .ok (.invokevirtual 84, 3) := by decide +kernel
theorem dX8_comes_143 : decode cX8_comes 143 = .ok (.aload_n 0, 1) := by decide +kernel
theorem dX8_comes_144 : decode cX8_comes 144 = .ok (.getfield 7, 3) := by decide +kernel
theorem dX8_comes_147 : decode cX8_comes 147 = .ok (.iconst 4, 1) := by decide +kernel
theorem dX8_comes_148 : decode cX8_comes 148 = .ok (.iaload, 1) := by decide +kernel
theorem dX8_comes_149 : decode cX8_comes 149 = .ok (.ireturn, 1) := by decide +kernel
theorem dX8_lights_0 : decode cX8_lights 0 = .ok (.aload_n 0, 1) := by decide +kernel
theorem dX8_lights_1 : decode cX8_lights 1 = .ok (.iload_n 1, 1) := by decide +kernel
theorem dX8_lights_2 : decode cX8_lights 2 = .ok (.invokevirtual 87, 3) := by decide +kernel
theorem dX8_lights_5 : decode cX8_lights 5 = .ok (.ifCond .ne 5, 3) := by decide +kernel
theorem dX8_lights_8 : decode cX8_lights 8 = .ok (.iconst (-1), 1) := by decide +kernel
theorem dX8_lights_9 : decode cX8_lights 9 = .ok (.ireturn, 1) := by decide +kernel
theorem dX8_lights_10 : decode cX8_lights 10 = .ok (.iload_n 2, 1) := by decide +kernel
theorem dX8_lights_11 : decode cX8_lights 11 = .ok (.invokestatic 90, 3) := by decide +kernel
theorem dX8_lights_14 : decode cX8_lights 14 = .ok (.ifCond .eq 10, 3) := by decide +kernel
theorem dX8_lights_17 : decode cX8_lights 17 = .ok (.iload_n 3, 1) := by decide +kernel
theorem dX8_lights_18 : decode cX8_lights 18 = .ok (.invokestatic 77, 3) := by decide +kernel
theorem dX8_lights_21 : decode cX8_lights 21 = .ok (.ifCond .ne 6, 3) := by decide +kernel
theorem dX8_lights_24 : decode cX8_lights 24 = .ok (.bipush (-2), 2) := by decide +kernel
theorem dX8_lights_26 : decode cX8_lights 26 = .ok (.ireturn, 1) := by decide +kernel
theorem dX8_lights_27 : decode cX8_lights 27 = .ok (.aload_n 0, 1) := by decide +kernel
theorem dX8_lights_28 : decode cX8_lights 28 = .ok (.iload_n 1, 1) := by decide +kernel
theorem dX8_lights_29 : decode cX8_lights 29 = .ok (.bipush 7, 2) := by decide +kernel
theorem dX8_lights_31 : decode cX8_lights 31 = .ok (.iload_n 2, 1) := by decide +kernel
theorem dX8_lights_32 : decode cX8_lights 32 = .ok (.iadd, 1) := by decide +kernel
theorem dX8_lights_33 : decode cX8_lights 33 = .ok (.invokevirtual 53, 3) := by decide +kernel
theorem dX8_lights_36 : decode cX8_lights 36 = .ok (.istore 4, 2) := by decide +kernel
theorem dX8_lights_38 : decode cX8_lights 38 = .ok (.aload_n 0, 1) := by decide +kernel
theorem dX8_lights_39 : decode cX8_lights 39 = .ok (.iload_n 1, 1) := by decide +kernel
theorem dX8_lights_40 : decode cX8_lights 40 = .ok (.bipush 7, 2) := by decide +kernel
theorem dX8_lights_42 : decode cX8_lights 42 = .ok (.iload_n 2, 1) := by decide +kernel
theorem dX8_lights_43 : decode cX8_lights 43 = .ok (.iadd, 1) := by decide +kernel
theorem dX8_lights_44 : decode cX8_lights 44 = .ok (.iload_n 3, 1) := by decide +kernel
theorem dX8_lights_45 : decode cX8_lights 45 = .ok (.invokevirtual 73, 3) := by decide +kernel
theorem dX8_lights_48 : decode cX8_lights 48 = .ok (.iload 4, 2) := by decide +kernel
theorem dX8_lights_50 : decode cX8_lights 50 = .ok (.ireturn, 1) := by decide +kernel
theorem dX8_wishes_0 : decode cX8_wishes 0 = .ok (.aload_n 0, 1) := by decide +kernel
theorem dX8_wishes_1 : decode cX8_wishes 1 = .ok (.iload_n 1, 1) := by decide +kernel
theorem dX8_wishes_2 : decode cX8_wishes 2 = .ok (.invokevirtual 87, 3) := by decide +kernel
theorem dX8_wishes_5 : decode cX8_wishes 5 = .ok (.ifCond .ne 5, 3) := by decide +kernel
theorem dX8_wishes_8 : decode cX8_wishes 8 = .ok (.iconst (-1), 1) := by decide +kernel
theorem dX8_wishes_9 : decode cX8_wishes 9 = .ok (.ireturn, 1) := by decide +kernel
theorem dX8_wishes_10 : decode cX8_wishes 10 = .ok (.iload_n 2, 1) := by decide +kernel
theorem dX8_wishes_11 : decode cX8_wishes 11 = .ok (.invokestatic 90, 3) := by decide +kernel
theorem dX8_wishes_14 : decode cX8_wishes 14 = .ok (.ifCond .eq 14, 3) := by decide +kernel
theorem dX8_wishes_17 : decode cX8_wishes 17 = .ok (.iload_n 3, 1) := by decide +kernel
theorem dX8_wishes_18 : decode cX8_wishes 18 = .ok (.bipush (-10), 2) := by decide +kernel
theorem dX8_wishes_20 : decode cX8_wishes 20 = .ok (.bipush 10, 2) := by decide +kernel
theorem dX8_wishes_22 : decode cX8_wishes 22 = .ok (.invokestatic 31, 3) := by decide +kernel
theorem dX8_wishes_25 : decode cX8_wishes 25 = .ok (.ifCond .ne 6, 3) := by decide +kernel
theorem dX8_wishes_28 : decode cX8_wishes 28 = .ok (.bipush (-2), 2) := by decide +kernel
theorem dX8_wishes_30 : decode cX8_wishes 30 = .ok (.ireturn, 1) := by decide +kernel
theorem dX8_wishes_31 : decode cX8_wishes 31 = .ok (.aload_n 0, 1) := by decide +kernel
theorem dX8_wishes_32 : decode cX8_wishes 32 = .ok (.iload_n 1, 1) := by decide +kernel
theorem dX8_wishes_33 : decode cX8_wishes 33 = .ok (.iconst 4, 1) := by decide +kernel
theorem dX8_wishes_34 : decode cX8_wishes 34 = .ok (.iload_n 2, 1) := by decide +kernel
theorem dX8_wishes_35 : decode cX8_wishes 35 = .ok (.iadd, 1) := by decide +kernel
theorem dX8_wishes_36 : decode cX8_wishes 36 = .ok (.invokevirtual 53, 3) := by decide +kernel
theorem dX8_wishes_39 : decode cX8_wishes 39 = .ok (.istore 4, 2) := by decide +kernel
theorem dX8_wishes_41 : decode cX8_wishes 41 = .ok (.aload_n 0, 1) := by decide +kernel
theorem dX8_wishes_42 : decode cX8_wishes 42 = .ok (.iload_n 1, 1) := by decide +kernel
theorem dX8_wishes_43 : decode cX8_wishes 43 = .ok (.iconst 4, 1) := by decide +kernel
theorem dX8_wishes_44 : decode cX8_wishes 44 = .ok (.iload_n 2, 1) := by decide +kernel
theorem dX8_wishes_45 : decode cX8_wishes 45 = .ok (.iadd, 1) := by decide +kernel
theorem dX8_wishes_46 : decode cX8_wishes 46 = .ok (.iload_n 3, 1) := by decide +kernel
theorem dX8_wishes_47 : decode cX8_wishes 47 = .ok (.invokevirtual 73, 3) := by decide +kernel
theorem dX8_wishes_50 : decode cX8_wishes 50 = .ok (.iload 4, 2) := by decide +kernel
theorem dX8_wishes_52 : decode cX8_wishes 52 = .ok (.bipush 10, 2) := by decide +kernel
theorem dX8_wishes_54 : decode cX8_wishes 54 = .ok (.iadd, 1) := by decide +kernel
theorem dX8_wishes_55 : decode cX8_wishes 55 = .ok (.ireturn, 1) := by decide +kernel
theorem dX8_exchange_0 : decode cX8_exchange 0 = .ok (.iconst 0, 1) := by decide +kernel
theorem dX8_exchange_1 : decode cX8_exchange 1 = .ok (.istore_n 3, 1) := by decide +kernel
theorem dX8_exchange_2 : decode cX8_exchange 2 = .ok (.iload_n 3, 1) := by decide +kernel
theorem dX8_exchange_3 : decode cX8_exchange 3 = .ok (.bipush 14, 2) := by decide +kernel
theorem dX8_exchange_5 : decode cX8_exchange 5 = .ok (.if_icmp .ge 37, 3) := by decide +kernel
theorem dX8_exchange_8 : decode cX8_exchange 8 = .ok (.aload_n 0, 1) := by decide +kernel
theorem dX8_exchange_9 : decode cX8_exchange 9 = .ok (.iload_n 1, 1) := by decide +kernel
theorem dX8_exchange_10 : decode cX8_exchange 10 = .ok (.iload_n 3, 1) := by decide +kernel
theorem dX8_exchange_11 : decode cX8_exchange 11 = .ok (.invokevirtual 53, 3) := by decide +kernel
theorem dX8_exchange_14 : decode cX8_exchange 14 = .ok (.istore 4, 2) := by decide +kernel
theorem dX8_exchange_16 : decode cX8_exchange 16 = .ok (.aload_n 0, 1) := by decide +kernel
theorem dX8_exchange_17 : decode cX8_exchange 17 = .ok (.iload_n 1, 1) := by decide +kernel
theorem dX8_exchange_18 : decode cX8_exchange 18 = .ok (.iload_n 3, 1) := by decide +kernel
theorem dX8_exchange_19 : decode cX8_exchange 19 = .ok (.aload_n 0, 1) := by decide +kernel
theorem dX8_exchange_20 : decode cX8_exchange 20 = .ok (.iload_n 2, 1) := by decide +kernel
theorem dX8_exchange_21 : decode cX8_exchange 21 = .ok (.iload_n 3, 1) := by decide +kernel
theorem dX8_exchange_22 : decode cX8_exchange 22 = .ok (.invokevirtual 53, 3) := by decide +kernel
theorem dX8_exchange_25 : decode cX8_exchange 25 = .ok (.invokevirtual 73, 3) := by decide +kernel
theorem dX8_exchange_28 : decode cX8_exchange 28 = .ok (.aload_n 0, 1) := by decide +kernel
theorem dX8_exchange_29 : decode cX8_exchange 29 = .ok (.iload_n 2, 1) := by decide +kernel
theorem dX8_exchange_30 : decode cX8_exchange 30 = .ok (.iload_n 3, 1) := by decide +kernel
theorem dX8_exchange_31 : decode cX8_exchange 31 = .ok (.iload 4, 2) := by decide +kernel
theorem dX8_exchange_33 : decode cX8_exchange 33 = .ok (.invokevirtual 73, 3) := by decide +kernel
theorem dX8_exchange_36 : decode cX8_exchange 36 = .ok (.iinc 3 1, 3) := by decide +kernel
theorem dX8_exchange_39 : decode cX8_exchange 39 = .ok (.goto (-37), 3) := by decide +kernel
theorem dX8_exchange_42 : decode cX8_exchange 42 = .ok (.return_, 1) := by decide +kernel
theorem dX8_moves_0 : decode cX8_moves 0 = .ok (.aload_n 0, 1) := by decide +kernel
theorem dX8_moves_1 : decode cX8_moves 1 = .ok (.iload_n 1, 1) := by decide +kernel
theorem dX8_moves_2 : decode cX8_moves 2 = .ok (.invokevirtual 87, 3) := by decide +kernel
theorem dX8_moves_5 : decode cX8_moves 5 = .ok (.ifCond .eq 11, 3) := by decide +kernel
theorem dX8_moves_8 : decode cX8_moves 8 = .ok (.aload_n 0, 1) := by decide +kernel
theorem dX8_moves_9 : decode cX8_moves 9 = .ok (.iload_n 2, 1) := by decide +kernel
theorem dX8_moves_10 : decode cX8_moves 10 = .ok (.invokevirtual 87, 3) := by decide +kernel
theorem dX8_moves_13 : decode cX8_moves 13 = .ok (.ifCond .ne 5, 3) := by decide +kernel
theorem dX8_moves_16 : decode cX8_moves 16 = .ok (.iconst (-1), 1) := by decide +kernel
theorem dX8_moves_17 : decode cX8_moves 17 = .ok (.ireturn, 1) := by decide +kernel
theorem dX8_moves_18 : decode cX8_moves 18 = .ok (.iload_n 2, 1) := by decide +kernel
theorem dX8_moves_19 : decode cX8_moves 19 = .ok (.iload_n 1, 1) := by decide +kernel
theorem dX8_moves_20 : decode cX8_moves 20 = .ok (.if_icmp .ge 7, 3) := by decide +kernel
theorem dX8_moves_23 : decode cX8_moves 23 = .ok (.iconst (-1), 1) := by decide +kernel
theorem dX8_moves_24 : decode cX8_moves 24 = .ok (.goto 4, 3) := by decide +kernel
theorem dX8_moves_27 : decode cX8_moves 27 = .ok (.iconst 1, 1) := by decide +kernel
theorem dX8_moves_28 : decode cX8_moves 28 = .ok (.istore_n 3, 1) := by decide +kernel
theorem dX8_moves_29 : decode cX8_moves 29 = .ok (.iload_n 1, 1) := by decide +kernel
theorem dX8_moves_30 : decode cX8_moves 30 = .ok (.istore 4, 2) := by decide +kernel
theorem dX8_moves_32 : decode cX8_moves 32 = .ok (.iload 4, 2) := by decide +kernel
theorem dX8_moves_34 : decode cX8_moves 34 = .ok (.iload_n 2, 1) := by decide +kernel
theorem dX8_moves_35 : decode cX8_moves 35 = .ok (.if_icmp .eq 22, 3) := by decide +kernel
theorem dX8_moves_38 : decode cX8_moves 38 = .ok (.aload_n 0, 1) := by decide +kernel
theorem dX8_moves_39 : decode cX8_moves 39 = .ok (.iload 4, 2) := by decide +kernel
theorem dX8_moves_41 : decode cX8_moves 41 = .ok (.iload 4, 2) := by decide +kernel
theorem dX8_moves_43 : decode cX8_moves 43 = .ok (.iload_n 3, 1) := by decide +kernel
theorem dX8_moves_44 : decode cX8_moves 44 = .ok (.iadd, 1) := by decide +kernel
theorem dX8_moves_45 : decode cX8_moves 45 = .ok (.invokevirtual 93, 3) := by decide +kernel
theorem dX8_moves_48 : decode cX8_moves 48 = .ok (.iload 4, 2) := by decide +kernel
theorem dX8_moves_50 : decode cX8_moves 50 = .ok (.iload_n 3, 1) := by decide +kernel
theorem dX8_moves_51 : decode cX8_moves 51 = .ok (.iadd, 1) := by decide +kernel
theorem dX8_moves_52 : decode cX8_moves 52 = .ok (.istore 4, 2) := by decide +kernel
theorem dX8_moves_54 : decode cX8_moves 54 = .ok (.goto (-22), 3) := by decide +kernel
theorem dX8_moves_57 : decode cX8_moves 57 = .ok (.iload_n 2, 1) := by decide +kernel
theorem dX8_moves_58 : decode cX8_moves 58 = .ok (.iload_n 1, 1) := by decide +kernel
theorem dX8_moves_59 : decode cX8_moves 59 = .ok (.isub, 1) := by decide +kernel
theorem dX8_moves_60 : decode cX8_moves 60 = .ok (.invokestatic 67, 3) := by decide +kernel
theorem dX8_moves_63 : decode cX8_moves 63 = .ok (.ireturn, 1) := by decide +kernel
theorem dX8_splits_0 : decode cX8_splits 0 = .ok (.aload_n 0, 1) := by decide +kernel
theorem dX8_splits_1 : decode cX8_splits 1 = .ok (.iload_n 1, 1) := by decide +kernel
theorem dX8_splits_2 : decode cX8_splits 2 = .ok (.invokevirtual 87, 3) := by decide +kernel
theorem dX8_splits_5 : decode cX8_splits 5 = .ok (.ifCond .ne 5, 3) := by decide +kernel
theorem dX8_splits_8 : decode cX8_splits 8 = .ok (.iconst (-1), 1) := by decide +kernel
theorem dX8_splits_9 : decode cX8_splits 9 = .ok (.ireturn, 1) := by decide +kernel
theorem dX8_splits_10 : decode cX8_splits 10 = .ok (.iload_n 2, 1) := by decide +kernel
theorem dX8_splits_11 : decode cX8_splits 11 = .ok (.iconst 1, 1) := by decide +kernel
theorem dX8_splits_12 : decode cX8_splits 12 = .ok (.bipush 98, 2) := by decide +kernel
theorem dX8_splits_14 : decode cX8_splits 14 = .ok (.invokestatic 31, 3) := by decide +kernel
theorem dX8_splits_17 : decode cX8_splits 17 = .ok (.ifCond .ne 6, 3) := by decide +kernel
theorem dX8_splits_20 : decode cX8_splits 20 = .ok (.bipush (-2), 2) := by decide +kernel
theorem dX8_splits_22 : decode cX8_splits 22 = .ok (.ireturn, 1) := by decide +kernel
theorem dX8_splits_23 : decode cX8_splits 23 = .ok (.aload_n 0, 1) := by decide +kernel
theorem dX8_splits_24 : decode cX8_splits 24 = .ok (.iload_n 1, 1) := by decide +kernel
theorem dX8_splits_25 : decode cX8_splits 25 = .ok (.iconst 0, 1) := by decide +kernel
theorem dX8_splits_26 : decode cX8_splits 26 = .ok (.invokevirtual 53, 3) := by decide +kernel
theorem dX8_splits_29 : decode cX8_splits 29 = .ok (.iload_n 2, 1) := by decide +kernel
theorem dX8_splits_30 : decode cX8_splits 30 = .ok (.if_icmp .gt 6, 3) := by decide +kernel
theorem dX8_splits_33 : decode cX8_splits 33 = .ok (.bipush (-5), 2) := by decide +kernel
theorem dX8_splits_35 : decode cX8_splits 35 = .ok (.ireturn, 1) := by decide +kernel
theorem dX8_splits_36 : decode cX8_splits 36 = .ok (.aload_n 0, 1) := by decide +kernel
theorem dX8_splits_37 : decode cX8_splits 37 = .ok (.getfield 7, 3) := by decide +kernel
theorem dX8_splits_40 : decode cX8_splits 40 = .ok (.iconst 4, 1) := by decide +kernel
theorem dX8_splits_41 : decode cX8_splits 41 = .ok (.iaload, 1) := by decide +kernel
theorem dX8_splits_42 : decode cX8_splits 42 = .ok (.bipush 20, 2) := by decide +kernel
theorem dX8_splits_44 : decode cX8_splits 44 = .ok (.if_icmp .ne 6, 3) := by decide +kernel
theorem dX8_splits_47 : decode cX8_splits 47 = .ok (.bipush (-4), 2) := by decide +kernel
theorem dX8_splits_49 : decode cX8_splits 49 = .ok (.ireturn, 1) := by decide +kernel
theorem dX8_splits_50 : decode cX8_splits 50 = .ok (.aload_n 0, 1) := by decide +kernel
theorem dX8_splits_51 : decode cX8_splits 51 = .ok (.iload_n 1, 1) := by decide +kernel
theorem dX8_splits_52 : decode cX8_splits 52 = .ok (.invokevirtual 80, 3) := by decide +kernel
theorem dX8_splits_55 : decode cX8_splits 55 = .ok (.aload_n 0, 1) := by decide +kernel
theorem dX8_splits_56 : decode cX8_splits 56 = .ok (.iload_n 1, 1) := by decide +kernel
theorem dX8_splits_57 : decode cX8_splits 57 = .ok (.iconst 1, 1) := by decide +kernel
theorem dX8_splits_58 : decode cX8_splits 58 = .ok (.iadd, 1) := by decide +kernel
theorem dX8_splits_59 : decode cX8_splits 59 = .ok (.iconst 0, 1) := by decide +kernel
theorem dX8_splits_60 : decode cX8_splits 60 = .ok (.aload_n 0, 1) := by decide +kernel
theorem dX8_splits_61 : decode cX8_splits 61 = .ok (.iload_n 1, 1) := by decide +kernel
theorem dX8_splits_62 : decode cX8_splits 62 = .ok (.iconst 0, 1) := by decide +kernel
theorem dX8_splits_63 : decode cX8_splits 63 = .ok (.invokevirtual 53, 3) := by decide +kernel
theorem dX8_splits_66 : decode cX8_splits 66 = .ok (.iload_n 2, 1) := by decide +kernel
theorem dX8_splits_67 : decode cX8_splits 67 = .ok (.isub, 1) := by decide +kernel
theorem dX8_splits_68 : decode cX8_splits 68 = .ok (.invokevirtual 73, 3) := by decide +kernel
theorem dX8_splits_71 : decode cX8_splits 71 = .ok (.aload_n 0, 1) := by decide +kernel
theorem dX8_splits_72 : decode cX8_splits 72 = .ok (.iload_n 1, 1) := by decide +kernel
theorem dX8_splits_73 : decode cX8_splits 73 = .ok (.iconst 0, 1) := by decide +kernel
theorem dX8_splits_74 : decode cX8_splits 74 = .ok (.iload_n 2, 1) := by decide +kernel
theorem dX8_splits_75 : decode cX8_splits 75 = .ok (.invokevirtual 73, 3) := by decide +kernel
theorem dX8_splits_78 : decode cX8_splits 78 = .ok (.aload_n 0, 1) := by decide +kernel
theorem dX8_splits_79 : decode cX8_splits 79 = .ok (.iload_n 1, 1) := by decide +kernel
theorem dX8_splits_80 : decode cX8_splits 80 = .ok (.invokevirtual 84, 3) := by decide +kernel
theorem dX8_splits_83 : decode cX8_splits 83 = .ok (.aload_n 0, 1) := by decide +kernel
theorem dX8_splits_84 : decode cX8_splits 84 = .ok (.iload_n 1, 1) := by decide +kernel
theorem dX8_splits_85 : decode cX8_splits 85 = .ok (.iconst 1, 1) := by decide +kernel
theorem dX8_splits_86 : decode cX8_splits 86 = .ok (.iadd, 1) := by decide +kernel
theorem dX8_splits_87 : decode cX8_splits 87 = .ok (.invokevirtual 84, 3) := by decide +kernel
theorem dX8_splits_90 : decode cX8_splits 90 = .ok (.aload_n 0, 1) := by decide +kernel
theorem dX8_splits_91 : decode cX8_splits 91 = .ok (.getfield 7, 3) := by decide +kernel
theorem dX8_splits_94 : decode cX8_splits 94 = .ok (.iconst 4, 1) := by decide +kernel
theorem dX8_splits_95 : decode cX8_splits 95 = .ok (.iaload, 1) := by decide +kernel
theorem dX8_splits_96 : decode cX8_splits 96 = .ok (.ireturn, 1) := by decide +kernel
theorem dX8_areAlike_0 : decode cX8_areAlike 0 = .ok (.iconst 1, 1) := by decide +kernel
theorem dX8_areAlike_1 : decode cX8_areAlike 1 = .ok (.istore_n 2, 1) := by decide +kernel
theorem dX8_areAlike_2 : decode cX8_areAlike 2 = .ok (.iconst 0, 1) := by decide +kernel
theorem dX8_areAlike_3 : decode cX8_areAlike 3 = .ok (.istore_n 3, 1) := by decide +kernel
theorem dX8_areAlike_4 : decode cX8_areAlike 4 = .ok (.iload_n 3, 1) := by decide +kernel
theorem dX8_areAlike_5 : decode cX8_areAlike 5 = .ok (.iconst 3, 1) := by decide +kernel
theorem dX8_areAlike_6 : decode cX8_areAlike 6 = .ok (.if_icmp .ge 40, 3) := by decide +kernel
theorem dX8_areAlike_9 : decode cX8_areAlike 9 = .ok (.iload_n 2, 1) := by decide +kernel
theorem dX8_areAlike_10 : decode cX8_areAlike 10 = .ok (.ifCond .eq 28, 3) := by decide +kernel
theorem dX8_areAlike_13 : decode cX8_areAlike 13 = .ok (.aload_n 0, 1) := by decide +kernel
theorem dX8_areAlike_14 : decode cX8_areAlike 14 = .ok (.iload_n 1, 1) := by decide +kernel
theorem dX8_areAlike_15 : decode cX8_areAlike 15 = .ok (.iconst 1, 1) := by decide +kernel
theorem dX8_areAlike_16 : decode cX8_areAlike 16 = .ok (.iload_n 3, 1) := by decide +kernel
theorem dX8_areAlike_17 : decode cX8_areAlike 17 = .ok (.iadd, 1) := by decide +kernel
theorem dX8_areAlike_18 : decode cX8_areAlike 18 = .ok (.invokevirtual 53, 3) := by decide +kernel
theorem dX8_areAlike_21 : decode cX8_areAlike 21 = .ok (.aload_n 0, 1) := by decide +kernel
theorem dX8_areAlike_22 : decode cX8_areAlike 22 = .ok (.iload_n 1, 1) := by decide +kernel
theorem dX8_areAlike_23 : decode cX8_areAlike 23 = .ok (.iconst 1, 1) := by decide +kernel
theorem dX8_areAlike_24 : decode cX8_areAlike 24 = .ok (.iadd, 1) := by decide +kernel
theorem dX8_areAlike_25 : decode cX8_areAlike 25 = .ok (.iconst 1, 1) := by decide +kernel
theorem dX8_areAlike_26 : decode cX8_areAlike 26 = .ok (.iload_n 3, 1) := by decide +kernel
theorem dX8_areAlike_27 : decode cX8_areAlike 27 = .ok (.iadd, 1) := by decide +kernel
theorem dX8_areAlike_28 : decode cX8_areAlike 28 = .ok (.invokevirtual 53, 3) := by decide +kernel
theorem dX8_areAlike_31 : decode cX8_areAlike 31 = .ok (.if_icmp .ne 7, 3) := by decide +kernel
theorem dX8_areAlike_34 : decode cX8_areAlike 34 = .ok (.iconst 1, 1) := by decide +kernel
theorem dX8_areAlike_35 : decode cX8_areAlike 35 = .ok (.goto 4, 3) := by decide +kernel
theorem dX8_areAlike_38 : decode cX8_areAlike 38 = .ok (.iconst 0, 1) := by decide +kernel
theorem dX8_areAlike_39 : decode cX8_areAlike 39 = .ok (.istore_n 2, 1) := by decide +kernel
theorem dX8_areAlike_40 : decode cX8_areAlike 40 = .ok (.iinc 3 1, 3) := by decide +kernel
theorem dX8_areAlike_43 : decode cX8_areAlike 43 = .ok (.goto (-39), 3) := by decide +kernel
theorem dX8_areAlike_46 : decode cX8_areAlike 46 = .ok (.iload_n 2, 1) := by decide +kernel
theorem dX8_areAlike_47 : decode cX8_areAlike 47 = .ok (.ireturn, 1) := by decide +kernel
theorem dX8_joins_0 : decode cX8_joins 0 = .ok (.aload_n 0, 1) := by decide +kernel
theorem dX8_joins_1 : decode cX8_joins 1 = .ok (.iload_n 1, 1) := by decide +kernel
theorem dX8_joins_2 : decode cX8_joins 2 = .ok (.invokevirtual 87, 3) := by decide +kernel
theorem dX8_joins_5 : decode cX8_joins 5 = .ok (.ifCond .eq 13, 3) := by decide +kernel
theorem dX8_joins_8 : decode cX8_joins 8 = .ok (.aload_n 0, 1) := by decide +kernel
theorem dX8_joins_9 : decode cX8_joins 9 = .ok (.iload_n 1, 1) := by decide +kernel
theorem dX8_joins_10 : decode cX8_joins 10 = .ok (.iconst 1, 1) := by decide +kernel
theorem dX8_joins_11 : decode cX8_joins 11 = .ok (.iadd, 1) := by decide +kernel
theorem dX8_joins_12 : decode cX8_joins 12 = .ok (.invokevirtual 87, 3) := by decide +kernel
theorem dX8_joins_15 : decode cX8_joins 15 = .ok (.ifCond .ne 5, 3) := by decide +kernel
theorem dX8_joins_18 : decode cX8_joins 18 = .ok (.iconst (-1), 1) := by decide +kernel
theorem dX8_joins_19 : decode cX8_joins 19 = .ok (.ireturn, 1) := by decide +kernel
theorem dX8_joins_20 : decode cX8_joins 20 = .ok (.aload_n 0, 1) := by decide +kernel
theorem dX8_joins_21 : decode cX8_joins 21 = .ok (.iload_n 1, 1) := by decide +kernel
theorem dX8_joins_22 : decode cX8_joins 22 = .ok (.iconst 0, 1) := by decide +kernel
theorem dX8_joins_23 : decode cX8_joins 23 = .ok (.invokevirtual 53, 3) := by decide +kernel
theorem dX8_joins_26 : decode cX8_joins 26 = .ok (.aload_n 0, 1) := by decide +kernel
theorem dX8_joins_27 : decode cX8_joins 27 = .ok (.iload_n 1, 1) := by decide +kernel
theorem dX8_joins_28 : decode cX8_joins 28 = .ok (.iconst 1, 1) := by decide +kernel
theorem dX8_joins_29 : decode cX8_joins 29 = .ok (.iadd, 1) := by decide +kernel
theorem dX8_joins_30 : decode cX8_joins 30 = .ok (.iconst 0, 1) := by decide +kernel
theorem dX8_joins_31 : decode cX8_joins 31 = .ok (.invokevirtual 53, 3) := by decide +kernel
theorem dX8_joins_34 : decode cX8_joins 34 = .ok (.iadd, 1) := by decide +kernel
theorem dX8_joins_35 : decode cX8_joins 35 = .ok (.istore_n 2, 1) := by decide +kernel
theorem dX8_joins_36 : decode cX8_joins 36 = .ok (.iload_n 2, 1) := by decide +kernel
theorem dX8_joins_37 : decode cX8_joins 37 = .ok (.bipush 99, 2) := by decide +kernel
theorem dX8_joins_39 : decode cX8_joins 39 = .ok (.if_icmp .gt 11, 3) := by decide +kernel
theorem dX8_joins_42 : decode cX8_joins 42 = .ok (.aload_n 0, 1) := by decide +kernel
theorem dX8_joins_43 : decode cX8_joins 43 = .ok (.iload_n 1, 1) := by decide +kernel
theorem dX8_joins_44 : decode cX8_joins 44 = .ok (.invokevirtual 97, 3) := by decide +kernel
theorem dX8_joins_47 : decode cX8_joins 47 = .ok (.ifCond .ne 6, 3) := by decide +kernel
theorem dX8_joins_50 : decode cX8_joins 50 = .ok (.bipush (-5), 2) := by decide +kernel
theorem dX8_joins_52 : decode cX8_joins 52 = .ok (.ireturn, 1) := by decide +kernel
theorem dX8_joins_53 : decode cX8_joins 53 = .ok (.aload_n 0, 1) := by decide +kernel
theorem dX8_joins_54 : decode cX8_joins 54 = .ok (.iload_n 1, 1) := by decide +kernel
theorem dX8_joins_55 : decode cX8_joins 55 = .ok (.iconst 1, 1) := by decide +kernel
theorem dX8_joins_56 : decode cX8_joins 56 = .ok (.iadd, 1) := by decide +kernel
theorem dX8_joins_57 : decode cX8_joins 57 = .ok (.invokevirtual 100, 3) := by decide +kernel
theorem dX8_joins_60 : decode cX8_joins 60 = .ok (.aload_n 0, 1) := by decide +kernel
theorem dX8_joins_61 : decode cX8_joins 61 = .ok (.iload_n 1, 1) := by decide +kernel
theorem dX8_joins_62 : decode cX8_joins 62 = .ok (.iconst 0, 1) := by decide +kernel
theorem dX8_joins_63 : decode cX8_joins 63 = .ok (.iload_n 2, 1) := by decide +kernel
theorem dX8_joins_64 : decode cX8_joins 64 = .ok (.invokevirtual 73, 3) := by decide +kernel
theorem dX8_joins_67 : decode cX8_joins 67 = .ok (.aload_n 0, 1) := by decide +kernel
theorem dX8_joins_68 : decode cX8_joins 68 = .ok (.iload_n 1, 1) := by decide +kernel
theorem dX8_joins_69 : decode cX8_joins 69 = .ok (.invokevirtual 84, 3) := by decide +kernel
theorem dX8_joins_72 : decode cX8_joins 72 = .ok (.iload_n 2, 1) := by decide +kernel
theorem dX8_joins_73 : decode cX8_joins 73 = .ok (.ireturn, 1) := by decide +kernel
theorem dX8_badOnes_0 : decode cX8_badOnes 0 = .ok (.iconst 0, 1) := by decide +kernel
theorem dX8_badOnes_1 : decode cX8_badOnes 1 = .ok (.istore_n 1, 1) := by decide +kernel
theorem dX8_badOnes_2 : decode cX8_badOnes 2 = .ok (.iconst 0, 1) := by decide +kernel
theorem dX8_badOnes_3 : decode cX8_badOnes 3 = .ok (.istore_n 2, 1) := by decide +kernel
theorem dX8_badOnes_4 : decode cX8_badOnes 4 = .ok (.iload_n 2, 1) := by decide +kernel
theorem dX8_badOnes_5 : decode cX8_badOnes 5 = .ok (.aload_n 0, 1) := by decide +kernel
theorem dX8_badOnes_6 : decode cX8_badOnes 6 = .ok (.getfield 7, 3) := by decide +kernel
theorem dX8_badOnes_9 : decode cX8_badOnes 9 = .ok (.iconst 4, 1) := by decide +kernel
theorem dX8_badOnes_10 : decode cX8_badOnes 10 = .ok (.iaload, 1) := by decide +kernel
theorem dX8_badOnes_11 : decode cX8_badOnes 11 = .ok (.if_icmp .ge 27, 3) := by decide +kernel
theorem dX8_badOnes_14 : decode cX8_badOnes 14 = .ok (.iload_n 1, 1) := by decide +kernel
theorem dX8_badOnes_15 : decode cX8_badOnes 15 = .ok (.aload_n 0, 1) := by decide +kernel
theorem dX8_badOnes_16 : decode cX8_badOnes 16 = .ok (.iload_n 2, 1) := by decide +kernel
theorem dX8_badOnes_17 : decode cX8_badOnes 17 = .ok (.invokevirtual 103, 3) := by decide +kernel
theorem dX8_badOnes_20 : decode cX8_badOnes 20 = .ok (.ifCond .eq 9, 3) := by decide +kernel
theorem dX8_badOnes_23 : decode cX8_badOnes 23 = .ok (.iconst 1, 1) := by decide +kernel
theorem dX8_badOnes_24 : decode cX8_badOnes 24 = .ok (.iload_n 2, 1) := by decide +kernel
theorem dX8_badOnes_25 : decode cX8_badOnes 25 = .ok (.ishl, 1) := by decide +kernel
theorem dX8_badOnes_26 : decode cX8_badOnes 26 = .ok (.goto 4, 3) := by decide +kernel
theorem dX8_badOnes_29 : decode cX8_badOnes 29 = .ok (.iconst 0, 1) := by decide +kernel
theorem dX8_badOnes_30 : decode cX8_badOnes 30 = .ok (.ior, 1) := by decide +kernel
theorem dX8_badOnes_31 : decode cX8_badOnes 31 = .ok (.istore_n 1, 1) := by decide +kernel
theorem dX8_badOnes_32 : decode cX8_badOnes 32 = .ok (.iinc 2 1, 3) := by decide +kernel
theorem dX8_badOnes_35 : decode cX8_badOnes 35 = .ok (.goto (-31), 3) := by decide +kernel
theorem dX8_badOnes_38 : decode cX8_badOnes 38 = .ok (.iload_n 1, 1) := by decide +kernel
theorem dX8_badOnes_39 : decode cX8_badOnes 39 = .ok (.ireturn, 1) := by decide +kernel
theorem dX8_ones_0 : decode cX8_ones 0 = .ok (.iconst 0, 1) := by decide +kernel
theorem dX8_ones_1 : decode cX8_ones 1 = .ok (.istore_n 1, 1) := by decide +kernel
theorem dX8_ones_2 : decode cX8_ones 2 = .ok (.iconst 0, 1) := by decide +kernel
theorem dX8_ones_3 : decode cX8_ones 3 = .ok (.istore_n 2, 1) := by decide +kernel
theorem dX8_ones_4 : decode cX8_ones 4 = .ok (.iload_n 2, 1) := by decide +kernel
theorem dX8_ones_5 : decode cX8_ones 5 = .ok (.bipush 20, 2) := by decide +kernel
theorem dX8_ones_7 : decode cX8_ones 7 = .ok (.if_icmp .ge 17, 3) := by decide +kernel
theorem dX8_ones_10 : decode cX8_ones 10 = .ok (.iload_n 1, 1) := by decide +kernel
theorem dX8_ones_11 : decode cX8_ones 11 = .ok (.iload_n 0, 1) := by decide +kernel
theorem dX8_ones_12 : decode cX8_ones 12 = .ok (.iload_n 2, 1) := by decide +kernel
theorem dX8_ones_13 : decode cX8_ones 13 = .ok (.ishr, 1) := by decide +kernel
theorem dX8_ones_14 : decode cX8_ones 14 = .ok (.iconst 1, 1) := by decide +kernel
theorem dX8_ones_15 : decode cX8_ones 15 = .ok (.iand, 1) := by decide +kernel
theorem dX8_ones_16 : decode cX8_ones 16 = .ok (.iadd, 1) := by decide +kernel
theorem dX8_ones_17 : decode cX8_ones 17 = .ok (.istore_n 1, 1) := by decide +kernel
theorem dX8_ones_18 : decode cX8_ones 18 = .ok (.iinc 2 1, 3) := by decide +kernel
theorem dX8_ones_21 : decode cX8_ones 21 = .ok (.goto (-17), 3) := by decide +kernel
theorem dX8_ones_24 : decode cX8_ones 24 = .ok (.iload_n 1, 1) := by decide +kernel
theorem dX8_ones_25 : decode cX8_ones 25 = .ok (.ireturn, 1) := by decide +kernel
theorem dX8_hours_0 : decode cX8_hours 0 = .ok (.aload_n 0, 1) := by decide +kernel
theorem dX8_hours_1 : decode cX8_hours 1 = .ok (.aload_n 0, 1) := by decide +kernel
theorem dX8_hours_2 : decode cX8_hours 2 = .ok (.getfield 7, 3) := by decide +kernel
theorem dX8_hours_5 : decode cX8_hours 5 = .ok (.iconst 4, 1) := by decide +kernel
theorem dX8_hours_6 : decode cX8_hours 6 = .ok (.iaload, 1) := by decide +kernel
theorem dX8_hours_7 : decode cX8_hours 7 = .ok (.invokevirtual 106, 3) := by decide +kernel
theorem dX8_hours_10 : decode cX8_hours 10 = .ok (.bipush 99, 2) := by decide +kernel
theorem dX8_hours_12 : decode cX8_hours 12 = .ok (.iadd, 1) := by decide +kernel
theorem dX8_hours_13 : decode cX8_hours 13 = .ok (.bipush 100, 2) := by decide +kernel
theorem dX8_hours_15 : decode cX8_hours 15 = .ok (.idiv, 1) := by decide +kernel
theorem dX8_hours_16 : decode cX8_hours 16 = .ok (.ireturn, 1) := by decide +kernel
theorem dX8_makePrint_0 : decode cX8_makePrint 0 = .ok (.iconst 0, 1) := by decide +kernel
theorem dX8_makePrint_1 : decode cX8_makePrint 1 = .ok (.istore_n 1, 1) := by decide +kernel
theorem dX8_makePrint_2 : decode cX8_makePrint 2 = .ok (.iload_n 1, 1) := by decide +kernel
theorem dX8_makePrint_3 : decode cX8_makePrint 3 = .ok (.aload_n 0, 1) := by decide +kernel
theorem dX8_makePrint_4 : decode cX8_makePrint 4 = .ok (.getfield 7, 3) := by decide +kernel
theorem dX8_makePrint_7 : decode cX8_makePrint 7 = .ok (.iconst 4, 1) := by decide +kernel
theorem dX8_makePrint_8 : decode cX8_makePrint 8 = .ok (.iaload, 1) := by decide +kernel
theorem dX8_makePrint_9 : decode cX8_makePrint 9 = .ok (.if_icmp .ge 45, 3) := by decide +kernel
theorem dX8_makePrint_12 : decode cX8_makePrint 12 = .ok (.aload_n 0, 1) := by decide +kernel
theorem dX8_makePrint_13 : decode cX8_makePrint 13 = .ok (.iload_n 1, 1) := by decide +kernel
theorem dX8_makePrint_14 : decode cX8_makePrint 14 = .ok (.bipush 10, 2) := by decide +kernel
theorem dX8_makePrint_16 : decode cX8_makePrint 16 = .ok (.iconst 1, 1) := by decide +kernel
theorem dX8_makePrint_17 : decode cX8_makePrint 17 = .ok (.invokevirtual 73, 3) := by decide +kernel
theorem dX8_makePrint_20 : decode cX8_makePrint 20 = .ok (.iconst 0, 1) := by decide +kernel
theorem dX8_makePrint_21 : decode cX8_makePrint 21 = .ok (.istore_n 2, 1) := by decide +kernel
theorem dX8_makePrint_22 : decode cX8_makePrint 22 = .ok (.iload_n 2, 1) := by decide +kernel
theorem dX8_makePrint_23 : decode cX8_makePrint 23 = .ok (.iconst 3, 1) := by decide +kernel
theorem dX8_makePrint_24 : decode cX8_makePrint 24 = .ok (.if_icmp .ge 24, 3) := by decide +kernel
theorem dX8_makePrint_27 : decode cX8_makePrint 27 = .ok (.aload_n 0, 1) := by decide +kernel
theorem dX8_makePrint_28 : decode cX8_makePrint 28 = .ok (.iload_n 1, 1) := by decide +kernel
theorem dX8_makePrint_29 : decode cX8_makePrint 29 = .ok (.bipush 11, 2) := by decide +kernel
theorem dX8_makePrint_31 : decode cX8_makePrint 31 = .ok (.iload_n 2, 1) := by decide +kernel
theorem dX8_makePrint_32 : decode cX8_makePrint 32 = .ok (.iadd, 1) := by decide +kernel
theorem dX8_makePrint_33 : decode cX8_makePrint 33 = .ok (.aload_n 0, 1) := by decide +kernel
theorem dX8_makePrint_34 : decode cX8_makePrint 34 = .ok (.iload_n 1, 1) := by decide +kernel
theorem dX8_makePrint_35 : decode cX8_makePrint 35 = .ok (.iload_n 2, 1) := by decide +kernel
theorem dX8_makePrint_36 : decode cX8_makePrint 36 = .ok (.invokevirtual 70, 3) := by decide +kernel
theorem dX8_makePrint_39 : decode cX8_makePrint 39 = .ok (.invokevirtual 73, 3) := by decide +kernel
theorem dX8_makePrint_42 : decode cX8_makePrint 42 = .ok (.iinc 2 1, 3) := by decide +kernel
theorem dX8_makePrint_45 : decode cX8_makePrint 45 = .ok (.goto (-23), 3) := by decide +kernel
theorem dX8_makePrint_48 : decode cX8_makePrint 48 = .ok (.iinc 1 1, 3) := by decide +kernel
theorem dX8_makePrint_51 : decode cX8_makePrint 51 = .ok (.goto (-49), 3) := by decide +kernel
theorem dX8_makePrint_54 : decode cX8_makePrint 54 = .ok (.aload_n 0, 1) := by decide +kernel
theorem dX8_makePrint_55 : decode cX8_makePrint 55 = .ok (.invokevirtual 109, 3) := by decide +kernel
theorem dX8_makePrint_58 : decode cX8_makePrint 58 = .ok (.istore_n 1, 1) := by decide +kernel
theorem dX8_makePrint_59 : decode cX8_makePrint 59 = .ok (.iconst 0, 1) := by decide +kernel
theorem dX8_makePrint_60 : decode cX8_makePrint 60 = .ok (.istore_n 2, 1) := by decide +kernel
theorem dX8_makePrint_61 : decode cX8_makePrint 61 = .ok (.iload_n 2, 1) := by decide +kernel
theorem dX8_makePrint_62 : decode cX8_makePrint 62 = .ok (.iconst 3, 1) := by decide +kernel
theorem dX8_makePrint_63 : decode cX8_makePrint 63 = .ok (.if_icmp .ge 22, 3) := by decide +kernel
theorem dX8_makePrint_66 : decode cX8_makePrint 66 = .ok (.aload_n 0, 1) := by decide +kernel
theorem dX8_makePrint_67 : decode cX8_makePrint 67 = .ok (.getfield 7, 3) := by decide +kernel
theorem dX8_makePrint_70 : decode cX8_makePrint 70 = .ok (.bipush 7, 2) := by decide +kernel
theorem dX8_makePrint_72 : decode cX8_makePrint 72 = .ok (.iload_n 2, 1) := by decide +kernel
theorem dX8_makePrint_73 : decode cX8_makePrint 73 = .ok (.iadd, 1) := by decide +kernel
theorem dX8_makePrint_74 : decode cX8_makePrint 74 = .ok (.dup2, 1) := by decide +kernel
theorem dX8_makePrint_75 : decode cX8_makePrint 75 = .ok (.iaload, 1) := by decide +kernel
theorem dX8_makePrint_76 : decode cX8_makePrint 76 = .ok (.iload_n 1, 1) := by decide +kernel
theorem dX8_makePrint_77 : decode cX8_makePrint 77 = .ok (.iadd, 1) := by decide +kernel
theorem dX8_makePrint_78 : decode cX8_makePrint 78 = .ok (.iastore, 1) := by decide +kernel
theorem dX8_makePrint_79 : decode cX8_makePrint 79 = .ok (.iinc 2 1, 3) := by decide +kernel
theorem dX8_makePrint_82 : decode cX8_makePrint 82 = .ok (.goto (-21), 3) := by decide +kernel
theorem dX8_makePrint_85 : decode cX8_makePrint 85 = .ok (.aload_n 0, 1) := by decide +kernel
theorem dX8_makePrint_86 : decode cX8_makePrint 86 = .ok (.getfield 7, 3) := by decide +kernel
theorem dX8_makePrint_89 : decode cX8_makePrint 89 = .ok (.iconst 5, 1) := by decide +kernel
theorem dX8_makePrint_90 : decode cX8_makePrint 90 = .ok (.dup2, 1) := by decide +kernel
theorem dX8_makePrint_91 : decode cX8_makePrint 91 = .ok (.iaload, 1) := by decide +kernel
theorem dX8_makePrint_92 : decode cX8_makePrint 92 = .ok (.iconst 1, 1) := by decide +kernel
theorem dX8_makePrint_93 : decode cX8_makePrint 93 = .ok (.iadd, 1) := by decide +kernel
theorem dX8_makePrint_94 : decode cX8_makePrint 94 = .ok (.iastore, 1) := by decide +kernel
theorem dX8_makePrint_95 : decode cX8_makePrint 95 = .ok (.return_, 1) := by decide +kernel
theorem dX8_oldest_0 : decode cX8_oldest 0 = .ok (.iconst 0, 1) := by decide +kernel
theorem dX8_oldest_1 : decode cX8_oldest 1 = .ok (.istore_n 1, 1) := by decide +kernel
theorem dX8_oldest_2 : decode cX8_oldest 2 = .ok (.iconst 0, 1) := by decide +kernel
theorem dX8_oldest_3 : decode cX8_oldest 3 = .ok (.istore_n 2, 1) := by decide +kernel
theorem dX8_oldest_4 : decode cX8_oldest 4 = .ok (.iload_n 2, 1) := by decide +kernel
theorem dX8_oldest_5 : decode cX8_oldest 5 = .ok (.iconst 3, 1) := by decide +kernel
theorem dX8_oldest_6 : decode cX8_oldest 6 = .ok (.if_icmp .ge 36, 3) := by decide +kernel
theorem dX8_oldest_9 : decode cX8_oldest 9 = .ok (.aload_n 0, 1) := by decide +kernel
theorem dX8_oldest_10 : decode cX8_oldest 10 = .ok (.getfield 7, 3) := by decide +kernel
theorem dX8_oldest_13 : decode cX8_oldest 13 = .ok (.bipush 7, 2) := by decide +kernel
theorem dX8_oldest_15 : decode cX8_oldest 15 = .ok (.iload_n 2, 1) := by decide +kernel
theorem dX8_oldest_16 : decode cX8_oldest 16 = .ok (.iadd, 1) := by decide +kernel
theorem dX8_oldest_17 : decode cX8_oldest 17 = .ok (.iaload, 1) := by decide +kernel
theorem dX8_oldest_18 : decode cX8_oldest 18 = .ok (.iload_n 1, 1) := by decide +kernel
theorem dX8_oldest_19 : decode cX8_oldest 19 = .ok (.if_icmp .le 15, 3) := by decide +kernel
theorem dX8_oldest_22 : decode cX8_oldest 22 = .ok (.aload_n 0, 1) := by decide +kernel
theorem dX8_oldest_23 : decode cX8_oldest 23 = .ok (.getfield 7, 3) := by decide +kernel
theorem dX8_oldest_26 : decode cX8_oldest 26 = .ok (.bipush 7, 2) := by decide +kernel
theorem dX8_oldest_28 : decode cX8_oldest 28 = .ok (.iload_n 2, 1) := by decide +kernel
theorem dX8_oldest_29 : decode cX8_oldest 29 = .ok (.iadd, 1) := by decide +kernel
theorem dX8_oldest_30 : decode cX8_oldest 30 = .ok (.iaload, 1) := by decide +kernel
theorem dX8_oldest_31 : decode cX8_oldest 31 = .ok (.goto 4, 3) := by decide +kernel
theorem dX8_oldest_34 : decode cX8_oldest 34 = .ok (.iload_n 1, 1) := by decide +kernel
theorem dX8_oldest_35 : decode cX8_oldest 35 = .ok (.istore_n 1, 1) := by decide +kernel
theorem dX8_oldest_36 : decode cX8_oldest 36 = .ok (.iinc 2 1, 3) := by decide +kernel
theorem dX8_oldest_39 : decode cX8_oldest 39 = .ok (.goto (-35), 3) := by decide +kernel
theorem dX8_oldest_42 : decode cX8_oldest 42 = .ok (.iload_n 1, 1) := by decide +kernel
theorem dX8_oldest_43 : decode cX8_oldest 43 = .ok (.ireturn, 1) := by decide +kernel
theorem dX8_makesPrint_0 : decode cX8_makesPrint 0 = .ok (.aload_n 0, 1) := by decide +kernel
theorem dX8_makesPrint_1 : decode cX8_makesPrint 1 = .ok (.getfield 7, 3) := by decide +kernel
theorem dX8_makesPrint_4 : decode cX8_makesPrint 4 = .ok (.iconst 4, 1) := by decide +kernel
theorem dX8_makesPrint_5 : decode cX8_makesPrint 5 = .ok (.iaload, 1) := by decide +kernel
theorem dX8_makesPrint_6 : decode cX8_makesPrint 6 = .ok (.ifCond .eq 18, 3) := by decide +kernel
theorem dX8_makesPrint_9 : decode cX8_makesPrint 9 = .ok (.aload_n 0, 1) := by decide +kernel
theorem dX8_makesPrint_10 : decode cX8_makesPrint 10 = .ok (.invokevirtual 113, 3) := by decide +kernel
theorem dX8_makesPrint_13 : decode cX8_makesPrint 13 = .ok (.aload_n 0, 1) := by decide +kernel
theorem dX8_makesPrint_14 : decode cX8_makesPrint 14 = .ok (.invokevirtual 109, 3) := by decide +kernel
theorem dX8_makesPrint_17 : decode cX8_makesPrint 17 = .ok (.iadd, 1) := by decide +kernel
theorem dX8_makesPrint_18 : decode cX8_makesPrint 18 = .ok (.sipush 999, 3) := by decide +kernel
theorem dX8_makesPrint_21 : decode cX8_makesPrint 21 = .ok (.if_icmp .le 6, 3) := by decide +kernel
theorem dX8_makesPrint_24 : decode cX8_makesPrint 24 = .ok (.bipush (-5), 2) := by decide +kernel
theorem dX8_makesPrint_26 : decode cX8_makesPrint 26 = .ok (.ireturn, 1) := by decide +kernel
theorem dX8_makesPrint_27 : decode cX8_makesPrint 27 = .ok (.aload_n 0, 1) := by decide +kernel
theorem dX8_makesPrint_28 : decode cX8_makesPrint 28 = .ok (.invokevirtual 116, 3) := by decide +kernel
theorem dX8_makesPrint_31 : decode cX8_makesPrint 31 = .ok (.aload_n 0, 1) := by decide +kernel
theorem dX8_makesPrint_32 : decode cX8_makesPrint 32 = .ok (.invokevirtual 119, 3) := by decide +kernel
theorem dX8_makesPrint_35 : decode cX8_makesPrint 35 = .ok (.invokestatic 122, 3) := by decide +kernel
theorem dX8_makesPrint_38 : decode cX8_makesPrint 38 = .ok (.ireturn, 1) := by decide +kernel
theorem dX8_correctOne_0 : decode cX8_correctOne 0 = .ok (.iconst 0, 1) := by decide +kernel
theorem dX8_correctOne_1 : decode cX8_correctOne 1 = .ok (.istore_n 2, 1) := by decide +kernel
theorem dX8_correctOne_2 : decode cX8_correctOne 2 = .ok (.iconst 0, 1) := by decide +kernel
theorem dX8_correctOne_3 : decode cX8_correctOne 3 = .ok (.istore_n 3, 1) := by decide +kernel
theorem dX8_correctOne_4 : decode cX8_correctOne 4 = .ok (.iload_n 3, 1) := by decide +kernel
theorem dX8_correctOne_5 : decode cX8_correctOne 5 = .ok (.iconst 3, 1) := by decide +kernel
theorem dX8_correctOne_6 : decode cX8_correctOne 6 = .ok (.if_icmp .ge 100, 3) := by decide +kernel
theorem dX8_correctOne_9 : decode cX8_correctOne 9 = .ok (.aload_n 0, 1) := by decide +kernel
theorem dX8_correctOne_10 : decode cX8_correctOne 10 = .ok (.iload_n 1, 1) := by decide +kernel
theorem dX8_correctOne_11 : decode cX8_correctOne 11 = .ok (.bipush 11, 2) := by decide +kernel
theorem dX8_correctOne_13 : decode cX8_correctOne 13 = .ok (.iload_n 3, 1) := by decide +kernel
theorem dX8_correctOne_14 : decode cX8_correctOne 14 = .ok (.iadd, 1) := by decide +kernel
theorem dX8_correctOne_15 : decode cX8_correctOne 15 = .ok (.invokevirtual 53, 3) := by decide +kernel
theorem dX8_correctOne_18 : decode cX8_correctOne 18 = .ok (.istore 4, 2) := by decide +kernel
theorem dX8_correctOne_20 : decode cX8_correctOne 20 = .ok (.iload 4, 2) := by decide +kernel
theorem dX8_correctOne_22 : decode cX8_correctOne 22 = .ok (.invokestatic 67, 3) := by decide +kernel
theorem dX8_correctOne_25 : decode cX8_correctOne 25 = .ok (.aload_n 0, 1) := by decide +kernel
theorem dX8_correctOne_26 : decode cX8_correctOne 26 = .ok (.getfield 7, 3) := by decide +kernel
theorem dX8_correctOne_29 : decode cX8_correctOne 29 = .ok (.iconst 0, 1) := by decide +kernel
theorem dX8_correctOne_30 : decode cX8_correctOne 30 = .ok (.iaload, 1) := by decide +kernel
theorem dX8_correctOne_31 : decode cX8_correctOne 31 = .ok (.idiv, 1) := by decide +kernel
theorem dX8_correctOne_32 : decode cX8_correctOne 32 = .ok (.aload_n 0, 1) := by decide +kernel
theorem dX8_correctOne_33 : decode cX8_correctOne 33 = .ok (.getfield 7, 3) := by decide +kernel
theorem dX8_correctOne_36 : decode cX8_correctOne 36 = .ok (.iconst 0, 1) := by decide +kernel
theorem dX8_correctOne_37 : decode cX8_correctOne 37 = .ok (.iaload, 1) := by decide +kernel
theorem dX8_correctOne_38 : decode cX8_correctOne 38 = .ok (.imul, 1) := by decide +kernel
theorem dX8_correctOne_39 : decode cX8_correctOne 39 = .ok (.istore 5, 2) := by decide +kernel
theorem dX8_correctOne_41 : decode cX8_correctOne 41 = .ok (.aload_n 0, 1) := by decide +kernel
theorem dX8_correctOne_42 : decode cX8_correctOne 42 = .ok (.iload_n 1, 1) := by decide +kernel
theorem dX8_correctOne_43 : decode cX8_correctOne 43 = .ok (.bipush 7, 2) := by decide +kernel
theorem dX8_correctOne_45 : decode cX8_correctOne 45 = .ok (.iload_n 3, 1) := by decide +kernel
theorem dX8_correctOne_46 : decode cX8_correctOne 46 = .ok (.iadd, 1) := by decide +kernel
theorem dX8_correctOne_47 : decode cX8_correctOne 47 = .ok (.invokevirtual 53, 3) := by decide +kernel
theorem dX8_correctOne_50 : decode cX8_correctOne 50 = .ok (.istore 6, 2) := by decide +kernel
theorem dX8_correctOne_52 : decode cX8_correctOne 52 = .ok (.aload_n 0, 1) := by decide +kernel
theorem dX8_correctOne_53 : decode cX8_correctOne 53 = .ok (.iload_n 1, 1) := by decide +kernel
theorem dX8_correctOne_54 : decode cX8_correctOne 54 = .ok (.bipush 7, 2) := by decide +kernel
theorem dX8_correctOne_56 : decode cX8_correctOne 56 = .ok (.iload_n 3, 1) := by decide +kernel
theorem dX8_correctOne_57 : decode cX8_correctOne 57 = .ok (.iadd, 1) := by decide +kernel
theorem dX8_correctOne_58 : decode cX8_correctOne 58 = .ok (.iload 4, 2) := by decide +kernel
theorem dX8_correctOne_60 : decode cX8_correctOne 60 = .ok (.ifCond .ge 11, 3) := by decide +kernel
theorem dX8_correctOne_63 : decode cX8_correctOne 63 = .ok (.iload 6, 2) := by decide +kernel
theorem dX8_correctOne_65 : decode cX8_correctOne 65 = .ok (.iload 5, 2) := by decide +kernel
theorem dX8_correctOne_67 : decode cX8_correctOne 67 = .ok (.iadd, 1) := by decide +kernel
theorem dX8_correctOne_68 : decode cX8_correctOne 68 = .ok (.goto 8, 3) := by decide +kernel
theorem dX8_correctOne_71 : decode cX8_correctOne 71 = .ok (.iload 6, 2) := by decide +kernel
theorem dX8_correctOne_73 : decode cX8_correctOne 73 = .ok (.iload 5, 2) := by decide +kernel
theorem dX8_correctOne_75 : decode cX8_correctOne 75 = .ok (.isub, 1) := by decide +kernel
theorem dX8_correctOne_76 : decode cX8_correctOne 76 = .ok (.invokestatic 57, 3) := by decide +kernel
theorem dX8_correctOne_79 : decode cX8_correctOne 79 = .ok (.invokevirtual 73, 3) := by decide +kernel
theorem dX8_correctOne_82 : decode cX8_correctOne 82 = .ok (.iload_n 2, 1) := by decide +kernel
theorem dX8_correctOne_83 : decode cX8_correctOne 83 = .ok (.aload_n 0, 1) := by decide +kernel
theorem dX8_correctOne_84 : decode cX8_correctOne 84 = .ok (.iload_n 1, 1) := by decide +kernel
theorem dX8_correctOne_85 : decode cX8_correctOne 85 = .ok (.bipush 7, 2) := by decide +kernel
theorem dX8_correctOne_87 : decode cX8_correctOne 87 = .ok (.iload_n 3, 1) := by decide +kernel
theorem dX8_correctOne_88 : decode cX8_correctOne 88 = .ok (.iadd, 1) := by decide +kernel
theorem dX8_correctOne_89 : decode cX8_correctOne 89 = .ok (.invokevirtual 53, 3) := by decide +kernel
theorem dX8_correctOne_92 : decode cX8_correctOne 92 = .ok (.iload 6, 2) := by decide +kernel
theorem dX8_correctOne_94 : decode cX8_correctOne 94 = .ok (.isub, 1) := by decide +kernel
theorem dX8_correctOne_95 : decode cX8_correctOne 95 = .ok (.invokestatic 67, 3) := by decide +kernel
theorem dX8_correctOne_98 : decode cX8_correctOne 98 = .ok (.iadd, 1) := by decide +kernel
theorem dX8_correctOne_99 : decode cX8_correctOne 99 = .ok (.istore_n 2, 1) := by decide +kernel
theorem dX8_correctOne_100 : decode cX8_correctOne 100 = .ok (.iinc 3 1, 3) := by decide +kernel
theorem dX8_correctOne_103 : decode cX8_correctOne 103 = .ok (.goto (-99), 3) := by decide +kernel
theorem dX8_correctOne_106 : decode cX8_correctOne 106 = .ok (.aload_n 0, 1) := by decide +kernel
theorem dX8_correctOne_107 : decode cX8_correctOne 107 = .ok (.iload_n 1, 1) := by decide +kernel
theorem dX8_correctOne_108 : decode cX8_correctOne 108 = .ok (.invokevirtual 84, 3) := by decide +kernel
theorem dX8_correctOne_111 : decode cX8_correctOne 111 = .ok (.aload_n 0, 1) := by decide +kernel
theorem dX8_correctOne_112 : decode cX8_correctOne 112 = .ok (.getfield 7, 3) := by decide +kernel
theorem dX8_correctOne_115 : decode cX8_correctOne 115 = .ok (.bipush 6, 2) := by decide +kernel
theorem dX8_correctOne_117 : decode cX8_correctOne 117 = .ok (.dup2, 1) := by decide +kernel
theorem dX8_correctOne_118 : decode cX8_correctOne 118 = .ok (.iaload, 1) := by decide +kernel
theorem dX8_correctOne_119 : decode cX8_correctOne 119 = .ok (.iload_n 2, 1) := by decide +kernel
theorem dX8_correctOne_120 : decode cX8_correctOne 120 = .ok (.iadd, 1) := by decide +kernel
theorem dX8_correctOne_121 : decode cX8_correctOne 121 = .ok (.iastore, 1) := by decide +kernel
theorem dX8_correctOne_122 : decode cX8_correctOne 122 = .ok (.iload_n 2, 1) := by decide +kernel
theorem dX8_correctOne_123 : decode cX8_correctOne 123 = .ok (.ireturn, 1) := by decide +kernel
theorem dX8_corrects_0 : decode cX8_corrects 0 = .ok (.aload_n 0, 1) := by decide +kernel
theorem dX8_corrects_1 : decode cX8_corrects 1 = .ok (.iload_n 1, 1) := by decide +kernel
theorem dX8_corrects_2 : decode cX8_corrects 2 = .ok (.invokevirtual 87, 3) := by decide +kernel
theorem dX8_corrects_5 : decode cX8_corrects 5 = .ok (.ifCond .ne 5, 3) := by decide +kernel
theorem dX8_corrects_8 : decode cX8_corrects 8 = .ok (.iconst (-1), 1) := by decide +kernel
theorem dX8_corrects_9 : decode cX8_corrects 9 = .ok (.ireturn, 1) := by decide +kernel
theorem dX8_corrects_10 : decode cX8_corrects 10 = .ok (.aload_n 0, 1) := by decide +kernel
theorem dX8_corrects_11 : decode cX8_corrects 11 = .ok (.iload_n 1, 1) := by decide +kernel
theorem dX8_corrects_12 : decode cX8_corrects 12 = .ok (.bipush 10, 2) := by decide +kernel
theorem dX8_corrects_14 : decode cX8_corrects 14 = .ok (.invokevirtual 53, 3) := by decide +kernel
theorem dX8_corrects_17 : decode cX8_corrects 17 = .ok (.iconst 1, 1) := by decide +kernel
theorem dX8_corrects_18 : decode cX8_corrects 18 = .ok (.if_icmp .ne 11, 3) := by decide +kernel
theorem dX8_corrects_21 : decode cX8_corrects 21 = .ok (.aload_n 0, 1) := by decide +kernel
theorem dX8_corrects_22 : decode cX8_corrects 22 = .ok (.iload_n 1, 1) := by decide +kernel
theorem dX8_corrects_23 : decode cX8_corrects 23 = .ok (.invokevirtual 125, 3) := by decide +kernel
theorem dX8_corrects_26 : decode cX8_corrects 26 = .ok (.goto 5, 3) := by decide +kernel
theorem dX8_corrects_29 : decode cX8_corrects 29 = .ok (.bipush (-5), 2) := by decide +kernel
theorem dX8_corrects_31 : decode cX8_corrects 31 = .ok (.ireturn, 1) := by decide +kernel
theorem dX8_correctsAll_0 : decode cX8_correctsAll 0 = .ok (.iconst 0, 1) := by decide +kernel
theorem dX8_correctsAll_1 : decode cX8_correctsAll 1 = .ok (.istore_n 1, 1) := by decide +kernel
theorem dX8_correctsAll_2 : decode cX8_correctsAll 2 = .ok (.iconst 0, 1) := by decide +kernel
theorem dX8_correctsAll_3 : decode cX8_correctsAll 3 = .ok (.istore_n 2, 1) := by decide +kernel
theorem dX8_correctsAll_4 : decode cX8_correctsAll 4 = .ok (.iload_n 2, 1) := by decide +kernel
theorem dX8_correctsAll_5 : decode cX8_correctsAll 5 = .ok (.aload_n 0, 1) := by decide +kernel
theorem dX8_correctsAll_6 : decode cX8_correctsAll 6 = .ok (.getfield 7, 3) := by decide +kernel
theorem dX8_correctsAll_9 : decode cX8_correctsAll 9 = .ok (.iconst 4, 1) := by decide +kernel
theorem dX8_correctsAll_10 : decode cX8_correctsAll 10 = .ok (.iaload, 1) := by decide +kernel
theorem dX8_correctsAll_11 : decode cX8_correctsAll 11 = .ok (.if_icmp .ge 26, 3) := by decide +kernel
theorem dX8_correctsAll_14 : decode cX8_correctsAll 14 = .ok (.aload_n 0, 1) := by decide +kernel
theorem dX8_correctsAll_15 : decode cX8_correctsAll 15 = .ok (.iload_n 2, 1) := by decide +kernel
theorem dX8_correctsAll_16 : decode cX8_correctsAll 16 = .ok (.invokevirtual 103, 3) := by decide +kernel
theorem dX8_correctsAll_19 : decode cX8_correctsAll 19 = .ok (.ifCond .eq 12, 3) := by decide +kernel
theorem dX8_correctsAll_22 : decode cX8_correctsAll 22 = .ok (.aload_n 0, 1) := by decide +kernel
theorem dX8_correctsAll_23 : decode cX8_correctsAll 23 = .ok (.iload_n 2, 1) := by decide +kernel
theorem dX8_correctsAll_24 : decode cX8_correctsAll 24 = .ok (.invokevirtual 125, 3) := by decide +kernel
theorem dX8_correctsAll_27 : decode cX8_correctsAll 27 = .ok (.pop, 1) := by decide +kernel
theorem dX8_correctsAll_28 : decode cX8_correctsAll 28 = .ok (.iinc 1 1, 3) := by decide +kernel
theorem dX8_correctsAll_31 : decode cX8_correctsAll 31 = .ok (.iinc 2 1, 3) := by decide +kernel
theorem dX8_correctsAll_34 : decode cX8_correctsAll 34 = .ok (.goto (-30), 3) := by decide +kernel
theorem dX8_correctsAll_37 : decode cX8_correctsAll 37 = .ok (.iload_n 1, 1) := by decide +kernel
theorem dX8_correctsAll_38 : decode cX8_correctsAll 38 = .ok (.ireturn, 1) := by decide +kernel
theorem dX8_cards_0 : decode cX8_cards 0 = .ok (.iconst 0, 1) := by decide +kernel
theorem dX8_cards_1 : decode cX8_cards 1 = .ok (.istore_n 1, 1) := by decide +kernel
theorem dX8_cards_2 : decode cX8_cards 2 = .ok (.iconst 0, 1) := by decide +kernel
theorem dX8_cards_3 : decode cX8_cards 3 = .ok (.istore_n 2, 1) := by decide +kernel
theorem dX8_cards_4 : decode cX8_cards 4 = .ok (.iload_n 2, 1) := by decide +kernel
theorem dX8_cards_5 : decode cX8_cards 5 = .ok (.iconst 3, 1) := by decide +kernel
theorem dX8_cards_6 : decode cX8_cards 6 = .ok (.if_icmp .ge 50, 3) := by decide +kernel
theorem dX8_cards_9 : decode cX8_cards 9 = .ok (.aload_n 0, 1) := by decide +kernel
theorem dX8_cards_10 : decode cX8_cards 10 = .ok (.getfield 7, 3) := by decide +kernel
theorem dX8_cards_13 : decode cX8_cards 13 = .ok (.bipush 10, 2) := by decide +kernel
theorem dX8_cards_15 : decode cX8_cards 15 = .ok (.iload_n 2, 1) := by decide +kernel
theorem dX8_cards_16 : decode cX8_cards 16 = .ok (.iadd, 1) := by decide +kernel
theorem dX8_cards_17 : decode cX8_cards 17 = .ok (.aload_n 0, 1) := by decide +kernel
theorem dX8_cards_18 : decode cX8_cards 18 = .ok (.iload_n 2, 1) := by decide +kernel
theorem dX8_cards_19 : decode cX8_cards 19 = .ok (.invokevirtual 49, 3) := by decide +kernel
theorem dX8_cards_22 : decode cX8_cards 22 = .ok (.bipush 20, 2) := by decide +kernel
theorem dX8_cards_24 : decode cX8_cards 24 = .ok (.if_icmp .ge 11, 3) := by decide +kernel
theorem dX8_cards_27 : decode cX8_cards 27 = .ok (.aload_n 0, 1) := by decide +kernel
theorem dX8_cards_28 : decode cX8_cards 28 = .ok (.iload_n 2, 1) := by decide +kernel
theorem dX8_cards_29 : decode cX8_cards 29 = .ok (.invokevirtual 49, 3) := by decide +kernel
theorem dX8_cards_32 : decode cX8_cards 32 = .ok (.goto 5, 3) := by decide +kernel
theorem dX8_cards_35 : decode cX8_cards 35 = .ok (.bipush 20, 2) := by decide +kernel
theorem dX8_cards_37 : decode cX8_cards 37 = .ok (.iastore, 1) := by decide +kernel
theorem dX8_cards_38 : decode cX8_cards 38 = .ok (.iload_n 1, 1) := by decide +kernel
theorem dX8_cards_39 : decode cX8_cards 39 = .ok (.aload_n 0, 1) := by decide +kernel
theorem dX8_cards_40 : decode cX8_cards 40 = .ok (.getfield 7, 3) := by decide +kernel
theorem dX8_cards_43 : decode cX8_cards 43 = .ok (.bipush 10, 2) := by decide +kernel
theorem dX8_cards_45 : decode cX8_cards 45 = .ok (.iload_n 2, 1) := by decide +kernel
theorem dX8_cards_46 : decode cX8_cards 46 = .ok (.iadd, 1) := by decide +kernel
theorem dX8_cards_47 : decode cX8_cards 47 = .ok (.iaload, 1) := by decide +kernel
theorem dX8_cards_48 : decode cX8_cards 48 = .ok (.iadd, 1) := by decide +kernel
theorem dX8_cards_49 : decode cX8_cards 49 = .ok (.istore_n 1, 1) := by decide +kernel
theorem dX8_cards_50 : decode cX8_cards 50 = .ok (.iinc 2 1, 3) := by decide +kernel
theorem dX8_cards_53 : decode cX8_cards 53 = .ok (.goto (-49), 3) := by decide +kernel
theorem dX8_cards_56 : decode cX8_cards 56 = .ok (.iload_n 1, 1) := by decide +kernel
theorem dX8_cards_57 : decode cX8_cards 57 = .ok (.ireturn, 1) := by decide +kernel
theorem dX8_mostOf_0 : decode cX8_mostOf 0 = .ok (.iload_n 0, 1) := by decide +kernel
theorem dX8_mostOf_1 : decode cX8_mostOf 1 = .ok (.ifCond .ne 7, 3) := by decide +kernel
theorem dX8_mostOf_4 : decode cX8_mostOf 4 = .ok (.iconst 5, 1) := by decide +kernel
theorem dX8_mostOf_5 : decode cX8_mostOf 5 = .ok (.goto 25, 3) := by decide +kernel
theorem dX8_mostOf_8 : decode cX8_mostOf 8 = .ok (.iload_n 0, 1) := by decide +kernel
theorem dX8_mostOf_9 : decode cX8_mostOf 9 = .ok (.iconst 1, 1) := by decide +kernel
theorem dX8_mostOf_10 : decode cX8_mostOf 10 = .ok (.if_icmp .ne 8, 3) := by decide +kernel
theorem dX8_mostOf_13 : decode cX8_mostOf 13 = .ok (.bipush 9, 2) := by decide +kernel
theorem dX8_mostOf_15 : decode cX8_mostOf 15 = .ok (.goto 15, 3) := by decide +kernel
theorem dX8_mostOf_18 : decode cX8_mostOf 18 = .ok (.iload_n 0, 1) := by decide +kernel
theorem dX8_mostOf_19 : decode cX8_mostOf 19 = .ok (.iconst 2, 1) := by decide +kernel
theorem dX8_mostOf_20 : decode cX8_mostOf 20 = .ok (.if_icmp .ne 8, 3) := by decide +kernel
theorem dX8_mostOf_23 : decode cX8_mostOf 23 = .ok (.bipush 40, 2) := by decide +kernel
theorem dX8_mostOf_25 : decode cX8_mostOf 25 = .ok (.goto 5, 3) := by decide +kernel
theorem dX8_mostOf_28 : decode cX8_mostOf 28 = .ok (.bipush 50, 2) := by decide +kernel
theorem dX8_mostOf_30 : decode cX8_mostOf 30 = .ok (.ireturn, 1) := by decide +kernel
theorem dX8_set_0 : decode cX8_set 0 = .ok (.iload_n 1, 1) := by decide +kernel
theorem dX8_set_1 : decode cX8_set 1 = .ok (.iconst 0, 1) := by decide +kernel
theorem dX8_set_2 : decode cX8_set 2 = .ok (.iconst 3, 1) := by decide +kernel
theorem dX8_set_3 : decode cX8_set 3 = .ok (.invokestatic 31, 3) := by decide +kernel
theorem dX8_set_6 : decode cX8_set 6 = .ok (.ifCond .eq 28, 3) := by decide +kernel
theorem dX8_set_9 : decode cX8_set 9 = .ok (.iload_n 2, 1) := by decide +kernel
theorem dX8_set_10 : decode cX8_set 10 = .ok (.iload_n 1, 1) := by decide +kernel
theorem dX8_set_11 : decode cX8_set 11 = .ok (.ifCond .eq 8, 3) := by decide +kernel
theorem dX8_set_14 : decode cX8_set 14 = .ok (.iload_n 1, 1) := by decide +kernel
theorem dX8_set_15 : decode cX8_set 15 = .ok (.iconst 2, 1) := by decide +kernel
theorem dX8_set_16 : decode cX8_set 16 = .ok (.if_icmp .ne 7, 3) := by decide +kernel
theorem dX8_set_19 : decode cX8_set 19 = .ok (.iconst 1, 1) := by decide +kernel
theorem dX8_set_20 : decode cX8_set 20 = .ok (.goto 4, 3) := by decide +kernel
theorem dX8_set_23 : decode cX8_set 23 = .ok (.iconst 0, 1) := by decide +kernel
theorem dX8_set_24 : decode cX8_set 24 = .ok (.iload_n 1, 1) := by decide +kernel
theorem dX8_set_25 : decode cX8_set 25 = .ok (.invokestatic 128, 3) := by decide +kernel
theorem dX8_set_28 : decode cX8_set 28 = .ok (.invokestatic 31, 3) := by decide +kernel
theorem dX8_set_31 : decode cX8_set 31 = .ok (.ifCond .ne 6, 3) := by decide +kernel
theorem dX8_set_34 : decode cX8_set 34 = .ok (.bipush (-2), 2) := by decide +kernel
theorem dX8_set_36 : decode cX8_set 36 = .ok (.ireturn, 1) := by decide +kernel
theorem dX8_set_37 : decode cX8_set 37 = .ok (.aload_n 0, 1) := by decide +kernel
theorem dX8_set_38 : decode cX8_set 38 = .ok (.invokevirtual 46, 3) := by decide +kernel
theorem dX8_set_41 : decode cX8_set 41 = .ok (.aload_n 0, 1) := by decide +kernel
theorem dX8_set_42 : decode cX8_set 42 = .ok (.getfield 7, 3) := by decide +kernel
theorem dX8_set_45 : decode cX8_set 45 = .ok (.iload_n 1, 1) := by decide +kernel
theorem dX8_set_46 : decode cX8_set 46 = .ok (.iaload, 1) := by decide +kernel
theorem dX8_set_47 : decode cX8_set 47 = .ok (.istore_n 3, 1) := by decide +kernel
theorem dX8_set_48 : decode cX8_set 48 = .ok (.aload_n 0, 1) := by decide +kernel
theorem dX8_set_49 : decode cX8_set 49 = .ok (.getfield 7, 3) := by decide +kernel
theorem dX8_set_52 : decode cX8_set 52 = .ok (.iload_n 1, 1) := by decide +kernel
theorem dX8_set_53 : decode cX8_set 53 = .ok (.iload_n 2, 1) := by decide +kernel
theorem dX8_set_54 : decode cX8_set 54 = .ok (.iastore, 1) := by decide +kernel
theorem dX8_set_55 : decode cX8_set 55 = .ok (.aload_n 0, 1) := by decide +kernel
theorem dX8_set_56 : decode cX8_set 56 = .ok (.iload_n 3, 1) := by decide +kernel
theorem dX8_set_57 : decode cX8_set 57 = .ok (.invokevirtual 131, 3) := by decide +kernel
theorem dX8_set_60 : decode cX8_set 60 = .ok (.ireturn, 1) := by decide +kernel
theorem dX8_shot_0 : decode cX8_shot 0 = .ok (.aload_n 0, 1) := by decide +kernel
theorem dX8_shot_1 : decode cX8_shot 1 = .ok (.invokevirtual 46, 3) := by decide +kernel
theorem dX8_shot_4 : decode cX8_shot 4 = .ok (.aload_n 0, 1) := by decide +kernel
theorem dX8_shot_5 : decode cX8_shot 5 = .ok (.aload_n 0, 1) := by decide +kernel
theorem dX8_shot_6 : decode cX8_shot 6 = .ok (.iload_n 1, 1) := by decide +kernel
theorem dX8_shot_7 : decode cX8_shot 7 = .ok (.iload_n 2, 1) := by decide +kernel
theorem dX8_shot_8 : decode cX8_shot 8 = .ok (.iload_n 3, 1) := by decide +kernel
theorem dX8_shot_9 : decode cX8_shot 9 = .ok (.iload 4, 2) := by decide +kernel
theorem dX8_shot_11 : decode cX8_shot 11 = .ok (.iload 5, 2) := by decide +kernel
theorem dX8_shot_13 : decode cX8_shot 13 = .ok (.invokevirtual 134, 3) := by decide +kernel
theorem dX8_shot_16 : decode cX8_shot 16 = .ok (.invokevirtual 131, 3) := by decide +kernel
theorem dX8_shot_19 : decode cX8_shot 19 = .ok (.ireturn, 1) := by decide +kernel
theorem dX8_takeOut_0 : decode cX8_takeOut 0 = .ok (.aload_n 0, 1) := by decide +kernel
theorem dX8_takeOut_1 : decode cX8_takeOut 1 = .ok (.iload_n 1, 1) := by decide +kernel
theorem dX8_takeOut_2 : decode cX8_takeOut 2 = .ok (.invokevirtual 87, 3) := by decide +kernel
theorem dX8_takeOut_5 : decode cX8_takeOut 5 = .ok (.ifCond .ne 5, 3) := by decide +kernel
theorem dX8_takeOut_8 : decode cX8_takeOut 8 = .ok (.iconst (-1), 1) := by decide +kernel
theorem dX8_takeOut_9 : decode cX8_takeOut 9 = .ok (.ireturn, 1) := by decide +kernel
theorem dX8_takeOut_10 : decode cX8_takeOut 10 = .ok (.aload_n 0, 1) := by decide +kernel
theorem dX8_takeOut_11 : decode cX8_takeOut 11 = .ok (.invokevirtual 46, 3) := by decide +kernel
theorem dX8_takeOut_14 : decode cX8_takeOut 14 = .ok (.aload_n 0, 1) := by decide +kernel
theorem dX8_takeOut_15 : decode cX8_takeOut 15 = .ok (.iload_n 1, 1) := by decide +kernel
theorem dX8_takeOut_16 : decode cX8_takeOut 16 = .ok (.invokevirtual 100, 3) := by decide +kernel
theorem dX8_takeOut_19 : decode cX8_takeOut 19 = .ok (.aload_n 0, 1) := by decide +kernel
theorem dX8_takeOut_20 : decode cX8_takeOut 20 = .ok (.aload_n 0, 1) := by decide +kernel
theorem dX8_takeOut_21 : decode cX8_takeOut 21 = .ok (.getfield 7, 3) := by decide +kernel
theorem dX8_takeOut_24 : decode cX8_takeOut 24 = .ok (.iconst 4, 1) := by decide +kernel
theorem dX8_takeOut_25 : decode cX8_takeOut 25 = .ok (.iaload, 1) := by decide +kernel
theorem dX8_takeOut_26 : decode cX8_takeOut 26 = .ok (.invokevirtual 131, 3) := by decide +kernel
theorem dX8_takeOut_29 : decode cX8_takeOut 29 = .ok (.ireturn, 1) := by decide +kernel
theorem dX8_light_0 : decode cX8_light 0 = .ok (.aload_n 0, 1) := by decide +kernel
theorem dX8_light_1 : decode cX8_light 1 = .ok (.invokevirtual 46, 3) := by decide +kernel
theorem dX8_light_4 : decode cX8_light 4 = .ok (.aload_n 0, 1) := by decide +kernel
theorem dX8_light_5 : decode cX8_light 5 = .ok (.aload_n 0, 1) := by decide +kernel
theorem dX8_light_6 : decode cX8_light 6 = .ok (.iload_n 1, 1) := by decide +kernel
theorem dX8_light_7 : decode cX8_light 7 = .ok (.iload_n 2, 1) := by decide +kernel
theorem dX8_light_8 : decode cX8_light 8 = .ok (.iload_n 3, 1) := by decide +kernel
theorem dX8_light_9 : decode cX8_light 9 = .ok (.invokevirtual 138, 3) := by decide +kernel
theorem dX8_light_12 : decode cX8_light 12 = .ok (.invokevirtual 131, 3) := by decide +kernel
theorem dX8_light_15 : decode cX8_light 15 = .ok (.ireturn, 1) := by decide +kernel
theorem dX8_wish_0 : decode cX8_wish 0 = .ok (.aload_n 0, 1) := by decide +kernel
theorem dX8_wish_1 : decode cX8_wish 1 = .ok (.invokevirtual 46, 3) := by decide +kernel
theorem dX8_wish_4 : decode cX8_wish 4 = .ok (.aload_n 0, 1) := by decide +kernel
theorem dX8_wish_5 : decode cX8_wish 5 = .ok (.aload_n 0, 1) := by decide +kernel
theorem dX8_wish_6 : decode cX8_wish 6 = .ok (.iload_n 1, 1) := by decide +kernel
theorem dX8_wish_7 : decode cX8_wish 7 = .ok (.iload_n 2, 1) := by decide +kernel
theorem dX8_wish_8 : decode cX8_wish 8 = .ok (.iload_n 3, 1) := by decide +kernel
theorem dX8_wish_9 : decode cX8_wish 9 = .ok (.invokevirtual 141, 3) := by decide +kernel
theorem dX8_wish_12 : decode cX8_wish 12 = .ok (.invokevirtual 131, 3) := by decide +kernel
theorem dX8_wish_15 : decode cX8_wish 15 = .ok (.ireturn, 1) := by decide +kernel
theorem dX8_move_0 : decode cX8_move 0 = .ok (.aload_n 0, 1) := by decide +kernel
theorem dX8_move_1 : decode cX8_move 1 = .ok (.invokevirtual 46, 3) := by decide +kernel
theorem dX8_move_4 : decode cX8_move 4 = .ok (.aload_n 0, 1) := by decide +kernel
theorem dX8_move_5 : decode cX8_move 5 = .ok (.aload_n 0, 1) := by decide +kernel
theorem dX8_move_6 : decode cX8_move 6 = .ok (.iload_n 1, 1) := by decide +kernel
theorem dX8_move_7 : decode cX8_move 7 = .ok (.iload_n 2, 1) := by decide +kernel
theorem dX8_move_8 : decode cX8_move 8 = .ok (.invokevirtual 144, 3) := by decide +kernel
theorem dX8_move_11 : decode cX8_move 11 = .ok (.invokevirtual 131, 3) := by decide +kernel
theorem dX8_move_14 : decode cX8_move 14 = .ok (.ireturn, 1) := by decide +kernel
theorem dX8_split_0 : decode cX8_split 0 = .ok (.aload_n 0, 1) := by decide +kernel
theorem dX8_split_1 : decode cX8_split 1 = .ok (.invokevirtual 46, 3) := by decide +kernel
theorem dX8_split_4 : decode cX8_split 4 = .ok (.aload_n 0, 1) := by decide +kernel
theorem dX8_split_5 : decode cX8_split 5 = .ok (.aload_n 0, 1) := by decide +kernel
theorem dX8_split_6 : decode cX8_split 6 = .ok (.iload_n 1, 1) := by decide +kernel
theorem dX8_split_7 : decode cX8_split 7 = .ok (.iload_n 2, 1) := by decide +kernel
theorem dX8_split_8 : decode cX8_split 8 = .ok (.invokevirtual 147, 3) := by decide +kernel
theorem dX8_split_11 : decode cX8_split 11 = .ok (.invokevirtual 131, 3) := by decide +kernel
theorem dX8_split_14 : decode cX8_split 14 = .ok (.ireturn, 1) := by decide +kernel
theorem dX8_join_0 : decode cX8_join 0 = .ok (.aload_n 0, 1) := by decide +kernel
theorem dX8_join_1 : decode cX8_join 1 = .ok (.invokevirtual 46, 3) := by decide +kernel
theorem dX8_join_4 : decode cX8_join 4 = .ok (.aload_n 0, 1) := by decide +kernel
theorem dX8_join_5 : decode cX8_join 5 = .ok (.aload_n 0, 1) := by decide +kernel
theorem dX8_join_6 : decode cX8_join 6 = .ok (.iload_n 1, 1) := by decide +kernel
theorem dX8_join_7 : decode cX8_join 7 = .ok (.invokevirtual 150, 3) := by decide +kernel
theorem dX8_join_10 : decode cX8_join 10 = .ok (.invokevirtual 131, 3) := by decide +kernel
theorem dX8_join_13 : decode cX8_join 13 = .ok (.ireturn, 1) := by decide +kernel
theorem dX8_print_0 : decode cX8_print 0 = .ok (.aload_n 0, 1) := by decide +kernel
theorem dX8_print_1 : decode cX8_print 1 = .ok (.invokevirtual 46, 3) := by decide +kernel
theorem dX8_print_4 : decode cX8_print 4 = .ok (.aload_n 0, 1) := by decide +kernel
theorem dX8_print_5 : decode cX8_print 5 = .ok (.aload_n 0, 1) := by decide +kernel
theorem dX8_print_6 : decode cX8_print 6 = .ok (.invokevirtual 153, 3) := by decide +kernel
theorem dX8_print_9 : decode cX8_print 9 = .ok (.invokevirtual 131, 3) := by decide +kernel
theorem dX8_print_12 : decode cX8_print 12 = .ok (.ireturn, 1) := by decide +kernel
theorem dX8_correct_0 : decode cX8_correct 0 = .ok (.aload_n 0, 1) := by decide +kernel
theorem dX8_correct_1 : decode cX8_correct 1 = .ok (.invokevirtual 46, 3) := by decide +kernel
theorem dX8_correct_4 : decode cX8_correct 4 = .ok (.aload_n 0, 1) := by decide +kernel
theorem dX8_correct_5 : decode cX8_correct 5 = .ok (.aload_n 0, 1) := by decide +kernel
theorem dX8_correct_6 : decode cX8_correct 6 = .ok (.iload_n 1, 1) := by decide +kernel
theorem dX8_correct_7 : decode cX8_correct 7 = .ok (.invokevirtual 156, 3) := by decide +kernel
theorem dX8_correct_10 : decode cX8_correct 10 = .ok (.invokevirtual 131, 3) := by decide +kernel
theorem dX8_correct_13 : decode cX8_correct 13 = .ok (.ireturn, 1) := by decide +kernel
theorem dX8_correctAll_0 : decode cX8_correctAll 0 = .ok (.aload_n 0, 1) := by decide +kernel
theorem dX8_correctAll_1 : decode cX8_correctAll 1 = .ok (.invokevirtual 46, 3) := by decide +kernel
theorem dX8_correctAll_4 : decode cX8_correctAll 4 = .ok (.aload_n 0, 1) := by decide +kernel
theorem dX8_correctAll_5 : decode cX8_correctAll 5 = .ok (.aload_n 0, 1) := by decide +kernel
theorem dX8_correctAll_6 : decode cX8_correctAll 6 = .ok (.invokevirtual 159, 3) := by decide +kernel
theorem dX8_correctAll_9 : decode cX8_correctAll 9 = .ok (.invokevirtual 131, 3) := by decide +kernel
theorem dX8_correctAll_12 : decode cX8_correctAll 12 = .ok (.ireturn, 1) := by decide +kernel
theorem dX8_card_0 : decode cX8_card 0 = .ok (.aload_n 0, 1) := by decide +kernel
theorem dX8_card_1 : decode cX8_card 1 = .ok (.invokevirtual 46, 3) := by decide +kernel
theorem dX8_card_4 : decode cX8_card 4 = .ok (.aload_n 0, 1) := by decide +kernel
theorem dX8_card_5 : decode cX8_card 5 = .ok (.aload_n 0, 1) := by decide +kernel
theorem dX8_card_6 : decode cX8_card 6 = .ok (.invokevirtual 162, 3) := by decide +kernel
theorem dX8_card_9 : decode cX8_card 9 = .ok (.invokevirtual 131, 3) := by decide +kernel
theorem dX8_card_12 : decode cX8_card 12 = .ok (.ireturn, 1) := by decide +kernel
theorem dX8_trim_0 : decode cX8_trim 0 = .ok (.iload_n 1, 1) := by decide +kernel
theorem dX8_trim_1 : decode cX8_trim 1 = .ok (.invokestatic 90, 3) := by decide +kernel
theorem dX8_trim_4 : decode cX8_trim 4 = .ok (.ifCond .eq 14, 3) := by decide +kernel
theorem dX8_trim_7 : decode cX8_trim 7 = .ok (.iload_n 2, 1) := by decide +kernel
theorem dX8_trim_8 : decode cX8_trim 8 = .ok (.bipush (-20), 2) := by decide +kernel
theorem dX8_trim_10 : decode cX8_trim 10 = .ok (.bipush 20, 2) := by decide +kernel
theorem dX8_trim_12 : decode cX8_trim 12 = .ok (.invokestatic 31, 3) := by decide +kernel
theorem dX8_trim_15 : decode cX8_trim 15 = .ok (.ifCond .ne 6, 3) := by decide +kernel
theorem dX8_trim_18 : decode cX8_trim 18 = .ok (.bipush (-2), 2) := by decide +kernel
theorem dX8_trim_20 : decode cX8_trim 20 = .ok (.ireturn, 1) := by decide +kernel
theorem dX8_trim_21 : decode cX8_trim 21 = .ok (.aload_n 0, 1) := by decide +kernel
theorem dX8_trim_22 : decode cX8_trim 22 = .ok (.invokevirtual 46, 3) := by decide +kernel
theorem dX8_trim_25 : decode cX8_trim 25 = .ok (.aload_n 0, 1) := by decide +kernel
theorem dX8_trim_26 : decode cX8_trim 26 = .ok (.getfield 7, 3) := by decide +kernel
theorem dX8_trim_29 : decode cX8_trim 29 = .ok (.bipush 10, 2) := by decide +kernel
theorem dX8_trim_31 : decode cX8_trim 31 = .ok (.iload_n 1, 1) := by decide +kernel
theorem dX8_trim_32 : decode cX8_trim 32 = .ok (.iadd, 1) := by decide +kernel
theorem dX8_trim_33 : decode cX8_trim 33 = .ok (.iaload, 1) := by decide +kernel
theorem dX8_trim_34 : decode cX8_trim 34 = .ok (.istore_n 3, 1) := by decide +kernel
theorem dX8_trim_35 : decode cX8_trim 35 = .ok (.aload_n 0, 1) := by decide +kernel
theorem dX8_trim_36 : decode cX8_trim 36 = .ok (.getfield 7, 3) := by decide +kernel
theorem dX8_trim_39 : decode cX8_trim 39 = .ok (.bipush 10, 2) := by decide +kernel
theorem dX8_trim_41 : decode cX8_trim 41 = .ok (.iload_n 1, 1) := by decide +kernel
theorem dX8_trim_42 : decode cX8_trim 42 = .ok (.iadd, 1) := by decide +kernel
theorem dX8_trim_43 : decode cX8_trim 43 = .ok (.iload_n 2, 1) := by decide +kernel
theorem dX8_trim_44 : decode cX8_trim 44 = .ok (.iastore, 1) := by decide +kernel
theorem dX8_trim_45 : decode cX8_trim 45 = .ok (.aload_n 0, 1) := by decide +kernel
theorem dX8_trim_46 : decode cX8_trim 46 = .ok (.iload_n 3, 1) := by decide +kernel
theorem dX8_trim_47 : decode cX8_trim 47 = .ok (.bipush 20, 2) := by decide +kernel
theorem dX8_trim_49 : decode cX8_trim 49 = .ok (.iadd, 1) := by decide +kernel
theorem dX8_trim_50 : decode cX8_trim 50 = .ok (.invokevirtual 131, 3) := by decide +kernel
theorem dX8_trim_53 : decode cX8_trim 53 = .ok (.ireturn, 1) := by decide +kernel
theorem dX8_lamp_0 : decode cX8_lamp 0 = .ok (.iload_n 1, 1) := by decide +kernel
theorem dX8_lamp_1 : decode cX8_lamp 1 = .ok (.invokestatic 90, 3) := by decide +kernel
theorem dX8_lamp_4 : decode cX8_lamp 4 = .ok (.ifCond .ne 6, 3) := by decide +kernel
theorem dX8_lamp_7 : decode cX8_lamp 7 = .ok (.bipush (-2), 2) := by decide +kernel
theorem dX8_lamp_9 : decode cX8_lamp 9 = .ok (.ireturn, 1) := by decide +kernel
theorem dX8_lamp_10 : decode cX8_lamp 10 = .ok (.aload_n 0, 1) := by decide +kernel
theorem dX8_lamp_11 : decode cX8_lamp 11 = .ok (.invokevirtual 46, 3) := by decide +kernel
theorem dX8_lamp_14 : decode cX8_lamp 14 = .ok (.aload_n 0, 1) := by decide +kernel
theorem dX8_lamp_15 : decode cX8_lamp 15 = .ok (.getfield 7, 3) := by decide +kernel
theorem dX8_lamp_18 : decode cX8_lamp 18 = .ok (.bipush 7, 2) := by decide +kernel
theorem dX8_lamp_20 : decode cX8_lamp 20 = .ok (.iload_n 1, 1) := by decide +kernel
theorem dX8_lamp_21 : decode cX8_lamp 21 = .ok (.iadd, 1) := by decide +kernel
theorem dX8_lamp_22 : decode cX8_lamp 22 = .ok (.iaload, 1) := by decide +kernel
theorem dX8_lamp_23 : decode cX8_lamp 23 = .ok (.istore_n 2, 1) := by decide +kernel
theorem dX8_lamp_24 : decode cX8_lamp 24 = .ok (.aload_n 0, 1) := by decide +kernel
theorem dX8_lamp_25 : decode cX8_lamp 25 = .ok (.getfield 7, 3) := by decide +kernel
theorem dX8_lamp_28 : decode cX8_lamp 28 = .ok (.bipush 7, 2) := by decide +kernel
theorem dX8_lamp_30 : decode cX8_lamp 30 = .ok (.iload_n 1, 1) := by decide +kernel
theorem dX8_lamp_31 : decode cX8_lamp 31 = .ok (.iadd, 1) := by decide +kernel
theorem dX8_lamp_32 : decode cX8_lamp 32 = .ok (.iconst 0, 1) := by decide +kernel
theorem dX8_lamp_33 : decode cX8_lamp 33 = .ok (.iastore, 1) := by decide +kernel
theorem dX8_lamp_34 : decode cX8_lamp 34 = .ok (.aload_n 0, 1) := by decide +kernel
theorem dX8_lamp_35 : decode cX8_lamp 35 = .ok (.iload_n 2, 1) := by decide +kernel
theorem dX8_lamp_36 : decode cX8_lamp 36 = .ok (.invokevirtual 131, 3) := by decide +kernel
theorem dX8_lamp_39 : decode cX8_lamp 39 = .ok (.ireturn, 1) := by decide +kernel
theorem dX8_of_0 : decode cX8_of 0 = .ok (.aload_n 0, 1) := by decide +kernel
theorem dX8_of_1 : decode cX8_of 1 = .ok (.iload_n 1, 1) := by decide +kernel
theorem dX8_of_2 : decode cX8_of 2 = .ok (.invokevirtual 87, 3) := by decide +kernel
theorem dX8_of_5 : decode cX8_of 5 = .ok (.ifCond .ne 5, 3) := by decide +kernel
theorem dX8_of_8 : decode cX8_of 8 = .ok (.iconst (-1), 1) := by decide +kernel
theorem dX8_of_9 : decode cX8_of 9 = .ok (.ireturn, 1) := by decide +kernel
theorem dX8_of_10 : decode cX8_of 10 = .ok (.iload_n 2, 1) := by decide +kernel
theorem dX8_of_11 : decode cX8_of 11 = .ok (.tableswitch 82 0 4 #[33, 40, 46, 54, 68], 33) := by decide +kernel
theorem dX8_of_44 : decode cX8_of 44 = .ok (.aload_n 0, 1) := by decide +kernel
theorem dX8_of_45 : decode cX8_of 45 = .ok (.iload_n 1, 1) := by decide +kernel
theorem dX8_of_46 : decode cX8_of 46 = .ok (.iconst 0, 1) := by decide +kernel
theorem dX8_of_47 : decode cX8_of 47 = .ok (.invokevirtual 53, 3) := by decide +kernel
theorem dX8_of_50 : decode cX8_of 50 = .ok (.ireturn, 1) := by decide +kernel
theorem dX8_of_51 : decode cX8_of 51 = .ok (.aload_n 0, 1) := by decide +kernel
theorem dX8_of_52 : decode cX8_of 52 = .ok (.iload_n 1, 1) := by decide +kernel
theorem dX8_of_53 : decode cX8_of 53 = .ok (.invokevirtual 106, 3) := by decide +kernel
theorem dX8_of_56 : decode cX8_of 56 = .ok (.ireturn, 1) := by decide +kernel
theorem dX8_of_57 : decode cX8_of 57 = .ok (.aload_n 0, 1) := by decide +kernel
theorem dX8_of_58 : decode cX8_of 58 = .ok (.iload_n 1, 1) := by decide +kernel
theorem dX8_of_59 : decode cX8_of 59 = .ok (.bipush 10, 2) := by decide +kernel
theorem dX8_of_61 : decode cX8_of 61 = .ok (.invokevirtual 53, 3) := by decide +kernel
theorem dX8_of_64 : decode cX8_of 64 = .ok (.ireturn, 1) := by decide +kernel
theorem dX8_of_65 : decode cX8_of 65 = .ok (.aload_n 0, 1) := by decide +kernel
theorem dX8_of_66 : decode cX8_of 66 = .ok (.iload_n 1, 1) := by decide +kernel
theorem dX8_of_67 : decode cX8_of 67 = .ok (.invokevirtual 103, 3) := by decide +kernel
theorem dX8_of_70 : decode cX8_of 70 = .ok (.ifCond .eq 7, 3) := by decide +kernel
theorem dX8_of_73 : decode cX8_of 73 = .ok (.iconst 1, 1) := by decide +kernel
theorem dX8_of_74 : decode cX8_of 74 = .ok (.goto 4, 3) := by decide +kernel
theorem dX8_of_77 : decode cX8_of 77 = .ok (.iconst 0, 1) := by decide +kernel
theorem dX8_of_78 : decode cX8_of 78 = .ok (.ireturn, 1) := by decide +kernel
theorem dX8_of_79 : decode cX8_of 79 = .ok (.aload_n 0, 1) := by decide +kernel
theorem dX8_of_80 : decode cX8_of 80 = .ok (.iload_n 1, 1) := by decide +kernel
theorem dX8_of_81 : decode cX8_of 81 = .ok (.invokevirtual 165, 3) := by decide +kernel
theorem dX8_of_84 : decode cX8_of 84 = .ok (.ifCond .eq 7, 3) := by decide +kernel
theorem dX8_of_87 : decode cX8_of 87 = .ok (.iconst 1, 1) := by decide +kernel
theorem dX8_of_88 : decode cX8_of 88 = .ok (.goto 4, 3) := by decide +kernel
theorem dX8_of_91 : decode cX8_of 91 = .ok (.iconst 0, 1) := by decide +kernel
theorem dX8_of_92 : decode cX8_of 92 = .ok (.ireturn, 1) := by decide +kernel
theorem dX8_of_93 : decode cX8_of 93 = .ok (.bipush (-2), 2) := by decide +kernel
theorem dX8_of_95 : decode cX8_of 95 = .ok (.ireturn, 1) := by decide +kernel
theorem dX8_answer_0 : decode cX8_answer 0 = .ok (.aload_n 0, 1) := by decide +kernel
theorem dX8_answer_1 : decode cX8_answer 1 = .ok (.iload_n 1, 1) := by decide +kernel
theorem dX8_answer_2 : decode cX8_answer 2 = .ok (.bipush 10, 2) := by decide +kernel
theorem dX8_answer_4 : decode cX8_answer 4 = .ok (.invokevirtual 53, 3) := by decide +kernel
theorem dX8_answer_7 : decode cX8_answer 7 = .ok (.iconst 1, 1) := by decide +kernel
theorem dX8_answer_8 : decode cX8_answer 8 = .ok (.if_icmp .ne 18, 3) := by decide +kernel
theorem dX8_answer_11 : decode cX8_answer 11 = .ok (.aload_n 0, 1) := by decide +kernel
theorem dX8_answer_12 : decode cX8_answer 12 = .ok (.iload_n 1, 1) := by decide +kernel
theorem dX8_answer_13 : decode cX8_answer 13 = .ok (.bipush 11, 2) := by decide +kernel
theorem dX8_answer_15 : decode cX8_answer 15 = .ok (.iload_n 2, 1) := by decide +kernel
theorem dX8_answer_16 : decode cX8_answer 16 = .ok (.iadd, 1) := by decide +kernel
theorem dX8_answer_17 : decode cX8_answer 17 = .ok (.invokevirtual 53, 3) := by decide +kernel
theorem dX8_answer_20 : decode cX8_answer 20 = .ok (.bipush 100, 2) := by decide +kernel
theorem dX8_answer_22 : decode cX8_answer 22 = .ok (.iadd, 1) := by decide +kernel
theorem dX8_answer_23 : decode cX8_answer 23 = .ok (.goto 5, 3) := by decide +kernel
theorem dX8_answer_26 : decode cX8_answer 26 = .ok (.bipush (-6), 2) := by decide +kernel
theorem dX8_answer_28 : decode cX8_answer 28 = .ok (.ireturn, 1) := by decide +kernel
theorem dX8_inColour_0 : decode cX8_inColour 0 = .ok (.aload_n 0, 1) := by decide +kernel
theorem dX8_inColour_1 : decode cX8_inColour 1 = .ok (.iload_n 1, 1) := by decide +kernel
theorem dX8_inColour_2 : decode cX8_inColour 2 = .ok (.invokevirtual 87, 3) := by decide +kernel
theorem dX8_inColour_5 : decode cX8_inColour 5 = .ok (.ifCond .ne 5, 3) := by decide +kernel
theorem dX8_inColour_8 : decode cX8_inColour 8 = .ok (.iconst (-1), 1) := by decide +kernel
theorem dX8_inColour_9 : decode cX8_inColour 9 = .ok (.ireturn, 1) := by decide +kernel
theorem dX8_inColour_10 : decode cX8_inColour 10 = .ok (.iload_n 2, 1) := by decide +kernel
theorem dX8_inColour_11 : decode cX8_inColour 11 = .ok (.invokestatic 90, 3) := by decide +kernel
theorem dX8_inColour_14 : decode cX8_inColour 14 = .ok (.ifCond .ne 6, 3) := by decide +kernel
theorem dX8_inColour_17 : decode cX8_inColour 17 = .ok (.bipush (-2), 2) := by decide +kernel
theorem dX8_inColour_19 : decode cX8_inColour 19 = .ok (.ireturn, 1) := by decide +kernel
theorem dX8_inColour_20 : decode cX8_inColour 20 = .ok (.iload_n 3, 1) := by decide +kernel
theorem dX8_inColour_21 : decode cX8_inColour 21 = .ok (.tableswitch 94 0 5 #[39, 48, 60, 70, 77, 87], 39) := by decide +kernel
theorem dX8_inColour_60 : decode cX8_inColour 60 = .ok (.aload_n 0, 1) := by decide +kernel
theorem dX8_inColour_61 : decode cX8_inColour 61 = .ok (.iload_n 1, 1) := by decide +kernel
theorem dX8_inColour_62 : decode cX8_inColour 62 = .ok (.iconst 1, 1) := by decide +kernel
theorem dX8_inColour_63 : decode cX8_inColour 63 = .ok (.iload_n 2, 1) := by decide +kernel
theorem dX8_inColour_64 : decode cX8_inColour 64 = .ok (.iadd, 1) := by decide +kernel
theorem dX8_inColour_65 : decode cX8_inColour 65 = .ok (.invokevirtual 53, 3) := by decide +kernel
theorem dX8_inColour_68 : decode cX8_inColour 68 = .ok (.ireturn, 1) := by decide +kernel
theorem dX8_inColour_69 : decode cX8_inColour 69 = .ok (.aload_n 0, 1) := by decide +kernel
theorem dX8_inColour_70 : decode cX8_inColour 70 = .ok (.iload_n 1, 1) := by decide +kernel
theorem dX8_inColour_71 : decode cX8_inColour 71 = .ok (.iconst 4, 1) := by decide +kernel
theorem dX8_inColour_72 : decode cX8_inColour 72 = .ok (.iload_n 2, 1) := by decide +kernel
theorem dX8_inColour_73 : decode cX8_inColour 73 = .ok (.iadd, 1) := by decide +kernel
theorem dX8_inColour_74 : decode cX8_inColour 74 = .ok (.invokevirtual 53, 3) := by decide +kernel
theorem dX8_inColour_77 : decode cX8_inColour 77 = .ok (.bipush 10, 2) := by decide +kernel
theorem dX8_inColour_79 : decode cX8_inColour 79 = .ok (.iadd, 1) := by decide +kernel
theorem dX8_inColour_80 : decode cX8_inColour 80 = .ok (.ireturn, 1) := by decide +kernel
theorem dX8_inColour_81 : decode cX8_inColour 81 = .ok (.aload_n 0, 1) := by decide +kernel
theorem dX8_inColour_82 : decode cX8_inColour 82 = .ok (.iload_n 1, 1) := by decide +kernel
theorem dX8_inColour_83 : decode cX8_inColour 83 = .ok (.bipush 7, 2) := by decide +kernel
theorem dX8_inColour_85 : decode cX8_inColour 85 = .ok (.iload_n 2, 1) := by decide +kernel
theorem dX8_inColour_86 : decode cX8_inColour 86 = .ok (.iadd, 1) := by decide +kernel
theorem dX8_inColour_87 : decode cX8_inColour 87 = .ok (.invokevirtual 53, 3) := by decide +kernel
theorem dX8_inColour_90 : decode cX8_inColour 90 = .ok (.ireturn, 1) := by decide +kernel
theorem dX8_inColour_91 : decode cX8_inColour 91 = .ok (.aload_n 0, 1) := by decide +kernel
theorem dX8_inColour_92 : decode cX8_inColour 92 = .ok (.iload_n 1, 1) := by decide +kernel
theorem dX8_inColour_93 : decode cX8_inColour 93 = .ok (.iload_n 2, 1) := by decide +kernel
theorem dX8_inColour_94 : decode cX8_inColour 94 = .ok (.invokevirtual 64, 3) := by decide +kernel
theorem dX8_inColour_97 : decode cX8_inColour 97 = .ok (.ireturn, 1) := by decide +kernel
theorem dX8_inColour_98 : decode cX8_inColour 98 = .ok (.aload_n 0, 1) := by decide +kernel
theorem dX8_inColour_99 : decode cX8_inColour 99 = .ok (.iload_n 1, 1) := by decide +kernel
theorem dX8_inColour_100 : decode cX8_inColour 100 = .ok (.iload_n 2, 1) := by decide +kernel
theorem dX8_inColour_101 : decode cX8_inColour 101 = .ok (.invokevirtual 70, 3) := by decide +kernel
theorem dX8_inColour_104 : decode cX8_inColour 104 = .ok (.bipush 100, 2) := by decide +kernel
theorem dX8_inColour_106 : decode cX8_inColour 106 = .ok (.iadd, 1) := by decide +kernel
theorem dX8_inColour_107 : decode cX8_inColour 107 = .ok (.ireturn, 1) := by decide +kernel
theorem dX8_inColour_108 : decode cX8_inColour 108 = .ok (.aload_n 0, 1) := by decide +kernel
theorem dX8_inColour_109 : decode cX8_inColour 109 = .ok (.iload_n 1, 1) := by decide +kernel
theorem dX8_inColour_110 : decode cX8_inColour 110 = .ok (.iload_n 2, 1) := by decide +kernel
theorem dX8_inColour_111 : decode cX8_inColour 111 = .ok (.invokevirtual 168, 3) := by decide +kernel
theorem dX8_inColour_114 : decode cX8_inColour 114 = .ok (.ireturn, 1) := by decide +kernel
theorem dX8_inColour_115 : decode cX8_inColour 115 = .ok (.bipush (-2), 2) := by decide +kernel
theorem dX8_inColour_117 : decode cX8_inColour 117 = .ok (.ireturn, 1) := by decide +kernel
theorem dX8_ofLamp_0 : decode cX8_ofLamp 0 = .ok (.iload_n 1, 1) := by decide +kernel
theorem dX8_ofLamp_1 : decode cX8_ofLamp 1 = .ok (.invokestatic 90, 3) := by decide +kernel
theorem dX8_ofLamp_4 : decode cX8_ofLamp 4 = .ok (.ifCond .eq 12, 3) := by decide +kernel
theorem dX8_ofLamp_7 : decode cX8_ofLamp 7 = .ok (.iload_n 2, 1) := by decide +kernel
theorem dX8_ofLamp_8 : decode cX8_ofLamp 8 = .ok (.iconst 0, 1) := by decide +kernel
theorem dX8_ofLamp_9 : decode cX8_ofLamp 9 = .ok (.iconst 2, 1) := by decide +kernel
theorem dX8_ofLamp_10 : decode cX8_ofLamp 10 = .ok (.invokestatic 31, 3) := by decide +kernel
theorem dX8_ofLamp_13 : decode cX8_ofLamp 13 = .ok (.ifCond .ne 6, 3) := by decide +kernel
theorem dX8_ofLamp_16 : decode cX8_ofLamp 16 = .ok (.bipush (-2), 2) := by decide +kernel
theorem dX8_ofLamp_18 : decode cX8_ofLamp 18 = .ok (.ireturn, 1) := by decide +kernel
theorem dX8_ofLamp_19 : decode cX8_ofLamp 19 = .ok (.iload_n 2, 1) := by decide +kernel
theorem dX8_ofLamp_20 : decode cX8_ofLamp 20 = .ok (.ifCond .ne 15, 3) := by decide +kernel
theorem dX8_ofLamp_23 : decode cX8_ofLamp 23 = .ok (.aload_n 0, 1) := by decide +kernel
theorem dX8_ofLamp_24 : decode cX8_ofLamp 24 = .ok (.getfield 7, 3) := by decide +kernel
theorem dX8_ofLamp_27 : decode cX8_ofLamp 27 = .ok (.bipush 7, 2) := by decide +kernel
theorem dX8_ofLamp_29 : decode cX8_ofLamp 29 = .ok (.iload_n 1, 1) := by decide +kernel
theorem dX8_ofLamp_30 : decode cX8_ofLamp 30 = .ok (.iadd, 1) := by decide +kernel
theorem dX8_ofLamp_31 : decode cX8_ofLamp 31 = .ok (.iaload, 1) := by decide +kernel
theorem dX8_ofLamp_32 : decode cX8_ofLamp 32 = .ok (.goto 28, 3) := by decide +kernel
theorem dX8_ofLamp_35 : decode cX8_ofLamp 35 = .ok (.iload_n 2, 1) := by decide +kernel
theorem dX8_ofLamp_36 : decode cX8_ofLamp 36 = .ok (.iconst 1, 1) := by decide +kernel
theorem dX8_ofLamp_37 : decode cX8_ofLamp 37 = .ok (.if_icmp .ne 11, 3) := by decide +kernel
theorem dX8_ofLamp_40 : decode cX8_ofLamp 40 = .ok (.aload_n 0, 1) := by decide +kernel
theorem dX8_ofLamp_41 : decode cX8_ofLamp 41 = .ok (.iload_n 1, 1) := by decide +kernel
theorem dX8_ofLamp_42 : decode cX8_ofLamp 42 = .ok (.invokevirtual 49, 3) := by decide +kernel
theorem dX8_ofLamp_45 : decode cX8_ofLamp 45 = .ok (.goto 15, 3) := by decide +kernel
theorem dX8_ofLamp_48 : decode cX8_ofLamp 48 = .ok (.aload_n 0, 1) := by decide +kernel
theorem dX8_ofLamp_49 : decode cX8_ofLamp 49 = .ok (.getfield 7, 3) := by decide +kernel
theorem dX8_ofLamp_52 : decode cX8_ofLamp 52 = .ok (.bipush 10, 2) := by decide +kernel
theorem dX8_ofLamp_54 : decode cX8_ofLamp 54 = .ok (.iload_n 1, 1) := by decide +kernel
theorem dX8_ofLamp_55 : decode cX8_ofLamp 55 = .ok (.iadd, 1) := by decide +kernel
theorem dX8_ofLamp_56 : decode cX8_ofLamp 56 = .ok (.iaload, 1) := by decide +kernel
theorem dX8_ofLamp_57 : decode cX8_ofLamp 57 = .ok (.bipush 20, 2) := by decide +kernel
theorem dX8_ofLamp_59 : decode cX8_ofLamp 59 = .ok (.iadd, 1) := by decide +kernel
theorem dX8_ofLamp_60 : decode cX8_ofLamp 60 = .ok (.ireturn, 1) := by decide +kernel
theorem dX8_those_0 : decode cX8_those 0 = .ok (.iconst 0, 1) := by decide +kernel
theorem dX8_those_1 : decode cX8_those 1 = .ok (.istore_n 2, 1) := by decide +kernel
theorem dX8_those_2 : decode cX8_those 2 = .ok (.iconst 0, 1) := by decide +kernel
theorem dX8_those_3 : decode cX8_those 3 = .ok (.istore_n 3, 1) := by decide +kernel
theorem dX8_those_4 : decode cX8_those 4 = .ok (.iload_n 3, 1) := by decide +kernel
theorem dX8_those_5 : decode cX8_those 5 = .ok (.aload_n 0, 1) := by decide +kernel
theorem dX8_those_6 : decode cX8_those 6 = .ok (.getfield 7, 3) := by decide +kernel
theorem dX8_those_9 : decode cX8_those 9 = .ok (.iconst 4, 1) := by decide +kernel
theorem dX8_those_10 : decode cX8_those 10 = .ok (.iaload, 1) := by decide +kernel
theorem dX8_those_11 : decode cX8_those 11 = .ok (.if_icmp .ge 68, 3) := by decide +kernel
theorem dX8_those_14 : decode cX8_those 14 = .ok (.iload_n 1, 1) := by decide +kernel
theorem dX8_those_15 : decode cX8_those 15 = .ok (.iconst 4, 1) := by decide +kernel
theorem dX8_those_16 : decode cX8_those 16 = .ok (.if_icmp .ne 22, 3) := by decide +kernel
theorem dX8_those_19 : decode cX8_those 19 = .ok (.aload_n 0, 1) := by decide +kernel
theorem dX8_those_20 : decode cX8_those 20 = .ok (.iload_n 3, 1) := by decide +kernel
theorem dX8_those_21 : decode cX8_those 21 = .ok (.bipush 10, 2) := by decide +kernel
theorem dX8_those_23 : decode cX8_those 23 = .ok (.invokevirtual 53, 3) := by decide +kernel
theorem dX8_those_26 : decode cX8_those 26 = .ok (.iconst 1, 1) := by decide +kernel
theorem dX8_those_27 : decode cX8_those 27 = .ok (.if_icmp .ne 7, 3) := by decide +kernel
theorem dX8_those_30 : decode cX8_those 30 = .ok (.iconst 1, 1) := by decide +kernel
theorem dX8_those_31 : decode cX8_those 31 = .ok (.goto 25, 3) := by decide +kernel
theorem dX8_those_34 : decode cX8_those 34 = .ok (.iconst 0, 1) := by decide +kernel
theorem dX8_those_35 : decode cX8_those 35 = .ok (.goto 21, 3) := by decide +kernel
theorem dX8_those_38 : decode cX8_those 38 = .ok (.iload_n 1, 1) := by decide +kernel
theorem dX8_those_39 : decode cX8_those 39 = .ok (.iconst 5, 1) := by decide +kernel
theorem dX8_those_40 : decode cX8_those 40 = .ok (.if_icmp .ne 11, 3) := by decide +kernel
theorem dX8_those_43 : decode cX8_those 43 = .ok (.aload_n 0, 1) := by decide +kernel
theorem dX8_those_44 : decode cX8_those 44 = .ok (.iload_n 3, 1) := by decide +kernel
theorem dX8_those_45 : decode cX8_those 45 = .ok (.invokevirtual 165, 3) := by decide +kernel
theorem dX8_those_48 : decode cX8_those 48 = .ok (.goto 8, 3) := by decide +kernel
theorem dX8_those_51 : decode cX8_those 51 = .ok (.aload_n 0, 1) := by decide +kernel
theorem dX8_those_52 : decode cX8_those 52 = .ok (.iload_n 3, 1) := by decide +kernel
theorem dX8_those_53 : decode cX8_those 53 = .ok (.invokevirtual 171, 3) := by decide +kernel
theorem dX8_those_56 : decode cX8_those 56 = .ok (.istore 4, 2) := by decide +kernel
theorem dX8_those_58 : decode cX8_those 58 = .ok (.iload_n 2, 1) := by decide +kernel
theorem dX8_those_59 : decode cX8_those 59 = .ok (.iload 4, 2) := by decide +kernel
theorem dX8_those_61 : decode cX8_those 61 = .ok (.ifCond .eq 9, 3) := by decide +kernel
theorem dX8_those_64 : decode cX8_those 64 = .ok (.iconst 1, 1) := by decide +kernel
theorem dX8_those_65 : decode cX8_those 65 = .ok (.iload_n 3, 1) := by decide +kernel
theorem dX8_those_66 : decode cX8_those 66 = .ok (.ishl, 1) := by decide +kernel
theorem dX8_those_67 : decode cX8_those 67 = .ok (.goto 4, 3) := by decide +kernel
theorem dX8_those_70 : decode cX8_those 70 = .ok (.iconst 0, 1) := by decide +kernel
theorem dX8_those_71 : decode cX8_those 71 = .ok (.ior, 1) := by decide +kernel
theorem dX8_those_72 : decode cX8_those 72 = .ok (.istore_n 2, 1) := by decide +kernel
theorem dX8_those_73 : decode cX8_those 73 = .ok (.iinc 3 1, 3) := by decide +kernel
theorem dX8_those_76 : decode cX8_those 76 = .ok (.goto (-72), 3) := by decide +kernel
theorem dX8_those_79 : decode cX8_those 79 = .ok (.iload_n 2, 1) := by decide +kernel
theorem dX8_those_80 : decode cX8_those 80 = .ok (.ireturn, 1) := by decide +kernel
theorem dX8_count_0 : decode cX8_count 0 = .ok (.iload_n 1, 1) := by decide +kernel
theorem dX8_count_1 : decode cX8_count 1 = .ok (.tableswitch 135 0 13 #[71, 78, 89, 96, 101, 101, 107, 101, 115, 115, 115, 115, 125, 130], 71) := by decide +kernel
theorem dX8_count_72 : decode cX8_count 72 = .ok (.aload_n 0, 1) := by decide +kernel
theorem dX8_count_73 : decode cX8_count 73 = .ok (.getfield 7, 3) := by decide +kernel
theorem dX8_count_76 : decode cX8_count 76 = .ok (.iconst 4, 1) := by decide +kernel
theorem dX8_count_77 : decode cX8_count 77 = .ok (.iaload, 1) := by decide +kernel
theorem dX8_count_78 : decode cX8_count 78 = .ok (.ireturn, 1) := by decide +kernel
theorem dX8_count_79 : decode cX8_count 79 = .ok (.aload_n 0, 1) := by decide +kernel
theorem dX8_count_80 : decode cX8_count 80 = .ok (.aload_n 0, 1) := by decide +kernel
theorem dX8_count_81 : decode cX8_count 81 = .ok (.getfield 7, 3) := by decide +kernel
theorem dX8_count_84 : decode cX8_count 84 = .ok (.iconst 4, 1) := by decide +kernel
theorem dX8_count_85 : decode cX8_count 85 = .ok (.iaload, 1) := by decide +kernel
theorem dX8_count_86 : decode cX8_count 86 = .ok (.invokevirtual 106, 3) := by decide +kernel
theorem dX8_count_89 : decode cX8_count 89 = .ok (.ireturn, 1) := by decide +kernel
theorem dX8_count_90 : decode cX8_count 90 = .ok (.aload_n 0, 1) := by decide +kernel
theorem dX8_count_91 : decode cX8_count 91 = .ok (.getfield 7, 3) := by decide +kernel
theorem dX8_count_94 : decode cX8_count 94 = .ok (.iconst 5, 1) := by decide +kernel
theorem dX8_count_95 : decode cX8_count 95 = .ok (.iaload, 1) := by decide +kernel
theorem dX8_count_96 : decode cX8_count 96 = .ok (.ireturn, 1) := by decide +kernel
theorem dX8_count_97 : decode cX8_count 97 = .ok (.aload_n 0, 1) := by decide +kernel
theorem dX8_count_98 : decode cX8_count 98 = .ok (.invokevirtual 119, 3) := by decide +kernel
theorem dX8_count_101 : decode cX8_count 101 = .ok (.ireturn, 1) := by decide +kernel
theorem dX8_count_102 : decode cX8_count 102 = .ok (.aload_n 0, 1) := by decide +kernel
theorem dX8_count_103 : decode cX8_count 103 = .ok (.iload_n 1, 1) := by decide +kernel
theorem dX8_count_104 : decode cX8_count 104 = .ok (.invokevirtual 174, 3) := by decide +kernel
theorem dX8_count_107 : decode cX8_count 107 = .ok (.ireturn, 1) := by decide +kernel
theorem dX8_count_108 : decode cX8_count 108 = .ok (.aload_n 0, 1) := by decide +kernel
theorem dX8_count_109 : decode cX8_count 109 = .ok (.getfield 7, 3) := by decide +kernel
theorem dX8_count_112 : decode cX8_count 112 = .ok (.bipush 6, 2) := by decide +kernel
theorem dX8_count_114 : decode cX8_count 114 = .ok (.iaload, 1) := by decide +kernel
theorem dX8_count_115 : decode cX8_count 115 = .ok (.ireturn, 1) := by decide +kernel
theorem dX8_count_116 : decode cX8_count 116 = .ok (.aload_n 0, 1) := by decide +kernel
theorem dX8_count_117 : decode cX8_count 117 = .ok (.getfield 7, 3) := by decide +kernel
theorem dX8_count_120 : decode cX8_count 120 = .ok (.iload_n 1, 1) := by decide +kernel
theorem dX8_count_121 : decode cX8_count 121 = .ok (.bipush 8, 2) := by decide +kernel
theorem dX8_count_123 : decode cX8_count 123 = .ok (.isub, 1) := by decide +kernel
theorem dX8_count_124 : decode cX8_count 124 = .ok (.iaload, 1) := by decide +kernel
theorem dX8_count_125 : decode cX8_count 125 = .ok (.ireturn, 1) := by decide +kernel
theorem dX8_count_126 : decode cX8_count 126 = .ok (.aload_n 0, 1) := by decide +kernel
theorem dX8_count_127 : decode cX8_count 127 = .ok (.getfield 177, 3) := by decide +kernel
theorem dX8_count_130 : decode cX8_count 130 = .ok (.ireturn, 1) := by decide +kernel
theorem dX8_count_131 : decode cX8_count 131 = .ok (.aload_n 0, 1) := by decide +kernel
theorem dX8_count_132 : decode cX8_count 132 = .ok (.getfield 35, 3) := by decide +kernel
theorem dX8_count_135 : decode cX8_count 135 = .ok (.ireturn, 1) := by decide +kernel
theorem dX8_count_136 : decode cX8_count 136 = .ok (.bipush (-2), 2) := by decide +kernel
theorem dX8_count_138 : decode cX8_count 138 = .ok (.ireturn, 1) := by decide +kernel
theorem dX8_needed_0 : decode cX8_needed 0 = .ok (.aload_n 0, 1) := by decide +kernel
theorem dX8_needed_1 : decode cX8_needed 1 = .ok (.iload_n 1, 1) := by decide +kernel
theorem dX8_needed_2 : decode cX8_needed 2 = .ok (.iconst 4, 1) := by decide +kernel
theorem dX8_needed_3 : decode cX8_needed 3 = .ok (.iload_n 2, 1) := by decide +kernel
theorem dX8_needed_4 : decode cX8_needed 4 = .ok (.iadd, 1) := by decide +kernel
theorem dX8_needed_5 : decode cX8_needed 5 = .ok (.invokevirtual 53, 3) := by decide +kernel
theorem dX8_needed_8 : decode cX8_needed 8 = .ok (.aload_n 0, 1) := by decide +kernel
theorem dX8_needed_9 : decode cX8_needed 9 = .ok (.iload_n 1, 1) := by decide +kernel
theorem dX8_needed_10 : decode cX8_needed 10 = .ok (.iconst 1, 1) := by decide +kernel
theorem dX8_needed_11 : decode cX8_needed 11 = .ok (.iload_n 2, 1) := by decide +kernel
theorem dX8_needed_12 : decode cX8_needed 12 = .ok (.iadd, 1) := by decide +kernel
theorem dX8_needed_13 : decode cX8_needed 13 = .ok (.invokevirtual 53, 3) := by decide +kernel
theorem dX8_needed_16 : decode cX8_needed 16 = .ok (.iadd, 1) := by decide +kernel
theorem dX8_needed_17 : decode cX8_needed 17 = .ok (.aload_n 0, 1) := by decide +kernel
theorem dX8_needed_18 : decode cX8_needed 18 = .ok (.iload_n 2, 1) := by decide +kernel
theorem dX8_needed_19 : decode cX8_needed 19 = .ok (.invokevirtual 49, 3) := by decide +kernel
theorem dX8_needed_22 : decode cX8_needed 22 = .ok (.iadd, 1) := by decide +kernel
theorem dX8_needed_23 : decode cX8_needed 23 = .ok (.aload_n 0, 1) := by decide +kernel
theorem dX8_needed_24 : decode cX8_needed 24 = .ok (.getfield 7, 3) := by decide +kernel
theorem dX8_needed_27 : decode cX8_needed 27 = .ok (.bipush 10, 2) := by decide +kernel
theorem dX8_needed_29 : decode cX8_needed 29 = .ok (.iload_n 2, 1) := by decide +kernel
theorem dX8_needed_30 : decode cX8_needed 30 = .ok (.iadd, 1) := by decide +kernel
theorem dX8_needed_31 : decode cX8_needed 31 = .ok (.iaload, 1) := by decide +kernel
theorem dX8_needed_32 : decode cX8_needed 32 = .ok (.isub, 1) := by decide +kernel
theorem dX8_needed_33 : decode cX8_needed 33 = .ok (.ireturn, 1) := by decide +kernel
theorem dX8_needs_0 : decode cX8_needs 0 = .ok (.aload_n 0, 1) := by decide +kernel
theorem dX8_needs_1 : decode cX8_needs 1 = .ok (.iload_n 1, 1) := by decide +kernel
theorem dX8_needs_2 : decode cX8_needs 2 = .ok (.invokevirtual 87, 3) := by decide +kernel
theorem dX8_needs_5 : decode cX8_needs 5 = .ok (.ifCond .ne 5, 3) := by decide +kernel
theorem dX8_needs_8 : decode cX8_needs 8 = .ok (.iconst (-1), 1) := by decide +kernel
theorem dX8_needs_9 : decode cX8_needs 9 = .ok (.ireturn, 1) := by decide +kernel
theorem dX8_needs_10 : decode cX8_needs 10 = .ok (.iload_n 2, 1) := by decide +kernel
theorem dX8_needs_11 : decode cX8_needs 11 = .ok (.invokestatic 90, 3) := by decide +kernel
theorem dX8_needs_14 : decode cX8_needs 14 = .ok (.ifCond .ne 6, 3) := by decide +kernel
theorem dX8_needs_17 : decode cX8_needs 17 = .ok (.bipush (-2), 2) := by decide +kernel
theorem dX8_needs_19 : decode cX8_needs 19 = .ok (.ireturn, 1) := by decide +kernel
theorem dX8_needs_20 : decode cX8_needs 20 = .ok (.aload_n 0, 1) := by decide +kernel
theorem dX8_needs_21 : decode cX8_needs 21 = .ok (.iload_n 1, 1) := by decide +kernel
theorem dX8_needs_22 : decode cX8_needs 22 = .ok (.iload_n 2, 1) := by decide +kernel
theorem dX8_needs_23 : decode cX8_needs 23 = .ok (.invokevirtual 180, 3) := by decide +kernel
theorem dX8_needs_26 : decode cX8_needs 26 = .ok (.istore_n 3, 1) := by decide +kernel
theorem dX8_needs_27 : decode cX8_needs 27 = .ok (.iload_n 3, 1) := by decide +kernel
theorem dX8_needs_28 : decode cX8_needs 28 = .ok (.invokestatic 77, 3) := by decide +kernel
theorem dX8_needs_31 : decode cX8_needs 31 = .ok (.ifCond .eq 7, 3) := by decide +kernel
theorem dX8_needs_34 : decode cX8_needs 34 = .ok (.iload_n 3, 1) := by decide +kernel
theorem dX8_needs_35 : decode cX8_needs 35 = .ok (.goto 5, 3) := by decide +kernel
theorem dX8_needs_38 : decode cX8_needs 38 = .ok (.bipush (-6), 2) := by decide +kernel
theorem dX8_needs_40 : decode cX8_needs 40 = .ok (.ireturn, 1) := by decide +kernel
theorem dX8_ifLight_0 : decode cX8_ifLight 0 = .ok (.aload_n 0, 1) := by decide +kernel
theorem dX8_ifLight_1 : decode cX8_ifLight 1 = .ok (.iload_n 1, 1) := by decide +kernel
theorem dX8_ifLight_2 : decode cX8_ifLight 2 = .ok (.invokevirtual 87, 3) := by decide +kernel
theorem dX8_ifLight_5 : decode cX8_ifLight 5 = .ok (.ifCond .ne 5, 3) := by decide +kernel
theorem dX8_ifLight_8 : decode cX8_ifLight 8 = .ok (.iconst (-1), 1) := by decide +kernel
theorem dX8_ifLight_9 : decode cX8_ifLight 9 = .ok (.ireturn, 1) := by decide +kernel
theorem dX8_ifLight_10 : decode cX8_ifLight 10 = .ok (.iload_n 2, 1) := by decide +kernel
theorem dX8_ifLight_11 : decode cX8_ifLight 11 = .ok (.invokestatic 90, 3) := by decide +kernel
theorem dX8_ifLight_14 : decode cX8_ifLight 14 = .ok (.ifCond .eq 20, 3) := by decide +kernel
theorem dX8_ifLight_17 : decode cX8_ifLight 17 = .ok (.iload_n 3, 1) := by decide +kernel
theorem dX8_ifLight_18 : decode cX8_ifLight 18 = .ok (.invokestatic 77, 3) := by decide +kernel
theorem dX8_ifLight_21 : decode cX8_ifLight 21 = .ok (.ifCond .eq 13, 3) := by decide +kernel
theorem dX8_ifLight_24 : decode cX8_ifLight 24 = .ok (.aload_n 0, 1) := by decide +kernel
theorem dX8_ifLight_25 : decode cX8_ifLight 25 = .ok (.iload_n 1, 1) := by decide +kernel
theorem dX8_ifLight_26 : decode cX8_ifLight 26 = .ok (.iload_n 2, 1) := by decide +kernel
theorem dX8_ifLight_27 : decode cX8_ifLight 27 = .ok (.iload_n 3, 1) := by decide +kernel
theorem dX8_ifLight_28 : decode cX8_ifLight 28 = .ok (.invokevirtual 60, 3) := by decide +kernel
theorem dX8_ifLight_31 : decode cX8_ifLight 31 = .ok (.goto 5, 3) := by decide +kernel
theorem dX8_ifLight_34 : decode cX8_ifLight 34 = .ok (.bipush (-2), 2) := by decide +kernel
theorem dX8_ifLight_36 : decode cX8_ifLight 36 = .ok (.ireturn, 1) := by decide +kernel
theorem dX8_isTooWeak_0 : decode cX8_isTooWeak 0 = .ok (.iconst 0, 1) := by decide +kernel
theorem dX8_isTooWeak_1 : decode cX8_isTooWeak 1 = .ok (.istore_n 2, 1) := by decide +kernel
theorem dX8_isTooWeak_2 : decode cX8_isTooWeak 2 = .ok (.iconst 0, 1) := by decide +kernel
theorem dX8_isTooWeak_3 : decode cX8_isTooWeak 3 = .ok (.istore_n 3, 1) := by decide +kernel
theorem dX8_isTooWeak_4 : decode cX8_isTooWeak 4 = .ok (.iload_n 3, 1) := by decide +kernel
theorem dX8_isTooWeak_5 : decode cX8_isTooWeak 5 = .ok (.aload_n 0, 1) := by decide +kernel
theorem dX8_isTooWeak_6 : decode cX8_isTooWeak 6 = .ok (.getfield 7, 3) := by decide +kernel
theorem dX8_isTooWeak_9 : decode cX8_isTooWeak 9 = .ok (.iconst 4, 1) := by decide +kernel
theorem dX8_isTooWeak_10 : decode cX8_isTooWeak 10 = .ok (.iaload, 1) := by decide +kernel
theorem dX8_isTooWeak_11 : decode cX8_isTooWeak 11 = .ok (.if_icmp .ge 31, 3) := by decide +kernel
theorem dX8_isTooWeak_14 : decode cX8_isTooWeak 14 = .ok (.iload_n 2, 1) := by decide +kernel
theorem dX8_isTooWeak_15 : decode cX8_isTooWeak 15 = .ok (.ifCond .ne 15, 3) := by decide +kernel
theorem dX8_isTooWeak_18 : decode cX8_isTooWeak 18 = .ok (.aload_n 0, 1) := by decide +kernel
theorem dX8_isTooWeak_19 : decode cX8_isTooWeak 19 = .ok (.iload_n 3, 1) := by decide +kernel
theorem dX8_isTooWeak_20 : decode cX8_isTooWeak 20 = .ok (.iload_n 1, 1) := by decide +kernel
theorem dX8_isTooWeak_21 : decode cX8_isTooWeak 21 = .ok (.invokevirtual 180, 3) := by decide +kernel
theorem dX8_isTooWeak_24 : decode cX8_isTooWeak 24 = .ok (.invokestatic 77, 3) := by decide +kernel
theorem dX8_isTooWeak_27 : decode cX8_isTooWeak 27 = .ok (.ifCond .ne 7, 3) := by decide +kernel
theorem dX8_isTooWeak_30 : decode cX8_isTooWeak 30 = .ok (.iconst 1, 1) := by decide +kernel
theorem dX8_isTooWeak_31 : decode cX8_isTooWeak 31 = .ok (.goto 4, 3) := by decide +kernel
theorem dX8_isTooWeak_34 : decode cX8_isTooWeak 34 = .ok (.iconst 0, 1) := by decide +kernel
theorem dX8_isTooWeak_35 : decode cX8_isTooWeak 35 = .ok (.istore_n 2, 1) := by decide +kernel
theorem dX8_isTooWeak_36 : decode cX8_isTooWeak 36 = .ok (.iinc 3 1, 3) := by decide +kernel
theorem dX8_isTooWeak_39 : decode cX8_isTooWeak 39 = .ok (.goto (-35), 3) := by decide +kernel
theorem dX8_isTooWeak_42 : decode cX8_isTooWeak 42 = .ok (.iload_n 2, 1) := by decide +kernel
theorem dX8_isTooWeak_43 : decode cX8_isTooWeak 43 = .ok (.ireturn, 1) := by decide +kernel
theorem dX8_lasts_0 : decode cX8_lasts 0 = .ok (.iload_n 1, 1) := by decide +kernel
theorem dX8_lasts_1 : decode cX8_lasts 1 = .ok (.invokestatic 90, 3) := by decide +kernel
theorem dX8_lasts_4 : decode cX8_lasts 4 = .ok (.ifCond .ne 6, 3) := by decide +kernel
theorem dX8_lasts_7 : decode cX8_lasts 7 = .ok (.bipush (-2), 2) := by decide +kernel
theorem dX8_lasts_9 : decode cX8_lasts 9 = .ok (.ireturn, 1) := by decide +kernel
theorem dX8_lasts_10 : decode cX8_lasts 10 = .ok (.aload_n 0, 1) := by decide +kernel
theorem dX8_lasts_11 : decode cX8_lasts 11 = .ok (.getfield 7, 3) := by decide +kernel
theorem dX8_lasts_14 : decode cX8_lasts 14 = .ok (.bipush 7, 2) := by decide +kernel
theorem dX8_lasts_16 : decode cX8_lasts 16 = .ok (.iload_n 1, 1) := by decide +kernel
theorem dX8_lasts_17 : decode cX8_lasts 17 = .ok (.iadd, 1) := by decide +kernel
theorem dX8_lasts_18 : decode cX8_lasts 18 = .ok (.iaload, 1) := by decide +kernel
theorem dX8_lasts_19 : decode cX8_lasts 19 = .ok (.istore_n 2, 1) := by decide +kernel
theorem dX8_lasts_20 : decode cX8_lasts 20 = .ok (.iconst 0, 1) := by decide +kernel
theorem dX8_lasts_21 : decode cX8_lasts 21 = .ok (.istore_n 3, 1) := by decide +kernel
theorem dX8_lasts_22 : decode cX8_lasts 22 = .ok (.iload_n 3, 1) := by decide +kernel
theorem dX8_lasts_23 : decode cX8_lasts 23 = .ok (.sipush 500, 3) := by decide +kernel
theorem dX8_lasts_26 : decode cX8_lasts 26 = .ok (.if_icmp .gt 29, 3) := by decide +kernel
theorem dX8_lasts_29 : decode cX8_lasts 29 = .ok (.aload_n 0, 1) := by decide +kernel
theorem dX8_lasts_30 : decode cX8_lasts 30 = .ok (.iload_n 1, 1) := by decide +kernel
theorem dX8_lasts_31 : decode cX8_lasts 31 = .ok (.invokevirtual 183, 3) := by decide +kernel
theorem dX8_lasts_34 : decode cX8_lasts 34 = .ok (.ifCond .ne 21, 3) := by decide +kernel
theorem dX8_lasts_37 : decode cX8_lasts 37 = .ok (.iinc 3 1, 3) := by decide +kernel
theorem dX8_lasts_40 : decode cX8_lasts 40 = .ok (.aload_n 0, 1) := by decide +kernel
theorem dX8_lasts_41 : decode cX8_lasts 41 = .ok (.getfield 7, 3) := by decide +kernel
theorem dX8_lasts_44 : decode cX8_lasts 44 = .ok (.bipush 7, 2) := by decide +kernel
theorem dX8_lasts_46 : decode cX8_lasts 46 = .ok (.iload_n 1, 1) := by decide +kernel
theorem dX8_lasts_47 : decode cX8_lasts 47 = .ok (.iadd, 1) := by decide +kernel
theorem dX8_lasts_48 : decode cX8_lasts 48 = .ok (.iload_n 2, 1) := by decide +kernel
theorem dX8_lasts_49 : decode cX8_lasts 49 = .ok (.iload_n 3, 1) := by decide +kernel
theorem dX8_lasts_50 : decode cX8_lasts 50 = .ok (.iadd, 1) := by decide +kernel
theorem dX8_lasts_51 : decode cX8_lasts 51 = .ok (.iastore, 1) := by decide +kernel
theorem dX8_lasts_52 : decode cX8_lasts 52 = .ok (.goto (-30), 3) := by decide +kernel
theorem dX8_lasts_55 : decode cX8_lasts 55 = .ok (.aload_n 0, 1) := by decide +kernel
theorem dX8_lasts_56 : decode cX8_lasts 56 = .ok (.getfield 7, 3) := by decide +kernel
theorem dX8_lasts_59 : decode cX8_lasts 59 = .ok (.bipush 7, 2) := by decide +kernel
theorem dX8_lasts_61 : decode cX8_lasts 61 = .ok (.iload_n 1, 1) := by decide +kernel
theorem dX8_lasts_62 : decode cX8_lasts 62 = .ok (.iadd, 1) := by decide +kernel
theorem dX8_lasts_63 : decode cX8_lasts 63 = .ok (.iload_n 2, 1) := by decide +kernel
theorem dX8_lasts_64 : decode cX8_lasts 64 = .ok (.iastore, 1) := by decide +kernel
theorem dX8_lasts_65 : decode cX8_lasts 65 = .ok (.iload_n 3, 1) := by decide +kernel
theorem dX8_lasts_66 : decode cX8_lasts 66 = .ok (.sipush 500, 3) := by decide +kernel
theorem dX8_lasts_69 : decode cX8_lasts 69 = .ok (.if_icmp .le 8, 3) := by decide +kernel
theorem dX8_lasts_72 : decode cX8_lasts 72 = .ok (.bipush (-6), 2) := by decide +kernel
theorem dX8_lasts_74 : decode cX8_lasts 74 = .ok (.goto 4, 3) := by decide +kernel
theorem dX8_lasts_77 : decode cX8_lasts 77 = .ok (.iload_n 3, 1) := by decide +kernel
theorem dX8_lasts_78 : decode cX8_lasts 78 = .ok (.ireturn, 1) := by decide +kernel
theorem dX8_allOff_0 : decode cX8_allOff 0 = .ok (.iconst 0, 1) := by decide +kernel
theorem dX8_allOff_1 : decode cX8_allOff 1 = .ok (.istore_n 2, 1) := by decide +kernel
theorem dX8_allOff_2 : decode cX8_allOff 2 = .ok (.iconst 0, 1) := by decide +kernel
theorem dX8_allOff_3 : decode cX8_allOff 3 = .ok (.istore_n 3, 1) := by decide +kernel
theorem dX8_allOff_4 : decode cX8_allOff 4 = .ok (.iload_n 3, 1) := by decide +kernel
theorem dX8_allOff_5 : decode cX8_allOff 5 = .ok (.aload_n 0, 1) := by decide +kernel
theorem dX8_allOff_6 : decode cX8_allOff 6 = .ok (.getfield 7, 3) := by decide +kernel
theorem dX8_allOff_9 : decode cX8_allOff 9 = .ok (.iconst 4, 1) := by decide +kernel
theorem dX8_allOff_10 : decode cX8_allOff 10 = .ok (.iaload, 1) := by decide +kernel
theorem dX8_allOff_11 : decode cX8_allOff 11 = .ok (.if_icmp .ge 21, 3) := by decide +kernel
theorem dX8_allOff_14 : decode cX8_allOff 14 = .ok (.iload_n 2, 1) := by decide +kernel
theorem dX8_allOff_15 : decode cX8_allOff 15 = .ok (.aload_n 0, 1) := by decide +kernel
theorem dX8_allOff_16 : decode cX8_allOff 16 = .ok (.iload_n 3, 1) := by decide +kernel
theorem dX8_allOff_17 : decode cX8_allOff 17 = .ok (.iload_n 1, 1) := by decide +kernel
theorem dX8_allOff_18 : decode cX8_allOff 18 = .ok (.invokevirtual 70, 3) := by decide +kernel
theorem dX8_allOff_21 : decode cX8_allOff 21 = .ok (.invokestatic 67, 3) := by decide +kernel
theorem dX8_allOff_24 : decode cX8_allOff 24 = .ok (.iadd, 1) := by decide +kernel
theorem dX8_allOff_25 : decode cX8_allOff 25 = .ok (.istore_n 2, 1) := by decide +kernel
theorem dX8_allOff_26 : decode cX8_allOff 26 = .ok (.iinc 3 1, 3) := by decide +kernel
theorem dX8_allOff_29 : decode cX8_allOff 29 = .ok (.goto (-25), 3) := by decide +kernel
theorem dX8_allOff_32 : decode cX8_allOff 32 = .ok (.iload_n 2, 1) := by decide +kernel
theorem dX8_allOff_33 : decode cX8_allOff 33 = .ok (.ireturn, 1) := by decide +kernel
theorem dX8_bestTrim_0 : decode cX8_bestTrim 0 = .ok (.iload_n 1, 1) := by decide +kernel
theorem dX8_bestTrim_1 : decode cX8_bestTrim 1 = .ok (.invokestatic 90, 3) := by decide +kernel
theorem dX8_bestTrim_4 : decode cX8_bestTrim 4 = .ok (.ifCond .eq 12, 3) := by decide +kernel
theorem dX8_bestTrim_7 : decode cX8_bestTrim 7 = .ok (.iload_n 2, 1) := by decide +kernel
theorem dX8_bestTrim_8 : decode cX8_bestTrim 8 = .ok (.iconst 0, 1) := by decide +kernel
theorem dX8_bestTrim_9 : decode cX8_bestTrim 9 = .ok (.iconst 1, 1) := by decide +kernel
theorem dX8_bestTrim_10 : decode cX8_bestTrim 10 = .ok (.invokestatic 31, 3) := by decide +kernel
theorem dX8_bestTrim_13 : decode cX8_bestTrim 13 = .ok (.ifCond .ne 6, 3) := by decide +kernel
theorem dX8_bestTrim_16 : decode cX8_bestTrim 16 = .ok (.bipush (-2), 2) := by decide +kernel
theorem dX8_bestTrim_18 : decode cX8_bestTrim 18 = .ok (.ireturn, 1) := by decide +kernel
theorem dX8_bestTrim_19 : decode cX8_bestTrim 19 = .ok (.aload_n 0, 1) := by decide +kernel
theorem dX8_bestTrim_20 : decode cX8_bestTrim 20 = .ok (.getfield 7, 3) := by decide +kernel
theorem dX8_bestTrim_23 : decode cX8_bestTrim 23 = .ok (.bipush 10, 2) := by decide +kernel
theorem dX8_bestTrim_25 : decode cX8_bestTrim 25 = .ok (.iload_n 1, 1) := by decide +kernel
theorem dX8_bestTrim_26 : decode cX8_bestTrim 26 = .ok (.iadd, 1) := by decide +kernel
theorem dX8_bestTrim_27 : decode cX8_bestTrim 27 = .ok (.iaload, 1) := by decide +kernel
theorem dX8_bestTrim_28 : decode cX8_bestTrim 28 = .ok (.istore_n 3, 1) := by decide +kernel
theorem dX8_bestTrim_29 : decode cX8_bestTrim 29 = .ok (.iconst 0, 1) := by decide +kernel
theorem dX8_bestTrim_30 : decode cX8_bestTrim 30 = .ok (.istore 4, 2) := by decide +kernel
theorem dX8_bestTrim_32 : decode cX8_bestTrim 32 = .ok (.iconst (-1), 1) := by decide +kernel
theorem dX8_bestTrim_33 : decode cX8_bestTrim 33 = .ok (.istore 5, 2) := by decide +kernel
theorem dX8_bestTrim_35 : decode cX8_bestTrim 35 = .ok (.iconst 0, 1) := by decide +kernel
theorem dX8_bestTrim_36 : decode cX8_bestTrim 36 = .ok (.istore 6, 2) := by decide +kernel
theorem dX8_bestTrim_38 : decode cX8_bestTrim 38 = .ok (.iload 6, 2) := by decide +kernel
theorem dX8_bestTrim_40 : decode cX8_bestTrim 40 = .ok (.bipush 40, 2) := by decide +kernel
theorem dX8_bestTrim_42 : decode cX8_bestTrim 42 = .ok (.if_icmp .gt 98, 3) := by decide +kernel
theorem dX8_bestTrim_45 : decode cX8_bestTrim 45 = .ok (.iload 6, 2) := by decide +kernel
theorem dX8_bestTrim_47 : decode cX8_bestTrim 47 = .ok (.iconst 2, 1) := by decide +kernel
theorem dX8_bestTrim_48 : decode cX8_bestTrim 48 = .ok (.irem, 1) := by decide +kernel
theorem dX8_bestTrim_49 : decode cX8_bestTrim 49 = .ok (.iconst 1, 1) := by decide +kernel
theorem dX8_bestTrim_50 : decode cX8_bestTrim 50 = .ok (.if_icmp .ne 12, 3) := by decide +kernel
theorem dX8_bestTrim_53 : decode cX8_bestTrim 53 = .ok (.iload 6, 2) := by decide +kernel
theorem dX8_bestTrim_55 : decode cX8_bestTrim 55 = .ok (.iconst 1, 1) := by decide +kernel
theorem dX8_bestTrim_56 : decode cX8_bestTrim 56 = .ok (.iadd, 1) := by decide +kernel
theorem dX8_bestTrim_57 : decode cX8_bestTrim 57 = .ok (.iconst 2, 1) := by decide +kernel
theorem dX8_bestTrim_58 : decode cX8_bestTrim 58 = .ok (.idiv, 1) := by decide +kernel
theorem dX8_bestTrim_59 : decode cX8_bestTrim 59 = .ok (.goto 8, 3) := by decide +kernel
theorem dX8_bestTrim_62 : decode cX8_bestTrim 62 = .ok (.iload 6, 2) := by decide +kernel
theorem dX8_bestTrim_64 : decode cX8_bestTrim 64 = .ok (.ineg, 1) := by decide +kernel
theorem dX8_bestTrim_65 : decode cX8_bestTrim 65 = .ok (.iconst 2, 1) := by decide +kernel
theorem dX8_bestTrim_66 : decode cX8_bestTrim 66 = .ok (.idiv, 1) := by decide +kernel
theorem dX8_bestTrim_67 : decode cX8_bestTrim 67 = .ok (.istore 7, 2) := by decide +kernel
theorem dX8_bestTrim_69 : decode cX8_bestTrim 69 = .ok (.aload_n 0, 1) := by decide +kernel
theorem dX8_bestTrim_70 : decode cX8_bestTrim 70 = .ok (.getfield 7, 3) := by decide +kernel
theorem dX8_bestTrim_73 : decode cX8_bestTrim 73 = .ok (.bipush 10, 2) := by decide +kernel
theorem dX8_bestTrim_75 : decode cX8_bestTrim 75 = .ok (.iload_n 1, 1) := by decide +kernel
theorem dX8_bestTrim_76 : decode cX8_bestTrim 76 = .ok (.iadd, 1) := by decide +kernel
theorem dX8_bestTrim_77 : decode cX8_bestTrim 77 = .ok (.iload 7, 2) := by decide +kernel
theorem dX8_bestTrim_79 : decode cX8_bestTrim 79 = .ok (.iastore, 1) := by decide +kernel
theorem dX8_bestTrim_80 : decode cX8_bestTrim 80 = .ok (.aload_n 0, 1) := by decide +kernel
theorem dX8_bestTrim_81 : decode cX8_bestTrim 81 = .ok (.iload_n 1, 1) := by decide +kernel
theorem dX8_bestTrim_82 : decode cX8_bestTrim 82 = .ok (.invokevirtual 186, 3) := by decide +kernel
theorem dX8_bestTrim_85 : decode cX8_bestTrim 85 = .ok (.istore 8, 2) := by decide +kernel
theorem dX8_bestTrim_87 : decode cX8_bestTrim 87 = .ok (.iload 5, 2) := by decide +kernel
theorem dX8_bestTrim_89 : decode cX8_bestTrim 89 = .ok (.ifCond .lt 10, 3) := by decide +kernel
theorem dX8_bestTrim_92 : decode cX8_bestTrim 92 = .ok (.iload 8, 2) := by decide +kernel
theorem dX8_bestTrim_94 : decode cX8_bestTrim 94 = .ok (.iload 5, 2) := by decide +kernel
theorem dX8_bestTrim_96 : decode cX8_bestTrim 96 = .ok (.if_icmp .ge 7, 3) := by decide +kernel
theorem dX8_bestTrim_99 : decode cX8_bestTrim 99 = .ok (.iconst 1, 1) := by decide +kernel
theorem dX8_bestTrim_100 : decode cX8_bestTrim 100 = .ok (.goto 4, 3) := by decide +kernel
theorem dX8_bestTrim_103 : decode cX8_bestTrim 103 = .ok (.iconst 0, 1) := by decide +kernel
theorem dX8_bestTrim_104 : decode cX8_bestTrim 104 = .ok (.istore 9, 2) := by decide +kernel
theorem dX8_bestTrim_106 : decode cX8_bestTrim 106 = .ok (.iload 9, 2) := by decide +kernel
theorem dX8_bestTrim_108 : decode cX8_bestTrim 108 = .ok (.ifCond .eq 8, 3) := by decide +kernel
theorem dX8_bestTrim_111 : decode cX8_bestTrim 111 = .ok (.iload 7, 2) := by decide +kernel
theorem dX8_bestTrim_113 : decode cX8_bestTrim 113 = .ok (.goto 5, 3) := by decide +kernel
theorem dX8_bestTrim_116 : decode cX8_bestTrim 116 = .ok (.iload 4, 2) := by decide +kernel
theorem dX8_bestTrim_118 : decode cX8_bestTrim 118 = .ok (.istore 4, 2) := by decide +kernel
theorem dX8_bestTrim_120 : decode cX8_bestTrim 120 = .ok (.iload 9, 2) := by decide +kernel
theorem dX8_bestTrim_122 : decode cX8_bestTrim 122 = .ok (.ifCond .eq 8, 3) := by decide +kernel
theorem dX8_bestTrim_125 : decode cX8_bestTrim 125 = .ok (.iload 8, 2) := by decide +kernel
theorem dX8_bestTrim_127 : decode cX8_bestTrim 127 = .ok (.goto 5, 3) := by decide +kernel
theorem dX8_bestTrim_130 : decode cX8_bestTrim 130 = .ok (.iload 5, 2) := by decide +kernel
theorem dX8_bestTrim_132 : decode cX8_bestTrim 132 = .ok (.istore 5, 2) := by decide +kernel
theorem dX8_bestTrim_134 : decode cX8_bestTrim 134 = .ok (.iinc 6 1, 3) := by decide +kernel
theorem dX8_bestTrim_137 : decode cX8_bestTrim 137 = .ok (.goto (-99), 3) := by decide +kernel
theorem dX8_bestTrim_140 : decode cX8_bestTrim 140 = .ok (.aload_n 0, 1) := by decide +kernel
theorem dX8_bestTrim_141 : decode cX8_bestTrim 141 = .ok (.getfield 7, 3) := by decide +kernel
theorem dX8_bestTrim_144 : decode cX8_bestTrim 144 = .ok (.bipush 10, 2) := by decide +kernel
theorem dX8_bestTrim_146 : decode cX8_bestTrim 146 = .ok (.iload_n 1, 1) := by decide +kernel
theorem dX8_bestTrim_147 : decode cX8_bestTrim 147 = .ok (.iadd, 1) := by decide +kernel
theorem dX8_bestTrim_148 : decode cX8_bestTrim 148 = .ok (.iload_n 3, 1) := by decide +kernel
theorem dX8_bestTrim_149 : decode cX8_bestTrim 149 = .ok (.iastore, 1) := by decide +kernel
theorem dX8_bestTrim_150 : decode cX8_bestTrim 150 = .ok (.iload_n 2, 1) := by decide +kernel
theorem dX8_bestTrim_151 : decode cX8_bestTrim 151 = .ok (.ifCond .ne 11, 3) := by decide +kernel
theorem dX8_bestTrim_154 : decode cX8_bestTrim 154 = .ok (.iload 4, 2) := by decide +kernel
theorem dX8_bestTrim_156 : decode cX8_bestTrim 156 = .ok (.bipush 20, 2) := by decide +kernel
theorem dX8_bestTrim_158 : decode cX8_bestTrim 158 = .ok (.iadd, 1) := by decide +kernel
theorem dX8_bestTrim_159 : decode cX8_bestTrim 159 = .ok (.goto 5, 3) := by decide +kernel
theorem dX8_bestTrim_162 : decode cX8_bestTrim 162 = .ok (.iload 5, 2) := by decide +kernel
theorem dX8_bestTrim_164 : decode cX8_bestTrim 164 = .ok (.ireturn, 1) := by decide +kernel
theorem dX8_printsNeeded_0 : decode cX8_printsNeeded 0 = .ok (.aload_n 0, 1) := by decide +kernel
theorem dX8_printsNeeded_1 : decode cX8_printsNeeded 1 = .ok (.getfield 7, 3) := by decide +kernel
theorem dX8_printsNeeded_4 : decode cX8_printsNeeded 4 = .ok (.iconst 4, 1) := by decide +kernel
theorem dX8_printsNeeded_5 : decode cX8_printsNeeded 5 = .ok (.iaload, 1) := by decide +kernel
theorem dX8_printsNeeded_6 : decode cX8_printsNeeded 6 = .ok (.ifCond .ne 6, 3) := by decide +kernel
theorem dX8_printsNeeded_9 : decode cX8_printsNeeded 9 = .ok (.bipush (-5), 2) := by decide +kernel
theorem dX8_printsNeeded_11 : decode cX8_printsNeeded 11 = .ok (.ireturn, 1) := by decide +kernel
theorem dX8_printsNeeded_12 : decode cX8_printsNeeded 12 = .ok (.aload_n 0, 1) := by decide +kernel
theorem dX8_printsNeeded_13 : decode cX8_printsNeeded 13 = .ok (.invokevirtual 46, 3) := by decide +kernel
theorem dX8_printsNeeded_16 : decode cX8_printsNeeded 16 = .ok (.iconst 0, 1) := by decide +kernel
theorem dX8_printsNeeded_17 : decode cX8_printsNeeded 17 = .ok (.istore_n 1, 1) := by decide +kernel
theorem dX8_printsNeeded_18 : decode cX8_printsNeeded 18 = .ok (.iconst 0, 1) := by decide +kernel
theorem dX8_printsNeeded_19 : decode cX8_printsNeeded 19 = .ok (.istore_n 2, 1) := by decide +kernel
theorem dX8_printsNeeded_20 : decode cX8_printsNeeded 20 = .ok (.iload_n 1, 1) := by decide +kernel
theorem dX8_printsNeeded_21 : decode cX8_printsNeeded 21 = .ok (.bipush 20, 2) := by decide +kernel
theorem dX8_printsNeeded_23 : decode cX8_printsNeeded 23 = .ok (.if_icmp .ge 35, 3) := by decide +kernel
theorem dX8_printsNeeded_26 : decode cX8_printsNeeded 26 = .ok (.iload_n 2, 1) := by decide +kernel
theorem dX8_printsNeeded_27 : decode cX8_printsNeeded 27 = .ok (.ifCond .ne 31, 3) := by decide +kernel
theorem dX8_printsNeeded_30 : decode cX8_printsNeeded 30 = .ok (.aload_n 0, 1) := by decide +kernel
theorem dX8_printsNeeded_31 : decode cX8_printsNeeded 31 = .ok (.invokevirtual 116, 3) := by decide +kernel
theorem dX8_printsNeeded_34 : decode cX8_printsNeeded 34 = .ok (.iinc 1 1, 3) := by decide +kernel
theorem dX8_printsNeeded_37 : decode cX8_printsNeeded 37 = .ok (.aload_n 0, 1) := by decide +kernel
theorem dX8_printsNeeded_38 : decode cX8_printsNeeded 38 = .ok (.invokevirtual 119, 3) := by decide +kernel
theorem dX8_printsNeeded_41 : decode cX8_printsNeeded 41 = .ok (.ifCond .ne 7, 3) := by decide +kernel
theorem dX8_printsNeeded_44 : decode cX8_printsNeeded 44 = .ok (.iconst 1, 1) := by decide +kernel
theorem dX8_printsNeeded_45 : decode cX8_printsNeeded 45 = .ok (.goto 4, 3) := by decide +kernel
theorem dX8_printsNeeded_48 : decode cX8_printsNeeded 48 = .ok (.iconst 0, 1) := by decide +kernel
theorem dX8_printsNeeded_49 : decode cX8_printsNeeded 49 = .ok (.istore_n 2, 1) := by decide +kernel
theorem dX8_printsNeeded_50 : decode cX8_printsNeeded 50 = .ok (.aload_n 0, 1) := by decide +kernel
theorem dX8_printsNeeded_51 : decode cX8_printsNeeded 51 = .ok (.invokevirtual 159, 3) := by decide +kernel
theorem dX8_printsNeeded_54 : decode cX8_printsNeeded 54 = .ok (.pop, 1) := by decide +kernel
theorem dX8_printsNeeded_55 : decode cX8_printsNeeded 55 = .ok (.goto (-35), 3) := by decide +kernel
theorem dX8_printsNeeded_58 : decode cX8_printsNeeded 58 = .ok (.aload_n 0, 1) := by decide +kernel
theorem dX8_printsNeeded_59 : decode cX8_printsNeeded 59 = .ok (.invokevirtual 189, 3) := by decide +kernel
theorem dX8_printsNeeded_62 : decode cX8_printsNeeded 62 = .ok (.iload_n 2, 1) := by decide +kernel
theorem dX8_printsNeeded_63 : decode cX8_printsNeeded 63 = .ok (.ifCond .eq 7, 3) := by decide +kernel
theorem dX8_printsNeeded_66 : decode cX8_printsNeeded 66 = .ok (.iload_n 1, 1) := by decide +kernel
theorem dX8_printsNeeded_67 : decode cX8_printsNeeded 67 = .ok (.goto 5, 3) := by decide +kernel
theorem dX8_printsNeeded_70 : decode cX8_printsNeeded 70 = .ok (.bipush (-6), 2) := by decide +kernel
theorem dX8_printsNeeded_72 : decode cX8_printsNeeded 72 = .ok (.ireturn, 1) := by decide +kernel
theorem dX8_isCharacter_0 : decode cX8_isCharacter 0 = .ok (.iload_n 0, 1) := by decide +kernel
theorem dX8_isCharacter_1 : decode cX8_isCharacter 1 = .ok (.bipush 33, 2) := by decide +kernel
theorem dX8_isCharacter_3 : decode cX8_isCharacter 3 = .ok (.bipush 126, 2) := by decide +kernel
theorem dX8_isCharacter_5 : decode cX8_isCharacter 5 = .ok (.invokestatic 31, 3) := by decide +kernel
theorem dX8_isCharacter_8 : decode cX8_isCharacter 8 = .ok (.ireturn, 1) := by decide +kernel
theorem dX8_charactersIn_0 : decode cX8_charactersIn 0 = .ok (.iconst 0, 1) := by decide +kernel
theorem dX8_charactersIn_1 : decode cX8_charactersIn 1 = .ok (.istore_n 2, 1) := by decide +kernel
theorem dX8_charactersIn_2 : decode cX8_charactersIn 2 = .ok (.lload_n 0, 1) := by decide +kernel
theorem dX8_charactersIn_3 : decode cX8_charactersIn 3 = .ok (.lstore_n 3, 1) := by decide +kernel
theorem dX8_charactersIn_4 : decode cX8_charactersIn 4 = .ok (.iload_n 2, 1) := by decide +kernel
theorem dX8_charactersIn_5 : decode cX8_charactersIn 5 = .ok (.bipush 8, 2) := by decide +kernel
theorem dX8_charactersIn_7 : decode cX8_charactersIn 7 = .ok (.if_icmp .ge 38, 3) := by decide +kernel
theorem dX8_charactersIn_10 : decode cX8_charactersIn 10 = .ok (.lload_n 3, 1) := by decide +kernel
theorem dX8_charactersIn_11 : decode cX8_charactersIn 11 = .ok (.ldc2_w 192, 3) := by decide +kernel
theorem dX8_charactersIn_14 : decode cX8_charactersIn 14 = .ok (.land, 1) := by decide +kernel
theorem dX8_charactersIn_15 : decode cX8_charactersIn 15 = .ok (.lconst 0, 1) := by decide +kernel
theorem dX8_charactersIn_16 : decode cX8_charactersIn 16 = .ok (.lcmp, 1) := by decide +kernel
theorem dX8_charactersIn_17 : decode cX8_charactersIn 17 = .ok (.ifCond .eq 28, 3) := by decide +kernel
theorem dX8_charactersIn_20 : decode cX8_charactersIn 20 = .ok (.lload_n 3, 1) := by decide +kernel
theorem dX8_charactersIn_21 : decode cX8_charactersIn 21 = .ok (.ldc2_w 192, 3) := by decide +kernel
theorem dX8_charactersIn_24 : decode cX8_charactersIn 24 = .ok (.land, 1) := by decide +kernel
theorem dX8_charactersIn_25 : decode cX8_charactersIn 25 = .ok (.l2i, 1) := by decide +kernel
theorem dX8_charactersIn_26 : decode cX8_charactersIn 26 = .ok (.invokestatic 194, 3) := by decide +kernel
theorem dX8_charactersIn_29 : decode cX8_charactersIn 29 = .ok (.ifCond .ne 5, 3) := by decide +kernel
theorem dX8_charactersIn_32 : decode cX8_charactersIn 32 = .ok (.iconst 0, 1) := by decide +kernel
theorem dX8_charactersIn_33 : decode cX8_charactersIn 33 = .ok (.ireturn, 1) := by decide +kernel
theorem dX8_charactersIn_34 : decode cX8_charactersIn 34 = .ok (.lload_n 3, 1) := by decide +kernel
theorem dX8_charactersIn_35 : decode cX8_charactersIn 35 = .ok (.bipush 8, 2) := by decide +kernel
theorem dX8_charactersIn_37 : decode cX8_charactersIn 37 = .ok (.lushr, 1) := by decide +kernel
theorem dX8_charactersIn_38 : decode cX8_charactersIn 38 = .ok (.lstore_n 3, 1) := by decide +kernel
theorem dX8_charactersIn_39 : decode cX8_charactersIn 39 = .ok (.iinc 2 1, 3) := by decide +kernel
theorem dX8_charactersIn_42 : decode cX8_charactersIn 42 = .ok (.goto (-38), 3) := by decide +kernel
theorem dX8_charactersIn_45 : decode cX8_charactersIn 45 = .ok (.lload_n 3, 1) := by decide +kernel
theorem dX8_charactersIn_46 : decode cX8_charactersIn 46 = .ok (.lconst 0, 1) := by decide +kernel
theorem dX8_charactersIn_47 : decode cX8_charactersIn 47 = .ok (.lcmp, 1) := by decide +kernel
theorem dX8_charactersIn_48 : decode cX8_charactersIn 48 = .ok (.ifCond .ne 7, 3) := by decide +kernel
theorem dX8_charactersIn_51 : decode cX8_charactersIn 51 = .ok (.iload_n 2, 1) := by decide +kernel
theorem dX8_charactersIn_52 : decode cX8_charactersIn 52 = .ok (.goto 4, 3) := by decide +kernel
theorem dX8_charactersIn_55 : decode cX8_charactersIn 55 = .ok (.iconst 0, 1) := by decide +kernel
theorem dX8_charactersIn_56 : decode cX8_charactersIn 56 = .ok (.ireturn, 1) := by decide +kernel
theorem dX8_put_0 : decode cX8_put 0 = .ok (.lload_n 1, 1) := by decide +kernel
theorem dX8_put_1 : decode cX8_put 1 = .ok (.invokestatic 197, 3) := by decide +kernel
theorem dX8_put_4 : decode cX8_put 4 = .ok (.istore_n 3, 1) := by decide +kernel
theorem dX8_put_5 : decode cX8_put 5 = .ok (.iload_n 3, 1) := by decide +kernel
theorem dX8_put_6 : decode cX8_put 6 = .ok (.ifCond .ne 6, 3) := by decide +kernel
theorem dX8_put_9 : decode cX8_put 9 = .ok (.bipush (-2), 2) := by decide +kernel
theorem dX8_put_11 : decode cX8_put 11 = .ok (.ireturn, 1) := by decide +kernel
theorem dX8_put_12 : decode cX8_put 12 = .ok (.aload_n 0, 1) := by decide +kernel
theorem dX8_put_13 : decode cX8_put 13 = .ok (.getfield 177, 3) := by decide +kernel
theorem dX8_put_16 : decode cX8_put 16 = .ok (.iload_n 3, 1) := by decide +kernel
theorem dX8_put_17 : decode cX8_put 17 = .ok (.iadd, 1) := by decide +kernel
theorem dX8_put_18 : decode cX8_put 18 = .ok (.bipush 80, 2) := by decide +kernel
theorem dX8_put_20 : decode cX8_put 20 = .ok (.if_icmp .le 6, 3) := by decide +kernel
theorem dX8_put_23 : decode cX8_put 23 = .ok (.bipush (-4), 2) := by decide +kernel
theorem dX8_put_25 : decode cX8_put 25 = .ok (.ireturn, 1) := by decide +kernel
theorem dX8_put_26 : decode cX8_put 26 = .ok (.iload_n 3, 1) := by decide +kernel
theorem dX8_put_27 : decode cX8_put 27 = .ok (.iconst 1, 1) := by decide +kernel
theorem dX8_put_28 : decode cX8_put 28 = .ok (.isub, 1) := by decide +kernel
theorem dX8_put_29 : decode cX8_put 29 = .ok (.istore 4, 2) := by decide +kernel
theorem dX8_put_31 : decode cX8_put 31 = .ok (.iload 4, 2) := by decide +kernel
theorem dX8_put_33 : decode cX8_put 33 = .ok (.ifCond .lt 40, 3) := by decide +kernel
theorem dX8_put_36 : decode cX8_put 36 = .ok (.aload_n 0, 1) := by decide +kernel
theorem dX8_put_37 : decode cX8_put 37 = .ok (.getfield 25, 3) := by decide +kernel
theorem dX8_put_40 : decode cX8_put 40 = .ok (.aload_n 0, 1) := by decide +kernel
theorem dX8_put_41 : decode cX8_put 41 = .ok (.getfield 177, 3) := by decide +kernel
theorem dX8_put_44 : decode cX8_put 44 = .ok (.lload_n 1, 1) := by decide +kernel
theorem dX8_put_45 : decode cX8_put 45 = .ok (.bipush 8, 2) := by decide +kernel
theorem dX8_put_47 : decode cX8_put 47 = .ok (.iload 4, 2) := by decide +kernel
theorem dX8_put_49 : decode cX8_put 49 = .ok (.imul, 1) := by decide +kernel
theorem dX8_put_50 : decode cX8_put 50 = .ok (.lshr, 1) := by decide +kernel
theorem dX8_put_51 : decode cX8_put 51 = .ok (.ldc2_w 192, 3) := by decide +kernel
theorem dX8_put_54 : decode cX8_put 54 = .ok (.land, 1) := by decide +kernel
theorem dX8_put_55 : decode cX8_put 55 = .ok (.l2i, 1) := by decide +kernel
theorem dX8_put_56 : decode cX8_put 56 = .ok (.iastore, 1) := by decide +kernel
theorem dX8_put_57 : decode cX8_put 57 = .ok (.aload_n 0, 1) := by decide +kernel
theorem dX8_put_58 : decode cX8_put 58 = .ok (.dup, 1) := by decide +kernel
theorem dX8_put_59 : decode cX8_put 59 = .ok (.getfield 177, 3) := by decide +kernel
theorem dX8_put_62 : decode cX8_put 62 = .ok (.iconst 1, 1) := by decide +kernel
theorem dX8_put_63 : decode cX8_put 63 = .ok (.iadd, 1) := by decide +kernel
theorem dX8_put_64 : decode cX8_put 64 = .ok (.putfield 177, 3) := by decide +kernel
theorem dX8_put_67 : decode cX8_put 67 = .ok (.iinc 4 (-1), 3) := by decide +kernel
theorem dX8_put_70 : decode cX8_put 70 = .ok (.goto (-39), 3) := by decide +kernel
theorem dX8_put_73 : decode cX8_put 73 = .ok (.aload_n 0, 1) := by decide +kernel
theorem dX8_put_74 : decode cX8_put 74 = .ok (.getfield 177, 3) := by decide +kernel
theorem dX8_put_77 : decode cX8_put 77 = .ok (.ireturn, 1) := by decide +kernel
theorem dX8_wipe_0 : decode cX8_wipe 0 = .ok (.aload_n 0, 1) := by decide +kernel
theorem dX8_wipe_1 : decode cX8_wipe 1 = .ok (.getfield 177, 3) := by decide +kernel
theorem dX8_wipe_4 : decode cX8_wipe 4 = .ok (.istore_n 1, 1) := by decide +kernel
theorem dX8_wipe_5 : decode cX8_wipe 5 = .ok (.aload_n 0, 1) := by decide +kernel
theorem dX8_wipe_6 : decode cX8_wipe 6 = .ok (.iconst 0, 1) := by decide +kernel
theorem dX8_wipe_7 : decode cX8_wipe 7 = .ok (.putfield 177, 3) := by decide +kernel
theorem dX8_wipe_10 : decode cX8_wipe 10 = .ok (.iload_n 1, 1) := by decide +kernel
theorem dX8_wipe_11 : decode cX8_wipe 11 = .ok (.ireturn, 1) := by decide +kernel
theorem dX8_code_0 : decode cX8_code 0 = .ok (.aload_n 0, 1) := by decide +kernel
theorem dX8_code_1 : decode cX8_code 1 = .ok (.getfield 201, 3) := by decide +kernel
theorem dX8_code_4 : decode cX8_code 4 = .ok (.aload_n 0, 1) := by decide +kernel
theorem dX8_code_5 : decode cX8_code 5 = .ok (.getfield 177, 3) := by decide +kernel
theorem dX8_code_8 : decode cX8_code 8 = .ok (.if_icmp .ge 15, 3) := by decide +kernel
theorem dX8_code_11 : decode cX8_code 11 = .ok (.aload_n 0, 1) := by decide +kernel
theorem dX8_code_12 : decode cX8_code 12 = .ok (.getfield 25, 3) := by decide +kernel
theorem dX8_code_15 : decode cX8_code 15 = .ok (.aload_n 0, 1) := by decide +kernel
theorem dX8_code_16 : decode cX8_code 16 = .ok (.getfield 201, 3) := by decide +kernel
theorem dX8_code_19 : decode cX8_code 19 = .ok (.iaload, 1) := by decide +kernel
theorem dX8_code_20 : decode cX8_code 20 = .ok (.goto 4, 3) := by decide +kernel
theorem dX8_code_23 : decode cX8_code 23 = .ok (.iconst 0, 1) := by decide +kernel
theorem dX8_code_24 : decode cX8_code 24 = .ok (.ireturn, 1) := by decide +kernel
theorem dX8_takes_0 : decode cX8_takes 0 = .ok (.aload_n 0, 1) := by decide +kernel
theorem dX8_takes_1 : decode cX8_takes 1 = .ok (.invokevirtual 204, 3) := by decide +kernel
theorem dX8_takes_4 : decode cX8_takes 4 = .ok (.iload_n 1, 1) := by decide +kernel
theorem dX8_takes_5 : decode cX8_takes 5 = .ok (.if_icmp .ne 7, 3) := by decide +kernel
theorem dX8_takes_8 : decode cX8_takes 8 = .ok (.iconst 1, 1) := by decide +kernel
theorem dX8_takes_9 : decode cX8_takes 9 = .ok (.goto 4, 3) := by decide +kernel
theorem dX8_takes_12 : decode cX8_takes 12 = .ok (.iconst 0, 1) := by decide +kernel
theorem dX8_takes_13 : decode cX8_takes 13 = .ok (.istore_n 2, 1) := by decide +kernel
theorem dX8_takes_14 : decode cX8_takes 14 = .ok (.aload_n 0, 1) := by decide +kernel
theorem dX8_takes_15 : decode cX8_takes 15 = .ok (.dup, 1) := by decide +kernel
theorem dX8_takes_16 : decode cX8_takes 16 = .ok (.getfield 201, 3) := by decide +kernel
theorem dX8_takes_19 : decode cX8_takes 19 = .ok (.iload_n 2, 1) := by decide +kernel
theorem dX8_takes_20 : decode cX8_takes 20 = .ok (.ifCond .eq 7, 3) := by decide +kernel
theorem dX8_takes_23 : decode cX8_takes 23 = .ok (.iconst 1, 1) := by decide +kernel
theorem dX8_takes_24 : decode cX8_takes 24 = .ok (.goto 4, 3) := by decide +kernel
theorem dX8_takes_27 : decode cX8_takes 27 = .ok (.iconst 0, 1) := by decide +kernel
theorem dX8_takes_28 : decode cX8_takes 28 = .ok (.iadd, 1) := by decide +kernel
theorem dX8_takes_29 : decode cX8_takes 29 = .ok (.putfield 201, 3) := by decide +kernel
theorem dX8_takes_32 : decode cX8_takes 32 = .ok (.iload_n 2, 1) := by decide +kernel
theorem dX8_takes_33 : decode cX8_takes 33 = .ok (.ireturn, 1) := by decide +kernel
theorem dX8_readsNumber_0 : decode cX8_readsNumber 0 = .ok (.aload_n 0, 1) := by decide +kernel
theorem dX8_readsNumber_1 : decode cX8_readsNumber 1 = .ok (.invokevirtual 204, 3) := by decide +kernel
theorem dX8_readsNumber_4 : decode cX8_readsNumber 4 = .ok (.bipush 48, 2) := by decide +kernel
theorem dX8_readsNumber_6 : decode cX8_readsNumber 6 = .ok (.isub, 1) := by decide +kernel
theorem dX8_readsNumber_7 : decode cX8_readsNumber 7 = .ok (.istore_n 2, 1) := by decide +kernel
theorem dX8_readsNumber_8 : decode cX8_readsNumber 8 = .ok (.iload_n 2, 1) := by decide +kernel
theorem dX8_readsNumber_9 : decode cX8_readsNumber 9 = .ok (.iconst 0, 1) := by decide +kernel
theorem dX8_readsNumber_10 : decode cX8_readsNumber 10 = .ok (.bipush 9, 2) := by decide +kernel
theorem dX8_readsNumber_12 : decode cX8_readsNumber 12 = .ok (.invokestatic 31, 3) := by decide +kernel
theorem dX8_readsNumber_15 : decode cX8_readsNumber 15 = .ok (.ifCond .ne 5, 3) := by decide +kernel
theorem dX8_readsNumber_18 : decode cX8_readsNumber 18 = .ok (.iconst 0, 1) := by decide +kernel
theorem dX8_readsNumber_19 : decode cX8_readsNumber 19 = .ok (.ireturn, 1) := by decide +kernel
theorem dX8_readsNumber_20 : decode cX8_readsNumber 20 = .ok (.aload_n 0, 1) := by decide +kernel
theorem dX8_readsNumber_21 : decode cX8_readsNumber 21 = .ok (.dup, 1) := by decide +kernel
theorem dX8_readsNumber_22 : decode cX8_readsNumber 22 = .ok (.getfield 201, 3) := by decide +kernel
theorem dX8_readsNumber_25 : decode cX8_readsNumber 25 = .ok (.iconst 1, 1) := by decide +kernel
theorem dX8_readsNumber_26 : decode cX8_readsNumber 26 = .ok (.iadd, 1) := by decide +kernel
theorem dX8_readsNumber_27 : decode cX8_readsNumber 27 = .ok (.putfield 201, 3) := by decide +kernel
theorem dX8_readsNumber_30 : decode cX8_readsNumber 30 = .ok (.iload_n 2, 1) := by decide +kernel
theorem dX8_readsNumber_31 : decode cX8_readsNumber 31 = .ok (.ifCond .le 40, 3) := by decide +kernel
theorem dX8_readsNumber_34 : decode cX8_readsNumber 34 = .ok (.aload_n 0, 1) := by decide +kernel
theorem dX8_readsNumber_35 : decode cX8_readsNumber 35 = .ok (.invokevirtual 204, 3) := by decide +kernel
theorem dX8_readsNumber_38 : decode cX8_readsNumber 38 = .ok (.bipush 48, 2) := by decide +kernel
theorem dX8_readsNumber_40 : decode cX8_readsNumber 40 = .ok (.bipush 57, 2) := by decide +kernel
theorem dX8_readsNumber_42 : decode cX8_readsNumber 42 = .ok (.invokestatic 31, 3) := by decide +kernel
theorem dX8_readsNumber_45 : decode cX8_readsNumber 45 = .ok (.ifCond .eq 26, 3) := by decide +kernel
theorem dX8_readsNumber_48 : decode cX8_readsNumber 48 = .ok (.bipush 10, 2) := by decide +kernel
theorem dX8_readsNumber_50 : decode cX8_readsNumber 50 = .ok (.iload_n 2, 1) := by decide +kernel
theorem dX8_readsNumber_51 : decode cX8_readsNumber 51 = .ok (.imul, 1) := by decide +kernel
theorem dX8_readsNumber_52 : decode cX8_readsNumber 52 = .ok (.aload_n 0, 1) := by decide +kernel
theorem dX8_readsNumber_53 : decode cX8_readsNumber 53 = .ok (.invokevirtual 204, 3) := by decide +kernel
theorem dX8_readsNumber_56 : decode cX8_readsNumber 56 = .ok (.iadd, 1) := by decide +kernel
theorem dX8_readsNumber_57 : decode cX8_readsNumber 57 = .ok (.bipush 48, 2) := by decide +kernel
theorem dX8_readsNumber_59 : decode cX8_readsNumber 59 = .ok (.isub, 1) := by decide +kernel
theorem dX8_readsNumber_60 : decode cX8_readsNumber 60 = .ok (.istore_n 2, 1) := by decide +kernel
theorem dX8_readsNumber_61 : decode cX8_readsNumber 61 = .ok (.aload_n 0, 1) := by decide +kernel
theorem dX8_readsNumber_62 : decode cX8_readsNumber 62 = .ok (.dup, 1) := by decide +kernel
theorem dX8_readsNumber_63 : decode cX8_readsNumber 63 = .ok (.getfield 201, 3) := by decide +kernel
theorem dX8_readsNumber_66 : decode cX8_readsNumber 66 = .ok (.iconst 1, 1) := by decide +kernel
theorem dX8_readsNumber_67 : decode cX8_readsNumber 67 = .ok (.iadd, 1) := by decide +kernel
theorem dX8_readsNumber_68 : decode cX8_readsNumber 68 = .ok (.putfield 201, 3) := by decide +kernel
theorem dX8_readsNumber_71 : decode cX8_readsNumber 71 = .ok (.aload_n 0, 1) := by decide +kernel
theorem dX8_readsNumber_72 : decode cX8_readsNumber 72 = .ok (.getfield 28, 3) := by decide +kernel
theorem dX8_readsNumber_75 : decode cX8_readsNumber 75 = .ok (.iload_n 1, 1) := by decide +kernel
theorem dX8_readsNumber_76 : decode cX8_readsNumber 76 = .ok (.iload_n 2, 1) := by decide +kernel
theorem dX8_readsNumber_77 : decode cX8_readsNumber 77 = .ok (.iastore, 1) := by decide +kernel
theorem dX8_readsNumber_78 : decode cX8_readsNumber 78 = .ok (.iconst 1, 1) := by decide +kernel
theorem dX8_readsNumber_79 : decode cX8_readsNumber 79 = .ok (.ireturn, 1) := by decide +kernel
theorem dX8_readsColour_0 : decode cX8_readsColour 0 = .ok (.aload_n 0, 1) := by decide +kernel
theorem dX8_readsColour_1 : decode cX8_readsColour 1 = .ok (.invokevirtual 204, 3) := by decide +kernel
theorem dX8_readsColour_4 : decode cX8_readsColour 4 = .ok (.istore_n 1, 1) := by decide +kernel
theorem dX8_readsColour_5 : decode cX8_readsColour 5 = .ok (.aload_n 0, 1) := by decide +kernel
theorem dX8_readsColour_6 : decode cX8_readsColour 6 = .ok (.getfield 28, 3) := by decide +kernel
theorem dX8_readsColour_9 : decode cX8_readsColour 9 = .ok (.iconst 1, 1) := by decide +kernel
theorem dX8_readsColour_10 : decode cX8_readsColour 10 = .ok (.iload_n 1, 1) := by decide +kernel
theorem dX8_readsColour_11 : decode cX8_readsColour 11 = .ok (.bipush 114, 2) := by decide +kernel
theorem dX8_readsColour_13 : decode cX8_readsColour 13 = .ok (.if_icmp .ne 7, 3) := by decide +kernel
theorem dX8_readsColour_16 : decode cX8_readsColour 16 = .ok (.iconst 0, 1) := by decide +kernel
theorem dX8_readsColour_17 : decode cX8_readsColour 17 = .ok (.goto 25, 3) := by decide +kernel
theorem dX8_readsColour_20 : decode cX8_readsColour 20 = .ok (.iload_n 1, 1) := by decide +kernel
theorem dX8_readsColour_21 : decode cX8_readsColour 21 = .ok (.bipush 103, 2) := by decide +kernel
theorem dX8_readsColour_23 : decode cX8_readsColour 23 = .ok (.if_icmp .ne 7, 3) := by decide +kernel
theorem dX8_readsColour_26 : decode cX8_readsColour 26 = .ok (.iconst 1, 1) := by decide +kernel
theorem dX8_readsColour_27 : decode cX8_readsColour 27 = .ok (.goto 15, 3) := by decide +kernel
theorem dX8_readsColour_30 : decode cX8_readsColour 30 = .ok (.iload_n 1, 1) := by decide +kernel
theorem dX8_readsColour_31 : decode cX8_readsColour 31 = .ok (.bipush 98, 2) := by decide +kernel
theorem dX8_readsColour_33 : decode cX8_readsColour 33 = .ok (.if_icmp .ne 7, 3) := by decide +kernel
theorem dX8_readsColour_36 : decode cX8_readsColour 36 = .ok (.iconst 2, 1) := by decide +kernel
theorem dX8_readsColour_37 : decode cX8_readsColour 37 = .ok (.goto 5, 3) := by decide +kernel
theorem dX8_readsColour_40 : decode cX8_readsColour 40 = .ok (.bipush (-6), 2) := by decide +kernel
theorem dX8_readsColour_42 : decode cX8_readsColour 42 = .ok (.iastore, 1) := by decide +kernel
theorem dX8_readsColour_43 : decode cX8_readsColour 43 = .ok (.aload_n 0, 1) := by decide +kernel
theorem dX8_readsColour_44 : decode cX8_readsColour 44 = .ok (.dup, 1) := by decide +kernel
theorem dX8_readsColour_45 : decode cX8_readsColour 45 = .ok (.getfield 201, 3) := by decide +kernel
theorem dX8_readsColour_48 : decode cX8_readsColour 48 = .ok (.aload_n 0, 1) := by decide +kernel
theorem dX8_readsColour_49 : decode cX8_readsColour 49 = .ok (.getfield 28, 3) := by decide +kernel
theorem dX8_readsColour_52 : decode cX8_readsColour 52 = .ok (.iconst 1, 1) := by decide +kernel
theorem dX8_readsColour_53 : decode cX8_readsColour 53 = .ok (.iaload, 1) := by decide +kernel
theorem dX8_readsColour_54 : decode cX8_readsColour 54 = .ok (.bipush (-6), 2) := by decide +kernel
theorem dX8_readsColour_56 : decode cX8_readsColour 56 = .ok (.if_icmp .ne 7, 3) := by decide +kernel
theorem dX8_readsColour_59 : decode cX8_readsColour 59 = .ok (.iconst 0, 1) := by decide +kernel
theorem dX8_readsColour_60 : decode cX8_readsColour 60 = .ok (.goto 4, 3) := by decide +kernel
theorem dX8_readsColour_63 : decode cX8_readsColour 63 = .ok (.iconst 1, 1) := by decide +kernel
theorem dX8_readsColour_64 : decode cX8_readsColour 64 = .ok (.iadd, 1) := by decide +kernel
theorem dX8_readsColour_65 : decode cX8_readsColour 65 = .ok (.putfield 201, 3) := by decide +kernel
theorem dX8_readsColour_68 : decode cX8_readsColour 68 = .ok (.aload_n 0, 1) := by decide +kernel
theorem dX8_readsColour_69 : decode cX8_readsColour 69 = .ok (.getfield 28, 3) := by decide +kernel
theorem dX8_readsColour_72 : decode cX8_readsColour 72 = .ok (.iconst 1, 1) := by decide +kernel
theorem dX8_readsColour_73 : decode cX8_readsColour 73 = .ok (.iaload, 1) := by decide +kernel
theorem dX8_readsColour_74 : decode cX8_readsColour 74 = .ok (.bipush (-6), 2) := by decide +kernel
theorem dX8_readsColour_76 : decode cX8_readsColour 76 = .ok (.if_icmp .eq 7, 3) := by decide +kernel
theorem dX8_readsColour_79 : decode cX8_readsColour 79 = .ok (.iconst 1, 1) := by decide +kernel
theorem dX8_readsColour_80 : decode cX8_readsColour 80 = .ok (.goto 4, 3) := by decide +kernel
theorem dX8_readsColour_83 : decode cX8_readsColour 83 = .ok (.iconst 0, 1) := by decide +kernel
theorem dX8_readsColour_84 : decode cX8_readsColour 84 = .ok (.ireturn, 1) := by decide +kernel
theorem dX8_readsWish_0 : decode cX8_readsWish 0 = .ok (.aload_n 0, 1) := by decide +kernel
theorem dX8_readsWish_1 : decode cX8_readsWish 1 = .ok (.iconst 0, 1) := by decide +kernel
theorem dX8_readsWish_2 : decode cX8_readsWish 2 = .ok (.invokevirtual 207, 3) := by decide +kernel
theorem dX8_readsWish_5 : decode cX8_readsWish 5 = .ok (.ifCond .eq 10, 3) := by decide +kernel
theorem dX8_readsWish_8 : decode cX8_readsWish 8 = .ok (.aload_n 0, 1) := by decide +kernel
theorem dX8_readsWish_9 : decode cX8_readsWish 9 = .ok (.invokevirtual 210, 3) := by decide +kernel
theorem dX8_readsWish_12 : decode cX8_readsWish 12 = .ok (.ifCond .ne 5, 3) := by decide +kernel
theorem dX8_readsWish_15 : decode cX8_readsWish 15 = .ok (.iconst 0, 1) := by decide +kernel
theorem dX8_readsWish_16 : decode cX8_readsWish 16 = .ok (.ireturn, 1) := by decide +kernel
theorem dX8_readsWish_17 : decode cX8_readsWish 17 = .ok (.aload_n 0, 1) := by decide +kernel
theorem dX8_readsWish_18 : decode cX8_readsWish 18 = .ok (.invokevirtual 204, 3) := by decide +kernel
theorem dX8_readsWish_21 : decode cX8_readsWish 21 = .ok (.bipush 45, 2) := by decide +kernel
theorem dX8_readsWish_23 : decode cX8_readsWish 23 = .ok (.if_icmp .ne 7, 3) := by decide +kernel
theorem dX8_readsWish_26 : decode cX8_readsWish 26 = .ok (.iconst 1, 1) := by decide +kernel
theorem dX8_readsWish_27 : decode cX8_readsWish 27 = .ok (.goto 4, 3) := by decide +kernel
theorem dX8_readsWish_30 : decode cX8_readsWish 30 = .ok (.iconst 0, 1) := by decide +kernel
theorem dX8_readsWish_31 : decode cX8_readsWish 31 = .ok (.istore_n 1, 1) := by decide +kernel
theorem dX8_readsWish_32 : decode cX8_readsWish 32 = .ok (.aload_n 0, 1) := by decide +kernel
theorem dX8_readsWish_33 : decode cX8_readsWish 33 = .ok (.bipush 43, 2) := by decide +kernel
theorem dX8_readsWish_35 : decode cX8_readsWish 35 = .ok (.invokevirtual 214, 3) := by decide +kernel
theorem dX8_readsWish_38 : decode cX8_readsWish 38 = .ok (.ifCond .ne 14, 3) := by decide +kernel
theorem dX8_readsWish_41 : decode cX8_readsWish 41 = .ok (.aload_n 0, 1) := by decide +kernel
theorem dX8_readsWish_42 : decode cX8_readsWish 42 = .ok (.bipush 45, 2) := by decide +kernel
theorem dX8_readsWish_44 : decode cX8_readsWish 44 = .ok (.invokevirtual 214, 3) := by decide +kernel
theorem dX8_readsWish_47 : decode cX8_readsWish 47 = .ok (.ifCond .ne 5, 3) := by decide +kernel
theorem dX8_readsWish_50 : decode cX8_readsWish 50 = .ok (.iconst 0, 1) := by decide +kernel
theorem dX8_readsWish_51 : decode cX8_readsWish 51 = .ok (.ireturn, 1) := by decide +kernel
theorem dX8_readsWish_52 : decode cX8_readsWish 52 = .ok (.aload_n 0, 1) := by decide +kernel
theorem dX8_readsWish_53 : decode cX8_readsWish 53 = .ok (.iconst 2, 1) := by decide +kernel
theorem dX8_readsWish_54 : decode cX8_readsWish 54 = .ok (.invokevirtual 207, 3) := by decide +kernel
theorem dX8_readsWish_57 : decode cX8_readsWish 57 = .ok (.istore_n 2, 1) := by decide +kernel
theorem dX8_readsWish_58 : decode cX8_readsWish 58 = .ok (.aload_n 0, 1) := by decide +kernel
theorem dX8_readsWish_59 : decode cX8_readsWish 59 = .ok (.getfield 28, 3) := by decide +kernel
theorem dX8_readsWish_62 : decode cX8_readsWish 62 = .ok (.iconst 2, 1) := by decide +kernel
theorem dX8_readsWish_63 : decode cX8_readsWish 63 = .ok (.iload_n 1, 1) := by decide +kernel
theorem dX8_readsWish_64 : decode cX8_readsWish 64 = .ok (.ifCond .eq 13, 3) := by decide +kernel
theorem dX8_readsWish_67 : decode cX8_readsWish 67 = .ok (.aload_n 0, 1) := by decide +kernel
theorem dX8_readsWish_68 : decode cX8_readsWish 68 = .ok (.getfield 28, 3) := by decide +kernel
theorem dX8_readsWish_71 : decode cX8_readsWish 71 = .ok (.iconst 2, 1) := by decide +kernel
theorem dX8_readsWish_72 : decode cX8_readsWish 72 = .ok (.iaload, 1) := by decide +kernel
theorem dX8_readsWish_73 : decode cX8_readsWish 73 = .ok (.ineg, 1) := by decide +kernel
theorem dX8_readsWish_74 : decode cX8_readsWish 74 = .ok (.goto 9, 3) := by decide +kernel
theorem dX8_readsWish_77 : decode cX8_readsWish 77 = .ok (.aload_n 0, 1) := by decide +kernel
theorem dX8_readsWish_78 : decode cX8_readsWish 78 = .ok (.getfield 28, 3) := by decide +kernel
theorem dX8_readsWish_81 : decode cX8_readsWish 81 = .ok (.iconst 2, 1) := by decide +kernel
theorem dX8_readsWish_82 : decode cX8_readsWish 82 = .ok (.iaload, 1) := by decide +kernel
theorem dX8_readsWish_83 : decode cX8_readsWish 83 = .ok (.iastore, 1) := by decide +kernel
theorem dX8_readsWish_84 : decode cX8_readsWish 84 = .ok (.iload_n 2, 1) := by decide +kernel
theorem dX8_readsWish_85 : decode cX8_readsWish 85 = .ok (.ireturn, 1) := by decide +kernel
theorem dX8_readsOrder_0 : decode cX8_readsOrder 0 = .ok (.aload_n 0, 1) := by decide +kernel
theorem dX8_readsOrder_1 : decode cX8_readsOrder 1 = .ok (.aload_n 0, 1) := by decide +kernel
theorem dX8_readsOrder_2 : decode cX8_readsOrder 2 = .ok (.invokevirtual 204, 3) := by decide +kernel
theorem dX8_readsOrder_5 : decode cX8_readsOrder 5 = .ok (.putfield 217, 3) := by decide +kernel
theorem dX8_readsOrder_8 : decode cX8_readsOrder 8 = .ok (.aload_n 0, 1) := by decide +kernel
theorem dX8_readsOrder_9 : decode cX8_readsOrder 9 = .ok (.dup, 1) := by decide +kernel
theorem dX8_readsOrder_10 : decode cX8_readsOrder 10 = .ok (.getfield 201, 3) := by decide +kernel
theorem dX8_readsOrder_13 : decode cX8_readsOrder 13 = .ok (.aload_n 0, 1) := by decide +kernel
theorem dX8_readsOrder_14 : decode cX8_readsOrder 14 = .ok (.getfield 217, 3) := by decide +kernel
theorem dX8_readsOrder_17 : decode cX8_readsOrder 17 = .ok (.ifCond .ne 7, 3) := by decide +kernel
theorem dX8_readsOrder_20 : decode cX8_readsOrder 20 = .ok (.iconst 0, 1) := by decide +kernel
theorem dX8_readsOrder_21 : decode cX8_readsOrder 21 = .ok (.goto 4, 3) := by decide +kernel
theorem dX8_readsOrder_24 : decode cX8_readsOrder 24 = .ok (.iconst 1, 1) := by decide +kernel
theorem dX8_readsOrder_25 : decode cX8_readsOrder 25 = .ok (.iadd, 1) := by decide +kernel
theorem dX8_readsOrder_26 : decode cX8_readsOrder 26 = .ok (.putfield 201, 3) := by decide +kernel
theorem dX8_readsOrder_29 : decode cX8_readsOrder 29 = .ok (.aload_n 0, 1) := by decide +kernel
theorem dX8_readsOrder_30 : decode cX8_readsOrder 30 = .ok (.getfield 217, 3) := by decide +kernel
theorem dX8_readsOrder_33 : decode cX8_readsOrder 33 = .ok (.tableswitch 254 97 119 #[252, 254, 246, 254, 254, 254, 254, 254, 254, 254, 252, 172, 215, 254, 254, 252, 254, 254, 107, 254, 254, 254, 210], 107) := by decide +kernel
theorem dX8_readsOrder_140 : decode cX8_readsOrder 140 = .ok (.aload_n 0, 1) := by decide +kernel
theorem dX8_readsOrder_141 : decode cX8_readsOrder 141 = .ok (.iconst 0, 1) := by decide +kernel
theorem dX8_readsOrder_142 : decode cX8_readsOrder 142 = .ok (.invokevirtual 207, 3) := by decide +kernel
theorem dX8_readsOrder_145 : decode cX8_readsOrder 145 = .ok (.ifCond .eq 58, 3) := by decide +kernel
theorem dX8_readsOrder_148 : decode cX8_readsOrder 148 = .ok (.aload_n 0, 1) := by decide +kernel
theorem dX8_readsOrder_149 : decode cX8_readsOrder 149 = .ok (.bipush 58, 2) := by decide +kernel
theorem dX8_readsOrder_151 : decode cX8_readsOrder 151 = .ok (.invokevirtual 214, 3) := by decide +kernel
theorem dX8_readsOrder_154 : decode cX8_readsOrder 154 = .ok (.ifCond .eq 49, 3) := by decide +kernel
theorem dX8_readsOrder_157 : decode cX8_readsOrder 157 = .ok (.aload_n 0, 1) := by decide +kernel
theorem dX8_readsOrder_158 : decode cX8_readsOrder 158 = .ok (.iconst 1, 1) := by decide +kernel
theorem dX8_readsOrder_159 : decode cX8_readsOrder 159 = .ok (.invokevirtual 207, 3) := by decide +kernel
theorem dX8_readsOrder_162 : decode cX8_readsOrder 162 = .ok (.ifCond .eq 41, 3) := by decide +kernel
theorem dX8_readsOrder_165 : decode cX8_readsOrder 165 = .ok (.aload_n 0, 1) := by decide +kernel
theorem dX8_readsOrder_166 : decode cX8_readsOrder 166 = .ok (.bipush 44, 2) := by decide +kernel
theorem dX8_readsOrder_168 : decode cX8_readsOrder 168 = .ok (.invokevirtual 214, 3) := by decide +kernel
theorem dX8_readsOrder_171 : decode cX8_readsOrder 171 = .ok (.ifCond .eq 32, 3) := by decide +kernel
theorem dX8_readsOrder_174 : decode cX8_readsOrder 174 = .ok (.aload_n 0, 1) := by decide +kernel
theorem dX8_readsOrder_175 : decode cX8_readsOrder 175 = .ok (.iconst 2, 1) := by decide +kernel
theorem dX8_readsOrder_176 : decode cX8_readsOrder 176 = .ok (.invokevirtual 207, 3) := by decide +kernel
theorem dX8_readsOrder_179 : decode cX8_readsOrder 179 = .ok (.ifCond .eq 24, 3) := by decide +kernel
theorem dX8_readsOrder_182 : decode cX8_readsOrder 182 = .ok (.aload_n 0, 1) := by decide +kernel
theorem dX8_readsOrder_183 : decode cX8_readsOrder 183 = .ok (.bipush 44, 2) := by decide +kernel
theorem dX8_readsOrder_185 : decode cX8_readsOrder 185 = .ok (.invokevirtual 214, 3) := by decide +kernel
theorem dX8_readsOrder_188 : decode cX8_readsOrder 188 = .ok (.ifCond .eq 15, 3) := by decide +kernel
theorem dX8_readsOrder_191 : decode cX8_readsOrder 191 = .ok (.aload_n 0, 1) := by decide +kernel
theorem dX8_readsOrder_192 : decode cX8_readsOrder 192 = .ok (.iconst 3, 1) := by decide +kernel
theorem dX8_readsOrder_193 : decode cX8_readsOrder 193 = .ok (.invokevirtual 207, 3) := by decide +kernel
theorem dX8_readsOrder_196 : decode cX8_readsOrder 196 = .ok (.ifCond .eq 7, 3) := by decide +kernel
theorem dX8_readsOrder_199 : decode cX8_readsOrder 199 = .ok (.iconst 1, 1) := by decide +kernel
theorem dX8_readsOrder_200 : decode cX8_readsOrder 200 = .ok (.goto 4, 3) := by decide +kernel
theorem dX8_readsOrder_203 : decode cX8_readsOrder 203 = .ok (.iconst 0, 1) := by decide +kernel
theorem dX8_readsOrder_204 : decode cX8_readsOrder 204 = .ok (.ireturn, 1) := by decide +kernel
theorem dX8_readsOrder_205 : decode cX8_readsOrder 205 = .ok (.aload_n 0, 1) := by decide +kernel
theorem dX8_readsOrder_206 : decode cX8_readsOrder 206 = .ok (.iconst 0, 1) := by decide +kernel
theorem dX8_readsOrder_207 : decode cX8_readsOrder 207 = .ok (.invokevirtual 207, 3) := by decide +kernel
theorem dX8_readsOrder_210 : decode cX8_readsOrder 210 = .ok (.ifCond .eq 31, 3) := by decide +kernel
theorem dX8_readsOrder_213 : decode cX8_readsOrder 213 = .ok (.aload_n 0, 1) := by decide +kernel
theorem dX8_readsOrder_214 : decode cX8_readsOrder 214 = .ok (.invokevirtual 210, 3) := by decide +kernel
theorem dX8_readsOrder_217 : decode cX8_readsOrder 217 = .ok (.ifCond .eq 24, 3) := by decide +kernel
theorem dX8_readsOrder_220 : decode cX8_readsOrder 220 = .ok (.aload_n 0, 1) := by decide +kernel
theorem dX8_readsOrder_221 : decode cX8_readsOrder 221 = .ok (.bipush 61, 2) := by decide +kernel
theorem dX8_readsOrder_223 : decode cX8_readsOrder 223 = .ok (.invokevirtual 214, 3) := by decide +kernel
theorem dX8_readsOrder_226 : decode cX8_readsOrder 226 = .ok (.ifCond .eq 15, 3) := by decide +kernel
theorem dX8_readsOrder_229 : decode cX8_readsOrder 229 = .ok (.aload_n 0, 1) := by decide +kernel
theorem dX8_readsOrder_230 : decode cX8_readsOrder 230 = .ok (.iconst 2, 1) := by decide +kernel
theorem dX8_readsOrder_231 : decode cX8_readsOrder 231 = .ok (.invokevirtual 207, 3) := by decide +kernel
theorem dX8_readsOrder_234 : decode cX8_readsOrder 234 = .ok (.ifCond .eq 7, 3) := by decide +kernel
theorem dX8_readsOrder_237 : decode cX8_readsOrder 237 = .ok (.iconst 1, 1) := by decide +kernel
theorem dX8_readsOrder_238 : decode cX8_readsOrder 238 = .ok (.goto 4, 3) := by decide +kernel
theorem dX8_readsOrder_241 : decode cX8_readsOrder 241 = .ok (.iconst 0, 1) := by decide +kernel
theorem dX8_readsOrder_242 : decode cX8_readsOrder 242 = .ok (.ireturn, 1) := by decide +kernel
theorem dX8_readsOrder_243 : decode cX8_readsOrder 243 = .ok (.aload_n 0, 1) := by decide +kernel
theorem dX8_readsOrder_244 : decode cX8_readsOrder 244 = .ok (.invokevirtual 220, 3) := by decide +kernel
theorem dX8_readsOrder_247 : decode cX8_readsOrder 247 = .ok (.ireturn, 1) := by decide +kernel
theorem dX8_readsOrder_248 : decode cX8_readsOrder 248 = .ok (.aload_n 0, 1) := by decide +kernel
theorem dX8_readsOrder_249 : decode cX8_readsOrder 249 = .ok (.iconst 0, 1) := by decide +kernel
theorem dX8_readsOrder_250 : decode cX8_readsOrder 250 = .ok (.invokevirtual 207, 3) := by decide +kernel
theorem dX8_readsOrder_253 : decode cX8_readsOrder 253 = .ok (.ifCond .eq 24, 3) := by decide +kernel
theorem dX8_readsOrder_256 : decode cX8_readsOrder 256 = .ok (.aload_n 0, 1) := by decide +kernel
theorem dX8_readsOrder_257 : decode cX8_readsOrder 257 = .ok (.bipush 62, 2) := by decide +kernel
theorem dX8_readsOrder_259 : decode cX8_readsOrder 259 = .ok (.invokevirtual 214, 3) := by decide +kernel
theorem dX8_readsOrder_262 : decode cX8_readsOrder 262 = .ok (.ifCond .eq 15, 3) := by decide +kernel
theorem dX8_readsOrder_265 : decode cX8_readsOrder 265 = .ok (.aload_n 0, 1) := by decide +kernel
theorem dX8_readsOrder_266 : decode cX8_readsOrder 266 = .ok (.iconst 1, 1) := by decide +kernel
theorem dX8_readsOrder_267 : decode cX8_readsOrder 267 = .ok (.invokevirtual 207, 3) := by decide +kernel
theorem dX8_readsOrder_270 : decode cX8_readsOrder 270 = .ok (.ifCond .eq 7, 3) := by decide +kernel
theorem dX8_readsOrder_273 : decode cX8_readsOrder 273 = .ok (.iconst 1, 1) := by decide +kernel
theorem dX8_readsOrder_274 : decode cX8_readsOrder 274 = .ok (.goto 4, 3) := by decide +kernel
theorem dX8_readsOrder_277 : decode cX8_readsOrder 277 = .ok (.iconst 0, 1) := by decide +kernel
theorem dX8_readsOrder_278 : decode cX8_readsOrder 278 = .ok (.ireturn, 1) := by decide +kernel
theorem dX8_readsOrder_279 : decode cX8_readsOrder 279 = .ok (.aload_n 0, 1) := by decide +kernel
theorem dX8_readsOrder_280 : decode cX8_readsOrder 280 = .ok (.iconst 0, 1) := by decide +kernel
theorem dX8_readsOrder_281 : decode cX8_readsOrder 281 = .ok (.invokevirtual 207, 3) := by decide +kernel
theorem dX8_readsOrder_284 : decode cX8_readsOrder 284 = .ok (.ireturn, 1) := by decide +kernel
theorem dX8_readsOrder_285 : decode cX8_readsOrder 285 = .ok (.iconst 1, 1) := by decide +kernel
theorem dX8_readsOrder_286 : decode cX8_readsOrder 286 = .ok (.ireturn, 1) := by decide +kernel
theorem dX8_readsOrder_287 : decode cX8_readsOrder 287 = .ok (.aload_n 0, 1) := by decide +kernel
theorem dX8_readsOrder_288 : decode cX8_readsOrder 288 = .ok (.dup, 1) := by decide +kernel
theorem dX8_readsOrder_289 : decode cX8_readsOrder 289 = .ok (.getfield 201, 3) := by decide +kernel
theorem dX8_readsOrder_292 : decode cX8_readsOrder 292 = .ok (.aload_n 0, 1) := by decide +kernel
theorem dX8_readsOrder_293 : decode cX8_readsOrder 293 = .ok (.getfield 217, 3) := by decide +kernel
theorem dX8_readsOrder_296 : decode cX8_readsOrder 296 = .ok (.ifCond .ne 7, 3) := by decide +kernel
theorem dX8_readsOrder_299 : decode cX8_readsOrder 299 = .ok (.iconst 0, 1) := by decide +kernel
theorem dX8_readsOrder_300 : decode cX8_readsOrder 300 = .ok (.goto 4, 3) := by decide +kernel
theorem dX8_readsOrder_303 : decode cX8_readsOrder 303 = .ok (.iconst 1, 1) := by decide +kernel
theorem dX8_readsOrder_304 : decode cX8_readsOrder 304 = .ok (.isub, 1) := by decide +kernel
theorem dX8_readsOrder_305 : decode cX8_readsOrder 305 = .ok (.putfield 201, 3) := by decide +kernel
theorem dX8_readsOrder_308 : decode cX8_readsOrder 308 = .ok (.iconst 0, 1) := by decide +kernel
theorem dX8_readsOrder_309 : decode cX8_readsOrder 309 = .ok (.ireturn, 1) := by decide +kernel
theorem dX8_findFault_0 : decode cX8_findFault 0 = .ok (.aload_n 0, 1) := by decide +kernel
theorem dX8_findFault_1 : decode cX8_findFault 1 = .ok (.iconst 0, 1) := by decide +kernel
theorem dX8_findFault_2 : decode cX8_findFault 2 = .ok (.putfield 201, 3) := by decide +kernel
theorem dX8_findFault_5 : decode cX8_findFault 5 = .ok (.aload_n 0, 1) := by decide +kernel
theorem dX8_findFault_6 : decode cX8_findFault 6 = .ok (.invokevirtual 223, 3) := by decide +kernel
theorem dX8_findFault_9 : decode cX8_findFault 9 = .ok (.ifCond .eq 31, 3) := by decide +kernel
theorem dX8_findFault_12 : decode cX8_findFault 12 = .ok (.aload_n 0, 1) := by decide +kernel
theorem dX8_findFault_13 : decode cX8_findFault 13 = .ok (.getfield 201, 3) := by decide +kernel
theorem dX8_findFault_16 : decode cX8_findFault 16 = .ok (.aload_n 0, 1) := by decide +kernel
theorem dX8_findFault_17 : decode cX8_findFault 17 = .ok (.getfield 177, 3) := by decide +kernel
theorem dX8_findFault_20 : decode cX8_findFault 20 = .ok (.if_icmp .ne 6, 3) := by decide +kernel
theorem dX8_findFault_23 : decode cX8_findFault 23 = .ok (.bipush (-6), 2) := by decide +kernel
theorem dX8_findFault_25 : decode cX8_findFault 25 = .ok (.ireturn, 1) := by decide +kernel
theorem dX8_findFault_26 : decode cX8_findFault 26 = .ok (.aload_n 0, 1) := by decide +kernel
theorem dX8_findFault_27 : decode cX8_findFault 27 = .ok (.bipush 59, 2) := by decide +kernel
theorem dX8_findFault_29 : decode cX8_findFault 29 = .ok (.invokevirtual 214, 3) := by decide +kernel
theorem dX8_findFault_32 : decode cX8_findFault 32 = .ok (.ifCond .ne (-27), 3) := by decide +kernel
theorem dX8_findFault_35 : decode cX8_findFault 35 = .ok (.aload_n 0, 1) := by decide +kernel
theorem dX8_findFault_36 : decode cX8_findFault 36 = .ok (.getfield 201, 3) := by decide +kernel
theorem dX8_findFault_39 : decode cX8_findFault 39 = .ok (.ireturn, 1) := by decide +kernel
theorem dX8_findFault_40 : decode cX8_findFault 40 = .ok (.aload_n 0, 1) := by decide +kernel
theorem dX8_findFault_41 : decode cX8_findFault 41 = .ok (.getfield 201, 3) := by decide +kernel
theorem dX8_findFault_44 : decode cX8_findFault 44 = .ok (.ireturn, 1) := by decide +kernel
theorem dX8_fault_0 : decode cX8_fault 0 = .ok (.aload_n 0, 1) := by decide +kernel
theorem dX8_fault_1 : decode cX8_fault 1 = .ok (.invokevirtual 226, 3) := by decide +kernel
theorem dX8_fault_4 : decode cX8_fault 4 = .ok (.ireturn, 1) := by decide +kernel
theorem dX8_doesOrder_0 : decode cX8_doesOrder 0 = .ok (.aload_n 0, 1) := by decide +kernel
theorem dX8_doesOrder_1 : decode cX8_doesOrder 1 = .ok (.getfield 217, 3) := by decide +kernel
theorem dX8_doesOrder_4 : decode cX8_doesOrder 4 = .ok (.tableswitch 227 97 119 #[222, 227, 211, 227, 227, 227, 227, 227, 227, 227, 227, 143, 189, 227, 227, 206, 227, 227, 108, 227, 227, 227, 166], 108) := by decide +kernel
theorem dX8_doesOrder_112 : decode cX8_doesOrder 112 = .ok (.aload_n 0, 1) := by decide +kernel
theorem dX8_doesOrder_113 : decode cX8_doesOrder 113 = .ok (.aload_n 0, 1) := by decide +kernel
theorem dX8_doesOrder_114 : decode cX8_doesOrder 114 = .ok (.getfield 7, 3) := by decide +kernel
theorem dX8_doesOrder_117 : decode cX8_doesOrder 117 = .ok (.iconst 4, 1) := by decide +kernel
theorem dX8_doesOrder_118 : decode cX8_doesOrder 118 = .ok (.iaload, 1) := by decide +kernel
theorem dX8_doesOrder_119 : decode cX8_doesOrder 119 = .ok (.aload_n 0, 1) := by decide +kernel
theorem dX8_doesOrder_120 : decode cX8_doesOrder 120 = .ok (.getfield 28, 3) := by decide +kernel
theorem dX8_doesOrder_123 : decode cX8_doesOrder 123 = .ok (.iconst 0, 1) := by decide +kernel
theorem dX8_doesOrder_124 : decode cX8_doesOrder 124 = .ok (.iaload, 1) := by decide +kernel
theorem dX8_doesOrder_125 : decode cX8_doesOrder 125 = .ok (.aload_n 0, 1) := by decide +kernel
theorem dX8_doesOrder_126 : decode cX8_doesOrder 126 = .ok (.getfield 28, 3) := by decide +kernel
theorem dX8_doesOrder_129 : decode cX8_doesOrder 129 = .ok (.iconst 1, 1) := by decide +kernel
theorem dX8_doesOrder_130 : decode cX8_doesOrder 130 = .ok (.iaload, 1) := by decide +kernel
theorem dX8_doesOrder_131 : decode cX8_doesOrder 131 = .ok (.aload_n 0, 1) := by decide +kernel
theorem dX8_doesOrder_132 : decode cX8_doesOrder 132 = .ok (.getfield 28, 3) := by decide +kernel
theorem dX8_doesOrder_135 : decode cX8_doesOrder 135 = .ok (.iconst 2, 1) := by decide +kernel
theorem dX8_doesOrder_136 : decode cX8_doesOrder 136 = .ok (.iaload, 1) := by decide +kernel
theorem dX8_doesOrder_137 : decode cX8_doesOrder 137 = .ok (.aload_n 0, 1) := by decide +kernel
theorem dX8_doesOrder_138 : decode cX8_doesOrder 138 = .ok (.getfield 28, 3) := by decide +kernel
theorem dX8_doesOrder_141 : decode cX8_doesOrder 141 = .ok (.iconst 3, 1) := by decide +kernel
theorem dX8_doesOrder_142 : decode cX8_doesOrder 142 = .ok (.iaload, 1) := by decide +kernel
theorem dX8_doesOrder_143 : decode cX8_doesOrder 143 = .ok (.invokevirtual 134, 3) := by decide +kernel
theorem dX8_doesOrder_146 : decode cX8_doesOrder 146 = .ok (.ireturn, 1) := by decide +kernel
theorem dX8_doesOrder_147 : decode cX8_doesOrder 147 = .ok (.aload_n 0, 1) := by decide +kernel
theorem dX8_doesOrder_148 : decode cX8_doesOrder 148 = .ok (.aload_n 0, 1) := by decide +kernel
theorem dX8_doesOrder_149 : decode cX8_doesOrder 149 = .ok (.getfield 28, 3) := by decide +kernel
theorem dX8_doesOrder_152 : decode cX8_doesOrder 152 = .ok (.iconst 0, 1) := by decide +kernel
theorem dX8_doesOrder_153 : decode cX8_doesOrder 153 = .ok (.iaload, 1) := by decide +kernel
theorem dX8_doesOrder_154 : decode cX8_doesOrder 154 = .ok (.aload_n 0, 1) := by decide +kernel
theorem dX8_doesOrder_155 : decode cX8_doesOrder 155 = .ok (.getfield 28, 3) := by decide +kernel
theorem dX8_doesOrder_158 : decode cX8_doesOrder 158 = .ok (.iconst 1, 1) := by decide +kernel
theorem dX8_doesOrder_159 : decode cX8_doesOrder 159 = .ok (.iaload, 1) := by decide +kernel
theorem dX8_doesOrder_160 : decode cX8_doesOrder 160 = .ok (.aload_n 0, 1) := by decide +kernel
theorem dX8_doesOrder_161 : decode cX8_doesOrder 161 = .ok (.getfield 28, 3) := by decide +kernel
theorem dX8_doesOrder_164 : decode cX8_doesOrder 164 = .ok (.iconst 2, 1) := by decide +kernel
theorem dX8_doesOrder_165 : decode cX8_doesOrder 165 = .ok (.iaload, 1) := by decide +kernel
theorem dX8_doesOrder_166 : decode cX8_doesOrder 166 = .ok (.invokevirtual 138, 3) := by decide +kernel
theorem dX8_doesOrder_169 : decode cX8_doesOrder 169 = .ok (.ireturn, 1) := by decide +kernel
theorem dX8_doesOrder_170 : decode cX8_doesOrder 170 = .ok (.aload_n 0, 1) := by decide +kernel
theorem dX8_doesOrder_171 : decode cX8_doesOrder 171 = .ok (.aload_n 0, 1) := by decide +kernel
theorem dX8_doesOrder_172 : decode cX8_doesOrder 172 = .ok (.getfield 28, 3) := by decide +kernel
theorem dX8_doesOrder_175 : decode cX8_doesOrder 175 = .ok (.iconst 0, 1) := by decide +kernel
theorem dX8_doesOrder_176 : decode cX8_doesOrder 176 = .ok (.iaload, 1) := by decide +kernel
theorem dX8_doesOrder_177 : decode cX8_doesOrder 177 = .ok (.aload_n 0, 1) := by decide +kernel
theorem dX8_doesOrder_178 : decode cX8_doesOrder 178 = .ok (.getfield 28, 3) := by decide +kernel
theorem dX8_doesOrder_181 : decode cX8_doesOrder 181 = .ok (.iconst 1, 1) := by decide +kernel
theorem dX8_doesOrder_182 : decode cX8_doesOrder 182 = .ok (.iaload, 1) := by decide +kernel
theorem dX8_doesOrder_183 : decode cX8_doesOrder 183 = .ok (.aload_n 0, 1) := by decide +kernel
theorem dX8_doesOrder_184 : decode cX8_doesOrder 184 = .ok (.getfield 28, 3) := by decide +kernel
theorem dX8_doesOrder_187 : decode cX8_doesOrder 187 = .ok (.iconst 2, 1) := by decide +kernel
theorem dX8_doesOrder_188 : decode cX8_doesOrder 188 = .ok (.iaload, 1) := by decide +kernel
theorem dX8_doesOrder_189 : decode cX8_doesOrder 189 = .ok (.invokevirtual 141, 3) := by decide +kernel
theorem dX8_doesOrder_192 : decode cX8_doesOrder 192 = .ok (.ireturn, 1) := by decide +kernel
theorem dX8_doesOrder_193 : decode cX8_doesOrder 193 = .ok (.aload_n 0, 1) := by decide +kernel
theorem dX8_doesOrder_194 : decode cX8_doesOrder 194 = .ok (.aload_n 0, 1) := by decide +kernel
theorem dX8_doesOrder_195 : decode cX8_doesOrder 195 = .ok (.getfield 28, 3) := by decide +kernel
theorem dX8_doesOrder_198 : decode cX8_doesOrder 198 = .ok (.iconst 0, 1) := by decide +kernel
theorem dX8_doesOrder_199 : decode cX8_doesOrder 199 = .ok (.iaload, 1) := by decide +kernel
theorem dX8_doesOrder_200 : decode cX8_doesOrder 200 = .ok (.aload_n 0, 1) := by decide +kernel
theorem dX8_doesOrder_201 : decode cX8_doesOrder 201 = .ok (.getfield 28, 3) := by decide +kernel
theorem dX8_doesOrder_204 : decode cX8_doesOrder 204 = .ok (.iconst 1, 1) := by decide +kernel
theorem dX8_doesOrder_205 : decode cX8_doesOrder 205 = .ok (.iaload, 1) := by decide +kernel
theorem dX8_doesOrder_206 : decode cX8_doesOrder 206 = .ok (.invokevirtual 144, 3) := by decide +kernel
theorem dX8_doesOrder_209 : decode cX8_doesOrder 209 = .ok (.ireturn, 1) := by decide +kernel
theorem dX8_doesOrder_210 : decode cX8_doesOrder 210 = .ok (.aload_n 0, 1) := by decide +kernel
theorem dX8_doesOrder_211 : decode cX8_doesOrder 211 = .ok (.invokevirtual 153, 3) := by decide +kernel
theorem dX8_doesOrder_214 : decode cX8_doesOrder 214 = .ok (.ireturn, 1) := by decide +kernel
theorem dX8_doesOrder_215 : decode cX8_doesOrder 215 = .ok (.aload_n 0, 1) := by decide +kernel
theorem dX8_doesOrder_216 : decode cX8_doesOrder 216 = .ok (.aload_n 0, 1) := by decide +kernel
theorem dX8_doesOrder_217 : decode cX8_doesOrder 217 = .ok (.getfield 28, 3) := by decide +kernel
theorem dX8_doesOrder_220 : decode cX8_doesOrder 220 = .ok (.iconst 0, 1) := by decide +kernel
theorem dX8_doesOrder_221 : decode cX8_doesOrder 221 = .ok (.iaload, 1) := by decide +kernel
theorem dX8_doesOrder_222 : decode cX8_doesOrder 222 = .ok (.invokevirtual 156, 3) := by decide +kernel
theorem dX8_doesOrder_225 : decode cX8_doesOrder 225 = .ok (.ireturn, 1) := by decide +kernel
theorem dX8_doesOrder_226 : decode cX8_doesOrder 226 = .ok (.aload_n 0, 1) := by decide +kernel
theorem dX8_doesOrder_227 : decode cX8_doesOrder 227 = .ok (.invokevirtual 159, 3) := by decide +kernel
theorem dX8_doesOrder_230 : decode cX8_doesOrder 230 = .ok (.ireturn, 1) := by decide +kernel
theorem dX8_doesOrder_231 : decode cX8_doesOrder 231 = .ok (.aload_n 0, 1) := by decide +kernel
theorem dX8_doesOrder_232 : decode cX8_doesOrder 232 = .ok (.invokevirtual 162, 3) := by decide +kernel
theorem dX8_doesOrder_235 : decode cX8_doesOrder 235 = .ok (.ireturn, 1) := by decide +kernel
theorem dX8_carryOut_0 : decode cX8_carryOut 0 = .ok (.aload_n 0, 1) := by decide +kernel
theorem dX8_carryOut_1 : decode cX8_carryOut 1 = .ok (.invokevirtual 226, 3) := by decide +kernel
theorem dX8_carryOut_4 : decode cX8_carryOut 4 = .ok (.bipush (-6), 2) := by decide +kernel
theorem dX8_carryOut_6 : decode cX8_carryOut 6 = .ok (.if_icmp .eq 6, 3) := by decide +kernel
theorem dX8_carryOut_9 : decode cX8_carryOut 9 = .ok (.bipush (-3), 2) := by decide +kernel
theorem dX8_carryOut_11 : decode cX8_carryOut 11 = .ok (.ireturn, 1) := by decide +kernel
theorem dX8_carryOut_12 : decode cX8_carryOut 12 = .ok (.aload_n 0, 1) := by decide +kernel
theorem dX8_carryOut_13 : decode cX8_carryOut 13 = .ok (.invokevirtual 46, 3) := by decide +kernel
theorem dX8_carryOut_16 : decode cX8_carryOut 16 = .ok (.aload_n 0, 1) := by decide +kernel
theorem dX8_carryOut_17 : decode cX8_carryOut 17 = .ok (.invokevirtual 39, 3) := by decide +kernel
theorem dX8_carryOut_20 : decode cX8_carryOut 20 = .ok (.aload_n 0, 1) := by decide +kernel
theorem dX8_carryOut_21 : decode cX8_carryOut 21 = .ok (.iconst 0, 1) := by decide +kernel
theorem dX8_carryOut_22 : decode cX8_carryOut 22 = .ok (.putfield 201, 3) := by decide +kernel
theorem dX8_carryOut_25 : decode cX8_carryOut 25 = .ok (.iconst 0, 1) := by decide +kernel
theorem dX8_carryOut_26 : decode cX8_carryOut 26 = .ok (.istore_n 1, 1) := by decide +kernel
theorem dX8_carryOut_27 : decode cX8_carryOut 27 = .ok (.iconst 1, 1) := by decide +kernel
theorem dX8_carryOut_28 : decode cX8_carryOut 28 = .ok (.istore_n 2, 1) := by decide +kernel
theorem dX8_carryOut_29 : decode cX8_carryOut 29 = .ok (.iload_n 2, 1) := by decide +kernel
theorem dX8_carryOut_30 : decode cX8_carryOut 30 = .ok (.ifCond .eq 59, 3) := by decide +kernel
theorem dX8_carryOut_33 : decode cX8_carryOut 33 = .ok (.aload_n 0, 1) := by decide +kernel
theorem dX8_carryOut_34 : decode cX8_carryOut 34 = .ok (.getfield 201, 3) := by decide +kernel
theorem dX8_carryOut_37 : decode cX8_carryOut 37 = .ok (.aload_n 0, 1) := by decide +kernel
theorem dX8_carryOut_38 : decode cX8_carryOut 38 = .ok (.getfield 177, 3) := by decide +kernel
theorem dX8_carryOut_41 : decode cX8_carryOut 41 = .ok (.if_icmp .ge 48, 3) := by decide +kernel
theorem dX8_carryOut_44 : decode cX8_carryOut 44 = .ok (.aload_n 0, 1) := by decide +kernel
theorem dX8_carryOut_45 : decode cX8_carryOut 45 = .ok (.invokevirtual 223, 3) := by decide +kernel
theorem dX8_carryOut_48 : decode cX8_carryOut 48 = .ok (.ifCond .eq 14, 3) := by decide +kernel
theorem dX8_carryOut_51 : decode cX8_carryOut 51 = .ok (.aload_n 0, 1) := by decide +kernel
theorem dX8_carryOut_52 : decode cX8_carryOut 52 = .ok (.invokevirtual 229, 3) := by decide +kernel
theorem dX8_carryOut_55 : decode cX8_carryOut 55 = .ok (.ifCond .lt 7, 3) := by decide +kernel
theorem dX8_carryOut_58 : decode cX8_carryOut 58 = .ok (.iconst 1, 1) := by decide +kernel
theorem dX8_carryOut_59 : decode cX8_carryOut 59 = .ok (.goto 4, 3) := by decide +kernel
theorem dX8_carryOut_62 : decode cX8_carryOut 62 = .ok (.iconst 0, 1) := by decide +kernel
theorem dX8_carryOut_63 : decode cX8_carryOut 63 = .ok (.istore_n 2, 1) := by decide +kernel
theorem dX8_carryOut_64 : decode cX8_carryOut 64 = .ok (.iload_n 1, 1) := by decide +kernel
theorem dX8_carryOut_65 : decode cX8_carryOut 65 = .ok (.iload_n 2, 1) := by decide +kernel
theorem dX8_carryOut_66 : decode cX8_carryOut 66 = .ok (.ifCond .eq 7, 3) := by decide +kernel
theorem dX8_carryOut_69 : decode cX8_carryOut 69 = .ok (.iconst 1, 1) := by decide +kernel
theorem dX8_carryOut_70 : decode cX8_carryOut 70 = .ok (.goto 4, 3) := by decide +kernel
theorem dX8_carryOut_73 : decode cX8_carryOut 73 = .ok (.iconst 0, 1) := by decide +kernel
theorem dX8_carryOut_74 : decode cX8_carryOut 74 = .ok (.iadd, 1) := by decide +kernel
theorem dX8_carryOut_75 : decode cX8_carryOut 75 = .ok (.istore_n 1, 1) := by decide +kernel
theorem dX8_carryOut_76 : decode cX8_carryOut 76 = .ok (.aload_n 0, 1) := by decide +kernel
theorem dX8_carryOut_77 : decode cX8_carryOut 77 = .ok (.dup, 1) := by decide +kernel
theorem dX8_carryOut_78 : decode cX8_carryOut 78 = .ok (.getfield 201, 3) := by decide +kernel
theorem dX8_carryOut_81 : decode cX8_carryOut 81 = .ok (.iconst 1, 1) := by decide +kernel
theorem dX8_carryOut_82 : decode cX8_carryOut 82 = .ok (.iadd, 1) := by decide +kernel
theorem dX8_carryOut_83 : decode cX8_carryOut 83 = .ok (.putfield 201, 3) := by decide +kernel
theorem dX8_carryOut_86 : decode cX8_carryOut 86 = .ok (.goto (-57), 3) := by decide +kernel
theorem dX8_carryOut_89 : decode cX8_carryOut 89 = .ok (.aload_n 0, 1) := by decide +kernel
theorem dX8_carryOut_90 : decode cX8_carryOut 90 = .ok (.iconst 0, 1) := by decide +kernel
theorem dX8_carryOut_91 : decode cX8_carryOut 91 = .ok (.putfield 177, 3) := by decide +kernel
theorem dX8_carryOut_94 : decode cX8_carryOut 94 = .ok (.iload_n 1, 1) := by decide +kernel
theorem dX8_carryOut_95 : decode cX8_carryOut 95 = .ok (.ireturn, 1) := by decide +kernel
theorem dJ9_abs_0f7a4_0 : decode cJ9_abs_0f7a4 0 = .ok (.iload_n 0, 1) := by decide +kernel
theorem dJ9_abs_0f7a4_1 : decode cJ9_abs_0f7a4 1 = .ok (.ifCond .ge 8, 3) := by decide +kernel
theorem dJ9_abs_0f7a4_4 : decode cJ9_abs_0f7a4 4 = .ok (.iload_n 0, 1) := by decide +kernel
theorem dJ9_abs_0f7a4_5 : decode cJ9_abs_0f7a4 5 = .ok (.ineg, 1) := by decide +kernel
theorem dJ9_abs_0f7a4_6 : decode cJ9_abs_0f7a4 6 = .ok (.goto 4, 3) := by decide +kernel
theorem dJ9_abs_0f7a4_9 : decode cJ9_abs_0f7a4 9 = .ok (.iload_n 0, 1) := by decide +kernel
theorem dJ9_abs_0f7a4_10 : decode cJ9_abs_0f7a4 10 = .ok (.ireturn, 1) := by decide +kernel
theorem dJ9_max_7cf53_0 : decode cJ9_max_7cf53 0 = .ok (.iload_n 0, 1) := by decide +kernel
theorem dJ9_max_7cf53_1 : decode cJ9_max_7cf53 1 = .ok (.iload_n 1, 1) := by decide +kernel
theorem dJ9_max_7cf53_2 : decode cJ9_max_7cf53 2 = .ok (.if_icmp .lt 7, 3) := by decide +kernel
theorem dJ9_max_7cf53_5 : decode cJ9_max_7cf53 5 = .ok (.iload_n 0, 1) := by decide +kernel
theorem dJ9_max_7cf53_6 : decode cJ9_max_7cf53 6 = .ok (.goto 4, 3) := by decide +kernel
theorem dJ9_max_7cf53_9 : decode cJ9_max_7cf53 9 = .ok (.iload_n 1, 1) := by decide +kernel
theorem dJ9_max_7cf53_10 : decode cJ9_max_7cf53 10 = .ok (.ireturn, 1) := by decide +kernel
theorem dJ9_min_7cf53_0 : decode cJ9_min_7cf53 0 = .ok (.iload_n 0, 1) := by decide +kernel
theorem dJ9_min_7cf53_1 : decode cJ9_min_7cf53 1 = .ok (.iload_n 1, 1) := by decide +kernel
theorem dJ9_min_7cf53_2 : decode cJ9_min_7cf53 2 = .ok (.if_icmp .gt 7, 3) := by decide +kernel
theorem dJ9_min_7cf53_5 : decode cJ9_min_7cf53 5 = .ok (.iload_n 0, 1) := by decide +kernel
theorem dJ9_min_7cf53_6 : decode cJ9_min_7cf53 6 = .ok (.goto 4, 3) := by decide +kernel
theorem dJ9_min_7cf53_9 : decode cJ9_min_7cf53 9 = .ok (.iload_n 1, 1) := by decide +kernel
theorem dJ9_min_7cf53_10 : decode cJ9_min_7cf53 10 = .ok (.ireturn, 1) := by decide +kernel
theorem dJ0_length_8abf5_0 : decode cJ0_length_8abf5 0 = .ok (.aload_n 0, 1) := by decide +kernel
theorem dJ0_length_8abf5_1 : decode cJ0_length_8abf5 1 = .ok (.getfield 9, 3) := by decide +kernel
theorem dJ0_length_8abf5_4 : decode cJ0_length_8abf5 4 = .ok (.arraylength, 1) := by decide +kernel
theorem dJ0_length_8abf5_5 : decode cJ0_length_8abf5 5 = .ok (.aload_n 0, 1) := by decide +kernel
theorem dJ0_length_8abf5_6 : decode cJ0_length_8abf5 6 = .ok (.invokevirtual 335, 3) := by decide +kernel
theorem dJ0_length_8abf5_9 : decode cJ0_length_8abf5 9 = .ok (.ishr, 1) := by decide +kernel
theorem dJ0_length_8abf5_10 : decode cJ0_length_8abf5 10 = .ok (.ireturn, 1) := by decide +kernel
theorem dJ0_isEmpty_aae02_0 : decode cJ0_isEmpty_aae02 0 = .ok (.aload_n 0, 1) := by decide +kernel
theorem dJ0_isEmpty_aae02_1 : decode cJ0_isEmpty_aae02 1 = .ok (.getfield 9, 3) := by decide +kernel
theorem dJ0_isEmpty_aae02_4 : decode cJ0_isEmpty_aae02 4 = .ok (.arraylength, 1) := by decide +kernel
theorem dJ0_isEmpty_aae02_5 : decode cJ0_isEmpty_aae02 5 = .ok (.ifCond .ne 7, 3) := by decide +kernel
theorem dJ0_isEmpty_aae02_8 : decode cJ0_isEmpty_aae02 8 = .ok (.iconst 1, 1) := by decide +kernel
theorem dJ0_isEmpty_aae02_9 : decode cJ0_isEmpty_aae02 9 = .ok (.goto 4, 3) := by decide +kernel
theorem dJ0_isEmpty_aae02_12 : decode cJ0_isEmpty_aae02 12 = .ok (.iconst 0, 1) := by decide +kernel
theorem dJ0_isEmpty_aae02_13 : decode cJ0_isEmpty_aae02 13 = .ok (.ireturn, 1) := by decide +kernel
theorem dJ0_charAt_5068e_0 : decode cJ0_charAt_5068e 0 = .ok (.aload_n 0, 1) := by decide +kernel
theorem dJ0_charAt_5068e_1 : decode cJ0_charAt_5068e 1 = .ok (.invokevirtual 492, 3) := by decide +kernel
theorem dJ0_charAt_5068e_4 : decode cJ0_charAt_5068e 4 = .ok (.ifCond .eq 12, 3) := by decide +kernel
theorem dJ0_charAt_5068e_7 : decode cJ0_charAt_5068e 7 = .ok (.aload_n 0, 1) := by decide +kernel
theorem dJ0_charAt_5068e_8 : decode cJ0_charAt_5068e 8 = .ok (.getfield 9, 3) := by decide +kernel
theorem dJ0_charAt_5068e_11 : decode cJ0_charAt_5068e 11 = .ok (.iload_n 1, 1) := by decide +kernel
theorem dJ0_charAt_5068e_12 : decode cJ0_charAt_5068e 12 = .ok (.invokestatic 495, 3) := by decide +kernel
theorem dJ0_charAt_5068e_15 : decode cJ0_charAt_5068e 15 = .ok (.ireturn, 1) := by decide +kernel
theorem dJ0_charAt_5068e_16 : decode cJ0_charAt_5068e 16 = .ok (.aload_n 0, 1) := by decide +kernel
theorem dJ0_charAt_5068e_17 : decode cJ0_charAt_5068e 17 = .ok (.getfield 9, 3) := by decide +kernel
theorem dJ0_charAt_5068e_20 : decode cJ0_charAt_5068e 20 = .ok (.iload_n 1, 1) := by decide +kernel
theorem dJ0_charAt_5068e_21 : decode cJ0_charAt_5068e 21 = .ok (.invokestatic 498, 3) := by decide +kernel
theorem dJ0_charAt_5068e_24 : decode cJ0_charAt_5068e 24 = .ok (.ireturn, 1) := by decide +kernel
theorem dJ0_coder_7d493_0 : decode cJ0_coder_7d493 0 = .ok (.getstatic 38, 3) := by decide +kernel
theorem dJ0_coder_7d493_3 : decode cJ0_coder_7d493 3 = .ok (.ifCond .eq 10, 3) := by decide +kernel
theorem dJ0_coder_7d493_6 : decode cJ0_coder_7d493 6 = .ok (.aload_n 0, 1) := by decide +kernel
theorem dJ0_coder_7d493_7 : decode cJ0_coder_7d493 7 = .ok (.getfield 15, 3) := by decide +kernel
theorem dJ0_coder_7d493_10 : decode cJ0_coder_7d493 10 = .ok (.goto 4, 3) := by decide +kernel
theorem dJ0_coder_7d493_13 : decode cJ0_coder_7d493 13 = .ok (.iconst 1, 1) := by decide +kernel
theorem dJ0_coder_7d493_14 : decode cJ0_coder_7d493 14 = .ok (.ireturn, 1) := by decide +kernel
theorem dJ0_isLatin1_aae02_0 : decode cJ0_isLatin1_aae02 0 = .ok (.getstatic 38, 3) := by decide +kernel
theorem dJ0_isLatin1_aae02_3 : decode cJ0_isLatin1_aae02 3 = .ok (.ifCond .eq 14, 3) := by decide +kernel
theorem dJ0_isLatin1_aae02_6 : decode cJ0_isLatin1_aae02 6 = .ok (.aload_n 0, 1) := by decide +kernel
theorem dJ0_isLatin1_aae02_7 : decode cJ0_isLatin1_aae02 7 = .ok (.getfield 15, 3) := by decide +kernel
theorem dJ0_isLatin1_aae02_10 : decode cJ0_isLatin1_aae02 10 = .ok (.ifCond .ne 7, 3) := by decide +kernel
theorem dJ0_isLatin1_aae02_13 : decode cJ0_isLatin1_aae02 13 = .ok (.iconst 1, 1) := by decide +kernel
theorem dJ0_isLatin1_aae02_14 : decode cJ0_isLatin1_aae02 14 = .ok (.goto 4, 3) := by decide +kernel
theorem dJ0_isLatin1_aae02_17 : decode cJ0_isLatin1_aae02 17 = .ok (.iconst 0, 1) := by decide +kernel
theorem dJ0_isLatin1_aae02_18 : decode cJ0_isLatin1_aae02 18 = .ok (.ireturn, 1) := by decide +kernel
theorem dJ0_checkIndex_df160_0 : decode cJ0_checkIndex_df160 0 = .ok (.iload_n 0, 1) := by decide +kernel
theorem dJ0_checkIndex_df160_1 : decode cJ0_checkIndex_df160 1 = .ok (.iload_n 1, 1) := by decide +kernel
theorem dJ0_checkIndex_df160_2 : decode cJ0_checkIndex_df160 2 = .ok (.getstatic 1053, 3) := by decide +kernel
theorem dJ0_checkIndex_df160_5 : decode cJ0_checkIndex_df160 5 = .ok (.invokestatic 1059, 3) := by decide +kernel
theorem dJ0_checkIndex_df160_8 : decode cJ0_checkIndex_df160 8 = .ok (.pop, 1) := by decide +kernel
theorem dJ0_checkIndex_df160_9 : decode cJ0_checkIndex_df160 9 = .ok (.return_, 1) := by decide +kernel
theorem dJ1_charAt_3b067_0 : decode cJ1_charAt_3b067 0 = .ok (.iload_n 1, 1) := by decide +kernel
theorem dJ1_charAt_3b067_1 : decode cJ1_charAt_3b067 1 = .ok (.aload_n 0, 1) := by decide +kernel
theorem dJ1_charAt_3b067_2 : decode cJ1_charAt_3b067 2 = .ok (.arraylength, 1) := by decide +kernel
theorem dJ1_charAt_3b067_3 : decode cJ1_charAt_3b067 3 = .ok (.invokestatic 9, 3) := by decide +kernel
theorem dJ1_charAt_3b067_6 : decode cJ1_charAt_3b067 6 = .ok (.aload_n 0, 1) := by decide +kernel
theorem dJ1_charAt_3b067_7 : decode cJ1_charAt_3b067 7 = .ok (.iload_n 1, 1) := by decide +kernel
theorem dJ1_charAt_3b067_8 : decode cJ1_charAt_3b067 8 = .ok (.baload, 1) := by decide +kernel
theorem dJ1_charAt_3b067_9 : decode cJ1_charAt_3b067 9 = .ok (.sipush 255, 3) := by decide +kernel
theorem dJ1_charAt_3b067_12 : decode cJ1_charAt_3b067 12 = .ok (.iand, 1) := by decide +kernel
theorem dJ1_charAt_3b067_13 : decode cJ1_charAt_3b067 13 = .ok (.i2c, 1) := by decide +kernel
theorem dJ1_charAt_3b067_14 : decode cJ1_charAt_3b067 14 = .ok (.ireturn, 1) := by decide +kernel
theorem dJ2_getChar_3b067_0 : decode cJ2_getChar_3b067 0 = .ok (.getstatic 44, 3) := by decide +kernel
theorem dJ2_getChar_3b067_3 : decode cJ2_getChar_3b067 3 = .ok (.ifCond .ne 25, 3) := by decide +kernel
theorem dJ2_getChar_3b067_6 : decode cJ2_getChar_3b067 6 = .ok (.iload_n 1, 1) := by decide +kernel
theorem dJ2_getChar_3b067_7 : decode cJ2_getChar_3b067 7 = .ok (.ifCond .lt 11, 3) := by decide +kernel
theorem dJ2_getChar_3b067_10 : decode cJ2_getChar_3b067 10 = .ok (.iload_n 1, 1) := by decide +kernel
theorem dJ2_getChar_3b067_11 : decode cJ2_getChar_3b067 11 = .ok (.aload_n 0, 1) := by decide +kernel
theorem dJ2_getChar_3b067_12 : decode cJ2_getChar_3b067 12 = .ok (.invokestatic 48, 3) := by decide +kernel
theorem dJ2_getChar_3b067_15 : decode cJ2_getChar_3b067 15 = .ok (.if_icmp .lt 13, 3) := by decide +kernel
theorem dJ2_getChar_3b067_18 : decode cJ2_getChar_3b067 18 = .ok (.new 52, 3) := by decide +kernel
theorem dJ2_getChar_3b067_21 : decode cJ2_getChar_3b067 21 = .ok (.dup, 1) := by decide +kernel
theorem dJ2_getChar_3b067_22 : decode cJ2_getChar_3b067 22 = .ok (.ldc 54, 2) := by decide +kernel
theorem dJ2_getChar_3b067_24 : decode cJ2_getChar_3b067 24 = .ok (.invokespecial 56, 3) := by decide +kernel
theorem dJ2_getChar_3b067_27 : decode cJ2_getChar_3b067 27 = .ok (.athrow, 1) := by decide +kernel
theorem dJ2_getChar_3b067_28 : decode cJ2_getChar_3b067 28 = .ok (.iload_n 1, 1) := by decide +kernel
theorem dJ2_getChar_3b067_29 : decode cJ2_getChar_3b067 29 = .ok (.iconst 1, 1) := by decide +kernel
theorem dJ2_getChar_3b067_30 : decode cJ2_getChar_3b067 30 = .ok (.ishl, 1) := by decide +kernel
theorem dJ2_getChar_3b067_31 : decode cJ2_getChar_3b067 31 = .ok (.istore_n 1, 1) := by decide +kernel
theorem dJ2_getChar_3b067_32 : decode cJ2_getChar_3b067 32 = .ok (.aload_n 0, 1) := by decide +kernel
theorem dJ2_getChar_3b067_33 : decode cJ2_getChar_3b067 33 = .ok (.iload_n 1, 1) := by decide +kernel
theorem dJ2_getChar_3b067_34 : decode cJ2_getChar_3b067 34 = .ok (.iinc 1 1, 3) := by decide +kernel
theorem dJ2_getChar_3b067_37 : decode cJ2_getChar_3b067 37 = .ok (.baload, 1) := by decide +kernel
theorem dJ2_getChar_3b067_38 : decode cJ2_getChar_3b067 38 = .ok (.sipush 255, 3) := by decide +kernel
theorem dJ2_getChar_3b067_41 : decode cJ2_getChar_3b067 41 = .ok (.iand, 1) := by decide +kernel
theorem dJ2_getChar_3b067_42 : decode cJ2_getChar_3b067 42 = .ok (.getstatic 59, 3) := by decide +kernel
theorem dJ2_getChar_3b067_45 : decode cJ2_getChar_3b067 45 = .ok (.ishl, 1) := by decide +kernel
theorem dJ2_getChar_3b067_46 : decode cJ2_getChar_3b067 46 = .ok (.aload_n 0, 1) := by decide +kernel
theorem dJ2_getChar_3b067_47 : decode cJ2_getChar_3b067 47 = .ok (.iload_n 1, 1) := by decide +kernel
theorem dJ2_getChar_3b067_48 : decode cJ2_getChar_3b067 48 = .ok (.baload, 1) := by decide +kernel
theorem dJ2_getChar_3b067_49 : decode cJ2_getChar_3b067 49 = .ok (.sipush 255, 3) := by decide +kernel
theorem dJ2_getChar_3b067_52 : decode cJ2_getChar_3b067 52 = .ok (.iand, 1) := by decide +kernel
theorem dJ2_getChar_3b067_53 : decode cJ2_getChar_3b067 53 = .ok (.getstatic 63, 3) := by decide +kernel
theorem dJ2_getChar_3b067_56 : decode cJ2_getChar_3b067 56 = .ok (.ishl, 1) := by decide +kernel
theorem dJ2_getChar_3b067_57 : decode cJ2_getChar_3b067 57 = .ok (.ior, 1) := by decide +kernel
theorem dJ2_getChar_3b067_58 : decode cJ2_getChar_3b067 58 = .ok (.i2c, 1) := by decide +kernel
theorem dJ2_getChar_3b067_59 : decode cJ2_getChar_3b067 59 = .ok (.ireturn, 1) := by decide +kernel
theorem dJ2_length_9d52b_0 : decode cJ2_length_9d52b 0 = .ok (.aload_n 0, 1) := by decide +kernel
theorem dJ2_length_9d52b_1 : decode cJ2_length_9d52b 1 = .ok (.arraylength, 1) := by decide +kernel
theorem dJ2_length_9d52b_2 : decode cJ2_length_9d52b 2 = .ok (.iconst 1, 1) := by decide +kernel
theorem dJ2_length_9d52b_3 : decode cJ2_length_9d52b 3 = .ok (.ishr, 1) := by decide +kernel
theorem dJ2_length_9d52b_4 : decode cJ2_length_9d52b 4 = .ok (.ireturn, 1) := by decide +kernel
theorem dJ2_charAt_3b067_0 : decode cJ2_charAt_3b067 0 = .ok (.iload_n 1, 1) := by decide +kernel
theorem dJ2_charAt_3b067_1 : decode cJ2_charAt_3b067 1 = .ok (.aload_n 0, 1) := by decide +kernel
theorem dJ2_charAt_3b067_2 : decode cJ2_charAt_3b067 2 = .ok (.invokestatic 67, 3) := by decide +kernel
theorem dJ2_charAt_3b067_5 : decode cJ2_charAt_3b067 5 = .ok (.aload_n 0, 1) := by decide +kernel
theorem dJ2_charAt_3b067_6 : decode cJ2_charAt_3b067 6 = .ok (.iload_n 1, 1) := by decide +kernel
theorem dJ2_charAt_3b067_7 : decode cJ2_charAt_3b067 7 = .ok (.invokestatic 71, 3) := by decide +kernel
theorem dJ2_charAt_3b067_10 : decode cJ2_charAt_3b067 10 = .ok (.ireturn, 1) := by decide +kernel
theorem dJ2_checkIndex_2214a_0 : decode cJ2_checkIndex_2214a 0 = .ok (.iload_n 0, 1) := by decide +kernel
theorem dJ2_checkIndex_2214a_1 : decode cJ2_checkIndex_2214a 1 = .ok (.aload_n 1, 1) := by decide +kernel
theorem dJ2_checkIndex_2214a_2 : decode cJ2_checkIndex_2214a 2 = .ok (.invokestatic 48, 3) := by decide +kernel
theorem dJ2_checkIndex_2214a_5 : decode cJ2_checkIndex_2214a 5 = .ok (.invokestatic 414, 3) := by decide +kernel
theorem dJ2_checkIndex_2214a_8 : decode cJ2_checkIndex_2214a 8 = .ok (.return_, 1) := by decide +kernel
theorem dJ3_checkIndex_8e157_0 : decode cJ3_checkIndex_8e157 0 = .ok (.iload_n 0, 1) := by decide +kernel
theorem dJ3_checkIndex_8e157_1 : decode cJ3_checkIndex_8e157 1 = .ok (.ifCond .lt 8, 3) := by decide +kernel
theorem dJ3_checkIndex_8e157_4 : decode cJ3_checkIndex_8e157 4 = .ok (.iload_n 0, 1) := by decide +kernel
theorem dJ3_checkIndex_8e157_5 : decode cJ3_checkIndex_8e157 5 = .ok (.iload_n 1, 1) := by decide +kernel
theorem dJ3_checkIndex_8e157_6 : decode cJ3_checkIndex_8e157 6 = .ok (.if_icmp .lt 10, 3) := by decide +kernel
theorem dJ3_checkIndex_8e157_9 : decode cJ3_checkIndex_8e157 9 = .ok (.aload_n 2, 1) := by decide +kernel
theorem dJ3_checkIndex_8e157_10 : decode cJ3_checkIndex_8e157 10 = .ok (.iload_n 0, 1) := by decide +kernel
theorem dJ3_checkIndex_8e157_11 : decode cJ3_checkIndex_8e157 11 = .ok (.iload_n 1, 1) := by decide +kernel
theorem dJ3_checkIndex_8e157_12 : decode cJ3_checkIndex_8e157 12 = .ok (.invokestatic 95, 3) := by decide +kernel
theorem dJ3_checkIndex_8e157_15 : decode cJ3_checkIndex_8e157 15 = .ok (.athrow, 1) := by decide +kernel
theorem dJ3_checkIndex_8e157_16 : decode cJ3_checkIndex_8e157 16 = .ok (.iload_n 0, 1) := by decide +kernel
theorem dJ3_checkIndex_8e157_17 : decode cJ3_checkIndex_8e157 17 = .ok (.ireturn, 1) := by decide +kernel
theorem dL_law_0 : decode cL_law 0 = .ok (.new 7, 3) := by decide +kernel
theorem dL_law_3 : decode cL_law 3 = .ok (.dup, 1) := by decide +kernel
theorem dL_law_4 : decode cL_law 4 = .ok (.invokespecial 9, 3) := by decide +kernel
theorem dL_law_7 : decode cL_law 7 = .ok (.astore_n 1, 1) := by decide +kernel
theorem dL_law_8 : decode cL_law 8 = .ok (.new 10, 3) := by decide +kernel
theorem dL_law_11 : decode cL_law 11 = .ok (.dup, 1) := by decide +kernel
theorem dL_law_12 : decode cL_law 12 = .ok (.invokespecial 12, 3) := by decide +kernel
theorem dL_law_15 : decode cL_law 15 = .ok (.astore_n 2, 1) := by decide +kernel
theorem dL_law_16 : decode cL_law 16 = .ok (.iconst 0, 1) := by decide +kernel
theorem dL_law_17 : decode cL_law 17 = .ok (.istore_n 3, 1) := by decide +kernel
theorem dL_law_18 : decode cL_law 18 = .ok (.iload_n 3, 1) := by decide +kernel
theorem dL_law_19 : decode cL_law 19 = .ok (.aload_n 0, 1) := by decide +kernel
theorem dL_law_20 : decode cL_law 20 = .ok (.arraylength, 1) := by decide +kernel
theorem dL_law_21 : decode cL_law 21 = .ok (.bipush 6, 2) := by decide +kernel
theorem dL_law_23 : decode cL_law 23 = .ok (.isub, 1) := by decide +kernel
theorem dL_law_24 : decode cL_law 24 = .ok (.if_icmp .gt 990, 3) := by decide +kernel
theorem dL_law_27 : decode cL_law 27 = .ok (.aload_n 0, 1) := by decide +kernel
theorem dL_law_28 : decode cL_law 28 = .ok (.iload_n 3, 1) := by decide +kernel
theorem dL_law_29 : decode cL_law 29 = .ok (.iaload, 1) := by decide +kernel
theorem dL_law_30 : decode cL_law 30 = .ok (.bipush 31, 2) := by decide +kernel
theorem dL_law_32 : decode cL_law 32 = .ok (.iand, 1) := by decide +kernel
theorem dL_law_33 : decode cL_law 33 = .ok (.tableswitch 975 0 29 #[135, 168, 231, 254, 297, 340, 373, 406, 429, 442, 465, 478, 491, 524, 547, 580, 623, 656, 679, 712, 755, 778, 811, 824, 877, 890, 903, 916, 929, 952], 135) := by decide +kernel
theorem dL_law_168 : decode cL_law 168 = .ok (.aload_n 1, 1) := by decide +kernel
theorem dL_law_169 : decode cL_law 169 = .ok (.aload_n 0, 1) := by decide +kernel
theorem dL_law_170 : decode cL_law 170 = .ok (.iload_n 3, 1) := by decide +kernel
theorem dL_law_171 : decode cL_law 171 = .ok (.iconst 1, 1) := by decide +kernel
theorem dL_law_172 : decode cL_law 172 = .ok (.iadd, 1) := by decide +kernel
theorem dL_law_173 : decode cL_law 173 = .ok (.iaload, 1) := by decide +kernel
theorem dL_law_174 : decode cL_law 174 = .ok (.aload_n 0, 1) := by decide +kernel
theorem dL_law_175 : decode cL_law 175 = .ok (.iload_n 3, 1) := by decide +kernel
theorem dL_law_176 : decode cL_law 176 = .ok (.iconst 2, 1) := by decide +kernel
theorem dL_law_177 : decode cL_law 177 = .ok (.iadd, 1) := by decide +kernel
theorem dL_law_178 : decode cL_law 178 = .ok (.iaload, 1) := by decide +kernel
theorem dL_law_179 : decode cL_law 179 = .ok (.invokevirtual 13, 3) := by decide +kernel
theorem dL_law_182 : decode cL_law 182 = .ok (.aload_n 2, 1) := by decide +kernel
theorem dL_law_183 : decode cL_law 183 = .ok (.aload_n 0, 1) := by decide +kernel
theorem dL_law_184 : decode cL_law 184 = .ok (.iload_n 3, 1) := by decide +kernel
theorem dL_law_185 : decode cL_law 185 = .ok (.iconst 1, 1) := by decide +kernel
theorem dL_law_186 : decode cL_law 186 = .ok (.iadd, 1) := by decide +kernel
theorem dL_law_187 : decode cL_law 187 = .ok (.iaload, 1) := by decide +kernel
theorem dL_law_188 : decode cL_law 188 = .ok (.aload_n 0, 1) := by decide +kernel
theorem dL_law_189 : decode cL_law 189 = .ok (.iload_n 3, 1) := by decide +kernel
theorem dL_law_190 : decode cL_law 190 = .ok (.iconst 2, 1) := by decide +kernel
theorem dL_law_191 : decode cL_law 191 = .ok (.iadd, 1) := by decide +kernel
theorem dL_law_192 : decode cL_law 192 = .ok (.iaload, 1) := by decide +kernel
theorem dL_law_193 : decode cL_law 193 = .ok (.invokevirtual 17, 3) := by decide +kernel
theorem dL_law_196 : decode cL_law 196 = .ok (.if_icmp .eq 812, 3) := by decide +kernel
theorem dL_law_199 : decode cL_law 199 = .ok (.iconst 0, 1) := by decide +kernel
theorem dL_law_200 : decode cL_law 200 = .ok (.ireturn, 1) := by decide +kernel
theorem dL_law_201 : decode cL_law 201 = .ok (.aload_n 1, 1) := by decide +kernel
theorem dL_law_202 : decode cL_law 202 = .ok (.aload_n 0, 1) := by decide +kernel
theorem dL_law_203 : decode cL_law 203 = .ok (.iload_n 3, 1) := by decide +kernel
theorem dL_law_204 : decode cL_law 204 = .ok (.iconst 1, 1) := by decide +kernel
theorem dL_law_205 : decode cL_law 205 = .ok (.iadd, 1) := by decide +kernel
theorem dL_law_206 : decode cL_law 206 = .ok (.iaload, 1) := by decide +kernel
theorem dL_law_207 : decode cL_law 207 = .ok (.aload_n 0, 1) := by decide +kernel
theorem dL_law_208 : decode cL_law 208 = .ok (.iload_n 3, 1) := by decide +kernel
theorem dL_law_209 : decode cL_law 209 = .ok (.iconst 2, 1) := by decide +kernel
theorem dL_law_210 : decode cL_law 210 = .ok (.iadd, 1) := by decide +kernel
theorem dL_law_211 : decode cL_law 211 = .ok (.iaload, 1) := by decide +kernel
theorem dL_law_212 : decode cL_law 212 = .ok (.aload_n 0, 1) := by decide +kernel
theorem dL_law_213 : decode cL_law 213 = .ok (.iload_n 3, 1) := by decide +kernel
theorem dL_law_214 : decode cL_law 214 = .ok (.iconst 3, 1) := by decide +kernel
theorem dL_law_215 : decode cL_law 215 = .ok (.iadd, 1) := by decide +kernel
theorem dL_law_216 : decode cL_law 216 = .ok (.iaload, 1) := by decide +kernel
theorem dL_law_217 : decode cL_law 217 = .ok (.aload_n 0, 1) := by decide +kernel
theorem dL_law_218 : decode cL_law 218 = .ok (.iload_n 3, 1) := by decide +kernel
theorem dL_law_219 : decode cL_law 219 = .ok (.iconst 4, 1) := by decide +kernel
theorem dL_law_220 : decode cL_law 220 = .ok (.iadd, 1) := by decide +kernel
theorem dL_law_221 : decode cL_law 221 = .ok (.iaload, 1) := by decide +kernel
theorem dL_law_222 : decode cL_law 222 = .ok (.aload_n 0, 1) := by decide +kernel
theorem dL_law_223 : decode cL_law 223 = .ok (.iload_n 3, 1) := by decide +kernel
theorem dL_law_224 : decode cL_law 224 = .ok (.iconst 5, 1) := by decide +kernel
theorem dL_law_225 : decode cL_law 225 = .ok (.iadd, 1) := by decide +kernel
theorem dL_law_226 : decode cL_law 226 = .ok (.iaload, 1) := by decide +kernel
theorem dL_law_227 : decode cL_law 227 = .ok (.invokevirtual 18, 3) := by decide +kernel
theorem dL_law_230 : decode cL_law 230 = .ok (.aload_n 2, 1) := by decide +kernel
theorem dL_law_231 : decode cL_law 231 = .ok (.aload_n 0, 1) := by decide +kernel
theorem dL_law_232 : decode cL_law 232 = .ok (.iload_n 3, 1) := by decide +kernel
theorem dL_law_233 : decode cL_law 233 = .ok (.iconst 1, 1) := by decide +kernel
theorem dL_law_234 : decode cL_law 234 = .ok (.iadd, 1) := by decide +kernel
theorem dL_law_235 : decode cL_law 235 = .ok (.iaload, 1) := by decide +kernel
theorem dL_law_236 : decode cL_law 236 = .ok (.aload_n 0, 1) := by decide +kernel
theorem dL_law_237 : decode cL_law 237 = .ok (.iload_n 3, 1) := by decide +kernel
theorem dL_law_238 : decode cL_law 238 = .ok (.iconst 2, 1) := by decide +kernel
theorem dL_law_239 : decode cL_law 239 = .ok (.iadd, 1) := by decide +kernel
theorem dL_law_240 : decode cL_law 240 = .ok (.iaload, 1) := by decide +kernel
theorem dL_law_241 : decode cL_law 241 = .ok (.aload_n 0, 1) := by decide +kernel
theorem dL_law_242 : decode cL_law 242 = .ok (.iload_n 3, 1) := by decide +kernel
theorem dL_law_243 : decode cL_law 243 = .ok (.iconst 3, 1) := by decide +kernel
theorem dL_law_244 : decode cL_law 244 = .ok (.iadd, 1) := by decide +kernel
theorem dL_law_245 : decode cL_law 245 = .ok (.iaload, 1) := by decide +kernel
theorem dL_law_246 : decode cL_law 246 = .ok (.aload_n 0, 1) := by decide +kernel
theorem dL_law_247 : decode cL_law 247 = .ok (.iload_n 3, 1) := by decide +kernel
theorem dL_law_248 : decode cL_law 248 = .ok (.iconst 4, 1) := by decide +kernel
theorem dL_law_249 : decode cL_law 249 = .ok (.iadd, 1) := by decide +kernel
theorem dL_law_250 : decode cL_law 250 = .ok (.iaload, 1) := by decide +kernel
theorem dL_law_251 : decode cL_law 251 = .ok (.aload_n 0, 1) := by decide +kernel
theorem dL_law_252 : decode cL_law 252 = .ok (.iload_n 3, 1) := by decide +kernel
theorem dL_law_253 : decode cL_law 253 = .ok (.iconst 5, 1) := by decide +kernel
theorem dL_law_254 : decode cL_law 254 = .ok (.iadd, 1) := by decide +kernel
theorem dL_law_255 : decode cL_law 255 = .ok (.iaload, 1) := by decide +kernel
theorem dL_law_256 : decode cL_law 256 = .ok (.invokevirtual 22, 3) := by decide +kernel
theorem dL_law_259 : decode cL_law 259 = .ok (.if_icmp .eq 749, 3) := by decide +kernel
theorem dL_law_262 : decode cL_law 262 = .ok (.iconst 0, 1) := by decide +kernel
theorem dL_law_263 : decode cL_law 263 = .ok (.ireturn, 1) := by decide +kernel
theorem dL_law_264 : decode cL_law 264 = .ok (.aload_n 1, 1) := by decide +kernel
theorem dL_law_265 : decode cL_law 265 = .ok (.aload_n 0, 1) := by decide +kernel
theorem dL_law_266 : decode cL_law 266 = .ok (.iload_n 3, 1) := by decide +kernel
theorem dL_law_267 : decode cL_law 267 = .ok (.iconst 1, 1) := by decide +kernel
theorem dL_law_268 : decode cL_law 268 = .ok (.iadd, 1) := by decide +kernel
theorem dL_law_269 : decode cL_law 269 = .ok (.iaload, 1) := by decide +kernel
theorem dL_law_270 : decode cL_law 270 = .ok (.invokevirtual 23, 3) := by decide +kernel
theorem dL_law_273 : decode cL_law 273 = .ok (.aload_n 2, 1) := by decide +kernel
theorem dL_law_274 : decode cL_law 274 = .ok (.aload_n 0, 1) := by decide +kernel
theorem dL_law_275 : decode cL_law 275 = .ok (.iload_n 3, 1) := by decide +kernel
theorem dL_law_276 : decode cL_law 276 = .ok (.iconst 1, 1) := by decide +kernel
theorem dL_law_277 : decode cL_law 277 = .ok (.iadd, 1) := by decide +kernel
theorem dL_law_278 : decode cL_law 278 = .ok (.iaload, 1) := by decide +kernel
theorem dL_law_279 : decode cL_law 279 = .ok (.invokevirtual 27, 3) := by decide +kernel
theorem dL_law_282 : decode cL_law 282 = .ok (.if_icmp .eq 726, 3) := by decide +kernel
theorem dL_law_285 : decode cL_law 285 = .ok (.iconst 0, 1) := by decide +kernel
theorem dL_law_286 : decode cL_law 286 = .ok (.ireturn, 1) := by decide +kernel
theorem dL_law_287 : decode cL_law 287 = .ok (.aload_n 1, 1) := by decide +kernel
theorem dL_law_288 : decode cL_law 288 = .ok (.aload_n 0, 1) := by decide +kernel
theorem dL_law_289 : decode cL_law 289 = .ok (.iload_n 3, 1) := by decide +kernel
theorem dL_law_290 : decode cL_law 290 = .ok (.iconst 1, 1) := by decide +kernel
theorem dL_law_291 : decode cL_law 291 = .ok (.iadd, 1) := by decide +kernel
theorem dL_law_292 : decode cL_law 292 = .ok (.iaload, 1) := by decide +kernel
theorem dL_law_293 : decode cL_law 293 = .ok (.aload_n 0, 1) := by decide +kernel
theorem dL_law_294 : decode cL_law 294 = .ok (.iload_n 3, 1) := by decide +kernel
theorem dL_law_295 : decode cL_law 295 = .ok (.iconst 2, 1) := by decide +kernel
theorem dL_law_296 : decode cL_law 296 = .ok (.iadd, 1) := by decide +kernel
theorem dL_law_297 : decode cL_law 297 = .ok (.iaload, 1) := by decide +kernel
theorem dL_law_298 : decode cL_law 298 = .ok (.aload_n 0, 1) := by decide +kernel
theorem dL_law_299 : decode cL_law 299 = .ok (.iload_n 3, 1) := by decide +kernel
theorem dL_law_300 : decode cL_law 300 = .ok (.iconst 3, 1) := by decide +kernel
theorem dL_law_301 : decode cL_law 301 = .ok (.iadd, 1) := by decide +kernel
theorem dL_law_302 : decode cL_law 302 = .ok (.iaload, 1) := by decide +kernel
theorem dL_law_303 : decode cL_law 303 = .ok (.invokevirtual 28, 3) := by decide +kernel
theorem dL_law_306 : decode cL_law 306 = .ok (.aload_n 2, 1) := by decide +kernel
theorem dL_law_307 : decode cL_law 307 = .ok (.aload_n 0, 1) := by decide +kernel
theorem dL_law_308 : decode cL_law 308 = .ok (.iload_n 3, 1) := by decide +kernel
theorem dL_law_309 : decode cL_law 309 = .ok (.iconst 1, 1) := by decide +kernel
theorem dL_law_310 : decode cL_law 310 = .ok (.iadd, 1) := by decide +kernel
theorem dL_law_311 : decode cL_law 311 = .ok (.iaload, 1) := by decide +kernel
theorem dL_law_312 : decode cL_law 312 = .ok (.aload_n 0, 1) := by decide +kernel
theorem dL_law_313 : decode cL_law 313 = .ok (.iload_n 3, 1) := by decide +kernel
theorem dL_law_314 : decode cL_law 314 = .ok (.iconst 2, 1) := by decide +kernel
theorem dL_law_315 : decode cL_law 315 = .ok (.iadd, 1) := by decide +kernel
theorem dL_law_316 : decode cL_law 316 = .ok (.iaload, 1) := by decide +kernel
theorem dL_law_317 : decode cL_law 317 = .ok (.aload_n 0, 1) := by decide +kernel
theorem dL_law_318 : decode cL_law 318 = .ok (.iload_n 3, 1) := by decide +kernel
theorem dL_law_319 : decode cL_law 319 = .ok (.iconst 3, 1) := by decide +kernel
theorem dL_law_320 : decode cL_law 320 = .ok (.iadd, 1) := by decide +kernel
theorem dL_law_321 : decode cL_law 321 = .ok (.iaload, 1) := by decide +kernel
theorem dL_law_322 : decode cL_law 322 = .ok (.invokevirtual 32, 3) := by decide +kernel
theorem dL_law_325 : decode cL_law 325 = .ok (.if_icmp .eq 683, 3) := by decide +kernel
theorem dL_law_328 : decode cL_law 328 = .ok (.iconst 0, 1) := by decide +kernel
theorem dL_law_329 : decode cL_law 329 = .ok (.ireturn, 1) := by decide +kernel
theorem dL_law_330 : decode cL_law 330 = .ok (.aload_n 1, 1) := by decide +kernel
theorem dL_law_331 : decode cL_law 331 = .ok (.aload_n 0, 1) := by decide +kernel
theorem dL_law_332 : decode cL_law 332 = .ok (.iload_n 3, 1) := by decide +kernel
theorem dL_law_333 : decode cL_law 333 = .ok (.iconst 1, 1) := by decide +kernel
theorem dL_law_334 : decode cL_law 334 = .ok (.iadd, 1) := by decide +kernel
theorem dL_law_335 : decode cL_law 335 = .ok (.iaload, 1) := by decide +kernel
theorem dL_law_336 : decode cL_law 336 = .ok (.aload_n 0, 1) := by decide +kernel
theorem dL_law_337 : decode cL_law 337 = .ok (.iload_n 3, 1) := by decide +kernel
theorem dL_law_338 : decode cL_law 338 = .ok (.iconst 2, 1) := by decide +kernel
theorem dL_law_339 : decode cL_law 339 = .ok (.iadd, 1) := by decide +kernel
theorem dL_law_340 : decode cL_law 340 = .ok (.iaload, 1) := by decide +kernel
theorem dL_law_341 : decode cL_law 341 = .ok (.aload_n 0, 1) := by decide +kernel
theorem dL_law_342 : decode cL_law 342 = .ok (.iload_n 3, 1) := by decide +kernel
theorem dL_law_343 : decode cL_law 343 = .ok (.iconst 3, 1) := by decide +kernel
theorem dL_law_344 : decode cL_law 344 = .ok (.iadd, 1) := by decide +kernel
theorem dL_law_345 : decode cL_law 345 = .ok (.iaload, 1) := by decide +kernel
theorem dL_law_346 : decode cL_law 346 = .ok (.invokevirtual 33, 3) := by decide +kernel
theorem dL_law_349 : decode cL_law 349 = .ok (.aload_n 2, 1) := by decide +kernel
theorem dL_law_350 : decode cL_law 350 = .ok (.aload_n 0, 1) := by decide +kernel
theorem dL_law_351 : decode cL_law 351 = .ok (.iload_n 3, 1) := by decide +kernel
theorem dL_law_352 : decode cL_law 352 = .ok (.iconst 1, 1) := by decide +kernel
theorem dL_law_353 : decode cL_law 353 = .ok (.iadd, 1) := by decide +kernel
theorem dL_law_354 : decode cL_law 354 = .ok (.iaload, 1) := by decide +kernel
theorem dL_law_355 : decode cL_law 355 = .ok (.aload_n 0, 1) := by decide +kernel
theorem dL_law_356 : decode cL_law 356 = .ok (.iload_n 3, 1) := by decide +kernel
theorem dL_law_357 : decode cL_law 357 = .ok (.iconst 2, 1) := by decide +kernel
theorem dL_law_358 : decode cL_law 358 = .ok (.iadd, 1) := by decide +kernel
theorem dL_law_359 : decode cL_law 359 = .ok (.iaload, 1) := by decide +kernel
theorem dL_law_360 : decode cL_law 360 = .ok (.aload_n 0, 1) := by decide +kernel
theorem dL_law_361 : decode cL_law 361 = .ok (.iload_n 3, 1) := by decide +kernel
theorem dL_law_362 : decode cL_law 362 = .ok (.iconst 3, 1) := by decide +kernel
theorem dL_law_363 : decode cL_law 363 = .ok (.iadd, 1) := by decide +kernel
theorem dL_law_364 : decode cL_law 364 = .ok (.iaload, 1) := by decide +kernel
theorem dL_law_365 : decode cL_law 365 = .ok (.invokevirtual 36, 3) := by decide +kernel
theorem dL_law_368 : decode cL_law 368 = .ok (.if_icmp .eq 640, 3) := by decide +kernel
theorem dL_law_371 : decode cL_law 371 = .ok (.iconst 0, 1) := by decide +kernel
theorem dL_law_372 : decode cL_law 372 = .ok (.ireturn, 1) := by decide +kernel
theorem dL_law_373 : decode cL_law 373 = .ok (.aload_n 1, 1) := by decide +kernel
theorem dL_law_374 : decode cL_law 374 = .ok (.aload_n 0, 1) := by decide +kernel
theorem dL_law_375 : decode cL_law 375 = .ok (.iload_n 3, 1) := by decide +kernel
theorem dL_law_376 : decode cL_law 376 = .ok (.iconst 1, 1) := by decide +kernel
theorem dL_law_377 : decode cL_law 377 = .ok (.iadd, 1) := by decide +kernel
theorem dL_law_378 : decode cL_law 378 = .ok (.iaload, 1) := by decide +kernel
theorem dL_law_379 : decode cL_law 379 = .ok (.aload_n 0, 1) := by decide +kernel
theorem dL_law_380 : decode cL_law 380 = .ok (.iload_n 3, 1) := by decide +kernel
theorem dL_law_381 : decode cL_law 381 = .ok (.iconst 2, 1) := by decide +kernel
theorem dL_law_382 : decode cL_law 382 = .ok (.iadd, 1) := by decide +kernel
theorem dL_law_383 : decode cL_law 383 = .ok (.iaload, 1) := by decide +kernel
theorem dL_law_384 : decode cL_law 384 = .ok (.invokevirtual 37, 3) := by decide +kernel
theorem dL_law_387 : decode cL_law 387 = .ok (.aload_n 2, 1) := by decide +kernel
theorem dL_law_388 : decode cL_law 388 = .ok (.aload_n 0, 1) := by decide +kernel
theorem dL_law_389 : decode cL_law 389 = .ok (.iload_n 3, 1) := by decide +kernel
theorem dL_law_390 : decode cL_law 390 = .ok (.iconst 1, 1) := by decide +kernel
theorem dL_law_391 : decode cL_law 391 = .ok (.iadd, 1) := by decide +kernel
theorem dL_law_392 : decode cL_law 392 = .ok (.iaload, 1) := by decide +kernel
theorem dL_law_393 : decode cL_law 393 = .ok (.aload_n 0, 1) := by decide +kernel
theorem dL_law_394 : decode cL_law 394 = .ok (.iload_n 3, 1) := by decide +kernel
theorem dL_law_395 : decode cL_law 395 = .ok (.iconst 2, 1) := by decide +kernel
theorem dL_law_396 : decode cL_law 396 = .ok (.iadd, 1) := by decide +kernel
theorem dL_law_397 : decode cL_law 397 = .ok (.iaload, 1) := by decide +kernel
theorem dL_law_398 : decode cL_law 398 = .ok (.invokevirtual 40, 3) := by decide +kernel
theorem dL_law_401 : decode cL_law 401 = .ok (.if_icmp .eq 607, 3) := by decide +kernel
theorem dL_law_404 : decode cL_law 404 = .ok (.iconst 0, 1) := by decide +kernel
theorem dL_law_405 : decode cL_law 405 = .ok (.ireturn, 1) := by decide +kernel
theorem dL_law_406 : decode cL_law 406 = .ok (.aload_n 1, 1) := by decide +kernel
theorem dL_law_407 : decode cL_law 407 = .ok (.aload_n 0, 1) := by decide +kernel
theorem dL_law_408 : decode cL_law 408 = .ok (.iload_n 3, 1) := by decide +kernel
theorem dL_law_409 : decode cL_law 409 = .ok (.iconst 1, 1) := by decide +kernel
theorem dL_law_410 : decode cL_law 410 = .ok (.iadd, 1) := by decide +kernel
theorem dL_law_411 : decode cL_law 411 = .ok (.iaload, 1) := by decide +kernel
theorem dL_law_412 : decode cL_law 412 = .ok (.aload_n 0, 1) := by decide +kernel
theorem dL_law_413 : decode cL_law 413 = .ok (.iload_n 3, 1) := by decide +kernel
theorem dL_law_414 : decode cL_law 414 = .ok (.iconst 2, 1) := by decide +kernel
theorem dL_law_415 : decode cL_law 415 = .ok (.iadd, 1) := by decide +kernel
theorem dL_law_416 : decode cL_law 416 = .ok (.iaload, 1) := by decide +kernel
theorem dL_law_417 : decode cL_law 417 = .ok (.invokevirtual 41, 3) := by decide +kernel
theorem dL_law_420 : decode cL_law 420 = .ok (.aload_n 2, 1) := by decide +kernel
theorem dL_law_421 : decode cL_law 421 = .ok (.aload_n 0, 1) := by decide +kernel
theorem dL_law_422 : decode cL_law 422 = .ok (.iload_n 3, 1) := by decide +kernel
theorem dL_law_423 : decode cL_law 423 = .ok (.iconst 1, 1) := by decide +kernel
theorem dL_law_424 : decode cL_law 424 = .ok (.iadd, 1) := by decide +kernel
theorem dL_law_425 : decode cL_law 425 = .ok (.iaload, 1) := by decide +kernel
theorem dL_law_426 : decode cL_law 426 = .ok (.aload_n 0, 1) := by decide +kernel
theorem dL_law_427 : decode cL_law 427 = .ok (.iload_n 3, 1) := by decide +kernel
theorem dL_law_428 : decode cL_law 428 = .ok (.iconst 2, 1) := by decide +kernel
theorem dL_law_429 : decode cL_law 429 = .ok (.iadd, 1) := by decide +kernel
theorem dL_law_430 : decode cL_law 430 = .ok (.iaload, 1) := by decide +kernel
theorem dL_law_431 : decode cL_law 431 = .ok (.invokevirtual 44, 3) := by decide +kernel
theorem dL_law_434 : decode cL_law 434 = .ok (.if_icmp .eq 574, 3) := by decide +kernel
theorem dL_law_437 : decode cL_law 437 = .ok (.iconst 0, 1) := by decide +kernel
theorem dL_law_438 : decode cL_law 438 = .ok (.ireturn, 1) := by decide +kernel
theorem dL_law_439 : decode cL_law 439 = .ok (.aload_n 1, 1) := by decide +kernel
theorem dL_law_440 : decode cL_law 440 = .ok (.aload_n 0, 1) := by decide +kernel
theorem dL_law_441 : decode cL_law 441 = .ok (.iload_n 3, 1) := by decide +kernel
theorem dL_law_442 : decode cL_law 442 = .ok (.iconst 1, 1) := by decide +kernel
theorem dL_law_443 : decode cL_law 443 = .ok (.iadd, 1) := by decide +kernel
theorem dL_law_444 : decode cL_law 444 = .ok (.iaload, 1) := by decide +kernel
theorem dL_law_445 : decode cL_law 445 = .ok (.invokevirtual 45, 3) := by decide +kernel
theorem dL_law_448 : decode cL_law 448 = .ok (.aload_n 2, 1) := by decide +kernel
theorem dL_law_449 : decode cL_law 449 = .ok (.aload_n 0, 1) := by decide +kernel
theorem dL_law_450 : decode cL_law 450 = .ok (.iload_n 3, 1) := by decide +kernel
theorem dL_law_451 : decode cL_law 451 = .ok (.iconst 1, 1) := by decide +kernel
theorem dL_law_452 : decode cL_law 452 = .ok (.iadd, 1) := by decide +kernel
theorem dL_law_453 : decode cL_law 453 = .ok (.iaload, 1) := by decide +kernel
theorem dL_law_454 : decode cL_law 454 = .ok (.invokevirtual 48, 3) := by decide +kernel
theorem dL_law_457 : decode cL_law 457 = .ok (.if_icmp .eq 551, 3) := by decide +kernel
theorem dL_law_460 : decode cL_law 460 = .ok (.iconst 0, 1) := by decide +kernel
theorem dL_law_461 : decode cL_law 461 = .ok (.ireturn, 1) := by decide +kernel
theorem dL_law_462 : decode cL_law 462 = .ok (.aload_n 1, 1) := by decide +kernel
theorem dL_law_463 : decode cL_law 463 = .ok (.invokevirtual 49, 3) := by decide +kernel
theorem dL_law_466 : decode cL_law 466 = .ok (.aload_n 2, 1) := by decide +kernel
theorem dL_law_467 : decode cL_law 467 = .ok (.invokevirtual 53, 3) := by decide +kernel
theorem dL_law_470 : decode cL_law 470 = .ok (.if_icmp .eq 538, 3) := by decide +kernel
theorem dL_law_473 : decode cL_law 473 = .ok (.iconst 0, 1) := by decide +kernel
theorem dL_law_474 : decode cL_law 474 = .ok (.ireturn, 1) := by decide +kernel
theorem dL_law_475 : decode cL_law 475 = .ok (.aload_n 1, 1) := by decide +kernel
theorem dL_law_476 : decode cL_law 476 = .ok (.aload_n 0, 1) := by decide +kernel
theorem dL_law_477 : decode cL_law 477 = .ok (.iload_n 3, 1) := by decide +kernel
theorem dL_law_478 : decode cL_law 478 = .ok (.iconst 1, 1) := by decide +kernel
theorem dL_law_479 : decode cL_law 479 = .ok (.iadd, 1) := by decide +kernel
theorem dL_law_480 : decode cL_law 480 = .ok (.iaload, 1) := by decide +kernel
theorem dL_law_481 : decode cL_law 481 = .ok (.invokevirtual 54, 3) := by decide +kernel
theorem dL_law_484 : decode cL_law 484 = .ok (.aload_n 2, 1) := by decide +kernel
theorem dL_law_485 : decode cL_law 485 = .ok (.aload_n 0, 1) := by decide +kernel
theorem dL_law_486 : decode cL_law 486 = .ok (.iload_n 3, 1) := by decide +kernel
theorem dL_law_487 : decode cL_law 487 = .ok (.iconst 1, 1) := by decide +kernel
theorem dL_law_488 : decode cL_law 488 = .ok (.iadd, 1) := by decide +kernel
theorem dL_law_489 : decode cL_law 489 = .ok (.iaload, 1) := by decide +kernel
theorem dL_law_490 : decode cL_law 490 = .ok (.invokevirtual 57, 3) := by decide +kernel
theorem dL_law_493 : decode cL_law 493 = .ok (.if_icmp .eq 515, 3) := by decide +kernel
theorem dL_law_496 : decode cL_law 496 = .ok (.iconst 0, 1) := by decide +kernel
theorem dL_law_497 : decode cL_law 497 = .ok (.ireturn, 1) := by decide +kernel
theorem dL_law_498 : decode cL_law 498 = .ok (.aload_n 1, 1) := by decide +kernel
theorem dL_law_499 : decode cL_law 499 = .ok (.invokevirtual 58, 3) := by decide +kernel
theorem dL_law_502 : decode cL_law 502 = .ok (.aload_n 2, 1) := by decide +kernel
theorem dL_law_503 : decode cL_law 503 = .ok (.invokevirtual 61, 3) := by decide +kernel
theorem dL_law_506 : decode cL_law 506 = .ok (.if_icmp .eq 502, 3) := by decide +kernel
theorem dL_law_509 : decode cL_law 509 = .ok (.iconst 0, 1) := by decide +kernel
theorem dL_law_510 : decode cL_law 510 = .ok (.ireturn, 1) := by decide +kernel
theorem dL_law_511 : decode cL_law 511 = .ok (.aload_n 1, 1) := by decide +kernel
theorem dL_law_512 : decode cL_law 512 = .ok (.invokevirtual 62, 3) := by decide +kernel
theorem dL_law_515 : decode cL_law 515 = .ok (.aload_n 2, 1) := by decide +kernel
theorem dL_law_516 : decode cL_law 516 = .ok (.invokevirtual 65, 3) := by decide +kernel
theorem dL_law_519 : decode cL_law 519 = .ok (.if_icmp .eq 489, 3) := by decide +kernel
theorem dL_law_522 : decode cL_law 522 = .ok (.iconst 0, 1) := by decide +kernel
theorem dL_law_523 : decode cL_law 523 = .ok (.ireturn, 1) := by decide +kernel
theorem dL_law_524 : decode cL_law 524 = .ok (.aload_n 1, 1) := by decide +kernel
theorem dL_law_525 : decode cL_law 525 = .ok (.aload_n 0, 1) := by decide +kernel
theorem dL_law_526 : decode cL_law 526 = .ok (.iload_n 3, 1) := by decide +kernel
theorem dL_law_527 : decode cL_law 527 = .ok (.iconst 1, 1) := by decide +kernel
theorem dL_law_528 : decode cL_law 528 = .ok (.iadd, 1) := by decide +kernel
theorem dL_law_529 : decode cL_law 529 = .ok (.iaload, 1) := by decide +kernel
theorem dL_law_530 : decode cL_law 530 = .ok (.aload_n 0, 1) := by decide +kernel
theorem dL_law_531 : decode cL_law 531 = .ok (.iload_n 3, 1) := by decide +kernel
theorem dL_law_532 : decode cL_law 532 = .ok (.iconst 2, 1) := by decide +kernel
theorem dL_law_533 : decode cL_law 533 = .ok (.iadd, 1) := by decide +kernel
theorem dL_law_534 : decode cL_law 534 = .ok (.iaload, 1) := by decide +kernel
theorem dL_law_535 : decode cL_law 535 = .ok (.invokevirtual 66, 3) := by decide +kernel
theorem dL_law_538 : decode cL_law 538 = .ok (.aload_n 2, 1) := by decide +kernel
theorem dL_law_539 : decode cL_law 539 = .ok (.aload_n 0, 1) := by decide +kernel
theorem dL_law_540 : decode cL_law 540 = .ok (.iload_n 3, 1) := by decide +kernel
theorem dL_law_541 : decode cL_law 541 = .ok (.iconst 1, 1) := by decide +kernel
theorem dL_law_542 : decode cL_law 542 = .ok (.iadd, 1) := by decide +kernel
theorem dL_law_543 : decode cL_law 543 = .ok (.iaload, 1) := by decide +kernel
theorem dL_law_544 : decode cL_law 544 = .ok (.aload_n 0, 1) := by decide +kernel
theorem dL_law_545 : decode cL_law 545 = .ok (.iload_n 3, 1) := by decide +kernel
theorem dL_law_546 : decode cL_law 546 = .ok (.iconst 2, 1) := by decide +kernel
theorem dL_law_547 : decode cL_law 547 = .ok (.iadd, 1) := by decide +kernel
theorem dL_law_548 : decode cL_law 548 = .ok (.iaload, 1) := by decide +kernel
theorem dL_law_549 : decode cL_law 549 = .ok (.invokevirtual 69, 3) := by decide +kernel
theorem dL_law_552 : decode cL_law 552 = .ok (.if_icmp .eq 456, 3) := by decide +kernel
theorem dL_law_555 : decode cL_law 555 = .ok (.iconst 0, 1) := by decide +kernel
theorem dL_law_556 : decode cL_law 556 = .ok (.ireturn, 1) := by decide +kernel
theorem dL_law_557 : decode cL_law 557 = .ok (.aload_n 1, 1) := by decide +kernel
theorem dL_law_558 : decode cL_law 558 = .ok (.aload_n 0, 1) := by decide +kernel
theorem dL_law_559 : decode cL_law 559 = .ok (.iload_n 3, 1) := by decide +kernel
theorem dL_law_560 : decode cL_law 560 = .ok (.iconst 1, 1) := by decide +kernel
theorem dL_law_561 : decode cL_law 561 = .ok (.iadd, 1) := by decide +kernel
theorem dL_law_562 : decode cL_law 562 = .ok (.iaload, 1) := by decide +kernel
theorem dL_law_563 : decode cL_law 563 = .ok (.invokevirtual 70, 3) := by decide +kernel
theorem dL_law_566 : decode cL_law 566 = .ok (.aload_n 2, 1) := by decide +kernel
theorem dL_law_567 : decode cL_law 567 = .ok (.aload_n 0, 1) := by decide +kernel
theorem dL_law_568 : decode cL_law 568 = .ok (.iload_n 3, 1) := by decide +kernel
theorem dL_law_569 : decode cL_law 569 = .ok (.iconst 1, 1) := by decide +kernel
theorem dL_law_570 : decode cL_law 570 = .ok (.iadd, 1) := by decide +kernel
theorem dL_law_571 : decode cL_law 571 = .ok (.iaload, 1) := by decide +kernel
theorem dL_law_572 : decode cL_law 572 = .ok (.invokevirtual 73, 3) := by decide +kernel
theorem dL_law_575 : decode cL_law 575 = .ok (.if_icmp .eq 433, 3) := by decide +kernel
theorem dL_law_578 : decode cL_law 578 = .ok (.iconst 0, 1) := by decide +kernel
theorem dL_law_579 : decode cL_law 579 = .ok (.ireturn, 1) := by decide +kernel
theorem dL_law_580 : decode cL_law 580 = .ok (.aload_n 1, 1) := by decide +kernel
theorem dL_law_581 : decode cL_law 581 = .ok (.aload_n 0, 1) := by decide +kernel
theorem dL_law_582 : decode cL_law 582 = .ok (.iload_n 3, 1) := by decide +kernel
theorem dL_law_583 : decode cL_law 583 = .ok (.iconst 1, 1) := by decide +kernel
theorem dL_law_584 : decode cL_law 584 = .ok (.iadd, 1) := by decide +kernel
theorem dL_law_585 : decode cL_law 585 = .ok (.iaload, 1) := by decide +kernel
theorem dL_law_586 : decode cL_law 586 = .ok (.aload_n 0, 1) := by decide +kernel
theorem dL_law_587 : decode cL_law 587 = .ok (.iload_n 3, 1) := by decide +kernel
theorem dL_law_588 : decode cL_law 588 = .ok (.iconst 2, 1) := by decide +kernel
theorem dL_law_589 : decode cL_law 589 = .ok (.iadd, 1) := by decide +kernel
theorem dL_law_590 : decode cL_law 590 = .ok (.iaload, 1) := by decide +kernel
theorem dL_law_591 : decode cL_law 591 = .ok (.invokevirtual 74, 3) := by decide +kernel
theorem dL_law_594 : decode cL_law 594 = .ok (.aload_n 2, 1) := by decide +kernel
theorem dL_law_595 : decode cL_law 595 = .ok (.aload_n 0, 1) := by decide +kernel
theorem dL_law_596 : decode cL_law 596 = .ok (.iload_n 3, 1) := by decide +kernel
theorem dL_law_597 : decode cL_law 597 = .ok (.iconst 1, 1) := by decide +kernel
theorem dL_law_598 : decode cL_law 598 = .ok (.iadd, 1) := by decide +kernel
theorem dL_law_599 : decode cL_law 599 = .ok (.iaload, 1) := by decide +kernel
theorem dL_law_600 : decode cL_law 600 = .ok (.aload_n 0, 1) := by decide +kernel
theorem dL_law_601 : decode cL_law 601 = .ok (.iload_n 3, 1) := by decide +kernel
theorem dL_law_602 : decode cL_law 602 = .ok (.iconst 2, 1) := by decide +kernel
theorem dL_law_603 : decode cL_law 603 = .ok (.iadd, 1) := by decide +kernel
theorem dL_law_604 : decode cL_law 604 = .ok (.iaload, 1) := by decide +kernel
theorem dL_law_605 : decode cL_law 605 = .ok (.invokevirtual 77, 3) := by decide +kernel
theorem dL_law_608 : decode cL_law 608 = .ok (.if_icmp .eq 400, 3) := by decide +kernel
theorem dL_law_611 : decode cL_law 611 = .ok (.iconst 0, 1) := by decide +kernel
theorem dL_law_612 : decode cL_law 612 = .ok (.ireturn, 1) := by decide +kernel
theorem dL_law_613 : decode cL_law 613 = .ok (.aload_n 1, 1) := by decide +kernel
theorem dL_law_614 : decode cL_law 614 = .ok (.aload_n 0, 1) := by decide +kernel
theorem dL_law_615 : decode cL_law 615 = .ok (.iload_n 3, 1) := by decide +kernel
theorem dL_law_616 : decode cL_law 616 = .ok (.iconst 1, 1) := by decide +kernel
theorem dL_law_617 : decode cL_law 617 = .ok (.iadd, 1) := by decide +kernel
theorem dL_law_618 : decode cL_law 618 = .ok (.iaload, 1) := by decide +kernel
theorem dL_law_619 : decode cL_law 619 = .ok (.aload_n 0, 1) := by decide +kernel
theorem dL_law_620 : decode cL_law 620 = .ok (.iload_n 3, 1) := by decide +kernel
theorem dL_law_621 : decode cL_law 621 = .ok (.iconst 2, 1) := by decide +kernel
theorem dL_law_622 : decode cL_law 622 = .ok (.iadd, 1) := by decide +kernel
theorem dL_law_623 : decode cL_law 623 = .ok (.iaload, 1) := by decide +kernel
theorem dL_law_624 : decode cL_law 624 = .ok (.aload_n 0, 1) := by decide +kernel
theorem dL_law_625 : decode cL_law 625 = .ok (.iload_n 3, 1) := by decide +kernel
theorem dL_law_626 : decode cL_law 626 = .ok (.iconst 3, 1) := by decide +kernel
theorem dL_law_627 : decode cL_law 627 = .ok (.iadd, 1) := by decide +kernel
theorem dL_law_628 : decode cL_law 628 = .ok (.iaload, 1) := by decide +kernel
theorem dL_law_629 : decode cL_law 629 = .ok (.invokevirtual 78, 3) := by decide +kernel
theorem dL_law_632 : decode cL_law 632 = .ok (.aload_n 2, 1) := by decide +kernel
theorem dL_law_633 : decode cL_law 633 = .ok (.aload_n 0, 1) := by decide +kernel
theorem dL_law_634 : decode cL_law 634 = .ok (.iload_n 3, 1) := by decide +kernel
theorem dL_law_635 : decode cL_law 635 = .ok (.iconst 1, 1) := by decide +kernel
theorem dL_law_636 : decode cL_law 636 = .ok (.iadd, 1) := by decide +kernel
theorem dL_law_637 : decode cL_law 637 = .ok (.iaload, 1) := by decide +kernel
theorem dL_law_638 : decode cL_law 638 = .ok (.aload_n 0, 1) := by decide +kernel
theorem dL_law_639 : decode cL_law 639 = .ok (.iload_n 3, 1) := by decide +kernel
theorem dL_law_640 : decode cL_law 640 = .ok (.iconst 2, 1) := by decide +kernel
theorem dL_law_641 : decode cL_law 641 = .ok (.iadd, 1) := by decide +kernel
theorem dL_law_642 : decode cL_law 642 = .ok (.iaload, 1) := by decide +kernel
theorem dL_law_643 : decode cL_law 643 = .ok (.aload_n 0, 1) := by decide +kernel
theorem dL_law_644 : decode cL_law 644 = .ok (.iload_n 3, 1) := by decide +kernel
theorem dL_law_645 : decode cL_law 645 = .ok (.iconst 3, 1) := by decide +kernel
theorem dL_law_646 : decode cL_law 646 = .ok (.iadd, 1) := by decide +kernel
theorem dL_law_647 : decode cL_law 647 = .ok (.iaload, 1) := by decide +kernel
theorem dL_law_648 : decode cL_law 648 = .ok (.invokevirtual 81, 3) := by decide +kernel
theorem dL_law_651 : decode cL_law 651 = .ok (.if_icmp .eq 357, 3) := by decide +kernel
theorem dL_law_654 : decode cL_law 654 = .ok (.iconst 0, 1) := by decide +kernel
theorem dL_law_655 : decode cL_law 655 = .ok (.ireturn, 1) := by decide +kernel
theorem dL_law_656 : decode cL_law 656 = .ok (.aload_n 1, 1) := by decide +kernel
theorem dL_law_657 : decode cL_law 657 = .ok (.aload_n 0, 1) := by decide +kernel
theorem dL_law_658 : decode cL_law 658 = .ok (.iload_n 3, 1) := by decide +kernel
theorem dL_law_659 : decode cL_law 659 = .ok (.iconst 1, 1) := by decide +kernel
theorem dL_law_660 : decode cL_law 660 = .ok (.iadd, 1) := by decide +kernel
theorem dL_law_661 : decode cL_law 661 = .ok (.iaload, 1) := by decide +kernel
theorem dL_law_662 : decode cL_law 662 = .ok (.aload_n 0, 1) := by decide +kernel
theorem dL_law_663 : decode cL_law 663 = .ok (.iload_n 3, 1) := by decide +kernel
theorem dL_law_664 : decode cL_law 664 = .ok (.iconst 2, 1) := by decide +kernel
theorem dL_law_665 : decode cL_law 665 = .ok (.iadd, 1) := by decide +kernel
theorem dL_law_666 : decode cL_law 666 = .ok (.iaload, 1) := by decide +kernel
theorem dL_law_667 : decode cL_law 667 = .ok (.invokevirtual 82, 3) := by decide +kernel
theorem dL_law_670 : decode cL_law 670 = .ok (.aload_n 2, 1) := by decide +kernel
theorem dL_law_671 : decode cL_law 671 = .ok (.aload_n 0, 1) := by decide +kernel
theorem dL_law_672 : decode cL_law 672 = .ok (.iload_n 3, 1) := by decide +kernel
theorem dL_law_673 : decode cL_law 673 = .ok (.iconst 1, 1) := by decide +kernel
theorem dL_law_674 : decode cL_law 674 = .ok (.iadd, 1) := by decide +kernel
theorem dL_law_675 : decode cL_law 675 = .ok (.iaload, 1) := by decide +kernel
theorem dL_law_676 : decode cL_law 676 = .ok (.aload_n 0, 1) := by decide +kernel
theorem dL_law_677 : decode cL_law 677 = .ok (.iload_n 3, 1) := by decide +kernel
theorem dL_law_678 : decode cL_law 678 = .ok (.iconst 2, 1) := by decide +kernel
theorem dL_law_679 : decode cL_law 679 = .ok (.iadd, 1) := by decide +kernel
theorem dL_law_680 : decode cL_law 680 = .ok (.iaload, 1) := by decide +kernel
theorem dL_law_681 : decode cL_law 681 = .ok (.invokevirtual 85, 3) := by decide +kernel
theorem dL_law_684 : decode cL_law 684 = .ok (.if_icmp .eq 324, 3) := by decide +kernel
theorem dL_law_687 : decode cL_law 687 = .ok (.iconst 0, 1) := by decide +kernel
theorem dL_law_688 : decode cL_law 688 = .ok (.ireturn, 1) := by decide +kernel
theorem dL_law_689 : decode cL_law 689 = .ok (.aload_n 1, 1) := by decide +kernel
theorem dL_law_690 : decode cL_law 690 = .ok (.aload_n 0, 1) := by decide +kernel
theorem dL_law_691 : decode cL_law 691 = .ok (.iload_n 3, 1) := by decide +kernel
theorem dL_law_692 : decode cL_law 692 = .ok (.iconst 1, 1) := by decide +kernel
theorem dL_law_693 : decode cL_law 693 = .ok (.iadd, 1) := by decide +kernel
theorem dL_law_694 : decode cL_law 694 = .ok (.iaload, 1) := by decide +kernel
theorem dL_law_695 : decode cL_law 695 = .ok (.invokevirtual 86, 3) := by decide +kernel
theorem dL_law_698 : decode cL_law 698 = .ok (.aload_n 2, 1) := by decide +kernel
theorem dL_law_699 : decode cL_law 699 = .ok (.aload_n 0, 1) := by decide +kernel
theorem dL_law_700 : decode cL_law 700 = .ok (.iload_n 3, 1) := by decide +kernel
theorem dL_law_701 : decode cL_law 701 = .ok (.iconst 1, 1) := by decide +kernel
theorem dL_law_702 : decode cL_law 702 = .ok (.iadd, 1) := by decide +kernel
theorem dL_law_703 : decode cL_law 703 = .ok (.iaload, 1) := by decide +kernel
theorem dL_law_704 : decode cL_law 704 = .ok (.invokevirtual 89, 3) := by decide +kernel
theorem dL_law_707 : decode cL_law 707 = .ok (.if_icmp .eq 301, 3) := by decide +kernel
theorem dL_law_710 : decode cL_law 710 = .ok (.iconst 0, 1) := by decide +kernel
theorem dL_law_711 : decode cL_law 711 = .ok (.ireturn, 1) := by decide +kernel
theorem dL_law_712 : decode cL_law 712 = .ok (.aload_n 1, 1) := by decide +kernel
theorem dL_law_713 : decode cL_law 713 = .ok (.aload_n 0, 1) := by decide +kernel
theorem dL_law_714 : decode cL_law 714 = .ok (.iload_n 3, 1) := by decide +kernel
theorem dL_law_715 : decode cL_law 715 = .ok (.iconst 1, 1) := by decide +kernel
theorem dL_law_716 : decode cL_law 716 = .ok (.iadd, 1) := by decide +kernel
theorem dL_law_717 : decode cL_law 717 = .ok (.iaload, 1) := by decide +kernel
theorem dL_law_718 : decode cL_law 718 = .ok (.aload_n 0, 1) := by decide +kernel
theorem dL_law_719 : decode cL_law 719 = .ok (.iload_n 3, 1) := by decide +kernel
theorem dL_law_720 : decode cL_law 720 = .ok (.iconst 2, 1) := by decide +kernel
theorem dL_law_721 : decode cL_law 721 = .ok (.iadd, 1) := by decide +kernel
theorem dL_law_722 : decode cL_law 722 = .ok (.iaload, 1) := by decide +kernel
theorem dL_law_723 : decode cL_law 723 = .ok (.invokevirtual 90, 3) := by decide +kernel
theorem dL_law_726 : decode cL_law 726 = .ok (.aload_n 2, 1) := by decide +kernel
theorem dL_law_727 : decode cL_law 727 = .ok (.aload_n 0, 1) := by decide +kernel
theorem dL_law_728 : decode cL_law 728 = .ok (.iload_n 3, 1) := by decide +kernel
theorem dL_law_729 : decode cL_law 729 = .ok (.iconst 1, 1) := by decide +kernel
theorem dL_law_730 : decode cL_law 730 = .ok (.iadd, 1) := by decide +kernel
theorem dL_law_731 : decode cL_law 731 = .ok (.iaload, 1) := by decide +kernel
theorem dL_law_732 : decode cL_law 732 = .ok (.aload_n 0, 1) := by decide +kernel
theorem dL_law_733 : decode cL_law 733 = .ok (.iload_n 3, 1) := by decide +kernel
theorem dL_law_734 : decode cL_law 734 = .ok (.iconst 2, 1) := by decide +kernel
theorem dL_law_735 : decode cL_law 735 = .ok (.iadd, 1) := by decide +kernel
theorem dL_law_736 : decode cL_law 736 = .ok (.iaload, 1) := by decide +kernel
theorem dL_law_737 : decode cL_law 737 = .ok (.invokevirtual 93, 3) := by decide +kernel
theorem dL_law_740 : decode cL_law 740 = .ok (.if_icmp .eq 268, 3) := by decide +kernel
theorem dL_law_743 : decode cL_law 743 = .ok (.iconst 0, 1) := by decide +kernel
theorem dL_law_744 : decode cL_law 744 = .ok (.ireturn, 1) := by decide +kernel
theorem dL_law_745 : decode cL_law 745 = .ok (.aload_n 1, 1) := by decide +kernel
theorem dL_law_746 : decode cL_law 746 = .ok (.aload_n 0, 1) := by decide +kernel
theorem dL_law_747 : decode cL_law 747 = .ok (.iload_n 3, 1) := by decide +kernel
theorem dL_law_748 : decode cL_law 748 = .ok (.iconst 1, 1) := by decide +kernel
theorem dL_law_749 : decode cL_law 749 = .ok (.iadd, 1) := by decide +kernel
theorem dL_law_750 : decode cL_law 750 = .ok (.iaload, 1) := by decide +kernel
theorem dL_law_751 : decode cL_law 751 = .ok (.aload_n 0, 1) := by decide +kernel
theorem dL_law_752 : decode cL_law 752 = .ok (.iload_n 3, 1) := by decide +kernel
theorem dL_law_753 : decode cL_law 753 = .ok (.iconst 2, 1) := by decide +kernel
theorem dL_law_754 : decode cL_law 754 = .ok (.iadd, 1) := by decide +kernel
theorem dL_law_755 : decode cL_law 755 = .ok (.iaload, 1) := by decide +kernel
theorem dL_law_756 : decode cL_law 756 = .ok (.aload_n 0, 1) := by decide +kernel
theorem dL_law_757 : decode cL_law 757 = .ok (.iload_n 3, 1) := by decide +kernel
theorem dL_law_758 : decode cL_law 758 = .ok (.iconst 3, 1) := by decide +kernel
theorem dL_law_759 : decode cL_law 759 = .ok (.iadd, 1) := by decide +kernel
theorem dL_law_760 : decode cL_law 760 = .ok (.iaload, 1) := by decide +kernel
theorem dL_law_761 : decode cL_law 761 = .ok (.invokevirtual 94, 3) := by decide +kernel
theorem dL_law_764 : decode cL_law 764 = .ok (.aload_n 2, 1) := by decide +kernel
theorem dL_law_765 : decode cL_law 765 = .ok (.aload_n 0, 1) := by decide +kernel
theorem dL_law_766 : decode cL_law 766 = .ok (.iload_n 3, 1) := by decide +kernel
theorem dL_law_767 : decode cL_law 767 = .ok (.iconst 1, 1) := by decide +kernel
theorem dL_law_768 : decode cL_law 768 = .ok (.iadd, 1) := by decide +kernel
theorem dL_law_769 : decode cL_law 769 = .ok (.iaload, 1) := by decide +kernel
theorem dL_law_770 : decode cL_law 770 = .ok (.aload_n 0, 1) := by decide +kernel
theorem dL_law_771 : decode cL_law 771 = .ok (.iload_n 3, 1) := by decide +kernel
theorem dL_law_772 : decode cL_law 772 = .ok (.iconst 2, 1) := by decide +kernel
theorem dL_law_773 : decode cL_law 773 = .ok (.iadd, 1) := by decide +kernel
theorem dL_law_774 : decode cL_law 774 = .ok (.iaload, 1) := by decide +kernel
theorem dL_law_775 : decode cL_law 775 = .ok (.aload_n 0, 1) := by decide +kernel
theorem dL_law_776 : decode cL_law 776 = .ok (.iload_n 3, 1) := by decide +kernel
theorem dL_law_777 : decode cL_law 777 = .ok (.iconst 3, 1) := by decide +kernel
theorem dL_law_778 : decode cL_law 778 = .ok (.iadd, 1) := by decide +kernel
theorem dL_law_779 : decode cL_law 779 = .ok (.iaload, 1) := by decide +kernel
theorem dL_law_780 : decode cL_law 780 = .ok (.invokevirtual 97, 3) := by decide +kernel
theorem dL_law_783 : decode cL_law 783 = .ok (.if_icmp .eq 225, 3) := by decide +kernel
theorem dL_law_786 : decode cL_law 786 = .ok (.iconst 0, 1) := by decide +kernel
theorem dL_law_787 : decode cL_law 787 = .ok (.ireturn, 1) := by decide +kernel
theorem dL_law_788 : decode cL_law 788 = .ok (.aload_n 1, 1) := by decide +kernel
theorem dL_law_789 : decode cL_law 789 = .ok (.aload_n 0, 1) := by decide +kernel
theorem dL_law_790 : decode cL_law 790 = .ok (.iload_n 3, 1) := by decide +kernel
theorem dL_law_791 : decode cL_law 791 = .ok (.iconst 1, 1) := by decide +kernel
theorem dL_law_792 : decode cL_law 792 = .ok (.iadd, 1) := by decide +kernel
theorem dL_law_793 : decode cL_law 793 = .ok (.iaload, 1) := by decide +kernel
theorem dL_law_794 : decode cL_law 794 = .ok (.invokevirtual 98, 3) := by decide +kernel
theorem dL_law_797 : decode cL_law 797 = .ok (.aload_n 2, 1) := by decide +kernel
theorem dL_law_798 : decode cL_law 798 = .ok (.aload_n 0, 1) := by decide +kernel
theorem dL_law_799 : decode cL_law 799 = .ok (.iload_n 3, 1) := by decide +kernel
theorem dL_law_800 : decode cL_law 800 = .ok (.iconst 1, 1) := by decide +kernel
theorem dL_law_801 : decode cL_law 801 = .ok (.iadd, 1) := by decide +kernel
theorem dL_law_802 : decode cL_law 802 = .ok (.iaload, 1) := by decide +kernel
theorem dL_law_803 : decode cL_law 803 = .ok (.invokevirtual 101, 3) := by decide +kernel
theorem dL_law_806 : decode cL_law 806 = .ok (.if_icmp .eq 202, 3) := by decide +kernel
theorem dL_law_809 : decode cL_law 809 = .ok (.iconst 0, 1) := by decide +kernel
theorem dL_law_810 : decode cL_law 810 = .ok (.ireturn, 1) := by decide +kernel
theorem dL_law_811 : decode cL_law 811 = .ok (.aload_n 1, 1) := by decide +kernel
theorem dL_law_812 : decode cL_law 812 = .ok (.aload_n 0, 1) := by decide +kernel
theorem dL_law_813 : decode cL_law 813 = .ok (.iload_n 3, 1) := by decide +kernel
theorem dL_law_814 : decode cL_law 814 = .ok (.iconst 1, 1) := by decide +kernel
theorem dL_law_815 : decode cL_law 815 = .ok (.iadd, 1) := by decide +kernel
theorem dL_law_816 : decode cL_law 816 = .ok (.iaload, 1) := by decide +kernel
theorem dL_law_817 : decode cL_law 817 = .ok (.aload_n 0, 1) := by decide +kernel
theorem dL_law_818 : decode cL_law 818 = .ok (.iload_n 3, 1) := by decide +kernel
theorem dL_law_819 : decode cL_law 819 = .ok (.iconst 2, 1) := by decide +kernel
theorem dL_law_820 : decode cL_law 820 = .ok (.iadd, 1) := by decide +kernel
theorem dL_law_821 : decode cL_law 821 = .ok (.iaload, 1) := by decide +kernel
theorem dL_law_822 : decode cL_law 822 = .ok (.invokevirtual 102, 3) := by decide +kernel
theorem dL_law_825 : decode cL_law 825 = .ok (.aload_n 2, 1) := by decide +kernel
theorem dL_law_826 : decode cL_law 826 = .ok (.aload_n 0, 1) := by decide +kernel
theorem dL_law_827 : decode cL_law 827 = .ok (.iload_n 3, 1) := by decide +kernel
theorem dL_law_828 : decode cL_law 828 = .ok (.iconst 1, 1) := by decide +kernel
theorem dL_law_829 : decode cL_law 829 = .ok (.iadd, 1) := by decide +kernel
theorem dL_law_830 : decode cL_law 830 = .ok (.iaload, 1) := by decide +kernel
theorem dL_law_831 : decode cL_law 831 = .ok (.aload_n 0, 1) := by decide +kernel
theorem dL_law_832 : decode cL_law 832 = .ok (.iload_n 3, 1) := by decide +kernel
theorem dL_law_833 : decode cL_law 833 = .ok (.iconst 2, 1) := by decide +kernel
theorem dL_law_834 : decode cL_law 834 = .ok (.iadd, 1) := by decide +kernel
theorem dL_law_835 : decode cL_law 835 = .ok (.iaload, 1) := by decide +kernel
theorem dL_law_836 : decode cL_law 836 = .ok (.invokevirtual 105, 3) := by decide +kernel
theorem dL_law_839 : decode cL_law 839 = .ok (.if_icmp .eq 169, 3) := by decide +kernel
theorem dL_law_842 : decode cL_law 842 = .ok (.iconst 0, 1) := by decide +kernel
theorem dL_law_843 : decode cL_law 843 = .ok (.ireturn, 1) := by decide +kernel
theorem dL_law_844 : decode cL_law 844 = .ok (.aload_n 1, 1) := by decide +kernel
theorem dL_law_845 : decode cL_law 845 = .ok (.invokevirtual 106, 3) := by decide +kernel
theorem dL_law_848 : decode cL_law 848 = .ok (.aload_n 2, 1) := by decide +kernel
theorem dL_law_849 : decode cL_law 849 = .ok (.invokevirtual 109, 3) := by decide +kernel
theorem dL_law_852 : decode cL_law 852 = .ok (.if_icmp .eq 156, 3) := by decide +kernel
theorem dL_law_855 : decode cL_law 855 = .ok (.iconst 0, 1) := by decide +kernel
theorem dL_law_856 : decode cL_law 856 = .ok (.ireturn, 1) := by decide +kernel
theorem dL_law_857 : decode cL_law 857 = .ok (.aload_n 1, 1) := by decide +kernel
theorem dL_law_858 : decode cL_law 858 = .ok (.aload_n 0, 1) := by decide +kernel
theorem dL_law_859 : decode cL_law 859 = .ok (.iload_n 3, 1) := by decide +kernel
theorem dL_law_860 : decode cL_law 860 = .ok (.iconst 1, 1) := by decide +kernel
theorem dL_law_861 : decode cL_law 861 = .ok (.iadd, 1) := by decide +kernel
theorem dL_law_862 : decode cL_law 862 = .ok (.iaload, 1) := by decide +kernel
theorem dL_law_863 : decode cL_law 863 = .ok (.i2l, 1) := by decide +kernel
theorem dL_law_864 : decode cL_law 864 = .ok (.bipush 32, 2) := by decide +kernel
theorem dL_law_866 : decode cL_law 866 = .ok (.lshl, 1) := by decide +kernel
theorem dL_law_867 : decode cL_law 867 = .ok (.aload_n 0, 1) := by decide +kernel
theorem dL_law_868 : decode cL_law 868 = .ok (.iload_n 3, 1) := by decide +kernel
theorem dL_law_869 : decode cL_law 869 = .ok (.iconst 2, 1) := by decide +kernel
theorem dL_law_870 : decode cL_law 870 = .ok (.iadd, 1) := by decide +kernel
theorem dL_law_871 : decode cL_law 871 = .ok (.iaload, 1) := by decide +kernel
theorem dL_law_872 : decode cL_law 872 = .ok (.i2l, 1) := by decide +kernel
theorem dL_law_873 : decode cL_law 873 = .ok (.ldc2_w 110, 3) := by decide +kernel
theorem dL_law_876 : decode cL_law 876 = .ok (.land, 1) := by decide +kernel
theorem dL_law_877 : decode cL_law 877 = .ok (.lor, 1) := by decide +kernel
theorem dL_law_878 : decode cL_law 878 = .ok (.invokevirtual 112, 3) := by decide +kernel
theorem dL_law_881 : decode cL_law 881 = .ok (.aload_n 2, 1) := by decide +kernel
theorem dL_law_882 : decode cL_law 882 = .ok (.aload_n 0, 1) := by decide +kernel
theorem dL_law_883 : decode cL_law 883 = .ok (.iload_n 3, 1) := by decide +kernel
theorem dL_law_884 : decode cL_law 884 = .ok (.iconst 1, 1) := by decide +kernel
theorem dL_law_885 : decode cL_law 885 = .ok (.iadd, 1) := by decide +kernel
theorem dL_law_886 : decode cL_law 886 = .ok (.iaload, 1) := by decide +kernel
theorem dL_law_887 : decode cL_law 887 = .ok (.i2l, 1) := by decide +kernel
theorem dL_law_888 : decode cL_law 888 = .ok (.bipush 32, 2) := by decide +kernel
theorem dL_law_890 : decode cL_law 890 = .ok (.lshl, 1) := by decide +kernel
theorem dL_law_891 : decode cL_law 891 = .ok (.aload_n 0, 1) := by decide +kernel
theorem dL_law_892 : decode cL_law 892 = .ok (.iload_n 3, 1) := by decide +kernel
theorem dL_law_893 : decode cL_law 893 = .ok (.iconst 2, 1) := by decide +kernel
theorem dL_law_894 : decode cL_law 894 = .ok (.iadd, 1) := by decide +kernel
theorem dL_law_895 : decode cL_law 895 = .ok (.iaload, 1) := by decide +kernel
theorem dL_law_896 : decode cL_law 896 = .ok (.i2l, 1) := by decide +kernel
theorem dL_law_897 : decode cL_law 897 = .ok (.ldc2_w 110, 3) := by decide +kernel
theorem dL_law_900 : decode cL_law 900 = .ok (.land, 1) := by decide +kernel
theorem dL_law_901 : decode cL_law 901 = .ok (.lor, 1) := by decide +kernel
theorem dL_law_902 : decode cL_law 902 = .ok (.invokevirtual 116, 3) := by decide +kernel
theorem dL_law_905 : decode cL_law 905 = .ok (.if_icmp .eq 103, 3) := by decide +kernel
theorem dL_law_908 : decode cL_law 908 = .ok (.iconst 0, 1) := by decide +kernel
theorem dL_law_909 : decode cL_law 909 = .ok (.ireturn, 1) := by decide +kernel
theorem dL_law_910 : decode cL_law 910 = .ok (.aload_n 1, 1) := by decide +kernel
theorem dL_law_911 : decode cL_law 911 = .ok (.invokevirtual 117, 3) := by decide +kernel
theorem dL_law_914 : decode cL_law 914 = .ok (.aload_n 2, 1) := by decide +kernel
theorem dL_law_915 : decode cL_law 915 = .ok (.invokevirtual 120, 3) := by decide +kernel
theorem dL_law_918 : decode cL_law 918 = .ok (.if_icmp .eq 90, 3) := by decide +kernel
theorem dL_law_921 : decode cL_law 921 = .ok (.iconst 0, 1) := by decide +kernel
theorem dL_law_922 : decode cL_law 922 = .ok (.ireturn, 1) := by decide +kernel
theorem dL_law_923 : decode cL_law 923 = .ok (.aload_n 1, 1) := by decide +kernel
theorem dL_law_924 : decode cL_law 924 = .ok (.invokevirtual 121, 3) := by decide +kernel
theorem dL_law_927 : decode cL_law 927 = .ok (.aload_n 2, 1) := by decide +kernel
theorem dL_law_928 : decode cL_law 928 = .ok (.invokevirtual 124, 3) := by decide +kernel
theorem dL_law_931 : decode cL_law 931 = .ok (.if_icmp .eq 77, 3) := by decide +kernel
theorem dL_law_934 : decode cL_law 934 = .ok (.iconst 0, 1) := by decide +kernel
theorem dL_law_935 : decode cL_law 935 = .ok (.ireturn, 1) := by decide +kernel
theorem dL_law_936 : decode cL_law 936 = .ok (.aload_n 1, 1) := by decide +kernel
theorem dL_law_937 : decode cL_law 937 = .ok (.invokevirtual 125, 3) := by decide +kernel
theorem dL_law_940 : decode cL_law 940 = .ok (.aload_n 2, 1) := by decide +kernel
theorem dL_law_941 : decode cL_law 941 = .ok (.invokevirtual 128, 3) := by decide +kernel
theorem dL_law_944 : decode cL_law 944 = .ok (.if_icmp .eq 64, 3) := by decide +kernel
theorem dL_law_947 : decode cL_law 947 = .ok (.iconst 0, 1) := by decide +kernel
theorem dL_law_948 : decode cL_law 948 = .ok (.ireturn, 1) := by decide +kernel
theorem dL_law_949 : decode cL_law 949 = .ok (.aload_n 1, 1) := by decide +kernel
theorem dL_law_950 : decode cL_law 950 = .ok (.invokevirtual 129, 3) := by decide +kernel
theorem dL_law_953 : decode cL_law 953 = .ok (.aload_n 2, 1) := by decide +kernel
theorem dL_law_954 : decode cL_law 954 = .ok (.invokevirtual 132, 3) := by decide +kernel
theorem dL_law_957 : decode cL_law 957 = .ok (.if_icmp .eq 51, 3) := by decide +kernel
theorem dL_law_960 : decode cL_law 960 = .ok (.iconst 0, 1) := by decide +kernel
theorem dL_law_961 : decode cL_law 961 = .ok (.ireturn, 1) := by decide +kernel
theorem dL_law_962 : decode cL_law 962 = .ok (.aload_n 1, 1) := by decide +kernel
theorem dL_law_963 : decode cL_law 963 = .ok (.aload_n 0, 1) := by decide +kernel
theorem dL_law_964 : decode cL_law 964 = .ok (.iload_n 3, 1) := by decide +kernel
theorem dL_law_965 : decode cL_law 965 = .ok (.iconst 1, 1) := by decide +kernel
theorem dL_law_966 : decode cL_law 966 = .ok (.iadd, 1) := by decide +kernel
theorem dL_law_967 : decode cL_law 967 = .ok (.iaload, 1) := by decide +kernel
theorem dL_law_968 : decode cL_law 968 = .ok (.invokevirtual 133, 3) := by decide +kernel
theorem dL_law_971 : decode cL_law 971 = .ok (.aload_n 2, 1) := by decide +kernel
theorem dL_law_972 : decode cL_law 972 = .ok (.aload_n 0, 1) := by decide +kernel
theorem dL_law_973 : decode cL_law 973 = .ok (.iload_n 3, 1) := by decide +kernel
theorem dL_law_974 : decode cL_law 974 = .ok (.iconst 1, 1) := by decide +kernel
theorem dL_law_975 : decode cL_law 975 = .ok (.iadd, 1) := by decide +kernel
theorem dL_law_976 : decode cL_law 976 = .ok (.iaload, 1) := by decide +kernel
theorem dL_law_977 : decode cL_law 977 = .ok (.invokevirtual 136, 3) := by decide +kernel
theorem dL_law_980 : decode cL_law 980 = .ok (.if_icmp .eq 28, 3) := by decide +kernel
theorem dL_law_983 : decode cL_law 983 = .ok (.iconst 0, 1) := by decide +kernel
theorem dL_law_984 : decode cL_law 984 = .ok (.ireturn, 1) := by decide +kernel
theorem dL_law_985 : decode cL_law 985 = .ok (.aload_n 1, 1) := by decide +kernel
theorem dL_law_986 : decode cL_law 986 = .ok (.aload_n 0, 1) := by decide +kernel
theorem dL_law_987 : decode cL_law 987 = .ok (.iload_n 3, 1) := by decide +kernel
theorem dL_law_988 : decode cL_law 988 = .ok (.iconst 1, 1) := by decide +kernel
theorem dL_law_989 : decode cL_law 989 = .ok (.iadd, 1) := by decide +kernel
theorem dL_law_990 : decode cL_law 990 = .ok (.iaload, 1) := by decide +kernel
theorem dL_law_991 : decode cL_law 991 = .ok (.invokevirtual 137, 3) := by decide +kernel
theorem dL_law_994 : decode cL_law 994 = .ok (.aload_n 2, 1) := by decide +kernel
theorem dL_law_995 : decode cL_law 995 = .ok (.aload_n 0, 1) := by decide +kernel
theorem dL_law_996 : decode cL_law 996 = .ok (.iload_n 3, 1) := by decide +kernel
theorem dL_law_997 : decode cL_law 997 = .ok (.iconst 1, 1) := by decide +kernel
theorem dL_law_998 : decode cL_law 998 = .ok (.iadd, 1) := by decide +kernel
theorem dL_law_999 : decode cL_law 999 = .ok (.iaload, 1) := by decide +kernel
theorem dL_law_1000 : decode cL_law 1000 = .ok (.invokevirtual 140, 3) := by decide +kernel
theorem dL_law_1003 : decode cL_law 1003 = .ok (.if_icmp .eq 5, 3) := by decide +kernel
theorem dL_law_1006 : decode cL_law 1006 = .ok (.iconst 0, 1) := by decide +kernel
theorem dL_law_1007 : decode cL_law 1007 = .ok (.ireturn, 1) := by decide +kernel
theorem dL_law_1008 : decode cL_law 1008 = .ok (.iinc 3 6, 3) := by decide +kernel
theorem dL_law_1011 : decode cL_law 1011 = .ok (.goto (-993), 3) := by decide +kernel
theorem dL_law_1014 : decode cL_law 1014 = .ok (.iconst 1, 1) := by decide +kernel
theorem dL_law_1015 : decode cL_law 1015 = .ok (.ireturn, 1) := by decide +kernel
end
section
/-! THE ENVIRONMENT: what every method may use of the machine's tables and statics, and that nobody changes -/
abbrev EV : Type := va_G × ClassId × ClassId × (Nat → Nat) × (Nat → Nat)
abbrev rq (k : Nat) : Room := { frames := k, cells := 0, slots := 0, locals := 32 * k }
abbrev tyE (E : EV) : List (ClassId × FieldType) := [(E.2.1, .int), (E.2.2.1, .char)]
def lenS : List Nat := [8, 5, 5, 4, 1, 2, 1, 1, 0]
def bytS : List (List Int32) := [[115, 78, 58, 78, 44, 78, 44, 78], [108, 78, 67, 61, 78], [119, 78, 67, 83, 78], [109, 78, 62, 78], [112], [99, 78], [97], [107], []]
def st_ix : List Nat := [86, 88, 90, 92, 94, 96, 98, 100, 102]
def st_tx : List String := ["sN:N,N,N", "lNC=N", "wNCSN", "mN>N", "p", "cN", "a", "k", ""]
def st_tab (n : String) (L : List Int32) (A : Nat → Prop) (U : State) (H : Heap) : Prop := ∃ t : Nat, va_Z RX7 n "[I" (.ref t) A U H ∧ va_T .int t 4 (fun j => .int (L.getD j 0)) A U H
def en_s (E : EV) (U : State) : Prop := ∀ i : Nat, i < 9 → vk_R RX2 (st_ix.getD i 0) (st_tx.getD i "") (E.2.2.2.1 i) U
def en_n (U : State) : Prop :=
  va_Nw (.methodLinkNest RX0 9 yX7_isWithin "TimingLights") U ∧ va_Nw (.methodLinkNest RX0 32 yX7_isPoints "TimingLights") U ∧ va_Nw (.methodLinkNest RX0 50 yX7_isColour "TimingLights") U ∧ va_Nw (.methodLinkNest RX5 19 yX7_bounded "TimingLights") U ∧ va_Nw (.methodLinkNest RX0 107 yX7_bounded "TimingLights") U ∧ va_Nw (.methodLinkNest RX6 33 yX7_isPoints "TimingLights") U ∧ va_Nw (.methodLinkNest RX2 43 yX7_isWithin "TimingLights") U ∧
  va_Nw (.fieldLinkNest RX3 15 "TimingLights" "FIRST_SETTING" "[I" "TimingLights") U ∧ va_Nw (.fieldLinkNest RX0 13 "TimingLights" "LEAST_SETTING" "[I" "TimingLights") U ∧ va_Nw (.fieldLinkNest RX0 17 "TimingLights" "MOST_SETTING" "[I" "TimingLights") U
def en (E : EV) (A : Nat → Prop) (U : State) (H : Heap) : Prop :=
  va_K E.1 vwCl (tyE E) U ∧ en_n U ∧ en_s E U ∧ st_tab "FIRST_SETTING" [1, 1, 8, 10] A U H ∧ st_tab "LEAST_SETTING" [1, 0, 1, 0] A U H ∧ st_tab "MOST_SETTING" [5, 9, 40, 50] A U H ∧
  vk_S 9 lenS bytS E.2.2.2.1 E.2.2.2.2 A U H ∧ va_Z RJ0 "COMPACT_STRINGS" "Z" (.int 1) A U H ∧ va_Zq RJ3 "SIOOBE_FORMATTER" "Ljava/util/function/BiFunction;" A U H
theorem st_tab.go {n : String} {L : List Int32} {A B : Nat → Prop} {s U : State} {H : Heap} {locs : List Loc} (h : st_tab n L A s s.heap) (hS : va_S A s.heap H locs) (hB : ∀ q, B q → A q) (hv : s.vm.Alike U.vm) : st_tab n L B U H := by
  obtain ⟨t, h1, h2⟩ := h
  exact ⟨t, ((h1.kept hS.2.1).moved hv).narrow hB, ((h2.kept hS.2.1).moved hv).narrow hB⟩
theorem en_n.warm {s U : State} (hW : s.WarmedH U.vm) (h : en_n s) : en_n U := by
  obtain ⟨h1, h2, h3, h4, h5, h6, h7, h8, h9, h10⟩ := h
  exact ⟨h1.warmM hW, h2.warmM hW, h3.warmM hW, h4.warmM hW, h5.warmM hW, h6.warmM hW, h7.warmM hW, h8.warmF hW, h9.warmF hW, h10.warmF hW⟩
theorem en_n.same {u U : State} (hv : u.vm = U.vm) (h : en_n u) : en_n U := by
  obtain ⟨h1, h2, h3, h4, h5, h6, h7, h8, h9, h10⟩ := h
  exact ⟨h1.same rfl hv, h2.same rfl hv, h3.same rfl hv, h4.same rfl hv, h5.same rfl hv, h6.same rfl hv, h7.same rfl hv, h8.same rfl hv, h9.same rfl hv, h10.same rfl hv⟩
theorem en.go {E : EV} {A B : Nat → Prop} {s U : State} {H : Heap} {locs : List Loc} (h : en E A s s.heap) (hS : va_S A s.heap H locs) (hB : ∀ q, B q → A q) (hW : s.WarmedH U.vm) : en E B U H := by
  obtain ⟨h1, h2, h3, h4, h5, h6, h7, h8, h9⟩ := h
  have hv := hW.alike
  exact ⟨h1.moved hv, h2.warm hW, fun i hi => vk_R.warm hW (h3 i hi), h4.go hS hB hv, h5.go hS hB hv, h6.go hS hB hv, ((h7.kept hS.2.1).moved hv).narrow hB, ((h8.kept hS.2.1).moved hv).narrow hB, ((h9.kept hS.2.1).moved hv).narrow hB⟩
theorem en.same {E : EV} {A : Nat → Prop} {u U : State} {H : Heap} (hv : U.vm = u.vm) (h : en E A u H) : en E A U H := by
  obtain ⟨h1, h2, h3, ⟨t4, h4, g4⟩, ⟨t5, h5, g5⟩, ⟨t6, h6, g6⟩, h7, h8, h9⟩ := h
  have ha : u.vm.Alike U.vm := by rw [hv]; exact Vm.Alike.refl u.vm
  exact ⟨h1.moved ha, h2.same hv.symm, fun i hi => vk_R.same hv (h3 i hi), ⟨t4, h4.moved ha, g4.moved ha⟩, ⟨t5, h5.moved ha, g5.moved ha⟩, ⟨t6, h6.moved ha, g6.moved ha⟩, h7.moved ha, h8.moved ha, h9.moved ha⟩
/-! CALLS: a world in which some cells are another's -/
def rp : va_W → List Nat → va_W → va_W
  | w, i :: is, x :: xs => rp (w.set i x) is xs
  | w, _, _ => w
theorem rp_get : ∀ (is : List Nat) (w1 w : va_W) (k : Nat) (q : Nat × va_E), is.length = w1.length → (rp w is w1)[k]? = some q → (∃ j : Nat, is[j]? = some k ∧ w1[j]? = some q) ∨ (k ∉ is ∧ w[k]? = some q)
  | [], _, w, k, q, _, h => Or.inr ⟨List.not_mem_nil, by simpa [rp] using h⟩
  | i :: is, [], w, k, q, hl, h => by simp at hl
  | i :: is, x :: xs, w, k, q, hl, h => by
    have h' : (rp (w.set i x) is xs)[k]? = some q := h
    rcases rp_get is xs (w.set i x) k q (by simpa using hl) h' with ⟨j, h1, h2⟩ | ⟨h1, h2⟩
    · exact Or.inl ⟨j + 1, by simpa using h1, by simpa using h2⟩
    · by_cases e : k = i
      · subst e
        rw [List.getElem?_set] at h2
        simp at h2
        exact Or.inl ⟨0, by simp, by simp [h2.2]⟩
      · rw [List.getElem?_set_ne (fun z => e z.symm)] at h2
        exact Or.inr ⟨fun z => by rcases List.mem_cons.mp z with z | z; exact e z; exact h1 z, h2⟩
theorem rp_fst : ∀ (is : List Nat) (w1 w : va_W), is.map (fun i => (w.map Prod.fst)[i]?) = w1.map (fun x => some x.1) → (rp w is w1).map Prod.fst = w.map Prod.fst
  | [], _, w, _ => by simp [rp]
  | i :: is, [], w, h => by simp at h
  | i :: is, x :: xs, w, h => by
    simp only [List.map_cons, List.cons.injEq] at h
    have e : (w.set i x).map Prod.fst = w.map Prod.fst := by
      rw [List.map_set]
      obtain ⟨hi, he⟩ := List.getElem?_eq_some_iff.mp h.1
      rw [← he]
      exact List.set_getElem_self hi
    show (rp (w.set i x) is xs).map Prod.fst = _
    rw [rp_fst is xs (w.set i x) (by rw [e]; exact h.2), e]
theorem va_D.con {A : Nat → Prop} {w w' : va_W} (hD : va_D A w) (h : w'.map Prod.fst = w.map Prod.fst) : va_D A w' := by
  have key : ∀ (k : Nat) (q : Nat × va_E), w'[k]? = some q → ∃ q', w[k]? = some q' ∧ q'.1 = q.1 := by
    intro k q hk
    have h1 : (w'.map Prod.fst)[k]? = some q.1 := by rw [List.getElem?_map, hk]; rfl
    rw [h, List.getElem?_map] at h1
    cases hq : w[k]? with
    | none => rw [hq] at h1; cases h1
    | some q' => rw [hq] at h1; exact ⟨q', rfl, Option.some.inj h1⟩
  refine ⟨fun i j p q hi hj e => ?_, fun k q hk => ?_⟩
  · obtain ⟨p', a1, a2⟩ := key i p hi
    obtain ⟨q', b1, b2⟩ := key j q hj
    exact hD.1 i j p' q' a1 b1 (by rw [a2, b2, e])
  · obtain ⟨q', a1, a2⟩ := key k q hk
    rw [← a2]
    exact hD.2 k q' a1
theorem fm_of {α β : Type} {f : α → Option β} : ∀ (is : List α) (wc : List β), is.map f = wc.map some → is.filterMap f = wc
  | [], [], _ => rfl
  | [], _ :: _, h => by simp at h
  | _ :: _, [], h => by simp at h
  | i :: is, x :: xs, h => by
    simp only [List.map_cons, List.cons.injEq] at h
    rw [List.filterMap_cons_some h.1, fm_of is xs h.2]
theorem rj {D : va_G} {cl : List vw_C} {A : Nat → Prop} {w wc w1 : va_W} {H H1 : Heap} (hP : va_P D cl w H) (hD : va_D A w) (is : List Nat) (hC : is.map (fun i => w[i]?) = wc.map some) (ha : wc.map Prod.fst = w1.map Prod.fst)
    (hk : ∀ q : Nat, q < H.size → ¬ va_A wc H.size q → H1[q]? = H[q]?) (hP1 : va_P D cl w1 H1) : va_P D cl (rp w is w1) H1 ∧ va_D A (rp w is w1) := by
  have hl : is.length = w1.length := by
    have e1 := congrArg List.length hC
    have e2 := congrArg List.length ha
    simp at e1 e2
    omega
  refine ⟨fun k q hkq => ?_, hD.con (rp_fst is w1 w ?_)⟩
  · rcases rp_get is w1 w k q hl hkq with ⟨j, h1, h2⟩ | ⟨h1, h2⟩
    · exact hP1 j q h2
    · have hlt := (hP k q h2).lt
      refine (hP k q h2).kept (hk q.1 hlt fun z => ?_)
      rcases z with ⟨j, e, z⟩ | z
      · have h3 : (is.map (fun i => w[i]?))[j]? = some (some (q.1, e)) := by rw [hC, List.getElem?_map, z]; rfl
        rw [List.getElem?_map] at h3
        cases hi : is[j]? with
        | none => rw [hi] at h3; cases h3
        | some i =>
          rw [hi] at h3
          have h4 : w[i]? = some (q.1, e) := Option.some.inj h3
          have := hD.1 k i q (q.1, e) h2 h4 rfl
          subst this
          exact h1 (List.mem_of_getElem? hi)
      · omega
  · have e1 : (is.map (fun i => w[i]?)).map (Option.map Prod.fst) = (wc.map some).map (Option.map Prod.fst) := by rw [hC]
    have e2 : w1.map (fun x => some x.1) = (w1.map Prod.fst).map some := by simp
    rw [e2, ← ha]
    simpa [List.map_map, Function.comp_def] using e1
/-! CONTRACTS: a method that makes nothing, over a world whose addresses stay: the answer and the world behind it -/
abbrev rc_Pc (E : EV) (av : List Value) (w : va_W) (sz : Nat) : Array Value → State → Prop := va_Pc av (fun U => U.heap.size = sz ∧ va_P E.1 vwCl w U.heap ∧ en E (va_A w sz) U U.heap ∧ va_D (fun _ => True) w)
def rcI (l : Launch) (E : EV) (y : MethodName) (cc : ByteArray) (mL : Nat) (rt : FieldType) (k : Nat) (av : List Value) (w : va_W) (v : Int32) (w1 : va_W) : Prop :=
  ∀ sz : Nat, Met l y (Cond.code y cc mL (some rt) :: bw) (rq k) (rc_Pc E av w sz) (va_Qi (fun (r : Int32) (_ : Unit) => r = v) (fun _ t => va_P E.1 vwCl w1 t.heap) (va_A w sz)) 0 0 (va_A w sz)
def rcV (l : Launch) (E : EV) (y : MethodName) (cc : ByteArray) (mL : Nat) (k : Nat) (av : List Value) (w : va_W) (w1 : va_W) : Prop :=
  ∀ sz : Nat, Met l y (Cond.code y cc mL none :: bw) (rq k) (rc_Pc E av w sz) (va_Qv (fun (_ : Unit) => True) (fun _ t => va_P E.1 vwCl w1 t.heap) (va_A w sz)) 0 0 (va_A w sz)
def rcR (l : Launch) (E : EV) (y : MethodName) (cc : ByteArray) (mL : Nat) (rt : FieldType) (k : Nat) (av : List Value) (w : va_W) (v : Nat) (w1 : va_W) : Prop :=
  ∀ sz : Nat, Met l y (Cond.code y cc mL (some rt) :: bw) (rq k) (rc_Pc E av w sz) (va_Qr (fun (_ : Unit) => True) (fun _ a t => a = v ∧ va_P E.1 vwCl w1 t.heap) (va_A w sz)) 0 0 (va_A w sz)
theorem rcI_of {l : Launch} {E : EV} {y : MethodName} {cc : ByteArray} {mL : Nat} {rt : FieldType} {k : Nat} {av : List Value} {w : va_W} {v : Int32} {w1 : va_W} (hy : plainName y.cls = true) (hlen : (lg_sl av).length ≤ mL)
    (body : ∀ (p : Program) (e : Env) (s : State) (m : MethodId) (below : List Frame) (meth : Method) (c : Code) (Q : State → Prop) (A : Nat → Prop) (ls : Array Slot),
      CallFix p m c cc mL s av.toArray bw y.cls → va_P E.1 vwCl w s.heap → va_D A w → en E A s s.heap → (∀ q, s.heap.size ≤ q → A q) → lv_has ls mL (lv_args 0 av) →
      (∀ (H : Heap) (locs : List Loc) (v' : Int32) (w' : va_W) (pc : Nat) (ls' : Array Slot), v' = v → w' = w1 → narrow rt (.int v') = .int v' → va_P E.1 vwCl w' H → va_S A s.heap H locs → decode cc pc = .ok (.ireturn, 1) → W p l e (rq k) s m av.toArray below meth c H locs 0 0 Q (F0 m pc ls' [.int v'])) →
      W p l e (rq k) s m av.toArray below meth c s.heap [] 0 0 Q (F0 m 0 ls [])) : rcI l E y cc mL rt k av w v w1 := by
  intro sz
  refine Met.ofW (cc := cc) (maxL := mL) (ret := some rt) hy rfl ?_
  intro p e s m args below meth c s₁ B hml hv
  obtain ⟨rfl, hsz, hP, hE, hD0⟩ := hv
  subst hsz
  have hts := atoms_spec (ws := Cond.code y cc mL (some rt) :: bw) B.pre
  rw [lg_entry_eq]
  have hl := lv_entry av (n := mL) hlen
  generalize (lg_sl av ++ List.replicate (mL - (lg_sl av).length) Slot.unset).toArray = ls at hl ⊢
  refine body p e s m below meth c _ (va_A w s.heap.size) ls ⟨B.exec, B.bytes, hml, findClass_of_methodNamed B.named, fun x hx => hts x (List.mem_cons_of_mem _ hx)⟩ hP hD0.self hE (fun q h => Or.inr h) hl ?_
  intro H locs v' w' pc ls' hv hw hn hP1 hS hdg
  subst hv
  subst hw
  exact W.zret B.exec B.bytes B.returns hn (fun t ht hW => ⟨⟨v', (), rfl, rfl, by show va_P E.1 vwCl w' t.heap; rw [ht]; exact hP1⟩, hS.F ht⟩) hS.2.2 hdg B.notSynchronized
theorem rcV_of {l : Launch} {E : EV} {y : MethodName} {cc : ByteArray} {mL : Nat} {k : Nat} {av : List Value} {w : va_W} {w1 : va_W} (hy : plainName y.cls = true) (hlen : (lg_sl av).length ≤ mL)
    (body : ∀ (p : Program) (e : Env) (s : State) (m : MethodId) (below : List Frame) (meth : Method) (c : Code) (Q : State → Prop) (A : Nat → Prop) (ls : Array Slot),
      CallFix p m c cc mL s av.toArray bw y.cls → va_P E.1 vwCl w s.heap → va_D A w → en E A s s.heap → (∀ q, s.heap.size ≤ q → A q) → lv_has ls mL (lv_args 0 av) →
      (∀ (H : Heap) (locs : List Loc) (w' : va_W) (pc : Nat) (ls' : Array Slot), w' = w1 → va_P E.1 vwCl w' H → va_S A s.heap H locs → decode cc pc = .ok (.return_, 1) → W p l e (rq k) s m av.toArray below meth c H locs 0 0 Q (F0 m pc ls' [])) →
      W p l e (rq k) s m av.toArray below meth c s.heap [] 0 0 Q (F0 m 0 ls [])) : rcV l E y cc mL k av w w1 := by
  intro sz
  refine Met.ofW (cc := cc) (maxL := mL) (ret := none) hy rfl ?_
  intro p e s m args below meth c s₁ B hml hv
  obtain ⟨rfl, hsz, hP, hE, hD0⟩ := hv
  subst hsz
  have hts := atoms_spec (ws := Cond.code y cc mL none :: bw) B.pre
  rw [lg_entry_eq]
  have hl := lv_entry av (n := mL) hlen
  generalize (lg_sl av ++ List.replicate (mL - (lg_sl av).length) Slot.unset).toArray = ls at hl ⊢
  refine body p e s m below meth c _ (va_A w s.heap.size) ls ⟨B.exec, B.bytes, hml, findClass_of_methodNamed B.named, fun x hx => hts x (List.mem_cons_of_mem _ hx)⟩ hP hD0.self hE (fun q h => Or.inr h) hl ?_
  intro H locs w' pc ls' hw hP1 hS hdg
  subst hw
  exact W.vret B.exec B.bytes B.returns (fun t ht hW => ⟨⟨(), rfl, trivial, by show va_P E.1 vwCl w' t.heap; rw [ht]; exact hP1⟩, hS.F ht⟩) hS.2.2 hdg B.notSynchronized
theorem rcR_of {l : Launch} {E : EV} {y : MethodName} {cc : ByteArray} {mL : Nat} {rt : FieldType} {k : Nat} {av : List Value} {w : va_W} {v : Nat} {w1 : va_W} (hy : plainName y.cls = true) (hlen : (lg_sl av).length ≤ mL) (hrt : (∃ n, rt = .object n) ∨ ∃ t, rt = .array t)
    (body : ∀ (p : Program) (e : Env) (s : State) (m : MethodId) (below : List Frame) (meth : Method) (c : Code) (Q : State → Prop) (A : Nat → Prop) (ls : Array Slot),
      CallFix p m c cc mL s av.toArray bw y.cls → va_P E.1 vwCl w s.heap → va_D A w → en E A s s.heap → (∀ q, s.heap.size ≤ q → A q) → lv_has ls mL (lv_args 0 av) →
      (∀ (H : Heap) (locs : List Loc) (v' : Nat) (w' : va_W) (pc : Nat) (ls' : Array Slot), v' = v → w' = w1 → va_P E.1 vwCl w' H → va_S A s.heap H locs → decode cc pc = .ok (.areturn, 1) → W p l e (rq k) s m av.toArray below meth c H locs 0 0 Q (F0 m pc ls' [.ref v'])) →
      W p l e (rq k) s m av.toArray below meth c s.heap [] 0 0 Q (F0 m 0 ls [])) : rcR l E y cc mL rt k av w v w1 := by
  intro sz
  refine Met.ofW (cc := cc) (maxL := mL) (ret := some rt) hy rfl ?_
  intro p e s m args below meth c s₁ B hml hv
  obtain ⟨rfl, hsz, hP, hE, hD0⟩ := hv
  subst hsz
  have hts := atoms_spec (ws := Cond.code y cc mL (some rt) :: bw) B.pre
  rw [lg_entry_eq]
  have hl := lv_entry av (n := mL) hlen
  generalize (lg_sl av ++ List.replicate (mL - (lg_sl av).length) Slot.unset).toArray = ls at hl ⊢
  refine body p e s m below meth c _ (va_A w s.heap.size) ls ⟨B.exec, B.bytes, hml, findClass_of_methodNamed B.named, fun x hx => hts x (List.mem_cons_of_mem _ hx)⟩ hP hD0.self hE (fun q h => Or.inr h) hl ?_
  intro H locs v' w' pc ls' hv hw hP1 hS hdg
  subst hv
  subst hw
  exact W.aret B.exec B.bytes B.returns hrt (Or.inr ⟨_, rfl⟩) (fun t ht hW => ⟨⟨(), v', rfl, trivial, rfl, by show va_P E.1 vwCl w' t.heap; rw [ht]; exact hP1⟩, hS.F ht⟩) hS.2.2 hdg B.notSynchronized
/-- what a caller knows of a method: its code is among the tables' words, how many parameters it has -/
def cdB (y : MethodName) (cc : ByteArray) (mL : Nat) (ret : Option FieldType) (n : Nat) : Prop := Cond.code y cc mL ret ∈ bw ∧ Cond.initialized y.cls ∈ bw ∧ y.cls ≠ "java/lang/invoke/MethodHandle" ∧ y.cls ≠ "java/lang/invoke/VarHandle" ∧ (parseMethodDescriptor y.desc).map (fun d => d.parameters.length) = some n
def cdV (C : String) (y : MethodName) (cc : ByteArray) (mL : Nat) (ret : Option FieldType) (n : Nat) : Prop := cdB y cc mL ret n ∧ Cond.instanceMethod y ∈ bw ∧ Cond.selects C y y ∈ bw
def cdS (y : MethodName) (cc : ByteArray) (mL : Nat) (ret : Option FieldType) (n : Nat) : Prop := cdB y cc mL ret n ∧ Cond.static y ∈ bw
theorem nI_z {a : Nat} (ha : a < 2 ^ 31) : nI a = 0 ↔ a = 0 := by
  rw [← nI_0]; exact nI_eq ha (by omega)
theorem nI_g {a : Nat} (ha : a < 2 ^ 31) : 0 < nI a ↔ 0 < a := by
  rw [← nI_0]; exact nI_ltI (by omega) ha
theorem nI_l0 {a : Nat} (ha : a < 2 ^ 31) : nI a ≤ 0 ↔ a ≤ 0 := by
  rw [← nI_0]; exact nI_leI ha (by omega)
section RW
variable {p : Program} {l : Launch} {e : Env} {R : Room} {s : State} {m : MethodId} {args : Array Value} {below : List Frame} {meth : Method} {c : Code} {H : Heap} {locs : List Loc} {cells slots : Nat} {Q : State → Prop}
variable {cc : ByteArray} {pc nL : Nat} {ls : Array Slot} {rest st0 : List Value} {own : String} {E : EV} {A : Nat → Prop} {w wc w1 : va_W}
variable {y : MethodName} {cc2 : ByteArray} {mL2 j idx n : Nat} {rt : FieldType} {As : List Value} {v : Int32} {b : Nat} {C : String} {T : u_T} {N ci q0 : Nat} {fs : List Value}
theorem rc_cb {ret : Option FieldType} (S : CallFix p m c cc nL s args bw own) (hc : cdB y cc2 mL2 ret n) (hlk : Cond.methodLink own idx y ∈ bw) (hR : j + 1 ≤ R.frames ∧ 8 + (mL2 + 11) + 32 * j ≤ R.locals) : CallB R s args own idx y cc2 mL2 ret (Cond.code y cc2 mL2 ret :: bw) (rq j) 0 0 n :=
  callB_of n S.2.2.2.2 (bw_good hc.1) rfl rfl rfl (S.2.2.2.2 _ hc.2.1) (S.2.2.2.2 _ hlk) hc.2.2 hR
theorem rc_pre (hE : en E A s s.heap) (hS : va_S A s.heap H locs) (hP : va_P E.1 vwCl w H) (hD : va_D A w) (hA : ∀ q, s.heap.size ≤ q → A q) (is : List Nat) (hC : is.map (fun i => w[i]?) = wc.map some) (hnd : va_nd is = true) (av : List Value) :
    FrameBlind (rc_Pc E av wc H.size) ∧ (∀ U : State, U.heap = H → s.WarmedH U.vm → rc_Pc E av wc H.size av.toArray U) ∧ ∀ q, va_A wc H.size q → A q := by
  have hF := va_free (wc := wc) hD hS hA is hC
  refine ⟨fun a U g mk q => ?_, fun U hU hW => ?_, hF⟩
  · obtain ⟨q0, q1, qP, qE, qD⟩ := q
    exact ⟨q0, q1, qP, qE.same rfl, qD⟩
  · subst hU
    exact ⟨rfl, rfl, hP.sub is (fm_of is wc hC), hE.go hS hF hW, (hD.sub is hnd hC).weaken (fun _ _ _ _ => trivial)⟩
/-- a call of an instance method with an int answer -/
theorem rwV (S : CallFix p m c cc nL s args bw own) (hM : rcI l E y cc2 mL2 rt j (.ref b :: As) wc v w1) (hc : cdV C y cc2 mL2 (some rt) n) (hlk : Cond.methodLink own idx y ∈ bw) (hR : j + 1 ≤ R.frames ∧ 8 + (mL2 + 11) + 32 * j ≤ R.locals) (hf : cells ≤ R.cells ∧ slots ≤ R.slots)
    (hP : va_P E.1 vwCl w H) (hD : va_D A w) (hE : en E A s s.heap) (hA : ∀ q, s.heap.size ≤ q → A q) (hS : va_S A s.heap H locs) (is : List Nat) (hC : is.map (fun i => w[i]?) = wc.map some) (hnd : va_nd is = true) (ha : wc.map Prod.fst = w1.map Prod.fst)
    (hci : vwCl[ci]? = some (C, T, N)) (hq0 : wc[q0]? = some (b, .inr (ci, fs))) (hn : As.length = n) (hst : st0 = As.reverse ++ .ref b :: rest) (hW : (rest.map fun v => v.category).sum ≤ 8) (hls : ls.size = nL) (hdg : decode cc pc = .ok (.invokevirtual idx, 3))
    (kk : ∀ (H1 : Heap) (locs1 : List Loc), va_P E.1 vwCl (rp w is w1) H1 → va_D A (rp w is w1) → va_S A s.heap H1 locs1 → W p l e R s m args below meth c H1 locs1 cells slots Q (F0 m (pc + 3) ls (.int v :: rest))) : W p l e R s m args below meth c H locs cells slots Q (F0 m pc ls st0) := by
  obtain ⟨hb0, hpre, hF⟩ := rc_pre hE hS hP hD hA is hC hnd (.ref b :: As)
  refine va_calli (va_runV (As := As) (rest := rest) S (hM H.size) ⟨rc_cb S hc.1 hlk hR, S.2.2.2.2 _ hc.2.1, S.2.2.2.2 _ hc.2.2⟩ ⟨hb0, va_recv hE.1 (hP.sub is (fm_of is wc hC)) hci hq0, hpre⟩ rfl hn hls hst (by show 2 * 0 + _ ≤ 8; omega) hdg ⟨hf.1, hf.2⟩) hS (fun q _ h => hF q h) hF (fun r u t H1 locs1 ht hvm hr hB hz1 hk1 hS1 => ?_)
  rw [ht] at hB
  rw [show r = v from hr]
  obtain ⟨hP2, hD2⟩ := rj hP hD is hC ha hk1 hB
  exact kk H1 locs1 hP2 hD2 hS1
theorem rwVv (S : CallFix p m c cc nL s args bw own) (hM : rcV l E y cc2 mL2 j (.ref b :: As) wc w1) (hc : cdV C y cc2 mL2 none n) (hlk : Cond.methodLink own idx y ∈ bw) (hR : j + 1 ≤ R.frames ∧ 8 + (mL2 + 11) + 32 * j ≤ R.locals) (hf : cells ≤ R.cells ∧ slots ≤ R.slots)
    (hP : va_P E.1 vwCl w H) (hD : va_D A w) (hE : en E A s s.heap) (hA : ∀ q, s.heap.size ≤ q → A q) (hS : va_S A s.heap H locs) (is : List Nat) (hC : is.map (fun i => w[i]?) = wc.map some) (hnd : va_nd is = true) (ha : wc.map Prod.fst = w1.map Prod.fst)
    (hci : vwCl[ci]? = some (C, T, N)) (hq0 : wc[q0]? = some (b, .inr (ci, fs))) (hn : As.length = n) (hst : st0 = As.reverse ++ .ref b :: rest) (hW : (rest.map fun v => v.category).sum ≤ 8) (hls : ls.size = nL) (hdg : decode cc pc = .ok (.invokevirtual idx, 3))
    (kk : ∀ (H1 : Heap) (locs1 : List Loc), va_P E.1 vwCl (rp w is w1) H1 → va_D A (rp w is w1) → va_S A s.heap H1 locs1 → W p l e R s m args below meth c H1 locs1 cells slots Q (F0 m (pc + 3) ls rest)) : W p l e R s m args below meth c H locs cells slots Q (F0 m pc ls st0) := by
  obtain ⟨hb0, hpre, hF⟩ := rc_pre hE hS hP hD hA is hC hnd (.ref b :: As)
  refine va_callv (va_runV (As := As) (rest := rest) S (hM H.size) ⟨rc_cb S hc.1 hlk hR, S.2.2.2.2 _ hc.2.1, S.2.2.2.2 _ hc.2.2⟩ ⟨hb0, va_recv hE.1 (hP.sub is (fm_of is wc hC)) hci hq0, hpre⟩ rfl hn hls hst (by show 2 * 0 + _ ≤ 8; omega) hdg ⟨hf.1, hf.2⟩) hS (fun q _ h => hF q h) hF (fun u t H1 locs1 ht hvm hr hB hz1 hk1 hS1 => ?_)
  rw [ht] at hB
  obtain ⟨hP2, hD2⟩ := rj hP hD is hC ha hk1 hB
  exact kk H1 locs1 hP2 hD2 hS1
theorem rwS (S : CallFix p m c cc nL s args bw own) (hM : rcI l E y cc2 mL2 rt j As wc v w1) (hc : cdS y cc2 mL2 (some rt) n) (hlk : Cond.methodLink own idx y ∈ bw) (hR : j + 1 ≤ R.frames ∧ 8 + (mL2 + 11) + 32 * j ≤ R.locals) (hf : cells ≤ R.cells ∧ slots ≤ R.slots)
    (hP : va_P E.1 vwCl w H) (hD : va_D A w) (hE : en E A s s.heap) (hA : ∀ q, s.heap.size ≤ q → A q) (hS : va_S A s.heap H locs) (is : List Nat) (hC : is.map (fun i => w[i]?) = wc.map some) (hnd : va_nd is = true) (ha : wc.map Prod.fst = w1.map Prod.fst)
    (hn : As.length = n) (hst : st0 = As.reverse ++ rest) (hW : (rest.map fun v => v.category).sum ≤ 8) (hls : ls.size = nL) (hdg : decode cc pc = .ok (.invokestatic idx, 3))
    (kk : ∀ (H1 : Heap) (locs1 : List Loc), va_P E.1 vwCl (rp w is w1) H1 → va_D A (rp w is w1) → va_S A s.heap H1 locs1 → W p l e R s m args below meth c H1 locs1 cells slots Q (F0 m (pc + 3) ls (.int v :: rest))) : W p l e R s m args below meth c H locs cells slots Q (F0 m pc ls st0) := by
  obtain ⟨hb0, hpre, hF⟩ := rc_pre hE hS hP hD hA is hC hnd As
  refine va_calli (va_runS (As := As) (rest := rest) S (hM H.size) ⟨rc_cb S hc.1 hlk hR, S.2.2.2.2 _ hc.2⟩ ⟨hb0, hpre⟩ rfl hn hls hst (by show 2 * 0 + _ ≤ 8; omega) hdg ⟨hf.1, hf.2⟩) hS (fun q _ h => hF q h) hF (fun r u t H1 locs1 ht hvm hr hB hz1 hk1 hS1 => ?_)
  rw [ht] at hB
  rw [show r = v from hr]
  obtain ⟨hP2, hD2⟩ := rj hP hD is hC ha hk1 hB
  exact kk H1 locs1 hP2 hD2 hS1
theorem rwSv (S : CallFix p m c cc nL s args bw own) (hM : rcV l E y cc2 mL2 j As wc w1) (hc : cdS y cc2 mL2 none n) (hlk : Cond.methodLink own idx y ∈ bw) (hR : j + 1 ≤ R.frames ∧ 8 + (mL2 + 11) + 32 * j ≤ R.locals) (hf : cells ≤ R.cells ∧ slots ≤ R.slots)
    (hP : va_P E.1 vwCl w H) (hD : va_D A w) (hE : en E A s s.heap) (hA : ∀ q, s.heap.size ≤ q → A q) (hS : va_S A s.heap H locs) (is : List Nat) (hC : is.map (fun i => w[i]?) = wc.map some) (hnd : va_nd is = true) (ha : wc.map Prod.fst = w1.map Prod.fst)
    (hn : As.length = n) (hst : st0 = As.reverse ++ rest) (hW : (rest.map fun v => v.category).sum ≤ 8) (hls : ls.size = nL) (hdg : decode cc pc = .ok (.invokestatic idx, 3))
    (kk : ∀ (H1 : Heap) (locs1 : List Loc), va_P E.1 vwCl (rp w is w1) H1 → va_D A (rp w is w1) → va_S A s.heap H1 locs1 → W p l e R s m args below meth c H1 locs1 cells slots Q (F0 m (pc + 3) ls rest)) : W p l e R s m args below meth c H locs cells slots Q (F0 m pc ls st0) := by
  obtain ⟨hb0, hpre, hF⟩ := rc_pre hE hS hP hD hA is hC hnd As
  refine va_callv (va_runS (As := As) (rest := rest) S (hM H.size) ⟨rc_cb S hc.1 hlk hR, S.2.2.2.2 _ hc.2⟩ ⟨hb0, hpre⟩ rfl hn hls hst (by show 2 * 0 + _ ≤ 8; omega) hdg ⟨hf.1, hf.2⟩) hS (fun q _ h => hF q h) hF (fun u t H1 locs1 ht hvm hr hB hz1 hk1 hS1 => ?_)
  rw [ht] at hB
  obtain ⟨hP2, hD2⟩ := rj hP hD is hC ha hk1 hB
  exact kk H1 locs1 hP2 hD2 hS1
theorem rwSr {v : Nat} (S : CallFix p m c cc nL s args bw own) (hM : rcR l E y cc2 mL2 rt j As wc v w1) (hc : cdS y cc2 mL2 (some rt) n) (hlk : Cond.methodLink own idx y ∈ bw) (hR : j + 1 ≤ R.frames ∧ 8 + (mL2 + 11) + 32 * j ≤ R.locals) (hf : cells ≤ R.cells ∧ slots ≤ R.slots)
    (hP : va_P E.1 vwCl w H) (hD : va_D A w) (hE : en E A s s.heap) (hA : ∀ q, s.heap.size ≤ q → A q) (hS : va_S A s.heap H locs) (is : List Nat) (hC : is.map (fun i => w[i]?) = wc.map some) (hnd : va_nd is = true) (ha : wc.map Prod.fst = w1.map Prod.fst)
    (hn : As.length = n) (hst : st0 = As.reverse ++ rest) (hW : (rest.map fun v => v.category).sum ≤ 8) (hls : ls.size = nL) (hdg : decode cc pc = .ok (.invokestatic idx, 3))
    (kk : ∀ (H1 : Heap) (locs1 : List Loc), va_P E.1 vwCl (rp w is w1) H1 → va_D A (rp w is w1) → va_S A s.heap H1 locs1 → W p l e R s m args below meth c H1 locs1 cells slots Q (F0 m (pc + 3) ls (.ref v :: rest))) : W p l e R s m args below meth c H locs cells slots Q (F0 m pc ls st0) := by
  obtain ⟨hb0, hpre, hF⟩ := rc_pre hE hS hP hD hA is hC hnd As
  refine va_callr (va_runS (As := As) (rest := rest) S (hM H.size) ⟨rc_cb S hc.1 hlk hR, S.2.2.2.2 _ hc.2⟩ ⟨hb0, hpre⟩ rfl hn hls hst (by show 2 * 0 + _ ≤ 8; omega) hdg ⟨hf.1, hf.2⟩) hS (fun q _ h => hF q h) hF (fun u ra t H1 locs1 ht hvm hr hB hz1 hk1 hS1 => ?_)
  obtain ⟨rfl, hB⟩ := hB
  rw [ht] at hB
  obtain ⟨hP2, hD2⟩ := rj hP hD is hC ha hk1 hB
  exact kk H1 locs1 hP2 hD2 hS1
/-- a static private method of the nest host -/
theorem rwN {host : String} (S : CallFix p m c cc nL s args bw own) (hM : rcI l E y cc2 mL2 rt j As wc v w1) (hc : cdS y cc2 mL2 (some rt) n) (hlk : va_Nw (.methodLinkNest own idx y host) s) (hR : j + 1 ≤ R.frames ∧ 8 + (mL2 + 11) + 32 * j ≤ R.locals) (hf : cells ≤ R.cells ∧ slots ≤ R.slots)
    (hP : va_P E.1 vwCl w H) (hD : va_D A w) (hE : en E A s s.heap) (hA : ∀ q, s.heap.size ≤ q → A q) (hS : va_S A s.heap H locs) (is : List Nat) (hC : is.map (fun i => w[i]?) = wc.map some) (hnd : va_nd is = true) (ha : wc.map Prod.fst = w1.map Prod.fst)
    (hn : As.length = n) (hst : st0 = As.reverse ++ rest) (hW : (rest.map fun v => v.category).sum ≤ 8) (hls : ls.size = nL) (hdg : decode cc pc = .ok (.invokestatic idx, 3))
    (kk : ∀ (H1 : Heap) (locs1 : List Loc), va_P E.1 vwCl (rp w is w1) H1 → va_D A (rp w is w1) → va_S A s.heap H1 locs1 → W p l e R s m args below meth c H1 locs1 cells slots Q (F0 m (pc + 3) ls (.int v :: rest))) : W p l e R s m args below meth c H locs cells slots Q (F0 m pc ls st0) := by
  obtain ⟨hb0, hpre, hF⟩ := rc_pre hE hS hP hD hA is hC hnd As
  refine va_calli (va_runSN (As := As) (rest := rest) S (hM H.size) ⟨va_cnB n S.2.2.2.2 (bw_good hc.1.1) rfl rfl rfl hlk (S.2.2.2.2 _ hc.1.2.1) hc.1.2.2 hR, S.2.2.2.2 _ hc.2, trivial⟩ ⟨hb0, hpre⟩ rfl hn hls hst (by show 2 * 0 + _ ≤ 8; omega) hdg ⟨hf.1, hf.2⟩) hS (fun q _ h => hF q h) hF (fun r u t H1 locs1 ht hvm hr hB hz1 hk1 hS1 => ?_)
  rw [ht] at hB
  rw [show r = v from hr]
  obtain ⟨hP2, hD2⟩ := rj hP hD is hC ha hk1 hB
  exact kk H1 locs1 hP2 hD2 hS1
/-! Math -/
def iabs (x : Int32) : Int32 := if 0 ≤ x then x else 0 - x
def imax (x y : Int32) : Int32 := if x < y then y else x
def imin (x y : Int32) : Int32 := if y < x then y else x
theorem rw_abs (S : CallFix p m c cc nL s args bw own) (hls : ls.size = nL) (hlk : Cond.methodLink own idx Lib.Math.abs.name ∈ bw) (hR : 1 ≤ R.frames ∧ 24 ≤ R.locals) (hW : (rest.map fun v => v.category).sum ≤ 8) (hf : cells ≤ R.cells ∧ slots ≤ R.slots) {x : Int32} (hdg : decode cc pc = .ok (.invokestatic idx, 3))
    (kk : W p l e R s m args below meth c H locs cells slots Q (F0 m (pc + 3) ls (.int (iabs x) :: rest))) : W p l e R s m args below meth c H locs cells slots Q (F0 m pc ls (.int x :: rest)) :=
  va_mabs S.1 S.2.1 (S.2.2.1.trans hls.symm) S.2.2.2.1 (S.2.2.2.2 _ hlk) (S.2.2.2.2 _ bw_310) (S.2.2.2.2 _ bw_64) (S.2.2.2.2 _ bw_311) hR.1 (by omega) hf.1 hf.2 hdg kk
theorem rw_max (S : CallFix p m c cc nL s args bw own) (hls : ls.size = nL) (hlk : Cond.methodLink own idx Lib.Math.max.name ∈ bw) (hR : 1 ≤ R.frames ∧ 24 ≤ R.locals) (hW : (rest.map fun v => v.category).sum ≤ 8) (hf : cells ≤ R.cells ∧ slots ≤ R.slots) {x z : Int32} (hdg : decode cc pc = .ok (.invokestatic idx, 3))
    (kk : W p l e R s m args below meth c H locs cells slots Q (F0 m (pc + 3) ls (.int (imax x z) :: rest))) : W p l e R s m args below meth c H locs cells slots Q (F0 m pc ls (.int z :: .int x :: rest)) :=
  va_mmax S.1 S.2.1 (S.2.2.1.trans hls.symm) S.2.2.2.1 (S.2.2.2.2 _ hlk) (S.2.2.2.2 _ bw_142) (S.2.2.2.2 _ bw_64) (S.2.2.2.2 _ bw_143) hR.1 (by omega) hf.1 hf.2 hdg kk
theorem rw_min (S : CallFix p m c cc nL s args bw own) (hls : ls.size = nL) (hlk : Cond.methodLink own idx Lib.Math.min.name ∈ bw) (hR : 1 ≤ R.frames ∧ 24 ≤ R.locals) (hW : (rest.map fun v => v.category).sum ≤ 8) (hf : cells ≤ R.cells ∧ slots ≤ R.slots) {x z : Int32} (hdg : decode cc pc = .ok (.invokestatic idx, 3))
    (kk : W p l e R s m args below meth c H locs cells slots Q (F0 m (pc + 3) ls (.int (imin x z) :: rest))) : W p l e R s m args below meth c H locs cells slots Q (F0 m pc ls (.int z :: .int x :: rest)) :=
  va_mmin S.1 S.2.1 (S.2.2.1.trans hls.symm) S.2.2.2.1 (S.2.2.2.2 _ hlk) (S.2.2.2.2 _ bw_249) (S.2.2.2.2 _ bw_64) (S.2.2.2.2 _ bw_250) hR.1 (by omega) hf.1 hf.2 hdg kk
/-! ROWS over numbers below 2^31 -/
theorem rn_add (hx : p.tables.exec = Jvm.exec) (hb : c.code = cc) {a b : Nat} (hdg : decode cc pc = .ok (.iadd, 1)) (k : W p l e R s m args below meth c H locs cells slots Q (F0 m (pc + 1) ls (.int (nI (a + b)) :: rest))) : W p l e R s m args below meth c H locs cells slots Q (F0 m pc ls (.int (nI b) :: .int (nI a) :: rest)) :=
  lv_iadd hx hb hdg (by rw [nI_add]; exact k)
theorem rn_mul (hx : p.tables.exec = Jvm.exec) (hb : c.code = cc) {a b : Nat} (hdg : decode cc pc = .ok (.imul, 1)) (k : W p l e R s m args below meth c H locs cells slots Q (F0 m (pc + 1) ls (.int (nI (a * b)) :: rest))) : W p l e R s m args below meth c H locs cells slots Q (F0 m pc ls (.int (nI b) :: .int (nI a) :: rest)) :=
  lv_imul hx hb hdg (by rw [pk_mul]; exact k)
theorem rn_sub (hx : p.tables.exec = Jvm.exec) (hb : c.code = cc) {a b : Nat} (hdg : decode cc pc = .ok (.isub, 1)) (h : b ≤ a) (k : W p l e R s m args below meth c H locs cells slots Q (F0 m (pc + 1) ls (.int (nI (a - b)) :: rest))) : W p l e R s m args below meth c H locs cells slots Q (F0 m pc ls (.int (nI b) :: .int (nI a) :: rest)) :=
  lv_isub hx hb hdg (by rw [pk_sub h]; exact k)
theorem rn_div (hx : p.tables.exec = Jvm.exec) (hb : c.code = cc) {a b : Nat} (hdg : decode cc pc = .ok (.idiv, 1)) (h1 : a < 2 ^ 31) (h2 : 0 < b) (h3 : b < 2 ^ 31) (k : W p l e R s m args below meth c H locs cells slots Q (F0 m (pc + 1) ls (.int (nI (a / b)) :: rest))) : W p l e R s m args below meth c H locs cells slots Q (F0 m pc ls (.int (nI b) :: .int (nI a) :: rest)) :=
  lv_idiv hx hb hdg (nI_ne0 h2 h3) (by rw [pk_div h1 h2 h3]; exact k)
theorem rn_rem (hx : p.tables.exec = Jvm.exec) (hb : c.code = cc) {a b : Nat} (hdg : decode cc pc = .ok (.irem, 1)) (h1 : a < 2 ^ 31) (h2 : 0 < b) (h3 : b < 2 ^ 31) (k : W p l e R s m args below meth c H locs cells slots Q (F0 m (pc + 1) ls (.int (nI (a % b)) :: rest))) : W p l e R s m args below meth c H locs cells slots Q (F0 m pc ls (.int (nI b) :: .int (nI a) :: rest)) :=
  lv_irem hx hb hdg (nI_ne0 h2 h3) (by rw [pk_rem h1 h2 h3]; exact k)
theorem rn_inc (hx : p.tables.exec = Jvm.exec) (hb : c.code = cc) {i k : Nat} {n : Int} {a d : Nat} {lv lv' : List (Nat × Value)} (hdg : decode cc pc = .ok (.iinc i n, 3)) (h : lv_has ls nL lv) (hk : lv[k]? = some (i, .int (nI a))) (hv : Int32.ofInt n = nI d) (hn : i < nL) (hl : (i, Value.int (nI (a + d))) :: lv.filter (fun q => !(q.1 == i) && !(q.1 + 1 == i && q.2.category == 2)) = lv')
    (kk : ∀ ls' : Array Slot, lv_has ls' nL lv' → W p l e R s m args below meth c H locs cells slots Q (F0 m (pc + 3) ls' rest)) : W p l e R s m args below meth c H locs cells slots Q (F0 m pc ls rest) :=
  lv_iinc (v := nI (a + d)) hx hb hdg h hk (by rw [hv, nI_add]) hn hl kk
theorem rn_dec (hx : p.tables.exec = Jvm.exec) (hb : c.code = cc) {i k : Nat} {n : Int} {a : Nat} {lv lv' : List (Nat × Value)} (hdg : decode cc pc = .ok (.iinc i n, 3)) (h : lv_has ls nL lv) (hk : lv[k]? = some (i, .int (nI a))) (hv : Int32.ofInt n = -1) (h0 : 0 < a) (hn : i < nL) (hl : (i, Value.int (nI (a - 1))) :: lv.filter (fun q => !(q.1 == i) && !(q.1 + 1 == i && q.2.category == 2)) = lv')
    (kk : ∀ ls' : Array Slot, lv_has ls' nL lv' → W p l e R s m args below meth c H locs cells slots Q (F0 m (pc + 3) ls' rest)) : W p l e R s m args below meth c H locs cells slots Q (F0 m pc ls rest) :=
  lv_iinc (v := nI (a - 1)) hx hb hdg h hk (by rw [hv, sb_m1 h0]) hn hl kk
theorem rn_iald (hx : p.tables.exec = Jvm.exec) (hb : c.code = cc) {D : va_G} {cl : List vw_C} {tys : List (ClassId × FieldType)} {a : Nat} (hK : va_K D cl tys s) (hP : va_P D cl w H) (q0 t0 : Nat) {cA : ClassId} {n : Nat} {f : Nat → Int32} (ha : w[q0]? = some (a, .inl (cA, n, .inl f))) (ht : tys[t0]? = some (cA, .int)) {i : Nat} (hn : n < 2 ^ 31) (hin : i < n) (hdg : decode cc pc = .ok (.iaload, 1))
    (kk : W p l e R s m args below meth c H locs cells slots Q (F0 m (pc + 1) ls (.int (f i) :: rest))) : W p l e R s m args below meth c H locs cells slots Q (F0 m pc ls (.int (nI i) :: .ref a :: rest)) :=
  va_iald hx hb hK hP q0 t0 ha ht (vp_in_nI hin hn) hdg (by rw [nI_clamp (Nat.lt_trans hin hn)]; exact kk)
theorem rn_cald (hx : p.tables.exec = Jvm.exec) (hb : c.code = cc) {D : va_G} {cl : List vw_C} {tys : List (ClassId × FieldType)} {a : Nat} (hK : va_K D cl tys s) (hP : va_P D cl w H) (q0 t0 : Nat) {cA : ClassId} {n : Nat} {f : Nat → Int32} (ha : w[q0]? = some (a, .inl (cA, n, .inl f))) (ht : tys[t0]? = some (cA, .char)) {i : Nat} (hn : n < 2 ^ 31) (hin : i < n) (hdg : decode cc pc = .ok (.caload, 1))
    (kk : W p l e R s m args below meth c H locs cells slots Q (F0 m (pc + 1) ls (.int (f i) :: rest))) : W p l e R s m args below meth c H locs cells slots Q (F0 m pc ls (.int (nI i) :: .ref a :: rest)) :=
  va_cald hx hb hK hP q0 t0 ha ht (vp_in_nI hin hn) hdg (by rw [nI_clamp (Nat.lt_trans hin hn)]; exact kk)
theorem rn_iast (hx : p.tables.exec = Jvm.exec) (hb : c.code = cc) {D : va_G} {cl : List vw_C} {tys : List (ClassId × FieldType)} {a : Nat} (hK : va_K D cl tys s) (hP : va_P D cl w H) (hD : va_D A w) (hS : va_S A s.heap H locs) (q0 t0 : Nat) {cA : ClassId} {n : Nat} {f : Nat → Int32} (ha : w[q0]? = some (a, .inl (cA, n, .inl f))) (ht : tys[t0]? = some (cA, .int)) {i : Nat} {x : Int32} (hn : n < 2 ^ 31) (hin : i < n) (hdg : decode cc pc = .ok (.iastore, 1))
    (kk : ∀ (H1 : Heap) (locs1 : List Loc), va_P D cl (w.set q0 (a, .inl (cA, n, .inl (upd f i x)))) H1 → va_D A (w.set q0 (a, .inl (cA, n, .inl (upd f i x)))) → va_S A s.heap H1 locs1 → W p l e R s m args below meth c H1 locs1 cells slots Q (F0 m (pc + 1) ls rest)) : W p l e R s m args below meth c H locs cells slots Q (F0 m pc ls (.int x :: .int (nI i) :: .ref a :: rest)) :=
  va_iast hx hb hK hP hD hS q0 t0 ha ht (vp_in_nI hin hn) hdg (by rw [nI_clamp (Nat.lt_trans hin hn)]; exact kk)
theorem rn_icmp_lt (hx : p.tables.exec = Jvm.exec) (hb : c.code = cc) {a b : Nat} {off : Int} {tgt : Nat} (ha : a < 2 ^ 31) (hb2 : b < 2 ^ 31) (hdg : decode cc pc = .ok (.if_icmp .lt off, 3)) (ht : (pc : Int) + off = (tgt : Int)) (kt : a < b → W p l e R s m args below meth c H locs cells slots Q (F0 m tgt ls rest)) (kf : ¬ a < b → W p l e R s m args below meth c H locs cells slots Q (F0 m (pc + 3) ls rest)) : W p l e R s m args below meth c H locs cells slots Q (F0 m pc ls (.int (nI b) :: .int (nI a) :: rest)) :=
  lv_icmp_lt hx hb hdg ht (fun h => kt ((nI_ltI ha hb2).mp h)) (fun h => kf (fun z => h ((nI_ltI ha hb2).mpr z)))
theorem rn_icmp_ge (hx : p.tables.exec = Jvm.exec) (hb : c.code = cc) {a b : Nat} {off : Int} {tgt : Nat} (ha : a < 2 ^ 31) (hb2 : b < 2 ^ 31) (hdg : decode cc pc = .ok (.if_icmp .ge off, 3)) (ht : (pc : Int) + off = (tgt : Int)) (kt : b ≤ a → W p l e R s m args below meth c H locs cells slots Q (F0 m tgt ls rest)) (kf : ¬ b ≤ a → W p l e R s m args below meth c H locs cells slots Q (F0 m (pc + 3) ls rest)) : W p l e R s m args below meth c H locs cells slots Q (F0 m pc ls (.int (nI b) :: .int (nI a) :: rest)) :=
  lv_icmp_ge hx hb hdg ht (fun h => kt ((nI_leI hb2 ha).mp h)) (fun h => kf (fun z => h ((nI_leI hb2 ha).mpr z)))
theorem rn_icmp_gt (hx : p.tables.exec = Jvm.exec) (hb : c.code = cc) {a b : Nat} {off : Int} {tgt : Nat} (ha : a < 2 ^ 31) (hb2 : b < 2 ^ 31) (hdg : decode cc pc = .ok (.if_icmp .gt off, 3)) (ht : (pc : Int) + off = (tgt : Int)) (kt : b < a → W p l e R s m args below meth c H locs cells slots Q (F0 m tgt ls rest)) (kf : ¬ b < a → W p l e R s m args below meth c H locs cells slots Q (F0 m (pc + 3) ls rest)) : W p l e R s m args below meth c H locs cells slots Q (F0 m pc ls (.int (nI b) :: .int (nI a) :: rest)) :=
  lv_icmp_gt hx hb hdg ht (fun h => kt ((nI_ltI hb2 ha).mp h)) (fun h => kf (fun z => h ((nI_ltI hb2 ha).mpr z)))
theorem rn_icmp_le (hx : p.tables.exec = Jvm.exec) (hb : c.code = cc) {a b : Nat} {off : Int} {tgt : Nat} (ha : a < 2 ^ 31) (hb2 : b < 2 ^ 31) (hdg : decode cc pc = .ok (.if_icmp .le off, 3)) (ht : (pc : Int) + off = (tgt : Int)) (kt : a ≤ b → W p l e R s m args below meth c H locs cells slots Q (F0 m tgt ls rest)) (kf : ¬ a ≤ b → W p l e R s m args below meth c H locs cells slots Q (F0 m (pc + 3) ls rest)) : W p l e R s m args below meth c H locs cells slots Q (F0 m pc ls (.int (nI b) :: .int (nI a) :: rest)) :=
  lv_icmp_le hx hb hdg ht (fun h => kt ((nI_leI ha hb2).mp h)) (fun h => kf (fun z => h ((nI_leI ha hb2).mpr z)))
theorem rn_icmp_eq (hx : p.tables.exec = Jvm.exec) (hb : c.code = cc) {a b : Nat} {off : Int} {tgt : Nat} (ha : a < 2 ^ 31) (hb2 : b < 2 ^ 31) (hdg : decode cc pc = .ok (.if_icmp .eq off, 3)) (ht : (pc : Int) + off = (tgt : Int)) (kt : a = b → W p l e R s m args below meth c H locs cells slots Q (F0 m tgt ls rest)) (kf : ¬ a = b → W p l e R s m args below meth c H locs cells slots Q (F0 m (pc + 3) ls rest)) : W p l e R s m args below meth c H locs cells slots Q (F0 m pc ls (.int (nI b) :: .int (nI a) :: rest)) :=
  lv_icmp_eq hx hb hdg ht (fun h => kt ((nI_eq ha hb2).mp h)) (fun h => kf (fun z => h ((nI_eq ha hb2).mpr z)))
theorem rn_icmp_ne (hx : p.tables.exec = Jvm.exec) (hb : c.code = cc) {a b : Nat} {off : Int} {tgt : Nat} (ha : a < 2 ^ 31) (hb2 : b < 2 ^ 31) (hdg : decode cc pc = .ok (.if_icmp .ne off, 3)) (ht : (pc : Int) + off = (tgt : Int)) (kt : ¬ a = b → W p l e R s m args below meth c H locs cells slots Q (F0 m tgt ls rest)) (kf : a = b → W p l e R s m args below meth c H locs cells slots Q (F0 m (pc + 3) ls rest)) : W p l e R s m args below meth c H locs cells slots Q (F0 m pc ls (.int (nI b) :: .int (nI a) :: rest)) :=
  lv_icmp_ne hx hb hdg ht (fun h => kt (fun z => h ((nI_eq ha hb2).mpr z))) (fun h => kf ((nI_eq ha hb2).mp h))
theorem rn_if_eq (hx : p.tables.exec = Jvm.exec) (hb : c.code = cc) {a : Nat} {off : Int} {tgt : Nat} (ha : a < 2 ^ 31) (hdg : decode cc pc = .ok (.ifCond .eq off, 3)) (ht : (pc : Int) + off = (tgt : Int)) (kt : a = 0 → W p l e R s m args below meth c H locs cells slots Q (F0 m tgt ls rest)) (kf : ¬ a = 0 → W p l e R s m args below meth c H locs cells slots Q (F0 m (pc + 3) ls rest)) : W p l e R s m args below meth c H locs cells slots Q (F0 m pc ls (.int (nI a) :: rest)) :=
  lv_if_eq hx hb hdg ht (fun h => kt ((nI_z ha).mp h)) (fun h => kf (fun z => h ((nI_z ha).mpr z)))
theorem rn_if_ne (hx : p.tables.exec = Jvm.exec) (hb : c.code = cc) {a : Nat} {off : Int} {tgt : Nat} (ha : a < 2 ^ 31) (hdg : decode cc pc = .ok (.ifCond .ne off, 3)) (ht : (pc : Int) + off = (tgt : Int)) (kt : ¬ a = 0 → W p l e R s m args below meth c H locs cells slots Q (F0 m tgt ls rest)) (kf : a = 0 → W p l e R s m args below meth c H locs cells slots Q (F0 m (pc + 3) ls rest)) : W p l e R s m args below meth c H locs cells slots Q (F0 m pc ls (.int (nI a) :: rest)) :=
  lv_if_ne hx hb hdg ht (fun h => kt (fun z => h ((nI_z ha).mpr z))) (fun h => kf ((nI_z ha).mp h))
theorem rn_if_gt (hx : p.tables.exec = Jvm.exec) (hb : c.code = cc) {a : Nat} {off : Int} {tgt : Nat} (ha : a < 2 ^ 31) (hdg : decode cc pc = .ok (.ifCond .gt off, 3)) (ht : (pc : Int) + off = (tgt : Int)) (kt : 0 < a → W p l e R s m args below meth c H locs cells slots Q (F0 m tgt ls rest)) (kf : ¬ 0 < a → W p l e R s m args below meth c H locs cells slots Q (F0 m (pc + 3) ls rest)) : W p l e R s m args below meth c H locs cells slots Q (F0 m pc ls (.int (nI a) :: rest)) :=
  lv_if_gt hx hb hdg ht (fun h => kt ((nI_g ha).mp h)) (fun h => kf (fun z => h ((nI_g ha).mpr z)))
theorem rn_if_le (hx : p.tables.exec = Jvm.exec) (hb : c.code = cc) {a : Nat} {off : Int} {tgt : Nat} (ha : a < 2 ^ 31) (hdg : decode cc pc = .ok (.ifCond .le off, 3)) (ht : (pc : Int) + off = (tgt : Int)) (kt : a ≤ 0 → W p l e R s m args below meth c H locs cells slots Q (F0 m tgt ls rest)) (kf : ¬ a ≤ 0 → W p l e R s m args below meth c H locs cells slots Q (F0 m (pc + 3) ls rest)) : W p l e R s m args below meth c H locs cells slots Q (F0 m pc ls (.int (nI a) :: rest)) :=
  lv_if_le hx hb hdg ht (fun h => kt ((nI_l0 ha).mp h)) (fun h => kf (fun z => h ((nI_l0 ha).mpr z)))
theorem rn_tab (hx : p.tables.exec = Jvm.exec) (hb : c.code = cc) {t : Nat} {L : List Int32} (hT : va_T .int t 4 (fun j => .int (L.getD j 0)) A s s.heap) (hS : va_S A s.heap H locs) {i : Nat} (hi : i < 4) (hdg : decode cc pc = .ok (.iaload, 1)) (kk : W p l e R s m args below meth c H locs cells slots Q (F0 m (pc + 1) ls (.int (L.getD i 0) :: rest))) : W p l e R s m args below meth c H locs cells slots Q (F0 m pc ls (.int (nI i) :: .ref t :: rest)) :=
  va_ti hx hb hT hS (vp_in_nI hi (by omega)) (v := .int (L.getD i 0)) (by rw [nI_clamp (by omega)]) hdg kk
theorem rn_cast (hx : p.tables.exec = Jvm.exec) (hb : c.code = cc) {D : va_G} {cl : List vw_C} {tys : List (ClassId × FieldType)} {a : Nat} (hK : va_K D cl tys s) (hP : va_P D cl w H) (hD : va_D A w) (hS : va_S A s.heap H locs) (q0 t0 : Nat) {cA : ClassId} {n : Nat} {f : Nat → Int32} (ha : w[q0]? = some (a, .inl (cA, n, .inl f))) (ht : tys[t0]? = some (cA, .char)) {i : Nat} {x : Int32} (hn : n < 2 ^ 31) (hin : i < n) (hdg : decode cc pc = .ok (.castore, 1))
    (kk : ∀ (H1 : Heap) (locs1 : List Loc), va_P D cl (w.set q0 (a, .inl (cA, n, .inl (upd f i (vp_nar .char x))))) H1 → va_D A (w.set q0 (a, .inl (cA, n, .inl (upd f i (vp_nar .char x))))) → va_S A s.heap H1 locs1 → W p l e R s m args below meth c H1 locs1 cells slots Q (F0 m (pc + 1) ls rest)) : W p l e R s m args below meth c H locs cells slots Q (F0 m pc ls (.int x :: .int (nI i) :: .ref a :: rest)) :=
  va_cast hx hb hK hP hD hS q0 t0 ha ht (vp_in_nI hin hn) hdg (by rw [nI_clamp (Nat.lt_trans hin hn)]; exact kk)
theorem rw_copy (S : CallFix p m c cc nL s args bw own) (hls : ls.size = nL) (hlk : Cond.methodLink own idx arraycopyName ∈ bw) (hR : 1 ≤ R.frames ∧ 32 ≤ R.locals) (hW : (rest.map fun v => v.category).sum ≤ 4) {D : va_G} {cl : List vw_C} {tys : List (ClassId × FieldType)} (hK : va_K D cl tys s) (hP : va_P D cl w H) (hD : va_D A w) (hS : va_S A s.heap H locs) (q0 q1 : Nat) {a a0 : Nat} {cA : ClassId} {n0 n1 : Nat} {f g : Nat → Int32} (ha0 : w[q0]? = some (a0, .inl (cA, n0, .inl f))) (ha1 : w[q1]? = some (a, .inl (cA, n1, .inl g))) (ht : tys[0]? = some (cA, .int))
    {sp dp n : Nat} (h1 : sp < 2 ^ 31) (h2 : dp < 2 ^ 31) (h3 : n < 2 ^ 31) (h4 : sp + n ≤ n0) (h5 : dp + n ≤ n1) (hdg : decode cc pc = .ok (.invokestatic idx, 3))
    (kk : ∀ (H1 : Heap) (locs1 : List Loc), va_P D cl (w.set q1 (a, .inl (cA, n1, .inl (va_cpy f g sp dp n)))) H1 → va_D A (w.set q1 (a, .inl (cA, n1, .inl (va_cpy f g sp dp n)))) → va_S A s.heap H1 locs1 → W p l e R s m args below meth c H1 locs1 cells slots Q (F0 m (pc + 3) ls rest)) : W p l e R s m args below meth c H locs cells slots Q (F0 m pc ls (.int (nI n) :: .int (nI dp) :: .ref a :: .int (nI sp) :: .ref a0 :: rest)) := by
  refine va_copyi S.1 S.2.1 (S.2.2.1.trans hls.symm) S.2.2.2.1 (S.2.2.2.2 _ hlk) (S.2.2.2.2 _ bw_91) (S.2.2.2.2 _ bw_90) (S.2.2.2.2 _ bw_60) hK hP hD hS q0 q1 0 0 ha0 ha1 ht ht rfl (nI_pos h1) (nI_pos h2) (nI_pos h3) (by rw [nI_clamp h1, nI_clamp h3]; exact h4) (by rw [nI_clamp h2, nI_clamp h3]; exact h5) (fun _ _ => rfl) hR.1 (Nat.le_trans (Nat.add_le_add_right hW _) (Nat.le_trans (Nat.le_of_ble_eq_true rfl) hR.2)) hdg ?_
  rw [nI_clamp h1, nI_clamp h2, nI_clamp h3]
  exact kk
end RW
def ix (x : Int32) : Nat := x.toNatClampNeg
theorem ix_nI {n : Nat} (h : n < 2 ^ 31) : ix (nI n) = n := nI_clamp h
theorem imin_l {a b : Nat} (h : a ≤ b) (hb : b < 2 ^ 31) : imin (nI a) (nI b) = nI a := by
  unfold imin
  by_cases e : b = a
  · subst e; rw [ite_self]
  · rw [if_neg (nI_nlt h hb)]
theorem imin_r {a b : Nat} (h : b ≤ a) (ha : a < 2 ^ 31) : imin (nI a) (nI b) = nI b := by
  unfold imin
  by_cases e : b = a
  · subst e; rw [ite_self]
  · rw [if_pos (nI_lt (Nat.lt_of_le_of_ne h e) ha)]
end
section
/-! the host's small static functions; the reel -/
theorem cd_X7_isWithin : cdS yX7_isWithin cX7_isWithin 3 (some .boolean) 3 := ⟨⟨bw_195, bw_58, by decide, by decide, by decide +kernel⟩, bw_194⟩
def isW (x : Int32) (lo : Int32) (hi : Int32) : Int32 := if x < lo then nI 0 else if hi < x then nI 0 else nI 1
theorem isW_z (x : Int32) (lo : Int32) (hi : Int32) : narrow .boolean (.int (isW x lo hi)) = .int (isW x lo hi) := by
  unfold isW
  repeat' split
  all_goals first | rfl | decide | rfl
set_option maxHeartbeats 4000000 in
set_option maxRecDepth 100000 in
theorem c_X7_isWithin (l : Launch) (E : EV) (x : Int32) (lo : Int32) (hi : Int32)  : rcI l E yX7_isWithin cX7_isWithin 3 .boolean 0 [.int x, .int lo, .int hi] [] (isW x lo hi) [] := by
  refine rcI_of (by decide) (Nat.le_of_ble_eq_true rfl) ?_
  intro pg e s m below meth c Q A ls S hP hD0 hE hA hl hret
  have hx := S.1
  have hb := S.2.1
  have hown := S.2.2.2.1
  have hts := S.2.2.2.2
  have hK := hE.1
  have hS : va_S A s.heap s.heap [] := va_S.rf
  have hl : lv_has ls 3 [(0, .int x), (1, .int lo), (2, .int hi)] := hl
  refine lv_iload_n hx hb dX7_isWithin_0 rfl (lv_at hl 0 rfl) ?_
  refine lv_iload_n hx hb dX7_isWithin_1 rfl (lv_at hl 1 rfl) ?_
  refine lv_icmp_lt (tgt := 14) hx hb dX7_isWithin_2 (by decide) (fun c_1 => ?_) (fun c_1 => ?_)
  · refine lv_iconst (v := nI 0) hx hb dX7_isWithin_14 (by decide) ?_
    exact hret _ _ _ _ _ _ (by rw [isW, if_pos c_1]) rfl (by decide) hP hS dX7_isWithin_15
  · refine lv_iload_n hx hb dX7_isWithin_5 rfl (lv_at hl 0 rfl) ?_
    refine lv_iload_n hx hb dX7_isWithin_6 rfl (lv_at hl 2 rfl) ?_
    refine lv_icmp_gt (tgt := 14) hx hb dX7_isWithin_7 (by decide) (fun c_2 => ?_) (fun c_2 => ?_)
    · refine lv_iconst (v := nI 0) hx hb dX7_isWithin_14 (by decide) ?_
      exact hret _ _ _ _ _ _ (by rw [isW, if_neg c_1, if_pos c_2]) rfl (by decide) hP hS dX7_isWithin_15
    · refine lv_iconst (v := nI 1) hx hb dX7_isWithin_10 (by decide) ?_
      refine lv_goto (tgt := 15) hx hb dX7_isWithin_11 (by decide) ?_
      exact hret _ _ _ _ _ _ (by rw [isW, if_neg c_1, if_neg c_2]) rfl (by decide) hP hS dX7_isWithin_15

theorem cd_X7_isColour : cdS yX7_isColour cX7_isColour 1 (some .boolean) 1 := ⟨⟨bw_289, bw_58, by decide, by decide, by decide +kernel⟩, bw_288⟩
def isC (x : Int32) : Int32 := isW x (nI 0) (nI 2)
theorem isC_z (x : Int32) : narrow .boolean (.int (isC x)) = .int (isC x) := by
  unfold isC
  repeat' split
  all_goals first | rfl | decide | exact isW_z _ _ _
set_option maxHeartbeats 4000000 in
set_option maxRecDepth 100000 in
theorem c_X7_isColour (l : Launch) (E : EV) (x : Int32)  : rcI l E yX7_isColour cX7_isColour 1 .boolean 1 [.int x] [] (isC x) [] := by
  refine rcI_of (by decide) (Nat.le_of_ble_eq_true rfl) ?_
  intro pg e s m below meth c Q A ls S hP hD0 hE hA hl hret
  have hx := S.1
  have hb := S.2.1
  have hown := S.2.2.2.1
  have hts := S.2.2.2.2
  have hK := hE.1
  have hS : va_S A s.heap s.heap [] := va_S.rf
  have hl : lv_has ls 1 [(0, .int x)] := hl
  refine lv_iload_n hx hb dX7_isColour_0 rfl (lv_at hl 0 rfl) ?_
  refine lv_iconst (v := nI 0) hx hb dX7_isColour_1 (by decide) ?_
  refine lv_iconst (v := nI 2) hx hb dX7_isColour_2 (by decide) ?_
  refine rwS (rest := []) S (c_X7_isWithin l E x (nI 0) (nI 2)) cd_X7_isWithin bw_242 ⟨Nat.le_of_ble_eq_true rfl, Nat.le_of_ble_eq_true rfl⟩ ⟨Nat.zero_le _, Nat.zero_le _⟩ hP (hD0.con rfl) hE hA hS [] rfl rfl rfl rfl rfl (Nat.le_of_ble_eq_true rfl) hl.1 dX7_isColour_3 (fun H locs hP _ hS => ?_)
  have hP : va_P E.1 vwCl [] H := hP
  exact hret _ _ _ _ _ _ (by rw [isC]) rfl (by first | exact isW_z _ _ _ | assumption) hP hS dX7_isColour_6

theorem cd_X7_isPoints : cdS yX7_isPoints cX7_isPoints 1 (some .boolean) 1 := ⟨⟨bw_241, bw_58, by decide, by decide, by decide +kernel⟩, bw_240⟩
def isP (x : Int32) : Int32 := isW x (nI 0) (nI 50)
theorem isP_z (x : Int32) : narrow .boolean (.int (isP x)) = .int (isP x) := by
  unfold isP
  repeat' split
  all_goals first | rfl | decide | exact isC_z _ | exact isW_z _ _ _
set_option maxHeartbeats 4000000 in
set_option maxRecDepth 100000 in
theorem c_X7_isPoints (l : Launch) (E : EV) (x : Int32)  : rcI l E yX7_isPoints cX7_isPoints 1 .boolean 1 [.int x] [] (isP x) [] := by
  refine rcI_of (by decide) (Nat.le_of_ble_eq_true rfl) ?_
  intro pg e s m below meth c Q A ls S hP hD0 hE hA hl hret
  have hx := S.1
  have hb := S.2.1
  have hown := S.2.2.2.1
  have hts := S.2.2.2.2
  have hK := hE.1
  have hS : va_S A s.heap s.heap [] := va_S.rf
  have hl : lv_has ls 1 [(0, .int x)] := hl
  refine lv_iload_n hx hb dX7_isPoints_0 rfl (lv_at hl 0 rfl) ?_
  refine lv_iconst (v := nI 0) hx hb dX7_isPoints_1 (by decide) ?_
  refine lv_bipush (v := nI 50) hx hb dX7_isPoints_2 (by decide) ?_
  refine rwS (rest := []) S (c_X7_isWithin l E x (nI 0) (nI 50)) cd_X7_isWithin bw_242 ⟨Nat.le_of_ble_eq_true rfl, Nat.le_of_ble_eq_true rfl⟩ ⟨Nat.zero_le _, Nat.zero_le _⟩ hP (hD0.con rfl) hE hA hS [] rfl rfl rfl rfl rfl (Nat.le_of_ble_eq_true rfl) hl.1 dX7_isPoints_4 (fun H locs hP _ hS => ?_)
  have hP : va_P E.1 vwCl [] H := hP
  exact hret _ _ _ _ _ _ (by rw [isP]) rfl (by first | exact isW_z _ _ _ | assumption) hP hS dX7_isPoints_7

theorem cd_X7_isSlot : cdS yX7_isSlot cX7_isSlot 1 (some .boolean) 1 := ⟨⟨bw_697, bw_58, by decide, by decide, by decide +kernel⟩, bw_696⟩
def isSl (x : Int32) : Int32 := isW x (nI 0) (nI 1)
theorem isSl_z (x : Int32) : narrow .boolean (.int (isSl x)) = .int (isSl x) := by
  unfold isSl
  repeat' split
  all_goals first | rfl | decide | exact isC_z _ | exact isP_z _ | exact isW_z _ _ _
set_option maxHeartbeats 4000000 in
set_option maxRecDepth 100000 in
theorem c_X7_isSlot (l : Launch) (E : EV) (x : Int32)  : rcI l E yX7_isSlot cX7_isSlot 1 .boolean 1 [.int x] [] (isSl x) [] := by
  refine rcI_of (by decide) (Nat.le_of_ble_eq_true rfl) ?_
  intro pg e s m below meth c Q A ls S hP hD0 hE hA hl hret
  have hx := S.1
  have hb := S.2.1
  have hown := S.2.2.2.1
  have hts := S.2.2.2.2
  have hK := hE.1
  have hS : va_S A s.heap s.heap [] := va_S.rf
  have hl : lv_has ls 1 [(0, .int x)] := hl
  refine lv_iload_n hx hb dX7_isSlot_0 rfl (lv_at hl 0 rfl) ?_
  refine lv_iconst (v := nI 0) hx hb dX7_isSlot_1 (by decide) ?_
  refine lv_iconst (v := nI 1) hx hb dX7_isSlot_2 (by decide) ?_
  refine rwS (rest := []) S (c_X7_isWithin l E x (nI 0) (nI 1)) cd_X7_isWithin bw_242 ⟨Nat.le_of_ble_eq_true rfl, Nat.le_of_ble_eq_true rfl⟩ ⟨Nat.zero_le _, Nat.zero_le _⟩ hP (hD0.con rfl) hE hA hS [] rfl rfl rfl rfl rfl (Nat.le_of_ble_eq_true rfl) hl.1 dX7_isSlot_3 (fun H locs hP _ hS => ?_)
  have hP : va_P E.1 vwCl [] H := hP
  exact hret _ _ _ _ _ _ (by rw [isSl]) rfl (by first | exact isW_z _ _ _ | assumption) hP hS dX7_isSlot_6

theorem cd_X7_bounded : cdS yX7_bounded cX7_bounded 1 (some .int) 1 := ⟨⟨bw_358, bw_58, by decide, by decide, by decide +kernel⟩, bw_357⟩
def bd (x : Int32) : Int32 := if 0 ≤ x then if x ≤ nI 50 then x else nI 50 else nI 0
set_option maxHeartbeats 4000000 in
set_option maxRecDepth 100000 in
theorem c_X7_bounded (l : Launch) (E : EV) (x : Int32)  : rcI l E yX7_bounded cX7_bounded 1 .int 0 [.int x] [] (bd x) [] := by
  refine rcI_of (by decide) (Nat.le_of_ble_eq_true rfl) ?_
  intro pg e s m below meth c Q A ls S hP hD0 hE hA hl hret
  have hx := S.1
  have hb := S.2.1
  have hown := S.2.2.2.1
  have hts := S.2.2.2.2
  have hK := hE.1
  have hS : va_S A s.heap s.heap [] := va_S.rf
  have hl : lv_has ls 1 [(0, .int x)] := hl
  refine lv_iload_n hx hb dX7_bounded_0 rfl (lv_at hl 0 rfl) ?_
  refine lv_if_ge (tgt := 8) hx hb dX7_bounded_1 (by decide) (fun c_1 => ?_) (fun c_1 => ?_)
  · refine lv_iload_n hx hb dX7_bounded_8 rfl (lv_at hl 0 rfl) ?_
    refine lv_bipush (v := nI 50) hx hb dX7_bounded_9 (by decide) ?_
    refine lv_icmp_le (tgt := 19) hx hb dX7_bounded_11 (by decide) (fun c_2 => ?_) (fun c_2 => ?_)
    · refine lv_iload_n hx hb dX7_bounded_19 rfl (lv_at hl 0 rfl) ?_
      exact hret _ _ _ _ _ _ (by rw [bd, if_pos c_1, if_pos c_2]) rfl rfl hP hS dX7_bounded_20
    · refine lv_bipush (v := nI 50) hx hb dX7_bounded_14 (by decide) ?_
      refine lv_goto (tgt := 20) hx hb dX7_bounded_16 (by decide) ?_
      exact hret _ _ _ _ _ _ (by rw [bd, if_pos c_1, if_neg c_2]) rfl rfl hP hS dX7_bounded_20
  · refine lv_iconst (v := nI 0) hx hb dX7_bounded_4 (by decide) ?_
    refine lv_goto (tgt := 20) hx hb dX7_bounded_5 (by decide) ?_
    exact hret _ _ _ _ _ _ (by rw [bd, if_neg c_1]) rfl rfl hP hS dX7_bounded_20

theorem cd_X3_read : cdV RX3 yX3_read cX3_read 2 (some .int) 1 := ⟨⟨bw_206, bw_59, by decide, by decide, by decide +kernel⟩, bw_204, bw_205⟩
set_option maxHeartbeats 4000000 in
set_option maxRecDepth 100000 in
theorem c_X3_read (l : Launch) (E : EV) (r : Nat) (rc : Nat) (f : Nat → Int32) (x : Nat) (hxx : x < 293) : rcI l E yX3_read cX3_read 2 .int 0 [.ref r, .int (nI x)] [(r, .inr (2, [.ref rc])), (rc, .inl (E.2.1, 293, .inl f))] (f x) [(r, .inr (2, [.ref rc])), (rc, .inl (E.2.1, 293, .inl f))] := by
  refine rcI_of (by decide) (Nat.le_of_ble_eq_true rfl) ?_
  intro pg e s m below meth c Q A ls S hP hD0 hE hA hl hret
  have hx := S.1
  have hb := S.2.1
  have hown := S.2.2.2.1
  have hts := S.2.2.2.2
  have hK := hE.1
  have hS : va_S A s.heap s.heap [] := va_S.rf
  have hl : lv_has ls 2 [(0, .ref r), (1, .int (nI x))] := hl
  refine lv_iload_n hx hb dX3_read_0 rfl (lv_at hl 1 rfl) ?_
  refine lv_if_lt (tgt := 22) hx hb dX3_read_1 (by decide) (fun c9 => absurd c9 (nI_pos (by omega))) (fun _ => ?_)
  refine lv_iload_n hx hb dX3_read_4 rfl (lv_at hl 1 rfl) ?_
  refine lv_aload_n hx hb dX3_read_5 rfl (lv_at hl 0 rfl) ?_
  refine va_get (D := E.1) (ci := 2) (v := .ref rc) (C := RX3) (T := TX3) (N := 1) hx hb hts inb_X3 hown hK hP 0 rfl rfl 0 (by decide) (hts _ bw_92) (fun _ h9 => h9) rfl dX3_read_6 ?_
  refine va_alen (v := nI 293) hx hb hK hP 1 0 rfl rfl rfl dX3_read_9 ?_
  refine rn_icmp_ge (a := x) (b := 293) (tgt := 22) hx hb (by omega) (by omega) dX3_read_10 (by decide) (fun c_1 => absurd c_1 (by omega)) (fun c_1 => ?_)
  refine lv_aload_n hx hb dX3_read_13 rfl (lv_at hl 0 rfl) ?_
  refine va_get (D := E.1) (ci := 2) (v := .ref rc) (C := RX3) (T := TX3) (N := 1) hx hb hts inb_X3 hown hK hP 0 rfl rfl 0 (by decide) (hts _ bw_92) (fun _ h9 => h9) rfl dX3_read_14 ?_
  refine lv_iload_n hx hb dX3_read_17 rfl (lv_at hl 1 rfl) ?_
  refine rn_iald (i := x) hx hb hK hP 1 0 rfl rfl (by omega) (by omega) dX3_read_18 ?_
  refine lv_goto (tgt := 23) hx hb dX3_read_19 (by decide) ?_
  exact hret _ _ _ _ _ _ rfl rfl rfl hP hS dX3_read_23

theorem cd_X3_write : cdV RX3 yX3_write cX3_write 3 none 2 := ⟨⟨bw_210, bw_59, by decide, by decide, by decide +kernel⟩, bw_208, bw_209⟩
set_option maxHeartbeats 4000000 in
set_option maxRecDepth 100000 in
theorem c_X3_write (l : Launch) (E : EV) (r : Nat) (rc : Nat) (f : Nat → Int32) (x : Nat) (z : Int32) (hxx : x < 293) : rcV l E yX3_write cX3_write 3 0 [.ref r, .int (nI x), .int z] [(r, .inr (2, [.ref rc])), (rc, .inl (E.2.1, 293, .inl f))] [(r, .inr (2, [.ref rc])), (rc, .inl (E.2.1, 293, .inl (upd f x z)))] := by
  refine rcV_of (by decide) (Nat.le_of_ble_eq_true rfl) ?_
  intro pg e s m below meth c Q A ls S hP hD0 hE hA hl hret
  have hx := S.1
  have hb := S.2.1
  have hown := S.2.2.2.1
  have hts := S.2.2.2.2
  have hK := hE.1
  have hS : va_S A s.heap s.heap [] := va_S.rf
  have hl : lv_has ls 3 [(0, .ref r), (1, .int (nI x)), (2, .int z)] := hl
  refine lv_iload_n hx hb dX3_write_0 rfl (lv_at hl 1 rfl) ?_
  refine lv_if_lt (tgt := 20) hx hb dX3_write_1 (by decide) (fun c9 => absurd c9 (nI_pos (by omega))) (fun _ => ?_)
  refine lv_iload_n hx hb dX3_write_4 rfl (lv_at hl 1 rfl) ?_
  refine lv_aload_n hx hb dX3_write_5 rfl (lv_at hl 0 rfl) ?_
  refine va_get (D := E.1) (ci := 2) (v := .ref rc) (C := RX3) (T := TX3) (N := 1) hx hb hts inb_X3 hown hK hP 0 rfl rfl 0 (by decide) (hts _ bw_92) (fun _ h9 => h9) rfl dX3_write_6 ?_
  refine va_alen (v := nI 293) hx hb hK hP 1 0 rfl rfl rfl dX3_write_9 ?_
  refine rn_icmp_ge (a := x) (b := 293) (tgt := 20) hx hb (by omega) (by omega) dX3_write_10 (by decide) (fun c_1 => absurd c_1 (by omega)) (fun c_1 => ?_)
  refine lv_aload_n hx hb dX3_write_13 rfl (lv_at hl 0 rfl) ?_
  refine va_get (D := E.1) (ci := 2) (v := .ref rc) (C := RX3) (T := TX3) (N := 1) hx hb hts inb_X3 hown hK hP 0 rfl rfl 0 (by decide) (hts _ bw_92) (fun _ h9 => h9) rfl dX3_write_14 ?_
  refine lv_iload_n hx hb dX3_write_17 rfl (lv_at hl 1 rfl) ?_
  refine lv_iload_n hx hb dX3_write_18 rfl (lv_at hl 2 rfl) ?_
  refine rn_iast (i := x) hx hb hK hP (hD0.con rfl) hS 1 0 rfl rfl (by omega) (by omega) dX3_write_19 (fun H locs hP _ hS => ?_)
  have hP : va_P E.1 vwCl [(r, .inr (2, [.ref rc])), (rc, .inl (E.2.1, 293, .inl (upd f x z)))] H := hP
  exact hret _ _ _ _ _ rfl hP hS dX3_write_20

theorem cd_X3_readShot : cdV RX3 yX3_readShot cX3_readShot 4 (some .int) 2 := ⟨⟨bw_258, bw_59, by decide, by decide, by decide +kernel⟩, bw_256, bw_257⟩
set_option maxHeartbeats 4000000 in
set_option maxRecDepth 100000 in
theorem c_X3_readShot (l : Launch) (E : EV) (r : Nat) (rc : Nat) (f : Nat → Int32) (p : Nat) (j : Nat) (hp : p < 20) (hj : j < 14) : rcI l E yX3_readShot cX3_readShot 4 .int 0 [.ref r, .int (nI p), .int (nI j)] [(r, .inr (2, [.ref rc])), (rc, .inl (E.2.1, 293, .inl f))] (f (13 + 14 * p + j)) [(r, .inr (2, [.ref rc])), (rc, .inl (E.2.1, 293, .inl f))] := by
  refine rcI_of (by decide) (Nat.le_of_ble_eq_true rfl) ?_
  intro pg e s m below meth c Q A ls S hP hD0 hE hA hl hret
  have hx := S.1
  have hb := S.2.1
  have hown := S.2.2.2.1
  have hts := S.2.2.2.2
  have hK := hE.1
  have hS : va_S A s.heap s.heap [] := va_S.rf
  have hl : lv_has ls 4 [(0, .ref r), (1, .int (nI p)), (2, .int (nI j))] := hl
  refine lv_bipush (v := nI 13) hx hb dX3_readShot_0 (by decide) ?_
  refine lv_iload_n hx hb dX3_readShot_2 rfl (lv_at hl 1 rfl) ?_
  refine lv_bipush (v := nI 14) hx hb dX3_readShot_3 (by decide) ?_
  refine rn_mul (a := p) (b := 14) hx hb dX3_readShot_5 ?_
  refine rn_add (a := 13) (b := p * 14) hx hb dX3_readShot_6 ?_
  refine lv_iload_n hx hb dX3_readShot_7 rfl (lv_at hl 2 rfl) ?_
  refine rn_add (a := 13 + p * 14) (b := j) hx hb dX3_readShot_8 ?_
  refine lv_istore_n (lv' := [(3, .int (nI (13 + p * 14 + j))), (0, .ref r), (1, .int (nI p)), (2, .int (nI j))]) hx hb dX3_readShot_9 rfl hl (by decide) rfl (fun ls hl => ?_)
  refine lv_iload_n hx hb dX3_readShot_10 rfl (lv_at hl 0 rfl) ?_
  refine lv_if_lt (tgt := 32) hx hb dX3_readShot_11 (by decide) (fun c9 => absurd c9 (nI_pos (by omega))) (fun _ => ?_)
  refine lv_iload_n hx hb dX3_readShot_14 rfl (lv_at hl 0 rfl) ?_
  refine lv_aload_n hx hb dX3_readShot_15 rfl (lv_at hl 1 rfl) ?_
  refine va_get (D := E.1) (ci := 2) (v := .ref rc) (C := RX3) (T := TX3) (N := 1) hx hb hts inb_X3 hown hK hP 0 rfl rfl 0 (by decide) (hts _ bw_92) (fun _ h9 => h9) rfl dX3_readShot_16 ?_
  refine va_alen (v := nI 293) hx hb hK hP 1 0 rfl rfl rfl dX3_readShot_19 ?_
  refine rn_icmp_ge (a := 13 + p * 14 + j) (b := 293) (tgt := 32) hx hb (by omega) (by omega) dX3_readShot_20 (by decide) (fun c_1 => absurd c_1 (by omega)) (fun c_1 => ?_)
  refine lv_aload_n hx hb dX3_readShot_23 rfl (lv_at hl 1 rfl) ?_
  refine va_get (D := E.1) (ci := 2) (v := .ref rc) (C := RX3) (T := TX3) (N := 1) hx hb hts inb_X3 hown hK hP 0 rfl rfl 0 (by decide) (hts _ bw_92) (fun _ h9 => h9) rfl dX3_readShot_24 ?_
  refine lv_iload_n hx hb dX3_readShot_27 rfl (lv_at hl 0 rfl) ?_
  refine rn_iald (i := 13 + p * 14 + j) hx hb hK hP 1 0 rfl rfl (by omega) (by omega) dX3_readShot_28 ?_
  refine lv_goto (tgt := 33) hx hb dX3_readShot_29 (by decide) ?_
  exact hret _ _ _ _ _ _ (by rw [Nat.mul_comm]) rfl rfl hP hS dX3_readShot_33

theorem cd_X3_writeShot : cdV RX3 yX3_writeShot cX3_writeShot 5 none 3 := ⟨⟨bw_262, bw_59, by decide, by decide, by decide +kernel⟩, bw_260, bw_261⟩
set_option maxHeartbeats 4000000 in
set_option maxRecDepth 100000 in
theorem c_X3_writeShot (l : Launch) (E : EV) (r : Nat) (rc : Nat) (f : Nat → Int32) (p : Nat) (j : Nat) (z : Int32) (hp : p < 20) (hj : j < 14) : rcV l E yX3_writeShot cX3_writeShot 5 0 [.ref r, .int (nI p), .int (nI j), .int z] [(r, .inr (2, [.ref rc])), (rc, .inl (E.2.1, 293, .inl f))] [(r, .inr (2, [.ref rc])), (rc, .inl (E.2.1, 293, .inl (upd f (13 + 14 * p + j) z)))] := by
  refine rcV_of (by decide) (Nat.le_of_ble_eq_true rfl) ?_
  intro pg e s m below meth c Q A ls S hP hD0 hE hA hl hret
  have hx := S.1
  have hb := S.2.1
  have hown := S.2.2.2.1
  have hts := S.2.2.2.2
  have hK := hE.1
  have hS : va_S A s.heap s.heap [] := va_S.rf
  have hl : lv_has ls 5 [(0, .ref r), (1, .int (nI p)), (2, .int (nI j)), (3, .int z)] := hl
  refine lv_bipush (v := nI 13) hx hb dX3_writeShot_0 (by decide) ?_
  refine lv_iload_n hx hb dX3_writeShot_2 rfl (lv_at hl 1 rfl) ?_
  refine lv_bipush (v := nI 14) hx hb dX3_writeShot_3 (by decide) ?_
  refine rn_mul (a := p) (b := 14) hx hb dX3_writeShot_5 ?_
  refine rn_add (a := 13) (b := p * 14) hx hb dX3_writeShot_6 ?_
  refine lv_iload_n hx hb dX3_writeShot_7 rfl (lv_at hl 2 rfl) ?_
  refine rn_add (a := 13 + p * 14) (b := j) hx hb dX3_writeShot_8 ?_
  refine lv_istore (lv' := [(4, .int (nI (13 + p * 14 + j))), (0, .ref r), (1, .int (nI p)), (2, .int (nI j)), (3, .int z)]) hx hb dX3_writeShot_9 hl (by decide) rfl (fun ls hl => ?_)
  refine lv_iload hx hb dX3_writeShot_11 (lv_at hl 0 rfl) ?_
  refine lv_if_lt (tgt := 34) hx hb dX3_writeShot_13 (by decide) (fun c9 => absurd c9 (nI_pos (by omega))) (fun _ => ?_)
  refine lv_iload hx hb dX3_writeShot_16 (lv_at hl 0 rfl) ?_
  refine lv_aload_n hx hb dX3_writeShot_18 rfl (lv_at hl 1 rfl) ?_
  refine va_get (D := E.1) (ci := 2) (v := .ref rc) (C := RX3) (T := TX3) (N := 1) hx hb hts inb_X3 hown hK hP 0 rfl rfl 0 (by decide) (hts _ bw_92) (fun _ h9 => h9) rfl dX3_writeShot_19 ?_
  refine va_alen (v := nI 293) hx hb hK hP 1 0 rfl rfl rfl dX3_writeShot_22 ?_
  refine rn_icmp_ge (a := 13 + p * 14 + j) (b := 293) (tgt := 34) hx hb (by omega) (by omega) dX3_writeShot_23 (by decide) (fun c_1 => absurd c_1 (by omega)) (fun c_1 => ?_)
  refine lv_aload_n hx hb dX3_writeShot_26 rfl (lv_at hl 1 rfl) ?_
  refine va_get (D := E.1) (ci := 2) (v := .ref rc) (C := RX3) (T := TX3) (N := 1) hx hb hts inb_X3 hown hK hP 0 rfl rfl 0 (by decide) (hts _ bw_92) (fun _ h9 => h9) rfl dX3_writeShot_27 ?_
  refine lv_iload hx hb dX3_writeShot_30 (lv_at hl 0 rfl) ?_
  refine lv_iload_n hx hb dX3_writeShot_32 rfl (lv_at hl 4 rfl) ?_
  refine rn_iast (i := 13 + p * 14 + j) hx hb hK hP (hD0.con rfl) hS 1 0 rfl rfl (by omega) (by omega) dX3_writeShot_33 (fun H locs hP _ hS => ?_)
  have hP : va_P E.1 vwCl [(r, .inr (2, [.ref rc])), (rc, .inl (E.2.1, 293, .inl (upd f (13 + p * 14 + j) z)))] H := hP
  exact hret _ _ _ _ _ (by rw [Nat.mul_comm p 14]) hP hS dX3_writeShot_34

theorem cd_X3_lampLoss : cdV RX3 yX3_lampLoss cX3_lampLoss 2 (some .int) 1 := ⟨⟨bw_355, bw_59, by decide, by decide, by decide +kernel⟩, bw_353, bw_354⟩
set_option maxHeartbeats 4000000 in
set_option maxRecDepth 100000 in
theorem c_X3_lampLoss (l : Launch) (E : EV) (r : Nat) (rc : Nat) (f : Nat → Int32) (x : Nat) (hxx : x < 3) : rcI l E yX3_lampLoss cX3_lampLoss 2 .int 0 [.ref r, .int (nI x)] [(r, .inr (2, [.ref rc])), (rc, .inl (E.2.1, 293, .inl f))] (f (4 + x) * f 3 / nI 100) [(r, .inr (2, [.ref rc])), (rc, .inl (E.2.1, 293, .inl f))] := by
  refine rcI_of (by decide) (Nat.le_of_ble_eq_true rfl) ?_
  intro pg e s m below meth c Q A ls S hP hD0 hE hA hl hret
  have hx := S.1
  have hb := S.2.1
  have hown := S.2.2.2.1
  have hts := S.2.2.2.2
  have hK := hE.1
  have hS : va_S A s.heap s.heap [] := va_S.rf
  have hl : lv_has ls 2 [(0, .ref r), (1, .int (nI x))] := hl
  refine lv_iload_n hx hb dX3_lampLoss_0 rfl (lv_at hl 1 rfl) ?_
  refine lv_if_lt (tgt := 30) hx hb dX3_lampLoss_1 (by decide) (fun c9 => absurd c9 (nI_pos (by omega))) (fun _ => ?_)
  refine lv_iload_n hx hb dX3_lampLoss_4 rfl (lv_at hl 1 rfl) ?_
  refine lv_iconst (v := nI 3) hx hb dX3_lampLoss_5 (by decide) ?_
  refine rn_icmp_ge (a := x) (b := 3) (tgt := 30) hx hb (by omega) (by omega) dX3_lampLoss_6 (by decide) (fun c_1 => absurd c_1 (by omega)) (fun c_1 => ?_)
  refine lv_aload_n hx hb dX3_lampLoss_9 rfl (lv_at hl 0 rfl) ?_
  refine va_get (D := E.1) (ci := 2) (v := .ref rc) (C := RX3) (T := TX3) (N := 1) hx hb hts inb_X3 hown hK hP 0 rfl rfl 0 (by decide) (hts _ bw_92) (fun _ h9 => h9) rfl dX3_lampLoss_10 ?_
  refine lv_iconst (v := nI 4) hx hb dX3_lampLoss_13 (by decide) ?_
  refine lv_iload_n hx hb dX3_lampLoss_14 rfl (lv_at hl 1 rfl) ?_
  refine rn_add (a := 4) (b := x) hx hb dX3_lampLoss_15 ?_
  refine rn_iald (i := 4 + x) hx hb hK hP 1 0 rfl rfl (by omega) (by omega) dX3_lampLoss_16 ?_
  refine lv_aload_n hx hb dX3_lampLoss_17 rfl (lv_at hl 0 rfl) ?_
  refine va_get (D := E.1) (ci := 2) (v := .ref rc) (C := RX3) (T := TX3) (N := 1) hx hb hts inb_X3 hown hK hP 0 rfl rfl 0 (by decide) (hts _ bw_92) (fun _ h9 => h9) rfl dX3_lampLoss_18 ?_
  refine lv_iconst (v := nI 3) hx hb dX3_lampLoss_21 (by decide) ?_
  refine rn_iald (i := 3) hx hb hK hP 1 0 rfl rfl (by omega) (by omega) dX3_lampLoss_22 ?_
  refine lv_imul hx hb dX3_lampLoss_23 ?_
  refine lv_bipush (v := nI 100) hx hb dX3_lampLoss_24 (by decide) ?_
  refine lv_idiv hx hb dX3_lampLoss_26 (by decide) ?_
  refine lv_goto (tgt := 31) hx hb dX3_lampLoss_27 (by decide) ?_
  exact hret _ _ _ _ _ _ rfl rfl rfl hP hS dX3_lampLoss_31

theorem cd_X3_shots : cdV RX3 yX3_shots cX3_shots 1 (some .int) 0 := ⟨⟨bw_237, bw_59, by decide, by decide, by decide +kernel⟩, bw_235, bw_236⟩
set_option maxHeartbeats 4000000 in
set_option maxRecDepth 100000 in
theorem c_X3_shots (l : Launch) (E : EV) (r : Nat) (rc : Nat) (f : Nat → Int32) (n : Nat) (hf : f 12 = nI n) : rcI l E yX3_shots cX3_shots 1 .int 1 [.ref r] [(r, .inr (2, [.ref rc])), (rc, .inl (E.2.1, 293, .inl f))] (nI n) [(r, .inr (2, [.ref rc])), (rc, .inl (E.2.1, 293, .inl f))] := by
  refine rcI_of (by decide) (Nat.le_of_ble_eq_true rfl) ?_
  intro pg e s m below meth c Q A ls S hP hD0 hE hA hl hret
  have hx := S.1
  have hb := S.2.1
  have hown := S.2.2.2.1
  have hts := S.2.2.2.2
  have hK := hE.1
  have hS : va_S A s.heap s.heap [] := va_S.rf
  have hl : lv_has ls 1 [(0, .ref r)] := hl
  refine lv_aload_n hx hb dX3_shots_0 rfl (lv_at hl 0 rfl) ?_
  refine lv_bipush (v := nI 12) hx hb dX3_shots_1 (by decide) ?_
  refine rwV (rest := []) S (c_X3_read l E r rc f 12 (by omega)) cd_X3_read bw_238 ⟨Nat.le_of_ble_eq_true rfl, Nat.le_of_ble_eq_true rfl⟩ ⟨Nat.zero_le _, Nat.zero_le _⟩ hP (hD0.con rfl) hE hA hS [0, 1] rfl rfl rfl (ci := 2) rfl (q0 := 0) rfl rfl rfl (Nat.le_of_ble_eq_true rfl) hl.1 dX3_shots_3 (fun H locs hP _ hS => ?_)
  have hP : va_P E.1 vwCl [(r, .inr (2, [.ref rc])), (rc, .inl (E.2.1, 293, .inl f))] H := hP
  exact hret _ _ _ _ _ _ hf rfl rfl hP hS dX3_shots_6

theorem cd_X3_hasShot : cdV RX3 yX3_hasShot cX3_hasShot 2 (some .boolean) 1 := ⟨⟨bw_275, bw_59, by decide, by decide, by decide +kernel⟩, bw_273, bw_274⟩
def hasS (n : Nat) (x : Int32) : Int32 := if x < 0 then nI 0 else if nI n ≤ x then nI 0 else nI 1
theorem hasS_z (n : Nat) (x : Int32) : narrow .boolean (.int (hasS n x)) = .int (hasS n x) := by
  unfold hasS
  repeat' split
  all_goals first | rfl | decide | exact isC_z _ | exact isP_z _ | exact isSl_z _ | exact isW_z _ _ _
set_option maxHeartbeats 4000000 in
set_option maxRecDepth 100000 in
theorem c_X3_hasShot (l : Launch) (E : EV) (r : Nat) (rc : Nat) (f : Nat → Int32) (n : Nat) (x : Int32) (hf : f 12 = nI n) : rcI l E yX3_hasShot cX3_hasShot 2 .boolean 2 [.ref r, .int x] [(r, .inr (2, [.ref rc])), (rc, .inl (E.2.1, 293, .inl f))] (hasS n x) [(r, .inr (2, [.ref rc])), (rc, .inl (E.2.1, 293, .inl f))] := by
  refine rcI_of (by decide) (Nat.le_of_ble_eq_true rfl) ?_
  intro pg e s m below meth c Q A ls S hP hD0 hE hA hl hret
  have hx := S.1
  have hb := S.2.1
  have hown := S.2.2.2.1
  have hts := S.2.2.2.2
  have hK := hE.1
  have hS : va_S A s.heap s.heap [] := va_S.rf
  have hl : lv_has ls 2 [(0, .ref r), (1, .int x)] := hl
  refine lv_iload_n hx hb dX3_hasShot_0 rfl (lv_at hl 1 rfl) ?_
  refine lv_if_lt (tgt := 16) hx hb dX3_hasShot_1 (by decide) (fun c_1 => ?_) (fun c_1 => ?_)
  · refine lv_iconst (v := nI 0) hx hb dX3_hasShot_16 (by decide) ?_
    exact hret _ _ _ _ _ _ (by rw [hasS, if_pos c_1]) rfl (by decide) hP hS dX3_hasShot_17
  · refine lv_iload_n hx hb dX3_hasShot_4 rfl (lv_at hl 1 rfl) ?_
    refine lv_aload_n hx hb dX3_hasShot_5 rfl (lv_at hl 0 rfl) ?_
    refine rwV (rest := [.int x]) S (c_X3_shots l E r rc f n (by omega)) cd_X3_shots bw_247 ⟨Nat.le_of_ble_eq_true rfl, Nat.le_of_ble_eq_true rfl⟩ ⟨Nat.zero_le _, Nat.zero_le _⟩ hP (hD0.con rfl) hE hA hS [0, 1] rfl rfl rfl (ci := 2) rfl (q0 := 0) rfl rfl rfl (Nat.le_of_ble_eq_true rfl) hl.1 dX3_hasShot_6 (fun H locs hP _ hS => ?_)
    have hP : va_P E.1 vwCl [(r, .inr (2, [.ref rc])), (rc, .inl (E.2.1, 293, .inl f))] H := hP
    refine lv_icmp_ge (tgt := 16) hx hb dX3_hasShot_9 (by decide) (fun c_2 => ?_) (fun c_2 => ?_)
    · refine lv_iconst (v := nI 0) hx hb dX3_hasShot_16 (by decide) ?_
      exact hret _ _ _ _ _ _ (by rw [hasS, if_neg c_1, if_pos c_2]) rfl (by decide) hP hS dX3_hasShot_17
    · refine lv_iconst (v := nI 1) hx hb dX3_hasShot_12 (by decide) ?_
      refine lv_goto (tgt := 17) hx hb dX3_hasShot_13 (by decide) ?_
      exact hret _ _ _ _ _ _ (by rw [hasS, if_neg c_1, if_neg c_2]) rfl (by decide) hP hS dX3_hasShot_17

/-- a shot's numbers copied to another place, the first j of them -/
def cpN (f : Nat → Int32) (a b j : Nat) : Nat → Int32 := fun k => if 13 + 14 * b ≤ k ∧ k < 13 + 14 * b + j then f (k + 14 * a - 14 * b) else f k
theorem cpN_0 (f : Nat → Int32) (a b : Nat) : cpN f a b 0 = f := by
  funext k; simp only [cpN]; split <;> first | rfl | omega
theorem cpN_s (f : Nat → Int32) {a b j : Nat} (hab : a ≠ b) (hj : j < 14) : upd (cpN f a b j) (13 + 14 * b + j) (cpN f a b j (13 + 14 * a + j)) = cpN f a b (j + 1) := by
  funext k; simp only [cpN, upd]; (repeat' split) <;> first | rfl | omega | exact congrArg f (by omega)
/-- two shots exchanged, the first j of their numbers -/
def swN (f : Nat → Int32) (a b j : Nat) : Nat → Int32 := fun k => if 13 + 14 * a ≤ k ∧ k < 13 + 14 * a + j then f (k + 14 * b - 14 * a) else if 13 + 14 * b ≤ k ∧ k < 13 + 14 * b + j then f (k + 14 * a - 14 * b) else f k
theorem swN_0 (f : Nat → Int32) (a b : Nat) : swN f a b 0 = f := by
  funext k; simp only [swN]; (repeat' split) <;> first | rfl | omega
theorem swN_s (f : Nat → Int32) {a b j : Nat} (hab : a ≠ b) (hj : j < 14) : upd (upd (swN f a b j) (13 + 14 * a + j) (swN f a b j (13 + 14 * b + j))) (13 + 14 * b + j) (swN f a b j (13 + 14 * a + j)) = swN f a b (j + 1) := by
  funext k; simp only [swN, upd]; (repeat' split) <;> first | rfl | omega | exact congrArg f (by omega)
/-- room made: the shots from t on stand one place further -/
def opN (f : Nat → Int32) (n t : Nat) : Nat → Int32 := fun k => if 13 + 14 * (t + 1) ≤ k ∧ k < 13 + 14 * (n + 1) then f (k - 14) else f k
theorem opN_n (f : Nat → Int32) (n : Nat) : opN f n n = f := by
  funext k; simp only [opN]; (repeat' split) <;> first | rfl | omega
theorem opN_s (f : Nat → Int32) {n t : Nat} (h1 : 0 < t) (h2 : t ≤ n) : cpN (opN f n t) (t - 1) t 14 = opN f n (t - 1) := by
  funext k; simp only [opN, cpN]; (repeat' split) <;> first | rfl | omega | exact congrArg f (by omega)
theorem opN_12 (f : Nat → Int32) (n t : Nat) : opN f n t 12 = f 12 := by
  simp only [opN]; (repeat' split) <;> first | rfl | omega
def opS (f : Nat → Int32) (n p : Nat) : Nat → Int32 := upd (opN f n p) 12 (nI (n + 1))
/-- a place closed: the shots behind it stand one place nearer -/
def clN (f : Nat → Int32) (p t : Nat) : Nat → Int32 := fun k => if 13 + 14 * p ≤ k ∧ k < 13 + 14 * t then f (k + 14) else f k
theorem clN_0 (f : Nat → Int32) (p : Nat) : clN f p p = f := by
  funext k; simp only [clN]; (repeat' split) <;> first | rfl | omega
theorem clN_s (f : Nat → Int32) {p t : Nat} (h : p ≤ t) : cpN (clN f p t) (t + 1) t 14 = clN f p (t + 1) := by
  funext k; simp only [clN, cpN]; (repeat' split) <;> first | rfl | omega | exact congrArg f (by omega)
theorem clN_12 (f : Nat → Int32) (p t : Nat) : clN f p t 12 = f 12 := by
  simp only [clN]; (repeat' split) <;> first | rfl | omega
def clS (f : Nat → Int32) (n p : Nat) : Nat → Int32 := upd (clN f p (n - 1)) 12 (nI (n - 1))
theorem cd_X3_copyShot : cdV RX3 yX3_copyShot cX3_copyShot 4 none 2 := ⟨⟨bw_254, bw_59, by decide, by decide, by decide +kernel⟩, bw_252, bw_253⟩
set_option maxHeartbeats 4000000 in
set_option maxRecDepth 100000 in
theorem c_X3_copyShot (l : Launch) (E : EV) (r : Nat) (rc : Nat) (f : Nat → Int32) (a : Nat) (b : Nat) (h1 : a < 20) (h2 : b < 20) (hne : a ≠ b) : rcV l E yX3_copyShot cX3_copyShot 4 1 [.ref r, .int (nI a), .int (nI b)] [(r, .inr (2, [.ref rc])), (rc, .inl (E.2.1, 293, .inl f))] [(r, .inr (2, [.ref rc])), (rc, .inl (E.2.1, 293, .inl (cpN f a b 14)))] := by
  refine rcV_of (by decide) (Nat.le_of_ble_eq_true rfl) ?_
  intro pg e s m below meth c Q A ls S hP hD0 hE hA hl hret
  have hx := S.1
  have hb := S.2.1
  have hown := S.2.2.2.1
  have hts := S.2.2.2.2
  have hK := hE.1
  have hS : va_S A s.heap s.heap [] := va_S.rf
  have hl : lv_has ls 4 [(0, .ref r), (1, .int (nI a)), (2, .int (nI b))] := hl
  refine lv_iconst (v := nI 0) hx hb dX3_copyShot_0 (by decide) ?_
  refine lv_istore_n (lv' := [(3, .int (nI 0)), (0, .ref r), (1, .int (nI a)), (2, .int (nI b))]) hx hb dX3_copyShot_1 rfl hl (by decide) rfl (fun ls hl => ?_)
  have loop2 : ∀ (fuel : Nat) (j : Nat), 14 - j < fuel → j ≤ 14 → ∀ (H : Heap) (locs : List Loc), va_P E.1 vwCl [(r, .inr (2, [.ref rc])), (rc, .inl (E.2.1, 293, .inl (cpN f a b j)))] H → va_S A s.heap H locs → ∀ ls : Array Slot, lv_has ls 4 [(3, .int (nI j)), (0, .ref r), (1, .int (nI a)), (2, .int (nI b))] → W pg l e (rq 1) s m ([.ref r, .int (nI a), .int (nI b)] : List Value).toArray below meth c H locs 0 0 Q (F0 m 2 ls []) := by
    intro fuel
    induction fuel with
    | zero => intro j h9; exact absurd h9 (Nat.not_lt_zero _)
    | succ fuel ih2 =>
      intro j hfu2 hj H locs hP hS ls hl
      refine lv_iload_n hx hb dX3_copyShot_2 rfl (lv_at hl 0 rfl) ?_
      refine lv_bipush (v := nI 14) hx hb dX3_copyShot_3 (by decide) ?_
      refine rn_icmp_ge (a := j) (b := 14) (tgt := 26) hx hb (by omega) (by omega) dX3_copyShot_5 (by decide) (fun c_1 => ?_) (fun c_1 => ?_)
      · exact hret _ _ _ _ _ (by rw [show j = 14 by omega]) hP hS dX3_copyShot_26
      · refine lv_aload_n hx hb dX3_copyShot_8 rfl (lv_at hl 1 rfl) ?_
        refine lv_iload_n hx hb dX3_copyShot_9 rfl (lv_at hl 3 rfl) ?_
        refine lv_iload_n hx hb dX3_copyShot_10 rfl (lv_at hl 0 rfl) ?_
        refine lv_aload_n hx hb dX3_copyShot_11 rfl (lv_at hl 1 rfl) ?_
        refine lv_iload_n hx hb dX3_copyShot_12 rfl (lv_at hl 2 rfl) ?_
        refine lv_iload_n hx hb dX3_copyShot_13 rfl (lv_at hl 0 rfl) ?_
        refine rwV (rest := [.int (nI j), .int (nI b), .ref r]) S (c_X3_readShot l E r rc (cpN f a b j) a j (by omega) (by omega)) cd_X3_readShot bw_255 ⟨Nat.le_of_ble_eq_true rfl, Nat.le_of_ble_eq_true rfl⟩ ⟨Nat.zero_le _, Nat.zero_le _⟩ hP (hD0.con rfl) hE hA hS [0, 1] rfl rfl rfl (ci := 2) rfl (q0 := 0) rfl rfl rfl (Nat.le_of_ble_eq_true rfl) hl.1 dX3_copyShot_14 (fun H locs hP _ hS => ?_)
        have hP : va_P E.1 vwCl [(r, .inr (2, [.ref rc])), (rc, .inl (E.2.1, 293, .inl (cpN f a b j)))] H := hP
        refine rwVv (rest := []) S (c_X3_writeShot l E r rc (cpN f a b j) b j ((cpN f a b j) (13 + 14 * a + j)) (by omega) (by omega)) cd_X3_writeShot bw_259 ⟨Nat.le_of_ble_eq_true rfl, Nat.le_of_ble_eq_true rfl⟩ ⟨Nat.zero_le _, Nat.zero_le _⟩ hP (hD0.con rfl) hE hA hS [0, 1] rfl rfl rfl (ci := 2) rfl (q0 := 0) rfl rfl rfl (Nat.le_of_ble_eq_true rfl) hl.1 dX3_copyShot_17 (fun H locs hP _ hS => ?_)
        have hP : va_P E.1 vwCl [(r, .inr (2, [.ref rc])), (rc, .inl (E.2.1, 293, .inl (upd (cpN f a b j) (13 + 14 * b + j) ((cpN f a b j) (13 + 14 * a + j)))))] H := hP
        refine rn_inc (a := j) (d := 1) (lv' := [(3, .int (nI (j + 1))), (0, .ref r), (1, .int (nI a)), (2, .int (nI b))]) hx hb dX3_copyShot_20 hl (k := 0) rfl (by decide) (by decide) rfl (fun ls hl => ?_)
        refine lv_goto (tgt := 2) hx hb dX3_copyShot_23 (by decide) ?_
        have hP : va_P E.1 vwCl [(r, .inr (2, [.ref rc])), (rc, .inl (E.2.1, 293, .inl (cpN f a b (j + 1))))] H := by rw [cpN_s f hne (by omega)] at hP; exact hP
        have hl : lv_has ls 4 [(3, .int (nI (j + 1))), (0, .ref r), (1, .int (nI a)), (2, .int (nI b))] := lv_sub hl [0, 1, 2, 3] rfl
        exact ih2 (j + 1) (by omega) (by omega) _ _ hP hS _ hl
  have hP : va_P E.1 vwCl [(r, .inr (2, [.ref rc])), (rc, .inl (E.2.1, 293, .inl (cpN f a b 0)))] s.heap := by rw [cpN_0]; exact hP
  have hl : lv_has ls 4 [(3, .int (nI 0)), (0, .ref r), (1, .int (nI a)), (2, .int (nI b))] := lv_sub hl [0, 1, 2, 3] rfl
  exact loop2 _ 0 (Nat.lt_succ_self _) (by omega) _ _ hP hS _ hl

theorem cd_X3_swapShots : cdV RX3 yX3_swapShots cX3_swapShots 5 none 2 := ⟨⟨bw_308, bw_59, by decide, by decide, by decide +kernel⟩, bw_306, bw_307⟩
set_option maxHeartbeats 4000000 in
set_option maxRecDepth 100000 in
theorem c_X3_swapShots (l : Launch) (E : EV) (r : Nat) (rc : Nat) (f : Nat → Int32) (a : Nat) (b : Nat) (h1 : a < 20) (h2 : b < 20) (hne : a ≠ b) : rcV l E yX3_swapShots cX3_swapShots 5 1 [.ref r, .int (nI a), .int (nI b)] [(r, .inr (2, [.ref rc])), (rc, .inl (E.2.1, 293, .inl f))] [(r, .inr (2, [.ref rc])), (rc, .inl (E.2.1, 293, .inl (swN f a b 14)))] := by
  refine rcV_of (by decide) (Nat.le_of_ble_eq_true rfl) ?_
  intro pg e s m below meth c Q A ls S hP hD0 hE hA hl hret
  have hx := S.1
  have hb := S.2.1
  have hown := S.2.2.2.1
  have hts := S.2.2.2.2
  have hK := hE.1
  have hS : va_S A s.heap s.heap [] := va_S.rf
  have hl : lv_has ls 5 [(0, .ref r), (1, .int (nI a)), (2, .int (nI b))] := hl
  refine lv_iconst (v := nI 0) hx hb dX3_swapShots_0 (by decide) ?_
  refine lv_istore_n (lv' := [(3, .int (nI 0)), (0, .ref r), (1, .int (nI a)), (2, .int (nI b))]) hx hb dX3_swapShots_1 rfl hl (by decide) rfl (fun ls hl => ?_)
  have loop2 : ∀ (fuel : Nat) (j : Nat), 14 - j < fuel → j ≤ 14 → ∀ (H : Heap) (locs : List Loc), va_P E.1 vwCl [(r, .inr (2, [.ref rc])), (rc, .inl (E.2.1, 293, .inl (swN f a b j)))] H → va_S A s.heap H locs → ∀ ls : Array Slot, lv_has ls 5 [(3, .int (nI j)), (0, .ref r), (1, .int (nI a)), (2, .int (nI b))] → W pg l e (rq 1) s m ([.ref r, .int (nI a), .int (nI b)] : List Value).toArray below meth c H locs 0 0 Q (F0 m 2 ls []) := by
    intro fuel
    induction fuel with
    | zero => intro j h9; exact absurd h9 (Nat.not_lt_zero _)
    | succ fuel ih2 =>
      intro j hfu2 hj H locs hP hS ls hl
      refine lv_iload_n hx hb dX3_swapShots_2 rfl (lv_at hl 0 rfl) ?_
      refine lv_bipush (v := nI 14) hx hb dX3_swapShots_3 (by decide) ?_
      refine rn_icmp_ge (a := j) (b := 14) (tgt := 42) hx hb (by omega) (by omega) dX3_swapShots_5 (by decide) (fun c_1 => ?_) (fun c_1 => ?_)
      · exact hret _ _ _ _ _ (by rw [show j = 14 by omega]) hP hS dX3_swapShots_42
      · refine lv_aload_n hx hb dX3_swapShots_8 rfl (lv_at hl 1 rfl) ?_
        refine lv_iload_n hx hb dX3_swapShots_9 rfl (lv_at hl 2 rfl) ?_
        refine lv_iload_n hx hb dX3_swapShots_10 rfl (lv_at hl 0 rfl) ?_
        refine rwV (rest := []) S (c_X3_readShot l E r rc (swN f a b j) a j (by omega) (by omega)) cd_X3_readShot bw_255 ⟨Nat.le_of_ble_eq_true rfl, Nat.le_of_ble_eq_true rfl⟩ ⟨Nat.zero_le _, Nat.zero_le _⟩ hP (hD0.con rfl) hE hA hS [0, 1] rfl rfl rfl (ci := 2) rfl (q0 := 0) rfl rfl rfl (Nat.le_of_ble_eq_true rfl) hl.1 dX3_swapShots_11 (fun H locs hP _ hS => ?_)
        have hP : va_P E.1 vwCl [(r, .inr (2, [.ref rc])), (rc, .inl (E.2.1, 293, .inl (swN f a b j)))] H := hP
        refine lv_istore (lv' := [(4, .int ((swN f a b j) (13 + 14 * a + j))), (3, .int (nI j)), (0, .ref r), (1, .int (nI a)), (2, .int (nI b))]) hx hb dX3_swapShots_14 hl (by decide) rfl (fun ls hl => ?_)
        refine lv_aload_n hx hb dX3_swapShots_16 rfl (lv_at hl 2 rfl) ?_
        refine lv_iload_n hx hb dX3_swapShots_17 rfl (lv_at hl 3 rfl) ?_
        refine lv_iload_n hx hb dX3_swapShots_18 rfl (lv_at hl 1 rfl) ?_
        refine lv_aload_n hx hb dX3_swapShots_19 rfl (lv_at hl 2 rfl) ?_
        refine lv_iload_n hx hb dX3_swapShots_20 rfl (lv_at hl 4 rfl) ?_
        refine lv_iload_n hx hb dX3_swapShots_21 rfl (lv_at hl 1 rfl) ?_
        refine rwV (rest := [.int (nI j), .int (nI a), .ref r]) S (c_X3_readShot l E r rc (swN f a b j) b j (by omega) (by omega)) cd_X3_readShot bw_255 ⟨Nat.le_of_ble_eq_true rfl, Nat.le_of_ble_eq_true rfl⟩ ⟨Nat.zero_le _, Nat.zero_le _⟩ hP (hD0.con rfl) hE hA hS [0, 1] rfl rfl rfl (ci := 2) rfl (q0 := 0) rfl rfl rfl (Nat.le_of_ble_eq_true rfl) hl.1 dX3_swapShots_22 (fun H locs hP _ hS => ?_)
        have hP : va_P E.1 vwCl [(r, .inr (2, [.ref rc])), (rc, .inl (E.2.1, 293, .inl (swN f a b j)))] H := hP
        refine rwVv (rest := []) S (c_X3_writeShot l E r rc (swN f a b j) a j ((swN f a b j) (13 + 14 * b + j)) (by omega) (by omega)) cd_X3_writeShot bw_259 ⟨Nat.le_of_ble_eq_true rfl, Nat.le_of_ble_eq_true rfl⟩ ⟨Nat.zero_le _, Nat.zero_le _⟩ hP (hD0.con rfl) hE hA hS [0, 1] rfl rfl rfl (ci := 2) rfl (q0 := 0) rfl rfl rfl (Nat.le_of_ble_eq_true rfl) hl.1 dX3_swapShots_25 (fun H locs hP _ hS => ?_)
        have hP : va_P E.1 vwCl [(r, .inr (2, [.ref rc])), (rc, .inl (E.2.1, 293, .inl (upd (swN f a b j) (13 + 14 * a + j) ((swN f a b j) (13 + 14 * b + j)))))] H := hP
        refine lv_aload_n hx hb dX3_swapShots_28 rfl (lv_at hl 2 rfl) ?_
        refine lv_iload_n hx hb dX3_swapShots_29 rfl (lv_at hl 4 rfl) ?_
        refine lv_iload_n hx hb dX3_swapShots_30 rfl (lv_at hl 1 rfl) ?_
        refine lv_iload hx hb dX3_swapShots_31 (lv_at hl 0 rfl) ?_
        refine rwVv (rest := []) S (c_X3_writeShot l E r rc (upd (swN f a b j) (13 + 14 * a + j) ((swN f a b j) (13 + 14 * b + j))) b j ((swN f a b j) (13 + 14 * a + j)) (by omega) (by omega)) cd_X3_writeShot bw_259 ⟨Nat.le_of_ble_eq_true rfl, Nat.le_of_ble_eq_true rfl⟩ ⟨Nat.zero_le _, Nat.zero_le _⟩ hP (hD0.con rfl) hE hA hS [0, 1] rfl rfl rfl (ci := 2) rfl (q0 := 0) rfl rfl rfl (Nat.le_of_ble_eq_true rfl) hl.1 dX3_swapShots_33 (fun H locs hP _ hS => ?_)
        have hP : va_P E.1 vwCl [(r, .inr (2, [.ref rc])), (rc, .inl (E.2.1, 293, .inl (upd (upd (swN f a b j) (13 + 14 * a + j) ((swN f a b j) (13 + 14 * b + j))) (13 + 14 * b + j) ((swN f a b j) (13 + 14 * a + j)))))] H := hP
        refine rn_inc (a := j) (d := 1) (lv' := [(3, .int (nI (j + 1))), (4, .int ((swN f a b j) (13 + 14 * a + j))), (0, .ref r), (1, .int (nI a)), (2, .int (nI b))]) hx hb dX3_swapShots_36 hl (k := 1) rfl (by decide) (by decide) rfl (fun ls hl => ?_)
        refine lv_goto (tgt := 2) hx hb dX3_swapShots_39 (by decide) ?_
        have hP : va_P E.1 vwCl [(r, .inr (2, [.ref rc])), (rc, .inl (E.2.1, 293, .inl (swN f a b (j + 1))))] H := by rw [swN_s f hne (by omega)] at hP; exact hP
        have hl : lv_has ls 5 [(3, .int (nI (j + 1))), (0, .ref r), (1, .int (nI a)), (2, .int (nI b))] := lv_sub hl [0, 2, 3, 4] rfl
        exact ih2 (j + 1) (by omega) (by omega) _ _ hP hS _ hl
  have hP : va_P E.1 vwCl [(r, .inr (2, [.ref rc])), (rc, .inl (E.2.1, 293, .inl (swN f a b 0)))] s.heap := by rw [swN_0]; exact hP
  have hl : lv_has ls 5 [(3, .int (nI 0)), (0, .ref r), (1, .int (nI a)), (2, .int (nI b))] := lv_sub hl [0, 1, 2, 3] rfl
  exact loop2 _ 0 (Nat.lt_succ_self _) (by omega) _ _ hP hS _ hl

theorem cd_X3_openPlace : cdV RX3 yX3_openPlace cX3_openPlace 3 none 1 := ⟨⟨bw_246, bw_59, by decide, by decide, by decide +kernel⟩, bw_244, bw_245⟩
set_option maxHeartbeats 4000000 in
set_option maxRecDepth 100000 in
theorem c_X3_openPlace (l : Launch) (E : EV) (r : Nat) (rc : Nat) (f : Nat → Int32) (n : Nat) (p : Nat) (hf : f 12 = nI n) (hn : n < 20) (hp : p ≤ n) : rcV l E yX3_openPlace cX3_openPlace 3 2 [.ref r, .int (nI p)] [(r, .inr (2, [.ref rc])), (rc, .inl (E.2.1, 293, .inl f))] [(r, .inr (2, [.ref rc])), (rc, .inl (E.2.1, 293, .inl (opS f n p)))] := by
  refine rcV_of (by decide) (Nat.le_of_ble_eq_true rfl) ?_
  intro pg e s m below meth c Q A ls S hP hD0 hE hA hl hret
  have hx := S.1
  have hb := S.2.1
  have hown := S.2.2.2.1
  have hts := S.2.2.2.2
  have hK := hE.1
  have hS : va_S A s.heap s.heap [] := va_S.rf
  have hl : lv_has ls 3 [(0, .ref r), (1, .int (nI p))] := hl
  refine lv_aload_n hx hb dX3_openPlace_0 rfl (lv_at hl 0 rfl) ?_
  refine rwV (rest := []) S (c_X3_shots l E r rc f n (by omega)) cd_X3_shots bw_247 ⟨Nat.le_of_ble_eq_true rfl, Nat.le_of_ble_eq_true rfl⟩ ⟨Nat.zero_le _, Nat.zero_le _⟩ hP (hD0.con rfl) hE hA hS [0, 1] rfl rfl rfl (ci := 2) rfl (q0 := 0) rfl rfl rfl (Nat.le_of_ble_eq_true rfl) hl.1 dX3_openPlace_1 (fun H locs hP _ hS => ?_)
  have hP : va_P E.1 vwCl [(r, .inr (2, [.ref rc])), (rc, .inl (E.2.1, 293, .inl f))] H := hP
  refine lv_bipush (v := nI 19) hx hb dX3_openPlace_4 (by decide) ?_
  refine rw_min S hl.1 bw_248 ⟨Nat.le_of_ble_eq_true rfl, Nat.le_of_ble_eq_true rfl⟩ (Nat.le_of_ble_eq_true rfl) ⟨Nat.zero_le _, Nat.zero_le _⟩ dX3_openPlace_6 ?_
  refine W.eq (congrArg (fun z => F0 m 9 ls (.int z :: [])) (show imin (nI n) (nI 19) = nI n from imin_l (by omega) (by omega))) ?_
  refine lv_istore_n (lv' := [(2, .int (nI n)), (0, .ref r), (1, .int (nI p))]) hx hb dX3_openPlace_9 rfl hl (by decide) rfl (fun ls hl => ?_)
  have loop10 : ∀ (fuel : Nat) (t : Nat), t < fuel → p ≤ t → t ≤ n → ∀ (H : Heap) (locs : List Loc), va_P E.1 vwCl [(r, .inr (2, [.ref rc])), (rc, .inl (E.2.1, 293, .inl (opN f n t)))] H → va_S A s.heap H locs → ∀ ls : Array Slot, lv_has ls 3 [(2, .int (nI t)), (0, .ref r), (1, .int (nI p))] → W pg l e (rq 2) s m ([.ref r, .int (nI p)] : List Value).toArray below meth c H locs 0 0 Q (F0 m 10 ls []) := by
    intro fuel
    induction fuel with
    | zero => intro t h9; exact absurd h9 (Nat.not_lt_zero _)
    | succ fuel ih10 =>
      intro t hfu10 ht1 ht2 H locs hP hS ls hl
      refine lv_iload_n hx hb dX3_openPlace_10 rfl (lv_at hl 0 rfl) ?_
      refine lv_iload_n hx hb dX3_openPlace_11 rfl (lv_at hl 2 rfl) ?_
      refine rn_icmp_le (a := t) (b := p) (tgt := 29) hx hb (by omega) (by omega) dX3_openPlace_12 (by decide) (fun c_1 => ?_) (fun c_1 => ?_)
      · refine lv_aload_n hx hb dX3_openPlace_29 rfl (lv_at hl 1 rfl) ?_
        refine lv_bipush (v := nI 12) hx hb dX3_openPlace_30 (by decide) ?_
        refine lv_aload_n hx hb dX3_openPlace_32 rfl (lv_at hl 1 rfl) ?_
        refine rwV (rest := [.int (nI 12), .ref r]) S (c_X3_shots l E r rc (opN f n t) n ((opN_12 f n t).trans hf)) cd_X3_shots bw_247 ⟨Nat.le_of_ble_eq_true rfl, Nat.le_of_ble_eq_true rfl⟩ ⟨Nat.zero_le _, Nat.zero_le _⟩ hP (hD0.con rfl) hE hA hS [0, 1] rfl rfl rfl (ci := 2) rfl (q0 := 0) rfl rfl rfl (Nat.le_of_ble_eq_true rfl) hl.1 dX3_openPlace_33 (fun H locs hP _ hS => ?_)
        have hP : va_P E.1 vwCl [(r, .inr (2, [.ref rc])), (rc, .inl (E.2.1, 293, .inl (opN f n t)))] H := hP
        refine lv_iconst (v := nI 1) hx hb dX3_openPlace_36 (by decide) ?_
        refine rn_add (a := n) (b := 1) hx hb dX3_openPlace_37 ?_
        refine rwVv (rest := []) S (c_X3_write l E r rc (opN f n t) 12 (nI (n + 1)) (by omega)) cd_X3_write bw_263 ⟨Nat.le_of_ble_eq_true rfl, Nat.le_of_ble_eq_true rfl⟩ ⟨Nat.zero_le _, Nat.zero_le _⟩ hP (hD0.con rfl) hE hA hS [0, 1] rfl rfl rfl (ci := 2) rfl (q0 := 0) rfl rfl rfl (Nat.le_of_ble_eq_true rfl) hl.1 dX3_openPlace_38 (fun H locs hP _ hS => ?_)
        have hP : va_P E.1 vwCl [(r, .inr (2, [.ref rc])), (rc, .inl (E.2.1, 293, .inl (upd (opN f n t) 12 (nI (n + 1)))))] H := hP
        exact hret _ _ _ _ _ (by rw [show t = p by omega]; rfl) hP hS dX3_openPlace_41
      · refine lv_aload_n hx hb dX3_openPlace_15 rfl (lv_at hl 1 rfl) ?_
        refine lv_iload_n hx hb dX3_openPlace_16 rfl (lv_at hl 0 rfl) ?_
        refine lv_iconst (v := nI 1) hx hb dX3_openPlace_17 (by decide) ?_
        refine rn_sub (a := t) (b := 1) hx hb dX3_openPlace_18 (by omega) ?_
        refine lv_iload_n hx hb dX3_openPlace_19 rfl (lv_at hl 0 rfl) ?_
        refine rwVv (rest := []) S (c_X3_copyShot l E r rc (opN f n t) (t - 1) t (by omega) (by omega) (by omega)) cd_X3_copyShot bw_251 ⟨Nat.le_of_ble_eq_true rfl, Nat.le_of_ble_eq_true rfl⟩ ⟨Nat.zero_le _, Nat.zero_le _⟩ hP (hD0.con rfl) hE hA hS [0, 1] rfl rfl rfl (ci := 2) rfl (q0 := 0) rfl rfl rfl (Nat.le_of_ble_eq_true rfl) hl.1 dX3_openPlace_20 (fun H locs hP _ hS => ?_)
        have hP : va_P E.1 vwCl [(r, .inr (2, [.ref rc])), (rc, .inl (E.2.1, 293, .inl (cpN (opN f n t) (t - 1) t 14)))] H := hP
        refine rn_dec (a := t) (lv' := [(2, .int (nI (t - 1))), (0, .ref r), (1, .int (nI p))]) hx hb dX3_openPlace_23 hl (k := 0) rfl (by decide) (by omega) (by decide) rfl (fun ls hl => ?_)
        refine lv_goto (tgt := 10) hx hb dX3_openPlace_26 (by decide) ?_
        have hP : va_P E.1 vwCl [(r, .inr (2, [.ref rc])), (rc, .inl (E.2.1, 293, .inl (opN f n (t - 1))))] H := by rw [opN_s f (by omega) (by omega)] at hP; exact hP
        have hl : lv_has ls 3 [(2, .int (nI (t - 1))), (0, .ref r), (1, .int (nI p))] := lv_sub hl [0, 1, 2] rfl
        exact ih10 (t - 1) (by omega) (by omega) (by omega) _ _ hP hS _ hl
  have hP : va_P E.1 vwCl [(r, .inr (2, [.ref rc])), (rc, .inl (E.2.1, 293, .inl (opN f n n)))] H := by rw [opN_n]; exact hP
  have hl : lv_has ls 3 [(2, .int (nI n)), (0, .ref r), (1, .int (nI p))] := lv_sub hl [0, 1, 2] rfl
  exact loop10 _ n (Nat.lt_succ_self _) (by omega) (by omega) _ _ hP hS _ hl

theorem cd_X3_closePlace : cdV RX3 yX3_closePlace cX3_closePlace 3 none 1 := ⟨⟨bw_279, bw_59, by decide, by decide, by decide +kernel⟩, bw_277, bw_278⟩
set_option maxHeartbeats 4000000 in
set_option maxRecDepth 100000 in
theorem c_X3_closePlace (l : Launch) (E : EV) (r : Nat) (rc : Nat) (f : Nat → Int32) (n : Nat) (p : Nat) (hf : f 12 = nI n) (hn : n ≤ 20) (hp : p < n) : rcV l E yX3_closePlace cX3_closePlace 3 2 [.ref r, .int (nI p)] [(r, .inr (2, [.ref rc])), (rc, .inl (E.2.1, 293, .inl f))] [(r, .inr (2, [.ref rc])), (rc, .inl (E.2.1, 293, .inl (clS f n p)))] := by
  refine rcV_of (by decide) (Nat.le_of_ble_eq_true rfl) ?_
  intro pg e s m below meth c Q A ls S hP hD0 hE hA hl hret
  have hx := S.1
  have hb := S.2.1
  have hown := S.2.2.2.1
  have hts := S.2.2.2.2
  have hK := hE.1
  have hS : va_S A s.heap s.heap [] := va_S.rf
  have hl : lv_has ls 3 [(0, .ref r), (1, .int (nI p))] := hl
  refine lv_iload_n hx hb dX3_closePlace_0 rfl (lv_at hl 1 rfl) ?_
  refine lv_istore_n (lv' := [(2, .int (nI p)), (0, .ref r), (1, .int (nI p))]) hx hb dX3_closePlace_1 rfl hl (by decide) rfl (fun ls hl => ?_)
  have loop2 : ∀ (fuel : Nat) (t : Nat), n - t < fuel → p ≤ t → t < n → ∀ (H : Heap) (locs : List Loc), va_P E.1 vwCl [(r, .inr (2, [.ref rc])), (rc, .inl (E.2.1, 293, .inl (clN f p t)))] H → va_S A s.heap H locs → ∀ ls : Array Slot, lv_has ls 3 [(2, .int (nI t)), (0, .ref r), (1, .int (nI p))] → W pg l e (rq 2) s m ([.ref r, .int (nI p)] : List Value).toArray below meth c H locs 0 0 Q (F0 m 2 ls []) := by
    intro fuel
    induction fuel with
    | zero => intro t h9; exact absurd h9 (Nat.not_lt_zero _)
    | succ fuel ih2 =>
      intro t hfu2 ht1 ht2 H locs hP hS ls hl
      refine lv_iload_n hx hb dX3_closePlace_2 rfl (lv_at hl 0 rfl) ?_
      refine lv_aload_n hx hb dX3_closePlace_3 rfl (lv_at hl 1 rfl) ?_
      refine rwV (rest := [.int (nI t)]) S (c_X3_shots l E r rc (clN f p t) n ((clN_12 f p t).trans hf)) cd_X3_shots bw_247 ⟨Nat.le_of_ble_eq_true rfl, Nat.le_of_ble_eq_true rfl⟩ ⟨Nat.zero_le _, Nat.zero_le _⟩ hP (hD0.con rfl) hE hA hS [0, 1] rfl rfl rfl (ci := 2) rfl (q0 := 0) rfl rfl rfl (Nat.le_of_ble_eq_true rfl) hl.1 dX3_closePlace_4 (fun H locs hP _ hS => ?_)
      have hP : va_P E.1 vwCl [(r, .inr (2, [.ref rc])), (rc, .inl (E.2.1, 293, .inl (clN f p t)))] H := hP
      refine lv_iconst (v := nI 1) hx hb dX3_closePlace_7 (by decide) ?_
      refine rn_sub (a := n) (b := 1) hx hb dX3_closePlace_8 (by omega) ?_
      refine rn_icmp_ge (a := t) (b := n - 1) (tgt := 26) hx hb (by omega) (by omega) dX3_closePlace_9 (by decide) (fun c_1 => ?_) (fun c_1 => ?_)
      · refine lv_aload_n hx hb dX3_closePlace_26 rfl (lv_at hl 1 rfl) ?_
        refine lv_bipush (v := nI 12) hx hb dX3_closePlace_27 (by decide) ?_
        refine lv_aload_n hx hb dX3_closePlace_29 rfl (lv_at hl 1 rfl) ?_
        refine rwV (rest := [.int (nI 12), .ref r]) S (c_X3_shots l E r rc (clN f p t) n ((clN_12 f p t).trans hf)) cd_X3_shots bw_247 ⟨Nat.le_of_ble_eq_true rfl, Nat.le_of_ble_eq_true rfl⟩ ⟨Nat.zero_le _, Nat.zero_le _⟩ hP (hD0.con rfl) hE hA hS [0, 1] rfl rfl rfl (ci := 2) rfl (q0 := 0) rfl rfl rfl (Nat.le_of_ble_eq_true rfl) hl.1 dX3_closePlace_30 (fun H locs hP _ hS => ?_)
        have hP : va_P E.1 vwCl [(r, .inr (2, [.ref rc])), (rc, .inl (E.2.1, 293, .inl (clN f p t)))] H := hP
        refine lv_iconst (v := nI 1) hx hb dX3_closePlace_33 (by decide) ?_
        refine rn_sub (a := n) (b := 1) hx hb dX3_closePlace_34 (by omega) ?_
        refine rwVv (rest := []) S (c_X3_write l E r rc (clN f p t) 12 (nI (n - 1)) (by omega)) cd_X3_write bw_263 ⟨Nat.le_of_ble_eq_true rfl, Nat.le_of_ble_eq_true rfl⟩ ⟨Nat.zero_le _, Nat.zero_le _⟩ hP (hD0.con rfl) hE hA hS [0, 1] rfl rfl rfl (ci := 2) rfl (q0 := 0) rfl rfl rfl (Nat.le_of_ble_eq_true rfl) hl.1 dX3_closePlace_35 (fun H locs hP _ hS => ?_)
        have hP : va_P E.1 vwCl [(r, .inr (2, [.ref rc])), (rc, .inl (E.2.1, 293, .inl (upd (clN f p t) 12 (nI (n - 1)))))] H := hP
        exact hret _ _ _ _ _ (by rw [show t = n - 1 by omega]; rfl) hP hS dX3_closePlace_38
      · refine lv_aload_n hx hb dX3_closePlace_12 rfl (lv_at hl 1 rfl) ?_
        refine lv_iload_n hx hb dX3_closePlace_13 rfl (lv_at hl 0 rfl) ?_
        refine lv_iconst (v := nI 1) hx hb dX3_closePlace_14 (by decide) ?_
        refine rn_add (a := t) (b := 1) hx hb dX3_closePlace_15 ?_
        refine lv_iload_n hx hb dX3_closePlace_16 rfl (lv_at hl 0 rfl) ?_
        refine rwVv (rest := []) S (c_X3_copyShot l E r rc (clN f p t) (t + 1) t (by omega) (by omega) (by omega)) cd_X3_copyShot bw_251 ⟨Nat.le_of_ble_eq_true rfl, Nat.le_of_ble_eq_true rfl⟩ ⟨Nat.zero_le _, Nat.zero_le _⟩ hP (hD0.con rfl) hE hA hS [0, 1] rfl rfl rfl (ci := 2) rfl (q0 := 0) rfl rfl rfl (Nat.le_of_ble_eq_true rfl) hl.1 dX3_closePlace_17 (fun H locs hP _ hS => ?_)
        have hP : va_P E.1 vwCl [(r, .inr (2, [.ref rc])), (rc, .inl (E.2.1, 293, .inl (cpN (clN f p t) (t + 1) t 14)))] H := hP
        refine rn_inc (a := t) (d := 1) (lv' := [(2, .int (nI (t + 1))), (0, .ref r), (1, .int (nI p))]) hx hb dX3_closePlace_20 hl (k := 0) rfl (by decide) (by decide) rfl (fun ls hl => ?_)
        refine lv_goto (tgt := 2) hx hb dX3_closePlace_23 (by decide) ?_
        have hP : va_P E.1 vwCl [(r, .inr (2, [.ref rc])), (rc, .inl (E.2.1, 293, .inl (clN f p (t + 1))))] H := by rw [clN_s f (by omega)] at hP; exact hP
        have hl : lv_has ls 3 [(2, .int (nI (t + 1))), (0, .ref r), (1, .int (nI p))] := lv_sub hl [0, 1, 2] rfl
        exact ih2 (t + 1) (by omega) (by omega) (by omega) _ _ hP hS _ hl
  have hP : va_P E.1 vwCl [(r, .inr (2, [.ref rc])), (rc, .inl (E.2.1, 293, .inl (clN f p p)))] s.heap := by rw [clN_0]; exact hP
  have hl : lv_has ls 3 [(2, .int (nI p)), (0, .ref r), (1, .int (nI p))] := lv_sub hl [0, 1, 2] rfl
  exact loop2 _ p (Nat.lt_succ_self _) (by omega) (by omega) _ _ hP hS _ hl

def cp293 (f g : Nat → Int32) : Nat → Int32 := va_cpy f g 0 0 293
theorem cd_X3_become : cdV RX3 yX3_become cX3_become 2 none 1 := ⟨⟨bw_189, bw_59, by decide, by decide, by decide +kernel⟩, bw_187, bw_188⟩
set_option maxHeartbeats 4000000 in
set_option maxRecDepth 100000 in
theorem c_X3_become (l : Launch) (E : EV) (r : Nat) (rc : Nat) (o : Nat) (oc : Nat) (f : Nat → Int32) (g : Nat → Int32)  : rcV l E yX3_become cX3_become 2 1 [.ref r, .ref o] [(r, .inr (2, [.ref rc])), (rc, .inl (E.2.1, 293, .inl f)), (o, .inr (2, [.ref oc])), (oc, .inl (E.2.1, 293, .inl g))] [(r, .inr (2, [.ref rc])), (rc, .inl (E.2.1, 293, .inl (cp293 g f))), (o, .inr (2, [.ref oc])), (oc, .inl (E.2.1, 293, .inl g))] := by
  refine rcV_of (by decide) (Nat.le_of_ble_eq_true rfl) ?_
  intro pg e s m below meth c Q A ls S hP hD0 hE hA hl hret
  have hx := S.1
  have hb := S.2.1
  have hown := S.2.2.2.1
  have hts := S.2.2.2.2
  have hK := hE.1
  have hS : va_S A s.heap s.heap [] := va_S.rf
  have hl : lv_has ls 2 [(0, .ref r), (1, .ref o)] := hl
  refine lv_aload_n hx hb dX3_become_0 rfl (lv_at hl 1 rfl) ?_
  refine va_get (D := E.1) (ci := 2) (v := .ref oc) (C := RX3) (T := TX3) (N := 1) hx hb hts inb_X3 hown hK hP 2 rfl rfl 0 (by decide) (hts _ bw_92) (fun _ h9 => h9) rfl dX3_become_1 ?_
  refine lv_iconst (v := nI 0) hx hb dX3_become_4 (by decide) ?_
  refine lv_aload_n hx hb dX3_become_5 rfl (lv_at hl 0 rfl) ?_
  refine va_get (D := E.1) (ci := 2) (v := .ref rc) (C := RX3) (T := TX3) (N := 1) hx hb hts inb_X3 hown hK hP 0 rfl rfl 0 (by decide) (hts _ bw_92) (fun _ h9 => h9) rfl dX3_become_6 ?_
  refine lv_iconst (v := nI 0) hx hb dX3_become_9 (by decide) ?_
  refine lv_sipush (v := nI 293) hx hb dX3_become_10 (by decide) ?_
  refine rw_copy (rest := []) (sp := 0) (dp := 0) (n := 293) S hl.1 bw_89 ⟨Nat.le_of_ble_eq_true rfl, Nat.le_of_ble_eq_true rfl⟩ (Nat.le_of_ble_eq_true rfl) hK hP (hD0.con rfl) hS 3 1 rfl rfl rfl (by omega) (by omega) (by omega) (by omega) (by omega) dX3_become_13 (fun H locs hP _ hS => ?_)
  have hP : va_P E.1 vwCl [(r, .inr (2, [.ref rc])), (rc, .inl (E.2.1, 293, .inl (va_cpy g f 0 0 293))), (o, .inr (2, [.ref oc])), (oc, .inl (E.2.1, 293, .inl g))] H := hP
  exact hret _ _ _ _ _ rfl hP hS dX3_become_16

theorem cd_X3_writeTo : cdV RX3 yX3_writeTo cX3_writeTo 3 none 2 := ⟨⟨bw_226, bw_59, by decide, by decide, by decide +kernel⟩, bw_224, bw_225⟩
set_option maxHeartbeats 4000000 in
set_option maxRecDepth 100000 in
theorem c_X3_writeTo (l : Launch) (E : EV) (r : Nat) (rc : Nat) (w : Nat) (N : Nat) (f : Nat → Int32) (h : Nat → Int32) (a : Nat) (ha : a + 293 ≤ N) (hN : N < 10000) : rcV l E yX3_writeTo cX3_writeTo 3 1 [.ref r, .ref w, .int (nI a)] [(r, .inr (2, [.ref rc])), (rc, .inl (E.2.1, 293, .inl f)), (w, .inl (E.2.1, N, .inl h))] [(r, .inr (2, [.ref rc])), (rc, .inl (E.2.1, 293, .inl f)), (w, .inl (E.2.1, N, .inl (va_cpy f h 0 a 293)))] := by
  refine rcV_of (by decide) (Nat.le_of_ble_eq_true rfl) ?_
  intro pg e s m below meth c Q A ls S hP hD0 hE hA hl hret
  have hx := S.1
  have hb := S.2.1
  have hown := S.2.2.2.1
  have hts := S.2.2.2.2
  have hK := hE.1
  have hS : va_S A s.heap s.heap [] := va_S.rf
  have hl : lv_has ls 3 [(0, .ref r), (1, .ref w), (2, .int (nI a))] := hl
  refine lv_iload_n hx hb dX3_writeTo_0 rfl (lv_at hl 2 rfl) ?_
  refine lv_if_lt (tgt := 27) hx hb dX3_writeTo_1 (by decide) (fun c9 => absurd c9 (nI_pos (by omega))) (fun _ => ?_)
  refine lv_iload_n hx hb dX3_writeTo_4 rfl (lv_at hl 2 rfl) ?_
  refine lv_aload_n hx hb dX3_writeTo_5 rfl (lv_at hl 1 rfl) ?_
  refine va_alen (v := nI N) hx hb hK hP 2 0 rfl rfl rfl dX3_writeTo_6 ?_
  refine lv_sipush (v := nI 293) hx hb dX3_writeTo_7 (by decide) ?_
  refine rn_sub (a := N) (b := 293) hx hb dX3_writeTo_10 (by omega) ?_
  refine rn_icmp_gt (a := a) (b := N - 293) (tgt := 27) hx hb (by omega) (by omega) dX3_writeTo_11 (by decide) (fun c_1 => absurd c_1 (by omega)) (fun c_1 => ?_)
  refine lv_aload_n hx hb dX3_writeTo_14 rfl (lv_at hl 0 rfl) ?_
  refine va_get (D := E.1) (ci := 2) (v := .ref rc) (C := RX3) (T := TX3) (N := 1) hx hb hts inb_X3 hown hK hP 0 rfl rfl 0 (by decide) (hts _ bw_92) (fun _ h9 => h9) rfl dX3_writeTo_15 ?_
  refine lv_iconst (v := nI 0) hx hb dX3_writeTo_18 (by decide) ?_
  refine lv_aload_n hx hb dX3_writeTo_19 rfl (lv_at hl 1 rfl) ?_
  refine lv_iload_n hx hb dX3_writeTo_20 rfl (lv_at hl 2 rfl) ?_
  refine lv_sipush (v := nI 293) hx hb dX3_writeTo_21 (by decide) ?_
  refine rw_copy (rest := []) (sp := 0) (dp := a) (n := 293) S hl.1 bw_89 ⟨Nat.le_of_ble_eq_true rfl, Nat.le_of_ble_eq_true rfl⟩ (Nat.le_of_ble_eq_true rfl) hK hP (hD0.con rfl) hS 1 2 rfl rfl rfl (by omega) (by omega) (by omega) (by omega) (by omega) dX3_writeTo_24 (fun H locs hP _ hS => ?_)
  have hP : va_P E.1 vwCl [(r, .inr (2, [.ref rc])), (rc, .inl (E.2.1, 293, .inl f)), (w, .inl (E.2.1, N, .inl (va_cpy f h 0 a 293)))] H := hP
  exact hret _ _ _ _ _ rfl hP hS dX3_writeTo_27

theorem cd_X3_readFrom : cdV RX3 yX3_readFrom cX3_readFrom 3 none 2 := ⟨⟨bw_690, bw_59, by decide, by decide, by decide +kernel⟩, bw_688, bw_689⟩
set_option maxHeartbeats 4000000 in
set_option maxRecDepth 100000 in
theorem c_X3_readFrom (l : Launch) (E : EV) (r : Nat) (rc : Nat) (w : Nat) (N : Nat) (f : Nat → Int32) (h : Nat → Int32) (a : Nat) (ha : a + 293 ≤ N) (hN : N < 10000) : rcV l E yX3_readFrom cX3_readFrom 3 1 [.ref r, .ref w, .int (nI a)] [(r, .inr (2, [.ref rc])), (rc, .inl (E.2.1, 293, .inl f)), (w, .inl (E.2.1, N, .inl h))] [(r, .inr (2, [.ref rc])), (rc, .inl (E.2.1, 293, .inl (va_cpy h f a 0 293))), (w, .inl (E.2.1, N, .inl h))] := by
  refine rcV_of (by decide) (Nat.le_of_ble_eq_true rfl) ?_
  intro pg e s m below meth c Q A ls S hP hD0 hE hA hl hret
  have hx := S.1
  have hb := S.2.1
  have hown := S.2.2.2.1
  have hts := S.2.2.2.2
  have hK := hE.1
  have hS : va_S A s.heap s.heap [] := va_S.rf
  have hl : lv_has ls 3 [(0, .ref r), (1, .ref w), (2, .int (nI a))] := hl
  refine lv_iload_n hx hb dX3_readFrom_0 rfl (lv_at hl 2 rfl) ?_
  refine lv_if_lt (tgt := 27) hx hb dX3_readFrom_1 (by decide) (fun c9 => absurd c9 (nI_pos (by omega))) (fun _ => ?_)
  refine lv_iload_n hx hb dX3_readFrom_4 rfl (lv_at hl 2 rfl) ?_
  refine lv_aload_n hx hb dX3_readFrom_5 rfl (lv_at hl 1 rfl) ?_
  refine va_alen (v := nI N) hx hb hK hP 2 0 rfl rfl rfl dX3_readFrom_6 ?_
  refine lv_sipush (v := nI 293) hx hb dX3_readFrom_7 (by decide) ?_
  refine rn_sub (a := N) (b := 293) hx hb dX3_readFrom_10 (by omega) ?_
  refine rn_icmp_gt (a := a) (b := N - 293) (tgt := 27) hx hb (by omega) (by omega) dX3_readFrom_11 (by decide) (fun c_1 => absurd c_1 (by omega)) (fun c_1 => ?_)
  refine lv_aload_n hx hb dX3_readFrom_14 rfl (lv_at hl 1 rfl) ?_
  refine lv_iload_n hx hb dX3_readFrom_15 rfl (lv_at hl 2 rfl) ?_
  refine lv_aload_n hx hb dX3_readFrom_16 rfl (lv_at hl 0 rfl) ?_
  refine va_get (D := E.1) (ci := 2) (v := .ref rc) (C := RX3) (T := TX3) (N := 1) hx hb hts inb_X3 hown hK hP 0 rfl rfl 0 (by decide) (hts _ bw_92) (fun _ h9 => h9) rfl dX3_readFrom_17 ?_
  refine lv_iconst (v := nI 0) hx hb dX3_readFrom_20 (by decide) ?_
  refine lv_sipush (v := nI 293) hx hb dX3_readFrom_21 (by decide) ?_
  refine rw_copy (rest := []) (sp := a) (dp := 0) (n := 293) S hl.1 bw_89 ⟨Nat.le_of_ble_eq_true rfl, Nat.le_of_ble_eq_true rfl⟩ (Nat.le_of_ble_eq_true rfl) hK hP (hD0.con rfl) hS 2 1 rfl rfl rfl (by omega) (by omega) (by omega) (by omega) (by omega) dX3_readFrom_24 (fun H locs hP _ hS => ?_)
  have hP : va_P E.1 vwCl [(r, .inr (2, [.ref rc])), (rc, .inl (E.2.1, 293, .inl (va_cpy h f a 0 293))), (w, .inl (E.2.1, N, .inl h))] H := hP
  exact hret _ _ _ _ _ rfl hP hS dX3_readFrom_27

theorem cd_X4_keep : cdV RX4 yX4_keep cX4_keep 3 none 2 := ⟨⟨bw_222, bw_63, by decide, by decide, by decide +kernel⟩, bw_220, bw_221⟩
set_option maxHeartbeats 4000000 in
set_option maxRecDepth 100000 in
theorem c_X4_keep (l : Launch) (E : EV) (q : Nat) (r : Nat) (rc : Nat) (w : Nat) (N : Nat) (f : Nat → Int32) (h : Nat → Int32) (x : Nat) (ha : x * 293 + 293 ≤ N) (hN : N < 10000) : rcV l E yX4_keep cX4_keep 3 2 [.ref q, .int (nI x), .ref r] [(q, .inr (3, [.ref w])), (w, .inl (E.2.1, N, .inl h)), (r, .inr (2, [.ref rc])), (rc, .inl (E.2.1, 293, .inl f))] [(q, .inr (3, [.ref w])), (w, .inl (E.2.1, N, .inl (va_cpy f h 0 (x * 293) 293))), (r, .inr (2, [.ref rc])), (rc, .inl (E.2.1, 293, .inl f))] := by
  refine rcV_of (by decide) (Nat.le_of_ble_eq_true rfl) ?_
  intro pg e s m below meth c Q A ls S hP hD0 hE hA hl hret
  have hx := S.1
  have hb := S.2.1
  have hown := S.2.2.2.1
  have hts := S.2.2.2.2
  have hK := hE.1
  have hS : va_S A s.heap s.heap [] := va_S.rf
  have hl : lv_has ls 3 [(0, .ref q), (1, .int (nI x)), (2, .ref r)] := hl
  refine lv_aload_n hx hb dX4_keep_0 rfl (lv_at hl 2 rfl) ?_
  refine lv_aload_n hx hb dX4_keep_1 rfl (lv_at hl 0 rfl) ?_
  refine va_get (D := E.1) (ci := 3) (v := .ref w) (C := RX4) (T := TX4) (N := 1) hx hb hts inb_X4 hown hK hP 0 rfl rfl 0 (by decide) (hts _ bw_144) (fun _ h9 => h9) rfl dX4_keep_2 ?_
  refine lv_iload_n hx hb dX4_keep_5 rfl (lv_at hl 1 rfl) ?_
  refine lv_sipush (v := nI 293) hx hb dX4_keep_6 (by decide) ?_
  refine rn_mul (a := x) (b := 293) hx hb dX4_keep_9 ?_
  refine rwVv (rest := []) S (c_X3_writeTo l E r rc w N f h (x * 293) (by omega) (by omega)) cd_X3_writeTo bw_223 ⟨Nat.le_of_ble_eq_true rfl, Nat.le_of_ble_eq_true rfl⟩ ⟨Nat.zero_le _, Nat.zero_le _⟩ hP (hD0.con rfl) hE hA hS [2, 3, 1] rfl rfl rfl (ci := 2) rfl (q0 := 0) rfl rfl rfl (Nat.le_of_ble_eq_true rfl) hl.1 dX4_keep_10 (fun H locs hP _ hS => ?_)
  have hP : va_P E.1 vwCl [(q, .inr (3, [.ref w])), (w, .inl (E.2.1, N, .inl (va_cpy f h 0 (x * 293) 293))), (r, .inr (2, [.ref rc])), (rc, .inl (E.2.1, 293, .inl f))] H := hP
  exact hret _ _ _ _ _ rfl hP hS dX4_keep_13

theorem cd_X4_give : cdV RX4 yX4_give cX4_give 3 none 2 := ⟨⟨bw_686, bw_63, by decide, by decide, by decide +kernel⟩, bw_684, bw_685⟩
set_option maxHeartbeats 4000000 in
set_option maxRecDepth 100000 in
theorem c_X4_give (l : Launch) (E : EV) (q : Nat) (r : Nat) (rc : Nat) (w : Nat) (N : Nat) (f : Nat → Int32) (h : Nat → Int32) (x : Nat) (ha : x * 293 + 293 ≤ N) (hN : N < 10000) : rcV l E yX4_give cX4_give 3 2 [.ref q, .int (nI x), .ref r] [(q, .inr (3, [.ref w])), (w, .inl (E.2.1, N, .inl h)), (r, .inr (2, [.ref rc])), (rc, .inl (E.2.1, 293, .inl f))] [(q, .inr (3, [.ref w])), (w, .inl (E.2.1, N, .inl h)), (r, .inr (2, [.ref rc])), (rc, .inl (E.2.1, 293, .inl (va_cpy h f (x * 293) 0 293)))] := by
  refine rcV_of (by decide) (Nat.le_of_ble_eq_true rfl) ?_
  intro pg e s m below meth c Q A ls S hP hD0 hE hA hl hret
  have hx := S.1
  have hb := S.2.1
  have hown := S.2.2.2.1
  have hts := S.2.2.2.2
  have hK := hE.1
  have hS : va_S A s.heap s.heap [] := va_S.rf
  have hl : lv_has ls 3 [(0, .ref q), (1, .int (nI x)), (2, .ref r)] := hl
  refine lv_aload_n hx hb dX4_give_0 rfl (lv_at hl 2 rfl) ?_
  refine lv_aload_n hx hb dX4_give_1 rfl (lv_at hl 0 rfl) ?_
  refine va_get (D := E.1) (ci := 3) (v := .ref w) (C := RX4) (T := TX4) (N := 1) hx hb hts inb_X4 hown hK hP 0 rfl rfl 0 (by decide) (hts _ bw_144) (fun _ h9 => h9) rfl dX4_give_2 ?_
  refine lv_iload_n hx hb dX4_give_5 rfl (lv_at hl 1 rfl) ?_
  refine lv_sipush (v := nI 293) hx hb dX4_give_6 (by decide) ?_
  refine rn_mul (a := x) (b := 293) hx hb dX4_give_9 ?_
  refine rwVv (rest := []) S (c_X3_readFrom l E r rc w N f h (x * 293) (by omega) (by omega)) cd_X3_readFrom bw_687 ⟨Nat.le_of_ble_eq_true rfl, Nat.le_of_ble_eq_true rfl⟩ ⟨Nat.zero_le _, Nat.zero_le _⟩ hP (hD0.con rfl) hE hA hS [2, 3, 1] rfl rfl rfl (ci := 2) rfl (q0 := 0) rfl rfl rfl (Nat.le_of_ble_eq_true rfl) hl.1 dX4_give_10 (fun H locs hP _ hS => ?_)
  have hP : va_P E.1 vwCl [(q, .inr (3, [.ref w])), (w, .inl (E.2.1, N, .inl h)), (r, .inr (2, [.ref rc])), (rc, .inl (E.2.1, 293, .inl (va_cpy h f (x * 293) 0 293)))] H := hP
  exact hret _ _ _ _ _ rfl hP hS dX4_give_13

theorem cd_X1_size : cdV RX1 yX1_size cX1_size 1 (some .int) 0 := ⟨⟨bw_468, bw_62, by decide, by decide, by decide +kernel⟩, bw_466, bw_467⟩
set_option maxHeartbeats 4000000 in
set_option maxRecDepth 100000 in
theorem c_X1_size (l : Launch) (E : EV) (y : Nat) (q : Nat) (o : Nat) (z : Nat)  : rcI l E yX1_size cX1_size 1 .int 0 [.ref y] [(y, .inr (0, [.ref q, .int (nI o), .int (nI z)]))] (nI z) [(y, .inr (0, [.ref q, .int (nI o), .int (nI z)]))] := by
  refine rcI_of (by decide) (Nat.le_of_ble_eq_true rfl) ?_
  intro pg e s m below meth c Q A ls S hP hD0 hE hA hl hret
  have hx := S.1
  have hb := S.2.1
  have hown := S.2.2.2.1
  have hts := S.2.2.2.2
  have hK := hE.1
  have hS : va_S A s.heap s.heap [] := va_S.rf
  have hl : lv_has ls 1 [(0, .ref y)] := hl
  refine lv_aload_n hx hb dX1_size_0 rfl (lv_at hl 0 rfl) ?_
  refine va_get (D := E.1) (ci := 0) (v := .int (nI z)) (C := RX1) (T := TX1) (N := 3) hx hb hts inb_X1 hown hK hP 0 rfl rfl 2 (by decide) (hts _ bw_150) (fun _ h9 => h9) rfl dX1_size_1 ?_
  exact hret _ _ _ _ _ _ rfl rfl rfl hP hS dX1_size_4

def hiO (o z : Nat) : Nat := if z < 6 then o else (o + 1) % 6
def hiZ (z : Nat) : Nat := if z < 6 then z + 1 else z
theorem cd_X1_record : cdV RX1 yX1_record cX1_record 2 none 1 := ⟨⟨bw_218, bw_62, by decide, by decide, by decide +kernel⟩, bw_216, bw_217⟩
set_option maxHeartbeats 4000000 in
set_option maxRecDepth 100000 in
theorem c_X1_record (l : Launch) (E : EV) (y : Nat) (q : Nat) (w : Nat) (r : Nat) (rc : Nat) (o : Nat) (z : Nat) (f : Nat → Int32) (h : Nat → Int32) (ho : o < 6) (hz : z ≤ 6) : rcV l E yX1_record cX1_record 2 3 [.ref y, .ref r] [(y, .inr (0, [.ref q, .int (nI o), .int (nI z)])), (q, .inr (3, [.ref w])), (w, .inl (E.2.1, 1758, .inl h)), (r, .inr (2, [.ref rc])), (rc, .inl (E.2.1, 293, .inl f))] [(y, .inr (0, [.ref q, .int (nI (hiO o z)), .int (nI (hiZ z))])), (q, .inr (3, [.ref w])), (w, .inl (E.2.1, 1758, .inl (va_cpy f h 0 ((o + z) % 6 * 293) 293))), (r, .inr (2, [.ref rc])), (rc, .inl (E.2.1, 293, .inl f))] := by
  refine rcV_of (by decide) (Nat.le_of_ble_eq_true rfl) ?_
  intro pg e s m below meth c Q A ls S hP hD0 hE hA hl hret
  have hx := S.1
  have hb := S.2.1
  have hown := S.2.2.2.1
  have hts := S.2.2.2.2
  have hK := hE.1
  have hS : va_S A s.heap s.heap [] := va_S.rf
  have hl : lv_has ls 2 [(0, .ref y), (1, .ref r)] := hl
  refine lv_aload_n hx hb dX1_record_0 rfl (lv_at hl 0 rfl) ?_
  refine va_get (D := E.1) (ci := 0) (v := .ref q) (C := RX1) (T := TX1) (N := 3) hx hb hts inb_X1 hown hK hP 0 rfl rfl 0 (by decide) (hts _ bw_148) (fun _ h9 => h9) rfl dX1_record_1 ?_
  refine lv_aload_n hx hb dX1_record_4 rfl (lv_at hl 0 rfl) ?_
  refine va_get (D := E.1) (ci := 0) (v := .int (nI o)) (C := RX1) (T := TX1) (N := 3) hx hb hts inb_X1 hown hK hP 0 rfl rfl 1 (by decide) (hts _ bw_149) (fun _ h9 => h9) rfl dX1_record_5 ?_
  refine lv_aload_n hx hb dX1_record_8 rfl (lv_at hl 0 rfl) ?_
  refine va_get (D := E.1) (ci := 0) (v := .int (nI z)) (C := RX1) (T := TX1) (N := 3) hx hb hts inb_X1 hown hK hP 0 rfl rfl 2 (by decide) (hts _ bw_150) (fun _ h9 => h9) rfl dX1_record_9 ?_
  refine rn_add (a := o) (b := z) hx hb dX1_record_12 ?_
  refine lv_bipush (v := nI 6) hx hb dX1_record_13 (by decide) ?_
  refine rn_rem (a := o + z) (b := 6) hx hb dX1_record_15 (by omega) (by omega) (by omega) ?_
  refine lv_aload_n hx hb dX1_record_16 rfl (lv_at hl 1 rfl) ?_
  refine rwVv (rest := []) S (c_X4_keep l E q r rc w 1758 f h ((o + z) % 6) (by omega) (by omega)) cd_X4_keep bw_219 ⟨Nat.le_of_ble_eq_true rfl, Nat.le_of_ble_eq_true rfl⟩ ⟨Nat.zero_le _, Nat.zero_le _⟩ hP (hD0.con rfl) hE hA hS [1, 2, 3, 4] rfl rfl rfl (ci := 3) rfl (q0 := 0) rfl rfl rfl (Nat.le_of_ble_eq_true rfl) hl.1 dX1_record_17 (fun H locs hP _ hS => ?_)
  have hP : va_P E.1 vwCl [(y, .inr (0, [.ref q, .int (nI o), .int (nI z)])), (q, .inr (3, [.ref w])), (w, .inl (E.2.1, 1758, .inl (va_cpy f h 0 (((o + z) % 6) * 293) 293))), (r, .inr (2, [.ref rc])), (rc, .inl (E.2.1, 293, .inl f))] H := hP
  refine lv_aload_n hx hb dX1_record_20 rfl (lv_at hl 0 rfl) ?_
  refine va_get (D := E.1) (ci := 0) (v := .int (nI z)) (C := RX1) (T := TX1) (N := 3) hx hb hts inb_X1 hown hK hP 0 rfl rfl 2 (by decide) (hts _ bw_150) (fun _ h9 => h9) rfl dX1_record_21 ?_
  refine lv_bipush (v := nI 6) hx hb dX1_record_24 (by decide) ?_
  refine rn_icmp_ge (a := z) (b := 6) (tgt := 42) hx hb (by omega) (by omega) dX1_record_26 (by decide) (fun c_1 => ?_) (fun c_1 => ?_)
  · refine lv_aload_n hx hb dX1_record_42 rfl (lv_at hl 0 rfl) ?_
    refine lv_aload_n hx hb dX1_record_43 rfl (lv_at hl 0 rfl) ?_
    refine va_get (D := E.1) (ci := 0) (v := .int (nI o)) (C := RX1) (T := TX1) (N := 3) hx hb hts inb_X1 hown hK hP 0 rfl rfl 1 (by decide) (hts _ bw_149) (fun _ h9 => h9) rfl dX1_record_44 ?_
    refine lv_iconst (v := nI 1) hx hb dX1_record_47 (by decide) ?_
    refine rn_add (a := o) (b := 1) hx hb dX1_record_48 ?_
    refine lv_bipush (v := nI 6) hx hb dX1_record_49 (by decide) ?_
    refine rn_rem (a := o + 1) (b := 6) hx hb dX1_record_51 (by omega) (by omega) (by omega) ?_
    refine va_put (D := E.1) (ci := 0) (v := .int (nI ((o + 1) % 6))) (ty := .int) (C := RX1) (T := TX1) (N := 3) hx hb hts inb_X1 tyX1 tyX1_ok nmX1 hown hK hP (hD0.con rfl) hS 0 rfl rfl 1 (by decide) (hts _ bw_149) (fun _ h9 => h9) rfl (by decide +kernel) rfl rfl (Nat.le_of_ble_eq_true rfl) dX1_record_52 (fun H locs hP _ hS => ?_)
    have hP : va_P E.1 vwCl [(y, .inr (0, [.ref q, .int (nI ((o + 1) % 6)), .int (nI z)])), (q, .inr (3, [.ref w])), (w, .inl (E.2.1, 1758, .inl (va_cpy f h 0 (((o + z) % 6) * 293) 293))), (r, .inr (2, [.ref rc])), (rc, .inl (E.2.1, 293, .inl f))] H := hP
    exact hret _ _ _ _ _ (by unfold hiO hiZ; (repeat' split) <;> first | rfl | (exfalso; omega)) hP hS dX1_record_55
  · refine lv_aload_n hx hb dX1_record_29 rfl (lv_at hl 0 rfl) ?_
    refine lv_dup hx hb dX1_record_30 rfl ?_
    refine va_get (D := E.1) (ci := 0) (v := .int (nI z)) (C := RX1) (T := TX1) (N := 3) hx hb hts inb_X1 hown hK hP 0 rfl rfl 2 (by decide) (hts _ bw_150) (fun _ h9 => h9) rfl dX1_record_31 ?_
    refine lv_iconst (v := nI 1) hx hb dX1_record_34 (by decide) ?_
    refine rn_add (a := z) (b := 1) hx hb dX1_record_35 ?_
    refine va_put (D := E.1) (ci := 0) (v := .int (nI (z + 1))) (ty := .int) (C := RX1) (T := TX1) (N := 3) hx hb hts inb_X1 tyX1 tyX1_ok nmX1 hown hK hP (hD0.con rfl) hS 0 rfl rfl 2 (by decide) (hts _ bw_150) (fun _ h9 => h9) rfl (by decide +kernel) rfl rfl (Nat.le_of_ble_eq_true rfl) dX1_record_36 (fun H locs hP _ hS => ?_)
    have hP : va_P E.1 vwCl [(y, .inr (0, [.ref q, .int (nI o), .int (nI (z + 1))])), (q, .inr (3, [.ref w])), (w, .inl (E.2.1, 1758, .inl (va_cpy f h 0 (((o + z) % 6) * 293) 293))), (r, .inr (2, [.ref rc])), (rc, .inl (E.2.1, 293, .inl f))] H := hP
    refine lv_goto (tgt := 55) hx hb dX1_record_39 (by decide) ?_
    exact hret _ _ _ _ _ (by unfold hiO hiZ; (repeat' split) <;> first | rfl | (exfalso; omega)) hP hS dX1_record_55

theorem cd_X1_takeBack : cdV RX1 yX1_takeBack cX1_takeBack 2 none 1 := ⟨⟨bw_682, bw_62, by decide, by decide, by decide +kernel⟩, bw_680, bw_681⟩
set_option maxHeartbeats 4000000 in
set_option maxRecDepth 100000 in
theorem c_X1_takeBack (l : Launch) (E : EV) (y : Nat) (q : Nat) (w : Nat) (r : Nat) (rc : Nat) (o : Nat) (z : Nat) (f : Nat → Int32) (h : Nat → Int32) (ho : o < 6) (hz : z ≤ 6) (hz0 : 0 < z) : rcV l E yX1_takeBack cX1_takeBack 2 3 [.ref y, .ref r] [(y, .inr (0, [.ref q, .int (nI o), .int (nI z)])), (q, .inr (3, [.ref w])), (w, .inl (E.2.1, 1758, .inl h)), (r, .inr (2, [.ref rc])), (rc, .inl (E.2.1, 293, .inl f))] [(y, .inr (0, [.ref q, .int (nI o), .int (nI (z - 1))])), (q, .inr (3, [.ref w])), (w, .inl (E.2.1, 1758, .inl h)), (r, .inr (2, [.ref rc])), (rc, .inl (E.2.1, 293, .inl (va_cpy h f ((o + (z - 1)) % 6 * 293) 0 293)))] := by
  refine rcV_of (by decide) (Nat.le_of_ble_eq_true rfl) ?_
  intro pg e s m below meth c Q A ls S hP hD0 hE hA hl hret
  have hx := S.1
  have hb := S.2.1
  have hown := S.2.2.2.1
  have hts := S.2.2.2.2
  have hK := hE.1
  have hS : va_S A s.heap s.heap [] := va_S.rf
  have hl : lv_has ls 2 [(0, .ref y), (1, .ref r)] := hl
  refine lv_aload_n hx hb dX1_takeBack_0 rfl (lv_at hl 0 rfl) ?_
  refine va_get (D := E.1) (ci := 0) (v := .int (nI z)) (C := RX1) (T := TX1) (N := 3) hx hb hts inb_X1 hown hK hP 0 rfl rfl 2 (by decide) (hts _ bw_150) (fun _ h9 => h9) rfl dX1_takeBack_1 ?_
  refine rn_if_le (a := z) (tgt := 37) hx hb (by omega) dX1_takeBack_4 (by decide) (fun c_1 => absurd c_1 (by omega)) (fun c_1 => ?_)
  refine lv_aload_n hx hb dX1_takeBack_7 rfl (lv_at hl 0 rfl) ?_
  refine lv_dup hx hb dX1_takeBack_8 rfl ?_
  refine va_get (D := E.1) (ci := 0) (v := .int (nI z)) (C := RX1) (T := TX1) (N := 3) hx hb hts inb_X1 hown hK hP 0 rfl rfl 2 (by decide) (hts _ bw_150) (fun _ h9 => h9) rfl dX1_takeBack_9 ?_
  refine lv_iconst (v := nI 1) hx hb dX1_takeBack_12 (by decide) ?_
  refine rn_sub (a := z) (b := 1) hx hb dX1_takeBack_13 (by omega) ?_
  refine va_put (D := E.1) (ci := 0) (v := .int (nI (z - 1))) (ty := .int) (C := RX1) (T := TX1) (N := 3) hx hb hts inb_X1 tyX1 tyX1_ok nmX1 hown hK hP (hD0.con rfl) hS 0 rfl rfl 2 (by decide) (hts _ bw_150) (fun _ h9 => h9) rfl (by decide +kernel) rfl rfl (Nat.le_of_ble_eq_true rfl) dX1_takeBack_14 (fun H locs hP _ hS => ?_)
  have hP : va_P E.1 vwCl [(y, .inr (0, [.ref q, .int (nI o), .int (nI (z - 1))])), (q, .inr (3, [.ref w])), (w, .inl (E.2.1, 1758, .inl h)), (r, .inr (2, [.ref rc])), (rc, .inl (E.2.1, 293, .inl f))] H := hP
  refine lv_aload_n hx hb dX1_takeBack_17 rfl (lv_at hl 0 rfl) ?_
  refine va_get (D := E.1) (ci := 0) (v := .ref q) (C := RX1) (T := TX1) (N := 3) hx hb hts inb_X1 hown hK hP 0 rfl rfl 0 (by decide) (hts _ bw_148) (fun _ h9 => h9) rfl dX1_takeBack_18 ?_
  refine lv_aload_n hx hb dX1_takeBack_21 rfl (lv_at hl 0 rfl) ?_
  refine va_get (D := E.1) (ci := 0) (v := .int (nI o)) (C := RX1) (T := TX1) (N := 3) hx hb hts inb_X1 hown hK hP 0 rfl rfl 1 (by decide) (hts _ bw_149) (fun _ h9 => h9) rfl dX1_takeBack_22 ?_
  refine lv_aload_n hx hb dX1_takeBack_25 rfl (lv_at hl 0 rfl) ?_
  refine va_get (D := E.1) (ci := 0) (v := .int (nI (z - 1))) (C := RX1) (T := TX1) (N := 3) hx hb hts inb_X1 hown hK hP 0 rfl rfl 2 (by decide) (hts _ bw_150) (fun _ h9 => h9) rfl dX1_takeBack_26 ?_
  refine rn_add (a := o) (b := z - 1) hx hb dX1_takeBack_29 ?_
  refine lv_bipush (v := nI 6) hx hb dX1_takeBack_30 (by decide) ?_
  refine rn_rem (a := o + (z - 1)) (b := 6) hx hb dX1_takeBack_32 (by omega) (by omega) (by omega) ?_
  refine lv_aload_n hx hb dX1_takeBack_33 rfl (lv_at hl 1 rfl) ?_
  refine rwVv (rest := []) S (c_X4_give l E q r rc w 1758 f h ((o + (z - 1)) % 6) (by omega) (by omega)) cd_X4_give bw_683 ⟨Nat.le_of_ble_eq_true rfl, Nat.le_of_ble_eq_true rfl⟩ ⟨Nat.zero_le _, Nat.zero_le _⟩ hP (hD0.con rfl) hE hA hS [1, 2, 3, 4] rfl rfl rfl (ci := 3) rfl (q0 := 0) rfl rfl rfl (Nat.le_of_ble_eq_true rfl) hl.1 dX1_takeBack_34 (fun H locs hP _ hS => ?_)
  have hP : va_P E.1 vwCl [(y, .inr (0, [.ref q, .int (nI o), .int (nI (z - 1))])), (q, .inr (3, [.ref w])), (w, .inl (E.2.1, 1758, .inl h)), (r, .inr (2, [.ref rc])), (rc, .inl (E.2.1, 293, .inl (va_cpy h f (((o + (z - 1)) % 6) * 293) 0 293)))] H := hP
  exact hret _ _ _ _ _ rfl hP hS dX1_takeBack_37
end
section
/-! what can be told of a reel -/
theorem cd_X5_printsWith : cdS yX5_printsWith cX5_printsWith 6 (some .int) 5 := ⟨⟨bw_351, bw_67, by decide, by decide, by decide +kernel⟩, bw_350⟩
def cPr (f : Nat → Int32) (p : Nat) (co : Nat) (li : Int32) (tr : Int32) : Int32 := bd (nI 25 + li + tr - (f (4 + co) * f 3 / nI 100) - (f (13 + 14 * p + (2 + co))))
set_option maxHeartbeats 4000000 in
set_option maxRecDepth 100000 in
theorem c_X5_printsWith (l : Launch) (E : EV) (r : Nat) (rc : Nat) (f : Nat → Int32) (p : Nat) (co : Nat) (li : Int32) (tr : Int32) (hp : p < 20) (hco : co < 3) : rcI l E yX5_printsWith cX5_printsWith 6 .int 1 [.ref r, .int (nI p), .int (nI co), .int li, .int tr] [(r, .inr (2, [.ref rc])), (rc, .inl (E.2.1, 293, .inl f))] (cPr f p co li tr) [(r, .inr (2, [.ref rc])), (rc, .inl (E.2.1, 293, .inl f))] := by
  refine rcI_of (by decide) (Nat.le_of_ble_eq_true rfl) ?_
  intro pg e s m below meth c Q A ls S hP hD0 hE hA hl hret
  have hx := S.1
  have hb := S.2.1
  have hown := S.2.2.2.1
  have hts := S.2.2.2.2
  have hK := hE.1
  have hS : va_S A s.heap s.heap [] := va_S.rf
  have hl : lv_has ls 6 [(0, .ref r), (1, .int (nI p)), (2, .int (nI co)), (3, .int li), (4, .int tr)] := hl
  refine lv_aload_n hx hb dX5_printsWith_0 rfl (lv_at hl 0 rfl) ?_
  refine lv_iload_n hx hb dX5_printsWith_1 rfl (lv_at hl 1 rfl) ?_
  refine lv_iconst (v := nI 2) hx hb dX5_printsWith_2 (by decide) ?_
  refine lv_iload_n hx hb dX5_printsWith_3 rfl (lv_at hl 2 rfl) ?_
  refine rn_add (a := 2) (b := co) hx hb dX5_printsWith_4 ?_
  refine rwV (rest := []) S (c_X3_readShot l E r rc f p (2 + co) (by omega) (by omega)) cd_X3_readShot bw_342 ⟨Nat.le_of_ble_eq_true rfl, Nat.le_of_ble_eq_true rfl⟩ ⟨Nat.zero_le _, Nat.zero_le _⟩ hP (hD0.con rfl) hE hA hS [0, 1] rfl rfl rfl (ci := 2) rfl (q0 := 0) rfl rfl rfl (Nat.le_of_ble_eq_true rfl) hl.1 dX5_printsWith_5 (fun H locs hP _ hS => ?_)
  have hP : va_P E.1 vwCl [(r, .inr (2, [.ref rc])), (rc, .inl (E.2.1, 293, .inl f))] H := hP
  refine lv_istore (lv' := [(5, .int (f (13 + 14 * p + (2 + co)))), (0, .ref r), (1, .int (nI p)), (2, .int (nI co)), (3, .int li), (4, .int tr)]) hx hb dX5_printsWith_8 hl (by decide) rfl (fun ls hl => ?_)
  refine lv_bipush (v := nI 25) hx hb dX5_printsWith_10 (by decide) ?_
  refine lv_iload_n hx hb dX5_printsWith_12 rfl (lv_at hl 4 rfl) ?_
  refine lv_iadd hx hb dX5_printsWith_13 ?_
  refine lv_iload hx hb dX5_printsWith_14 (lv_at hl 5 rfl) ?_
  refine lv_iadd hx hb dX5_printsWith_16 ?_
  refine lv_aload_n hx hb dX5_printsWith_17 rfl (lv_at hl 1 rfl) ?_
  refine lv_iload_n hx hb dX5_printsWith_18 rfl (lv_at hl 3 rfl) ?_
  refine rwV (rest := [.int (nI 25 + li + tr)]) S (c_X3_lampLoss l E r rc f co (by omega)) cd_X3_lampLoss bw_352 ⟨Nat.le_of_ble_eq_true rfl, Nat.le_of_ble_eq_true rfl⟩ ⟨Nat.zero_le _, Nat.zero_le _⟩ hP (hD0.con rfl) hE hA hS [0, 1] rfl rfl rfl (ci := 2) rfl (q0 := 0) rfl rfl rfl (Nat.le_of_ble_eq_true rfl) hl.1 dX5_printsWith_19 (fun H locs hP _ hS => ?_)
  have hP : va_P E.1 vwCl [(r, .inr (2, [.ref rc])), (rc, .inl (E.2.1, 293, .inl f))] H := hP
  refine lv_isub hx hb dX5_printsWith_22 ?_
  refine lv_iload hx hb dX5_printsWith_23 (lv_at hl 0 rfl) ?_
  refine lv_isub hx hb dX5_printsWith_25 ?_
  refine rwN (rest := []) S (c_X7_bounded l E (nI 25 + li + tr - (f (4 + co) * f 3 / nI 100) - (f (13 + 14 * p + (2 + co))))) cd_X7_bounded hE.2.1.2.2.2.1 ⟨Nat.le_of_ble_eq_true rfl, Nat.le_of_ble_eq_true rfl⟩ ⟨Nat.zero_le _, Nat.zero_le _⟩ hP (hD0.con rfl) hE hA hS [] rfl rfl rfl rfl rfl (Nat.le_of_ble_eq_true rfl) hl.1 dX5_printsWith_26 (fun H locs hP _ hS => ?_)
  have hP : va_P E.1 vwCl [(r, .inr (2, [.ref rc])), (rc, .inl (E.2.1, 293, .inl f))] H := hP
  exact hret _ _ _ _ _ _ (by rw [cPr]) rfl rfl hP hS dX5_printsWith_29

theorem cd_X5_printsNow : cdS yX5_printsNow cX5_printsNow 4 (some .int) 3 := ⟨⟨bw_427, bw_67, by decide, by decide, by decide +kernel⟩, bw_426⟩
def cPn (f : Nat → Int32) (p : Nat) (co : Nat) : Int32 := cPr f p co (f (13 + 14 * p + (8 + co))) (f (7 + co))
set_option maxHeartbeats 4000000 in
set_option maxRecDepth 100000 in
theorem c_X5_printsNow (l : Launch) (E : EV) (r : Nat) (rc : Nat) (f : Nat → Int32) (p : Nat) (co : Nat) (hp : p < 20) (hco : co < 3) : rcI l E yX5_printsNow cX5_printsNow 4 .int 2 [.ref r, .int (nI p), .int (nI co)] [(r, .inr (2, [.ref rc])), (rc, .inl (E.2.1, 293, .inl f))] (cPn f p co) [(r, .inr (2, [.ref rc])), (rc, .inl (E.2.1, 293, .inl f))] := by
  refine rcI_of (by decide) (Nat.le_of_ble_eq_true rfl) ?_
  intro pg e s m below meth c Q A ls S hP hD0 hE hA hl hret
  have hx := S.1
  have hb := S.2.1
  have hown := S.2.2.2.1
  have hts := S.2.2.2.2
  have hK := hE.1
  have hS : va_S A s.heap s.heap [] := va_S.rf
  have hl : lv_has ls 4 [(0, .ref r), (1, .int (nI p)), (2, .int (nI co))] := hl
  refine lv_aload_n hx hb dX5_printsNow_0 rfl (lv_at hl 0 rfl) ?_
  refine lv_iload_n hx hb dX5_printsNow_1 rfl (lv_at hl 1 rfl) ?_
  refine lv_bipush (v := nI 8) hx hb dX5_printsNow_2 (by decide) ?_
  refine lv_iload_n hx hb dX5_printsNow_4 rfl (lv_at hl 2 rfl) ?_
  refine rn_add (a := 8) (b := co) hx hb dX5_printsNow_5 ?_
  refine rwV (rest := []) S (c_X3_readShot l E r rc f p (8 + co) (by omega) (by omega)) cd_X3_readShot bw_342 ⟨Nat.le_of_ble_eq_true rfl, Nat.le_of_ble_eq_true rfl⟩ ⟨Nat.zero_le _, Nat.zero_le _⟩ hP (hD0.con rfl) hE hA hS [0, 1] rfl rfl rfl (ci := 2) rfl (q0 := 0) rfl rfl rfl (Nat.le_of_ble_eq_true rfl) hl.1 dX5_printsNow_6 (fun H locs hP _ hS => ?_)
  have hP : va_P E.1 vwCl [(r, .inr (2, [.ref rc])), (rc, .inl (E.2.1, 293, .inl f))] H := hP
  refine lv_istore_n (lv' := [(3, .int (f (13 + 14 * p + (8 + co)))), (0, .ref r), (1, .int (nI p)), (2, .int (nI co))]) hx hb dX5_printsNow_9 rfl hl (by decide) rfl (fun ls hl => ?_)
  refine lv_aload_n hx hb dX5_printsNow_10 rfl (lv_at hl 1 rfl) ?_
  refine lv_iload_n hx hb dX5_printsNow_11 rfl (lv_at hl 2 rfl) ?_
  refine lv_iload_n hx hb dX5_printsNow_12 rfl (lv_at hl 3 rfl) ?_
  refine lv_iload_n hx hb dX5_printsNow_13 rfl (lv_at hl 0 rfl) ?_
  refine lv_aload_n hx hb dX5_printsNow_14 rfl (lv_at hl 1 rfl) ?_
  refine lv_bipush (v := nI 7) hx hb dX5_printsNow_15 (by decide) ?_
  refine lv_iload_n hx hb dX5_printsNow_17 rfl (lv_at hl 3 rfl) ?_
  refine rn_add (a := 7) (b := co) hx hb dX5_printsNow_18 ?_
  refine rwV (rest := [.int (f (13 + 14 * p + (8 + co))), .int (nI co), .int (nI p), .ref r]) S (c_X3_read l E r rc f (7 + co) (by omega)) cd_X3_read bw_367 ⟨Nat.le_of_ble_eq_true rfl, Nat.le_of_ble_eq_true rfl⟩ ⟨Nat.zero_le _, Nat.zero_le _⟩ hP (hD0.con rfl) hE hA hS [0, 1] rfl rfl rfl (ci := 2) rfl (q0 := 0) rfl rfl rfl (Nat.le_of_ble_eq_true rfl) hl.1 dX5_printsNow_19 (fun H locs hP _ hS => ?_)
  have hP : va_P E.1 vwCl [(r, .inr (2, [.ref rc])), (rc, .inl (E.2.1, 293, .inl f))] H := hP
  refine rwS (rest := []) S (c_X5_printsWith l E r rc f p co (f (13 + 14 * p + (8 + co))) (f (7 + co)) (by omega) (by omega)) cd_X5_printsWith bw_349 ⟨Nat.le_of_ble_eq_true rfl, Nat.le_of_ble_eq_true rfl⟩ ⟨Nat.zero_le _, Nat.zero_le _⟩ hP (hD0.con rfl) hE hA hS [0, 1] rfl rfl rfl rfl rfl (Nat.le_of_ble_eq_true rfl) hl.1 dX5_printsNow_22 (fun H locs hP _ hS => ?_)
  have hP : va_P E.1 vwCl [(r, .inr (2, [.ref rc])), (rc, .inl (E.2.1, 293, .inl f))] H := hP
  exact hret _ _ _ _ _ _ (by rw [cPn]) rfl rfl hP hS dX5_printsNow_25

theorem cd_X5_offWith : cdS yX5_offWith cX5_offWith 6 (some .int) 4 := ⟨⟨bw_348, bw_67, by decide, by decide, by decide +kernel⟩, bw_347⟩
def cOf (f : Nat → Int32) (p : Nat) (co : Nat) (tr : Int32) : Int32 := cPr f p co (f (13 + 14 * p + (8 + co))) tr - (nI 25) - (f (13 + 14 * p + (5 + co)))
set_option maxHeartbeats 4000000 in
set_option maxRecDepth 100000 in
theorem c_X5_offWith (l : Launch) (E : EV) (r : Nat) (rc : Nat) (f : Nat → Int32) (p : Nat) (co : Nat) (tr : Int32) (hp : p < 20) (hco : co < 3) : rcI l E yX5_offWith cX5_offWith 6 .int 2 [.ref r, .int (nI p), .int (nI co), .int tr] [(r, .inr (2, [.ref rc])), (rc, .inl (E.2.1, 293, .inl f))] (cOf f p co tr) [(r, .inr (2, [.ref rc])), (rc, .inl (E.2.1, 293, .inl f))] := by
  refine rcI_of (by decide) (Nat.le_of_ble_eq_true rfl) ?_
  intro pg e s m below meth c Q A ls S hP hD0 hE hA hl hret
  have hx := S.1
  have hb := S.2.1
  have hown := S.2.2.2.1
  have hts := S.2.2.2.2
  have hK := hE.1
  have hS : va_S A s.heap s.heap [] := va_S.rf
  have hl : lv_has ls 6 [(0, .ref r), (1, .int (nI p)), (2, .int (nI co)), (3, .int tr)] := hl
  refine lv_aload_n hx hb dX5_offWith_0 rfl (lv_at hl 0 rfl) ?_
  refine lv_iload_n hx hb dX5_offWith_1 rfl (lv_at hl 1 rfl) ?_
  refine lv_bipush (v := nI 8) hx hb dX5_offWith_2 (by decide) ?_
  refine lv_iload_n hx hb dX5_offWith_4 rfl (lv_at hl 2 rfl) ?_
  refine rn_add (a := 8) (b := co) hx hb dX5_offWith_5 ?_
  refine rwV (rest := []) S (c_X3_readShot l E r rc f p (8 + co) (by omega) (by omega)) cd_X3_readShot bw_342 ⟨Nat.le_of_ble_eq_true rfl, Nat.le_of_ble_eq_true rfl⟩ ⟨Nat.zero_le _, Nat.zero_le _⟩ hP (hD0.con rfl) hE hA hS [0, 1] rfl rfl rfl (ci := 2) rfl (q0 := 0) rfl rfl rfl (Nat.le_of_ble_eq_true rfl) hl.1 dX5_offWith_6 (fun H locs hP _ hS => ?_)
  have hP : va_P E.1 vwCl [(r, .inr (2, [.ref rc])), (rc, .inl (E.2.1, 293, .inl f))] H := hP
  refine lv_istore (lv' := [(4, .int (f (13 + 14 * p + (8 + co)))), (0, .ref r), (1, .int (nI p)), (2, .int (nI co)), (3, .int tr)]) hx hb dX5_offWith_9 hl (by decide) rfl (fun ls hl => ?_)
  refine lv_aload_n hx hb dX5_offWith_11 rfl (lv_at hl 1 rfl) ?_
  refine lv_iload_n hx hb dX5_offWith_12 rfl (lv_at hl 2 rfl) ?_
  refine lv_iconst (v := nI 5) hx hb dX5_offWith_13 (by decide) ?_
  refine lv_iload_n hx hb dX5_offWith_14 rfl (lv_at hl 3 rfl) ?_
  refine rn_add (a := 5) (b := co) hx hb dX5_offWith_15 ?_
  refine rwV (rest := []) S (c_X3_readShot l E r rc f p (5 + co) (by omega) (by omega)) cd_X3_readShot bw_342 ⟨Nat.le_of_ble_eq_true rfl, Nat.le_of_ble_eq_true rfl⟩ ⟨Nat.zero_le _, Nat.zero_le _⟩ hP (hD0.con rfl) hE hA hS [0, 1] rfl rfl rfl (ci := 2) rfl (q0 := 0) rfl rfl rfl (Nat.le_of_ble_eq_true rfl) hl.1 dX5_offWith_16 (fun H locs hP _ hS => ?_)
  have hP : va_P E.1 vwCl [(r, .inr (2, [.ref rc])), (rc, .inl (E.2.1, 293, .inl f))] H := hP
  refine lv_istore (lv' := [(5, .int (f (13 + 14 * p + (5 + co)))), (4, .int (f (13 + 14 * p + (8 + co)))), (0, .ref r), (1, .int (nI p)), (2, .int (nI co)), (3, .int tr)]) hx hb dX5_offWith_19 hl (by decide) rfl (fun ls hl => ?_)
  refine lv_aload_n hx hb dX5_offWith_21 rfl (lv_at hl 2 rfl) ?_
  refine lv_iload_n hx hb dX5_offWith_22 rfl (lv_at hl 3 rfl) ?_
  refine lv_iload_n hx hb dX5_offWith_23 rfl (lv_at hl 4 rfl) ?_
  refine lv_iload hx hb dX5_offWith_24 (lv_at hl 1 rfl) ?_
  refine lv_iload_n hx hb dX5_offWith_26 rfl (lv_at hl 5 rfl) ?_
  refine rwS (rest := []) S (c_X5_printsWith l E r rc f p co (f (13 + 14 * p + (8 + co))) tr (by omega) (by omega)) cd_X5_printsWith bw_349 ⟨Nat.le_of_ble_eq_true rfl, Nat.le_of_ble_eq_true rfl⟩ ⟨Nat.zero_le _, Nat.zero_le _⟩ hP (hD0.con rfl) hE hA hS [0, 1] rfl rfl rfl rfl rfl (Nat.le_of_ble_eq_true rfl) hl.1 dX5_offWith_27 (fun H locs hP _ hS => ?_)
  have hP : va_P E.1 vwCl [(r, .inr (2, [.ref rc])), (rc, .inl (E.2.1, 293, .inl f))] H := hP
  refine lv_bipush (v := nI 25) hx hb dX5_offWith_30 (by decide) ?_
  refine lv_isub hx hb dX5_offWith_32 ?_
  refine lv_iload hx hb dX5_offWith_33 (lv_at hl 0 rfl) ?_
  refine lv_isub hx hb dX5_offWith_35 ?_
  exact hret _ _ _ _ _ _ (by rw [cOf]) rfl rfl hP hS dX5_offWith_36

theorem cd_X5_offNow : cdS yX5_offNow cX5_offNow 3 (some .int) 3 := ⟨⟨bw_436, bw_67, by decide, by decide, by decide +kernel⟩, bw_435⟩
def cOn (f : Nat → Int32) (p : Nat) (co : Nat) : Int32 := cOf f p co (f (7 + co))
set_option maxHeartbeats 4000000 in
set_option maxRecDepth 100000 in
theorem c_X5_offNow (l : Launch) (E : EV) (r : Nat) (rc : Nat) (f : Nat → Int32) (p : Nat) (co : Nat) (hp : p < 20) (hco : co < 3) : rcI l E yX5_offNow cX5_offNow 3 .int 3 [.ref r, .int (nI p), .int (nI co)] [(r, .inr (2, [.ref rc])), (rc, .inl (E.2.1, 293, .inl f))] (cOn f p co) [(r, .inr (2, [.ref rc])), (rc, .inl (E.2.1, 293, .inl f))] := by
  refine rcI_of (by decide) (Nat.le_of_ble_eq_true rfl) ?_
  intro pg e s m below meth c Q A ls S hP hD0 hE hA hl hret
  have hx := S.1
  have hb := S.2.1
  have hown := S.2.2.2.1
  have hts := S.2.2.2.2
  have hK := hE.1
  have hS : va_S A s.heap s.heap [] := va_S.rf
  have hl : lv_has ls 3 [(0, .ref r), (1, .int (nI p)), (2, .int (nI co))] := hl
  refine lv_aload_n hx hb dX5_offNow_0 rfl (lv_at hl 0 rfl) ?_
  refine lv_iload_n hx hb dX5_offNow_1 rfl (lv_at hl 1 rfl) ?_
  refine lv_iload_n hx hb dX5_offNow_2 rfl (lv_at hl 2 rfl) ?_
  refine lv_aload_n hx hb dX5_offNow_3 rfl (lv_at hl 0 rfl) ?_
  refine lv_bipush (v := nI 7) hx hb dX5_offNow_4 (by decide) ?_
  refine lv_iload_n hx hb dX5_offNow_6 rfl (lv_at hl 2 rfl) ?_
  refine rn_add (a := 7) (b := co) hx hb dX5_offNow_7 ?_
  refine rwV (rest := [.int (nI co), .int (nI p), .ref r]) S (c_X3_read l E r rc f (7 + co) (by omega)) cd_X3_read bw_367 ⟨Nat.le_of_ble_eq_true rfl, Nat.le_of_ble_eq_true rfl⟩ ⟨Nat.zero_le _, Nat.zero_le _⟩ hP (hD0.con rfl) hE hA hS [0, 1] rfl rfl rfl (ci := 2) rfl (q0 := 0) rfl rfl rfl (Nat.le_of_ble_eq_true rfl) hl.1 dX5_offNow_8 (fun H locs hP _ hS => ?_)
  have hP : va_P E.1 vwCl [(r, .inr (2, [.ref rc])), (rc, .inl (E.2.1, 293, .inl f))] H := hP
  refine rwS (rest := []) S (c_X5_offWith l E r rc f p co (f (7 + co)) (by omega) (by omega)) cd_X5_offWith bw_437 ⟨Nat.le_of_ble_eq_true rfl, Nat.le_of_ble_eq_true rfl⟩ ⟨Nat.zero_le _, Nat.zero_le _⟩ hP (hD0.con rfl) hE hA hS [0, 1] rfl rfl rfl rfl rfl (Nat.le_of_ble_eq_true rfl) hl.1 dX5_offNow_11 (fun H locs hP _ hS => ?_)
  have hP : va_P E.1 vwCl [(r, .inr (2, [.ref rc])), (rc, .inl (E.2.1, 293, .inl f))] H := hP
  exact hret _ _ _ _ _ _ (by rw [cOn]) rfl rfl hP hS dX5_offNow_14

def cFt (f : Nat → Int32) : Nat → Int32
  | 0 => nI 0
  | k + 1 => cFt f k + f (13 + 14 * k + 0)
theorem cd_X5_feetBefore : cdS yX5_feetBefore cX5_feetBefore 4 (some .int) 2 := ⟨⟨bw_341, bw_67, by decide, by decide, by decide +kernel⟩, bw_340⟩
set_option maxHeartbeats 4000000 in
set_option maxRecDepth 100000 in
theorem c_X5_feetBefore (l : Launch) (E : EV) (r : Nat) (rc : Nat) (f : Nat → Int32) (p : Nat) (hp : p ≤ 20) : rcI l E yX5_feetBefore cX5_feetBefore 4 .int 1 [.ref r, .int (nI p)] [(r, .inr (2, [.ref rc])), (rc, .inl (E.2.1, 293, .inl f))] (cFt f p) [(r, .inr (2, [.ref rc])), (rc, .inl (E.2.1, 293, .inl f))] := by
  refine rcI_of (by decide) (Nat.le_of_ble_eq_true rfl) ?_
  intro pg e s m below meth c Q A ls S hP hD0 hE hA hl hret
  have hx := S.1
  have hb := S.2.1
  have hown := S.2.2.2.1
  have hts := S.2.2.2.2
  have hK := hE.1
  have hS : va_S A s.heap s.heap [] := va_S.rf
  have hl : lv_has ls 4 [(0, .ref r), (1, .int (nI p))] := hl
  refine lv_iconst (v := nI 0) hx hb dX5_feetBefore_0 (by decide) ?_
  refine lv_istore_n (lv' := [(2, .int (nI 0)), (0, .ref r), (1, .int (nI p))]) hx hb dX5_feetBefore_1 rfl hl (by decide) rfl (fun ls hl => ?_)
  refine lv_iconst (v := nI 0) hx hb dX5_feetBefore_2 (by decide) ?_
  refine lv_istore_n (lv' := [(3, .int (nI 0)), (2, .int (nI 0)), (0, .ref r), (1, .int (nI p))]) hx hb dX5_feetBefore_3 rfl hl (by decide) rfl (fun ls hl => ?_)
  have loop4 : ∀ (fuel : Nat) (k : Nat), p - k < fuel → k ≤ p → ∀ (H : Heap) (locs : List Loc), va_P E.1 vwCl [(r, .inr (2, [.ref rc])), (rc, .inl (E.2.1, 293, .inl f))] H → va_S A s.heap H locs → ∀ ls : Array Slot, lv_has ls 4 [(3, .int (nI k)), (2, .int (cFt f k)), (0, .ref r), (1, .int (nI p))] → W pg l e (rq 1) s m ([.ref r, .int (nI p)] : List Value).toArray below meth c H locs 0 0 Q (F0 m 4 ls []) := by
    intro fuel
    induction fuel with
    | zero => intro k h9; exact absurd h9 (Nat.not_lt_zero _)
    | succ fuel ih4 =>
      intro k hfu4 hk H locs hP hS ls hl
      refine lv_iload_n hx hb dX5_feetBefore_4 rfl (lv_at hl 0 rfl) ?_
      refine lv_iload_n hx hb dX5_feetBefore_5 rfl (lv_at hl 3 rfl) ?_
      refine rn_icmp_ge (a := k) (b := p) (tgt := 30) hx hb (by omega) (by omega) dX5_feetBefore_6 (by decide) (fun c_1 => ?_) (fun c_1 => ?_)
      · have hex : p = k := by omega
        subst hex
        refine lv_iload_n hx hb dX5_feetBefore_30 rfl (lv_at hl 1 rfl) ?_
        exact hret _ _ _ _ _ _ rfl rfl rfl hP hS dX5_feetBefore_31
      · refine lv_iload_n hx hb dX5_feetBefore_9 rfl (lv_at hl 0 rfl) ?_
        refine lv_bipush (v := nI 20) hx hb dX5_feetBefore_10 (by decide) ?_
        refine rn_icmp_ge (a := k) (b := 20) (tgt := 30) hx hb (by omega) (by omega) dX5_feetBefore_12 (by decide) (fun c_2 => absurd c_2 (by omega)) (fun c_2 => ?_)
        refine lv_iload_n hx hb dX5_feetBefore_15 rfl (lv_at hl 1 rfl) ?_
        refine lv_aload_n hx hb dX5_feetBefore_16 rfl (lv_at hl 2 rfl) ?_
        refine lv_iload_n hx hb dX5_feetBefore_17 rfl (lv_at hl 0 rfl) ?_
        refine lv_iconst (v := nI 0) hx hb dX5_feetBefore_18 (by decide) ?_
        refine rwV (rest := [.int (cFt f k)]) S (c_X3_readShot l E r rc f k 0 (by omega) (by omega)) cd_X3_readShot bw_342 ⟨Nat.le_of_ble_eq_true rfl, Nat.le_of_ble_eq_true rfl⟩ ⟨Nat.zero_le _, Nat.zero_le _⟩ hP (hD0.con rfl) hE hA hS [0, 1] rfl rfl rfl (ci := 2) rfl (q0 := 0) rfl rfl rfl (Nat.le_of_ble_eq_true rfl) hl.1 dX5_feetBefore_19 (fun H locs hP _ hS => ?_)
        have hP : va_P E.1 vwCl [(r, .inr (2, [.ref rc])), (rc, .inl (E.2.1, 293, .inl f))] H := hP
        refine lv_iadd hx hb dX5_feetBefore_22 ?_
        refine lv_istore_n (lv' := [(2, .int (cFt f k + (f (13 + 14 * k + 0)))), (3, .int (nI k)), (0, .ref r), (1, .int (nI p))]) hx hb dX5_feetBefore_23 rfl hl (by decide) rfl (fun ls hl => ?_)
        refine rn_inc (a := k) (d := 1) (lv' := [(3, .int (nI (k + 1))), (2, .int (cFt f k + (f (13 + 14 * k + 0)))), (0, .ref r), (1, .int (nI p))]) hx hb dX5_feetBefore_24 hl (k := 1) rfl (by decide) (by decide) rfl (fun ls hl => ?_)
        refine lv_goto (tgt := 4) hx hb dX5_feetBefore_27 (by decide) ?_
        have hl : lv_has ls 4 [(3, .int (nI (k + 1))), (2, .int (cFt f (k + 1))), (0, .ref r), (1, .int (nI p))] := lv_sub hl [0, 1, 2, 3] rfl
        exact ih4 (k + 1) (by omega) (by omega) _ _ hP hS _ hl
  have hl : lv_has ls 4 [(3, .int (nI 0)), (2, .int (cFt f 0)), (0, .ref r), (1, .int (nI p))] := lv_sub hl [0, 1, 2, 3] rfl
  exact loop4 _ 0 (Nat.lt_succ_self _) (by omega) _ _ hP hS _ hl

theorem cd_X5_isAnswered : cdS yX5_isAnswered cX5_isAnswered 2 (some .boolean) 2 := ⟨⟨bw_366, bw_67, by decide, by decide, by decide +kernel⟩, bw_365⟩
def cAn (f : Nat → Int32) (p : Nat) : Int32 := if f (13 + 14 * p + 1) = 0 then nI 0 else nI 1
theorem cAn_z (f : Nat → Int32) (p : Nat) : narrow .boolean (.int (cAn f p)) = .int (cAn f p) := by
  unfold cAn
  repeat' split
  all_goals first | rfl | decide | exact hasS_z _ _ | exact isC_z _ | exact isP_z _ | exact isSl_z _ | exact isW_z _ _ _
set_option maxHeartbeats 4000000 in
set_option maxRecDepth 100000 in
theorem c_X5_isAnswered (l : Launch) (E : EV) (r : Nat) (rc : Nat) (f : Nat → Int32) (p : Nat) (hp : p < 20) : rcI l E yX5_isAnswered cX5_isAnswered 2 .boolean 1 [.ref r, .int (nI p)] [(r, .inr (2, [.ref rc])), (rc, .inl (E.2.1, 293, .inl f))] (cAn f p) [(r, .inr (2, [.ref rc])), (rc, .inl (E.2.1, 293, .inl f))] := by
  refine rcI_of (by decide) (Nat.le_of_ble_eq_true rfl) ?_
  intro pg e s m below meth c Q A ls S hP hD0 hE hA hl hret
  have hx := S.1
  have hb := S.2.1
  have hown := S.2.2.2.1
  have hts := S.2.2.2.2
  have hK := hE.1
  have hS : va_S A s.heap s.heap [] := va_S.rf
  have hl : lv_has ls 2 [(0, .ref r), (1, .int (nI p))] := hl
  refine lv_aload_n hx hb dX5_isAnswered_0 rfl (lv_at hl 0 rfl) ?_
  refine lv_iload_n hx hb dX5_isAnswered_1 rfl (lv_at hl 1 rfl) ?_
  refine lv_iconst (v := nI 1) hx hb dX5_isAnswered_2 (by decide) ?_
  refine rwV (rest := []) S (c_X3_readShot l E r rc f p 1 (by omega) (by omega)) cd_X3_readShot bw_342 ⟨Nat.le_of_ble_eq_true rfl, Nat.le_of_ble_eq_true rfl⟩ ⟨Nat.zero_le _, Nat.zero_le _⟩ hP (hD0.con rfl) hE hA hS [0, 1] rfl rfl rfl (ci := 2) rfl (q0 := 0) rfl rfl rfl (Nat.le_of_ble_eq_true rfl) hl.1 dX5_isAnswered_3 (fun H locs hP _ hS => ?_)
  have hP : va_P E.1 vwCl [(r, .inr (2, [.ref rc])), (rc, .inl (E.2.1, 293, .inl f))] H := hP
  refine lv_if_eq (tgt := 13) hx hb dX5_isAnswered_6 (by decide) (fun c_1 => ?_) (fun c_1 => ?_)
  · refine lv_iconst (v := nI 0) hx hb dX5_isAnswered_13 (by decide) ?_
    exact hret _ _ _ _ _ _ (by rw [cAn, if_pos c_1]) rfl (by decide) hP hS dX5_isAnswered_14
  · refine lv_iconst (v := nI 1) hx hb dX5_isAnswered_9 (by decide) ?_
    refine lv_goto (tgt := 14) hx hb dX5_isAnswered_10 (by decide) ?_
    exact hret _ _ _ _ _ _ (by rw [cAn, if_neg c_1]) rfl (by decide) hP hS dX5_isAnswered_14

theorem cd_X5_isBad : cdS yX5_isBad cX5_isBad 4 (some .boolean) 2 := ⟨⟨bw_361, bw_67, by decide, by decide, by decide +kernel⟩, bw_360⟩
def cBa (f : Nat → Int32) (p : Nat) : Int32 := if cAn f p = 0 then nI 0 else if imax (imax (imax (nI 0) (iabs (f (13 + 14 * p + 11)))) (iabs (f (13 + 14 * p + 12)))) (iabs (f (13 + 14 * p + 13))) ≤ f 1 then nI 0 else nI 1
theorem cBa_z (f : Nat → Int32) (p : Nat) : narrow .boolean (.int (cBa f p)) = .int (cBa f p) := by
  unfold cBa
  repeat' split
  all_goals first | rfl | decide | exact cAn_z _ _ | exact hasS_z _ _ | exact isC_z _ | exact isP_z _ | exact isSl_z _ | exact isW_z _ _ _
set_option maxHeartbeats 4000000 in
set_option maxRecDepth 100000 in
theorem c_X5_isBad (l : Launch) (E : EV) (r : Nat) (rc : Nat) (f : Nat → Int32) (p : Nat) (hp : p < 20) : rcI l E yX5_isBad cX5_isBad 4 .boolean 2 [.ref r, .int (nI p)] [(r, .inr (2, [.ref rc])), (rc, .inl (E.2.1, 293, .inl f))] (cBa f p) [(r, .inr (2, [.ref rc])), (rc, .inl (E.2.1, 293, .inl f))] := by
  refine rcI_of (by decide) (Nat.le_of_ble_eq_true rfl) ?_
  intro pg e s m below meth c Q A ls S hP hD0 hE hA hl hret
  have hx := S.1
  have hb := S.2.1
  have hown := S.2.2.2.1
  have hts := S.2.2.2.2
  have hK := hE.1
  have hS : va_S A s.heap s.heap [] := va_S.rf
  have hl : lv_has ls 4 [(0, .ref r), (1, .int (nI p))] := hl
  refine lv_iconst (v := nI 0) hx hb dX5_isBad_0 (by decide) ?_
  refine lv_istore_n (lv' := [(2, .int (nI 0)), (0, .ref r), (1, .int (nI p))]) hx hb dX5_isBad_1 rfl hl (by decide) rfl (fun ls hl => ?_)
  refine lv_iconst (v := nI 0) hx hb dX5_isBad_2 (by decide) ?_
  refine lv_istore_n (lv' := [(3, .int (nI 0)), (2, .int (nI 0)), (0, .ref r), (1, .int (nI p))]) hx hb dX5_isBad_3 rfl hl (by decide) rfl (fun ls hl => ?_)
  refine lv_iload_n hx hb dX5_isBad_4 rfl (lv_at hl 0 rfl) ?_
  refine lv_iconst (v := nI 3) hx hb dX5_isBad_5 (by decide) ?_
  refine rn_icmp_ge (a := 0) (b := 3) (tgt := 32) hx hb (by omega) (by omega) dX5_isBad_6 (by decide) (fun c_1 => absurd c_1 (by omega)) (fun c_1 => ?_)
  refine lv_iload_n hx hb dX5_isBad_9 rfl (lv_at hl 1 rfl) ?_
  refine lv_aload_n hx hb dX5_isBad_10 rfl (lv_at hl 2 rfl) ?_
  refine lv_iload_n hx hb dX5_isBad_11 rfl (lv_at hl 3 rfl) ?_
  refine lv_bipush (v := nI 11) hx hb dX5_isBad_12 (by decide) ?_
  refine lv_iload_n hx hb dX5_isBad_14 rfl (lv_at hl 0 rfl) ?_
  refine rn_add (a := 11) (b := 0) hx hb dX5_isBad_15 ?_
  refine rwV (rest := [.int (nI 0)]) S (c_X3_readShot l E r rc f p 11 (by omega) (by omega)) cd_X3_readShot bw_342 ⟨Nat.le_of_ble_eq_true rfl, Nat.le_of_ble_eq_true rfl⟩ ⟨Nat.zero_le _, Nat.zero_le _⟩ hP (hD0.con rfl) hE hA hS [0, 1] rfl rfl rfl (ci := 2) rfl (q0 := 0) rfl rfl rfl (Nat.le_of_ble_eq_true rfl) hl.1 dX5_isBad_16 (fun H locs hP _ hS => ?_)
  have hP : va_P E.1 vwCl [(r, .inr (2, [.ref rc])), (rc, .inl (E.2.1, 293, .inl f))] H := hP
  refine rw_abs S hl.1 bw_362 ⟨Nat.le_of_ble_eq_true rfl, Nat.le_of_ble_eq_true rfl⟩ (Nat.le_of_ble_eq_true rfl) ⟨Nat.zero_le _, Nat.zero_le _⟩ dX5_isBad_19 ?_
  refine rw_max S hl.1 bw_363 ⟨Nat.le_of_ble_eq_true rfl, Nat.le_of_ble_eq_true rfl⟩ (Nat.le_of_ble_eq_true rfl) ⟨Nat.zero_le _, Nat.zero_le _⟩ dX5_isBad_22 ?_
  refine lv_istore_n (lv' := [(2, .int (imax (nI 0) (iabs (f (13 + 14 * p + 11))))), (3, .int (nI 0)), (0, .ref r), (1, .int (nI p))]) hx hb dX5_isBad_25 rfl hl (by decide) rfl (fun ls hl => ?_)
  refine rn_inc (a := 0) (d := 1) (lv' := [(3, .int (nI 1)), (2, .int (imax (nI 0) (iabs (f (13 + 14 * p + 11))))), (0, .ref r), (1, .int (nI p))]) hx hb dX5_isBad_26 hl (k := 1) rfl (by decide) (by decide) rfl (fun ls hl => ?_)
  refine lv_goto (tgt := 4) hx hb dX5_isBad_29 (by decide) ?_
  refine lv_iload_n hx hb dX5_isBad_4 rfl (lv_at hl 0 rfl) ?_
  refine lv_iconst (v := nI 3) hx hb dX5_isBad_5 (by decide) ?_
  refine rn_icmp_ge (a := 1) (b := 3) (tgt := 32) hx hb (by omega) (by omega) dX5_isBad_6 (by decide) (fun c_2 => absurd c_2 (by omega)) (fun c_2 => ?_)
  refine lv_iload_n hx hb dX5_isBad_9 rfl (lv_at hl 1 rfl) ?_
  refine lv_aload_n hx hb dX5_isBad_10 rfl (lv_at hl 2 rfl) ?_
  refine lv_iload_n hx hb dX5_isBad_11 rfl (lv_at hl 3 rfl) ?_
  refine lv_bipush (v := nI 11) hx hb dX5_isBad_12 (by decide) ?_
  refine lv_iload_n hx hb dX5_isBad_14 rfl (lv_at hl 0 rfl) ?_
  refine rn_add (a := 11) (b := 1) hx hb dX5_isBad_15 ?_
  refine rwV (rest := [.int (imax (nI 0) (iabs (f (13 + 14 * p + 11))))]) S (c_X3_readShot l E r rc f p 12 (by omega) (by omega)) cd_X3_readShot bw_342 ⟨Nat.le_of_ble_eq_true rfl, Nat.le_of_ble_eq_true rfl⟩ ⟨Nat.zero_le _, Nat.zero_le _⟩ hP (hD0.con rfl) hE hA hS [0, 1] rfl rfl rfl (ci := 2) rfl (q0 := 0) rfl rfl rfl (Nat.le_of_ble_eq_true rfl) hl.1 dX5_isBad_16 (fun H locs hP _ hS => ?_)
  have hP : va_P E.1 vwCl [(r, .inr (2, [.ref rc])), (rc, .inl (E.2.1, 293, .inl f))] H := hP
  refine rw_abs S hl.1 bw_362 ⟨Nat.le_of_ble_eq_true rfl, Nat.le_of_ble_eq_true rfl⟩ (Nat.le_of_ble_eq_true rfl) ⟨Nat.zero_le _, Nat.zero_le _⟩ dX5_isBad_19 ?_
  refine rw_max S hl.1 bw_363 ⟨Nat.le_of_ble_eq_true rfl, Nat.le_of_ble_eq_true rfl⟩ (Nat.le_of_ble_eq_true rfl) ⟨Nat.zero_le _, Nat.zero_le _⟩ dX5_isBad_22 ?_
  refine lv_istore_n (lv' := [(2, .int (imax (imax (nI 0) (iabs (f (13 + 14 * p + 11)))) (iabs (f (13 + 14 * p + 12))))), (3, .int (nI 1)), (0, .ref r), (1, .int (nI p))]) hx hb dX5_isBad_25 rfl hl (by decide) rfl (fun ls hl => ?_)
  refine rn_inc (a := 1) (d := 1) (lv' := [(3, .int (nI 2)), (2, .int (imax (imax (nI 0) (iabs (f (13 + 14 * p + 11)))) (iabs (f (13 + 14 * p + 12))))), (0, .ref r), (1, .int (nI p))]) hx hb dX5_isBad_26 hl (k := 1) rfl (by decide) (by decide) rfl (fun ls hl => ?_)
  refine lv_goto (tgt := 4) hx hb dX5_isBad_29 (by decide) ?_
  refine lv_iload_n hx hb dX5_isBad_4 rfl (lv_at hl 0 rfl) ?_
  refine lv_iconst (v := nI 3) hx hb dX5_isBad_5 (by decide) ?_
  refine rn_icmp_ge (a := 2) (b := 3) (tgt := 32) hx hb (by omega) (by omega) dX5_isBad_6 (by decide) (fun c_3 => absurd c_3 (by omega)) (fun c_3 => ?_)
  refine lv_iload_n hx hb dX5_isBad_9 rfl (lv_at hl 1 rfl) ?_
  refine lv_aload_n hx hb dX5_isBad_10 rfl (lv_at hl 2 rfl) ?_
  refine lv_iload_n hx hb dX5_isBad_11 rfl (lv_at hl 3 rfl) ?_
  refine lv_bipush (v := nI 11) hx hb dX5_isBad_12 (by decide) ?_
  refine lv_iload_n hx hb dX5_isBad_14 rfl (lv_at hl 0 rfl) ?_
  refine rn_add (a := 11) (b := 2) hx hb dX5_isBad_15 ?_
  refine rwV (rest := [.int (imax (imax (nI 0) (iabs (f (13 + 14 * p + 11)))) (iabs (f (13 + 14 * p + 12))))]) S (c_X3_readShot l E r rc f p 13 (by omega) (by omega)) cd_X3_readShot bw_342 ⟨Nat.le_of_ble_eq_true rfl, Nat.le_of_ble_eq_true rfl⟩ ⟨Nat.zero_le _, Nat.zero_le _⟩ hP (hD0.con rfl) hE hA hS [0, 1] rfl rfl rfl (ci := 2) rfl (q0 := 0) rfl rfl rfl (Nat.le_of_ble_eq_true rfl) hl.1 dX5_isBad_16 (fun H locs hP _ hS => ?_)
  have hP : va_P E.1 vwCl [(r, .inr (2, [.ref rc])), (rc, .inl (E.2.1, 293, .inl f))] H := hP
  refine rw_abs S hl.1 bw_362 ⟨Nat.le_of_ble_eq_true rfl, Nat.le_of_ble_eq_true rfl⟩ (Nat.le_of_ble_eq_true rfl) ⟨Nat.zero_le _, Nat.zero_le _⟩ dX5_isBad_19 ?_
  refine rw_max S hl.1 bw_363 ⟨Nat.le_of_ble_eq_true rfl, Nat.le_of_ble_eq_true rfl⟩ (Nat.le_of_ble_eq_true rfl) ⟨Nat.zero_le _, Nat.zero_le _⟩ dX5_isBad_22 ?_
  refine lv_istore_n (lv' := [(2, .int (imax (imax (imax (nI 0) (iabs (f (13 + 14 * p + 11)))) (iabs (f (13 + 14 * p + 12)))) (iabs (f (13 + 14 * p + 13))))), (3, .int (nI 2)), (0, .ref r), (1, .int (nI p))]) hx hb dX5_isBad_25 rfl hl (by decide) rfl (fun ls hl => ?_)
  refine rn_inc (a := 2) (d := 1) (lv' := [(3, .int (nI 3)), (2, .int (imax (imax (imax (nI 0) (iabs (f (13 + 14 * p + 11)))) (iabs (f (13 + 14 * p + 12)))) (iabs (f (13 + 14 * p + 13))))), (0, .ref r), (1, .int (nI p))]) hx hb dX5_isBad_26 hl (k := 1) rfl (by decide) (by decide) rfl (fun ls hl => ?_)
  refine lv_goto (tgt := 4) hx hb dX5_isBad_29 (by decide) ?_
  refine lv_iload_n hx hb dX5_isBad_4 rfl (lv_at hl 0 rfl) ?_
  refine lv_iconst (v := nI 3) hx hb dX5_isBad_5 (by decide) ?_
  refine rn_icmp_ge (a := 3) (b := 3) (tgt := 32) hx hb (by omega) (by omega) dX5_isBad_6 (by decide) (fun c_4 => ?_) (fun c_4 => absurd c_4 (by omega))
  refine lv_aload_n hx hb dX5_isBad_32 rfl (lv_at hl 2 rfl) ?_
  refine lv_iload_n hx hb dX5_isBad_33 rfl (lv_at hl 3 rfl) ?_
  refine rwS (rest := []) S (c_X5_isAnswered l E r rc f p (by omega)) cd_X5_isAnswered bw_364 ⟨Nat.le_of_ble_eq_true rfl, Nat.le_of_ble_eq_true rfl⟩ ⟨Nat.zero_le _, Nat.zero_le _⟩ hP (hD0.con rfl) hE hA hS [0, 1] rfl rfl rfl rfl rfl (Nat.le_of_ble_eq_true rfl) hl.1 dX5_isBad_34 (fun H locs hP _ hS => ?_)
  have hP : va_P E.1 vwCl [(r, .inr (2, [.ref rc])), (rc, .inl (E.2.1, 293, .inl f))] H := hP
  refine lv_if_eq (tgt := 53) hx hb dX5_isBad_37 (by decide) (fun c_5 => ?_) (fun c_5 => ?_)
  · refine lv_iconst (v := nI 0) hx hb dX5_isBad_53 (by decide) ?_
    exact hret _ _ _ _ _ _ (by rw [cBa, if_pos c_5]) rfl (by decide) hP hS dX5_isBad_54
  · refine lv_iload_n hx hb dX5_isBad_40 rfl (lv_at hl 1 rfl) ?_
    refine lv_aload_n hx hb dX5_isBad_41 rfl (lv_at hl 2 rfl) ?_
    refine lv_iconst (v := nI 1) hx hb dX5_isBad_42 (by decide) ?_
    refine rwV (rest := [.int (imax (imax (imax (nI 0) (iabs (f (13 + 14 * p + 11)))) (iabs (f (13 + 14 * p + 12)))) (iabs (f (13 + 14 * p + 13))))]) S (c_X3_read l E r rc f 1 (by omega)) cd_X3_read bw_367 ⟨Nat.le_of_ble_eq_true rfl, Nat.le_of_ble_eq_true rfl⟩ ⟨Nat.zero_le _, Nat.zero_le _⟩ hP (hD0.con rfl) hE hA hS [0, 1] rfl rfl rfl (ci := 2) rfl (q0 := 0) rfl rfl rfl (Nat.le_of_ble_eq_true rfl) hl.1 dX5_isBad_43 (fun H locs hP _ hS => ?_)
    have hP : va_P E.1 vwCl [(r, .inr (2, [.ref rc])), (rc, .inl (E.2.1, 293, .inl f))] H := hP
    refine lv_icmp_le (tgt := 53) hx hb dX5_isBad_46 (by decide) (fun c_6 => ?_) (fun c_6 => ?_)
    · refine lv_iconst (v := nI 0) hx hb dX5_isBad_53 (by decide) ?_
      exact hret _ _ _ _ _ _ (by rw [cBa, if_neg c_5, if_pos c_6]) rfl (by decide) hP hS dX5_isBad_54
    · refine lv_iconst (v := nI 1) hx hb dX5_isBad_49 (by decide) ?_
      refine lv_goto (tgt := 54) hx hb dX5_isBad_50 (by decide) ?_
      exact hret _ _ _ _ _ _ (by rw [cBa, if_neg c_5, if_neg c_6]) rfl (by decide) hP hS dX5_isBad_54

theorem cd_X5_isOff : cdS yX5_isOff cX5_isOff 5 (some .boolean) 2 := ⟨⟨bw_460, bw_67, by decide, by decide, by decide +kernel⟩, bw_459⟩
def cOo (f : Nat → Int32) (p : Nat) : Int32 := if imax (imax (imax (nI 0) (iabs (cOf f p 0 (f 7)))) (iabs (cOf f p 1 (f 8)))) (iabs (cOf f p 2 (f 9))) ≤ f 1 then nI 0 else nI 1
theorem cOo_z (f : Nat → Int32) (p : Nat) : narrow .boolean (.int (cOo f p)) = .int (cOo f p) := by
  unfold cOo
  repeat' split
  all_goals first | rfl | decide | exact cAn_z _ _ | exact cBa_z _ _ | exact hasS_z _ _ | exact isC_z _ | exact isP_z _ | exact isSl_z _ | exact isW_z _ _ _
set_option maxHeartbeats 4000000 in
set_option maxRecDepth 100000 in
theorem c_X5_isOff (l : Launch) (E : EV) (r : Nat) (rc : Nat) (f : Nat → Int32) (p : Nat) (hp : p < 20) : rcI l E yX5_isOff cX5_isOff 5 .boolean 3 [.ref r, .int (nI p)] [(r, .inr (2, [.ref rc])), (rc, .inl (E.2.1, 293, .inl f))] (cOo f p) [(r, .inr (2, [.ref rc])), (rc, .inl (E.2.1, 293, .inl f))] := by
  refine rcI_of (by decide) (Nat.le_of_ble_eq_true rfl) ?_
  intro pg e s m below meth c Q A ls S hP hD0 hE hA hl hret
  have hx := S.1
  have hb := S.2.1
  have hown := S.2.2.2.1
  have hts := S.2.2.2.2
  have hK := hE.1
  have hS : va_S A s.heap s.heap [] := va_S.rf
  have hl : lv_has ls 5 [(0, .ref r), (1, .int (nI p))] := hl
  refine lv_iconst (v := nI 0) hx hb dX5_isOff_0 (by decide) ?_
  refine lv_istore_n (lv' := [(2, .int (nI 0)), (0, .ref r), (1, .int (nI p))]) hx hb dX5_isOff_1 rfl hl (by decide) rfl (fun ls hl => ?_)
  refine lv_iconst (v := nI 0) hx hb dX5_isOff_2 (by decide) ?_
  refine lv_istore_n (lv' := [(3, .int (nI 0)), (2, .int (nI 0)), (0, .ref r), (1, .int (nI p))]) hx hb dX5_isOff_3 rfl hl (by decide) rfl (fun ls hl => ?_)
  refine lv_iload_n hx hb dX5_isOff_4 rfl (lv_at hl 0 rfl) ?_
  refine lv_iconst (v := nI 3) hx hb dX5_isOff_5 (by decide) ?_
  refine rn_icmp_ge (a := 0) (b := 3) (tgt := 41) hx hb (by omega) (by omega) dX5_isOff_6 (by decide) (fun c_1 => absurd c_1 (by omega)) (fun c_1 => ?_)
  refine lv_aload_n hx hb dX5_isOff_9 rfl (lv_at hl 2 rfl) ?_
  refine lv_bipush (v := nI 7) hx hb dX5_isOff_10 (by decide) ?_
  refine lv_iload_n hx hb dX5_isOff_12 rfl (lv_at hl 0 rfl) ?_
  refine rn_add (a := 7) (b := 0) hx hb dX5_isOff_13 ?_
  refine rwV (rest := []) S (c_X3_read l E r rc f 7 (by omega)) cd_X3_read bw_367 ⟨Nat.le_of_ble_eq_true rfl, Nat.le_of_ble_eq_true rfl⟩ ⟨Nat.zero_le _, Nat.zero_le _⟩ hP (hD0.con rfl) hE hA hS [0, 1] rfl rfl rfl (ci := 2) rfl (q0 := 0) rfl rfl rfl (Nat.le_of_ble_eq_true rfl) hl.1 dX5_isOff_14 (fun H locs hP _ hS => ?_)
  have hP : va_P E.1 vwCl [(r, .inr (2, [.ref rc])), (rc, .inl (E.2.1, 293, .inl f))] H := hP
  refine lv_istore (lv' := [(4, .int (f 7)), (3, .int (nI 0)), (2, .int (nI 0)), (0, .ref r), (1, .int (nI p))]) hx hb dX5_isOff_17 hl (by decide) rfl (fun ls hl => ?_)
  refine lv_iload_n hx hb dX5_isOff_19 rfl (lv_at hl 2 rfl) ?_
  refine lv_aload_n hx hb dX5_isOff_20 rfl (lv_at hl 3 rfl) ?_
  refine lv_iload_n hx hb dX5_isOff_21 rfl (lv_at hl 4 rfl) ?_
  refine lv_iload_n hx hb dX5_isOff_22 rfl (lv_at hl 1 rfl) ?_
  refine lv_iload hx hb dX5_isOff_23 (lv_at hl 0 rfl) ?_
  refine rwS (rest := [.int (nI 0)]) S (c_X5_offWith l E r rc f p 0 (f 7) (by omega) (by omega)) cd_X5_offWith bw_437 ⟨Nat.le_of_ble_eq_true rfl, Nat.le_of_ble_eq_true rfl⟩ ⟨Nat.zero_le _, Nat.zero_le _⟩ hP (hD0.con rfl) hE hA hS [0, 1] rfl rfl rfl rfl rfl (Nat.le_of_ble_eq_true rfl) hl.1 dX5_isOff_25 (fun H locs hP _ hS => ?_)
  have hP : va_P E.1 vwCl [(r, .inr (2, [.ref rc])), (rc, .inl (E.2.1, 293, .inl f))] H := hP
  refine rw_abs S hl.1 bw_362 ⟨Nat.le_of_ble_eq_true rfl, Nat.le_of_ble_eq_true rfl⟩ (Nat.le_of_ble_eq_true rfl) ⟨Nat.zero_le _, Nat.zero_le _⟩ dX5_isOff_28 ?_
  refine rw_max S hl.1 bw_363 ⟨Nat.le_of_ble_eq_true rfl, Nat.le_of_ble_eq_true rfl⟩ (Nat.le_of_ble_eq_true rfl) ⟨Nat.zero_le _, Nat.zero_le _⟩ dX5_isOff_31 ?_
  refine lv_istore_n (lv' := [(2, .int (imax (nI 0) (iabs (cOf f p 0 (f 7))))), (4, .int (f 7)), (3, .int (nI 0)), (0, .ref r), (1, .int (nI p))]) hx hb dX5_isOff_34 rfl hl (by decide) rfl (fun ls hl => ?_)
  refine rn_inc (a := 0) (d := 1) (lv' := [(3, .int (nI 1)), (2, .int (imax (nI 0) (iabs (cOf f p 0 (f 7))))), (4, .int (f 7)), (0, .ref r), (1, .int (nI p))]) hx hb dX5_isOff_35 hl (k := 2) rfl (by decide) (by decide) rfl (fun ls hl => ?_)
  refine lv_goto (tgt := 4) hx hb dX5_isOff_38 (by decide) ?_
  refine lv_iload_n hx hb dX5_isOff_4 rfl (lv_at hl 0 rfl) ?_
  refine lv_iconst (v := nI 3) hx hb dX5_isOff_5 (by decide) ?_
  refine rn_icmp_ge (a := 1) (b := 3) (tgt := 41) hx hb (by omega) (by omega) dX5_isOff_6 (by decide) (fun c_2 => absurd c_2 (by omega)) (fun c_2 => ?_)
  refine lv_aload_n hx hb dX5_isOff_9 rfl (lv_at hl 3 rfl) ?_
  refine lv_bipush (v := nI 7) hx hb dX5_isOff_10 (by decide) ?_
  refine lv_iload_n hx hb dX5_isOff_12 rfl (lv_at hl 0 rfl) ?_
  refine rn_add (a := 7) (b := 1) hx hb dX5_isOff_13 ?_
  refine rwV (rest := []) S (c_X3_read l E r rc f 8 (by omega)) cd_X3_read bw_367 ⟨Nat.le_of_ble_eq_true rfl, Nat.le_of_ble_eq_true rfl⟩ ⟨Nat.zero_le _, Nat.zero_le _⟩ hP (hD0.con rfl) hE hA hS [0, 1] rfl rfl rfl (ci := 2) rfl (q0 := 0) rfl rfl rfl (Nat.le_of_ble_eq_true rfl) hl.1 dX5_isOff_14 (fun H locs hP _ hS => ?_)
  have hP : va_P E.1 vwCl [(r, .inr (2, [.ref rc])), (rc, .inl (E.2.1, 293, .inl f))] H := hP
  refine lv_istore (lv' := [(4, .int (f 8)), (3, .int (nI 1)), (2, .int (imax (nI 0) (iabs (cOf f p 0 (f 7))))), (0, .ref r), (1, .int (nI p))]) hx hb dX5_isOff_17 hl (by decide) rfl (fun ls hl => ?_)
  refine lv_iload_n hx hb dX5_isOff_19 rfl (lv_at hl 2 rfl) ?_
  refine lv_aload_n hx hb dX5_isOff_20 rfl (lv_at hl 3 rfl) ?_
  refine lv_iload_n hx hb dX5_isOff_21 rfl (lv_at hl 4 rfl) ?_
  refine lv_iload_n hx hb dX5_isOff_22 rfl (lv_at hl 1 rfl) ?_
  refine lv_iload hx hb dX5_isOff_23 (lv_at hl 0 rfl) ?_
  refine rwS (rest := [.int (imax (nI 0) (iabs (cOf f p 0 (f 7))))]) S (c_X5_offWith l E r rc f p 1 (f 8) (by omega) (by omega)) cd_X5_offWith bw_437 ⟨Nat.le_of_ble_eq_true rfl, Nat.le_of_ble_eq_true rfl⟩ ⟨Nat.zero_le _, Nat.zero_le _⟩ hP (hD0.con rfl) hE hA hS [0, 1] rfl rfl rfl rfl rfl (Nat.le_of_ble_eq_true rfl) hl.1 dX5_isOff_25 (fun H locs hP _ hS => ?_)
  have hP : va_P E.1 vwCl [(r, .inr (2, [.ref rc])), (rc, .inl (E.2.1, 293, .inl f))] H := hP
  refine rw_abs S hl.1 bw_362 ⟨Nat.le_of_ble_eq_true rfl, Nat.le_of_ble_eq_true rfl⟩ (Nat.le_of_ble_eq_true rfl) ⟨Nat.zero_le _, Nat.zero_le _⟩ dX5_isOff_28 ?_
  refine rw_max S hl.1 bw_363 ⟨Nat.le_of_ble_eq_true rfl, Nat.le_of_ble_eq_true rfl⟩ (Nat.le_of_ble_eq_true rfl) ⟨Nat.zero_le _, Nat.zero_le _⟩ dX5_isOff_31 ?_
  refine lv_istore_n (lv' := [(2, .int (imax (imax (nI 0) (iabs (cOf f p 0 (f 7)))) (iabs (cOf f p 1 (f 8))))), (4, .int (f 8)), (3, .int (nI 1)), (0, .ref r), (1, .int (nI p))]) hx hb dX5_isOff_34 rfl hl (by decide) rfl (fun ls hl => ?_)
  refine rn_inc (a := 1) (d := 1) (lv' := [(3, .int (nI 2)), (2, .int (imax (imax (nI 0) (iabs (cOf f p 0 (f 7)))) (iabs (cOf f p 1 (f 8))))), (4, .int (f 8)), (0, .ref r), (1, .int (nI p))]) hx hb dX5_isOff_35 hl (k := 2) rfl (by decide) (by decide) rfl (fun ls hl => ?_)
  refine lv_goto (tgt := 4) hx hb dX5_isOff_38 (by decide) ?_
  refine lv_iload_n hx hb dX5_isOff_4 rfl (lv_at hl 0 rfl) ?_
  refine lv_iconst (v := nI 3) hx hb dX5_isOff_5 (by decide) ?_
  refine rn_icmp_ge (a := 2) (b := 3) (tgt := 41) hx hb (by omega) (by omega) dX5_isOff_6 (by decide) (fun c_3 => absurd c_3 (by omega)) (fun c_3 => ?_)
  refine lv_aload_n hx hb dX5_isOff_9 rfl (lv_at hl 3 rfl) ?_
  refine lv_bipush (v := nI 7) hx hb dX5_isOff_10 (by decide) ?_
  refine lv_iload_n hx hb dX5_isOff_12 rfl (lv_at hl 0 rfl) ?_
  refine rn_add (a := 7) (b := 2) hx hb dX5_isOff_13 ?_
  refine rwV (rest := []) S (c_X3_read l E r rc f 9 (by omega)) cd_X3_read bw_367 ⟨Nat.le_of_ble_eq_true rfl, Nat.le_of_ble_eq_true rfl⟩ ⟨Nat.zero_le _, Nat.zero_le _⟩ hP (hD0.con rfl) hE hA hS [0, 1] rfl rfl rfl (ci := 2) rfl (q0 := 0) rfl rfl rfl (Nat.le_of_ble_eq_true rfl) hl.1 dX5_isOff_14 (fun H locs hP _ hS => ?_)
  have hP : va_P E.1 vwCl [(r, .inr (2, [.ref rc])), (rc, .inl (E.2.1, 293, .inl f))] H := hP
  refine lv_istore (lv' := [(4, .int (f 9)), (3, .int (nI 2)), (2, .int (imax (imax (nI 0) (iabs (cOf f p 0 (f 7)))) (iabs (cOf f p 1 (f 8))))), (0, .ref r), (1, .int (nI p))]) hx hb dX5_isOff_17 hl (by decide) rfl (fun ls hl => ?_)
  refine lv_iload_n hx hb dX5_isOff_19 rfl (lv_at hl 2 rfl) ?_
  refine lv_aload_n hx hb dX5_isOff_20 rfl (lv_at hl 3 rfl) ?_
  refine lv_iload_n hx hb dX5_isOff_21 rfl (lv_at hl 4 rfl) ?_
  refine lv_iload_n hx hb dX5_isOff_22 rfl (lv_at hl 1 rfl) ?_
  refine lv_iload hx hb dX5_isOff_23 (lv_at hl 0 rfl) ?_
  refine rwS (rest := [.int (imax (imax (nI 0) (iabs (cOf f p 0 (f 7)))) (iabs (cOf f p 1 (f 8))))]) S (c_X5_offWith l E r rc f p 2 (f 9) (by omega) (by omega)) cd_X5_offWith bw_437 ⟨Nat.le_of_ble_eq_true rfl, Nat.le_of_ble_eq_true rfl⟩ ⟨Nat.zero_le _, Nat.zero_le _⟩ hP (hD0.con rfl) hE hA hS [0, 1] rfl rfl rfl rfl rfl (Nat.le_of_ble_eq_true rfl) hl.1 dX5_isOff_25 (fun H locs hP _ hS => ?_)
  have hP : va_P E.1 vwCl [(r, .inr (2, [.ref rc])), (rc, .inl (E.2.1, 293, .inl f))] H := hP
  refine rw_abs S hl.1 bw_362 ⟨Nat.le_of_ble_eq_true rfl, Nat.le_of_ble_eq_true rfl⟩ (Nat.le_of_ble_eq_true rfl) ⟨Nat.zero_le _, Nat.zero_le _⟩ dX5_isOff_28 ?_
  refine rw_max S hl.1 bw_363 ⟨Nat.le_of_ble_eq_true rfl, Nat.le_of_ble_eq_true rfl⟩ (Nat.le_of_ble_eq_true rfl) ⟨Nat.zero_le _, Nat.zero_le _⟩ dX5_isOff_31 ?_
  refine lv_istore_n (lv' := [(2, .int (imax (imax (imax (nI 0) (iabs (cOf f p 0 (f 7)))) (iabs (cOf f p 1 (f 8)))) (iabs (cOf f p 2 (f 9))))), (4, .int (f 9)), (3, .int (nI 2)), (0, .ref r), (1, .int (nI p))]) hx hb dX5_isOff_34 rfl hl (by decide) rfl (fun ls hl => ?_)
  refine rn_inc (a := 2) (d := 1) (lv' := [(3, .int (nI 3)), (2, .int (imax (imax (imax (nI 0) (iabs (cOf f p 0 (f 7)))) (iabs (cOf f p 1 (f 8)))) (iabs (cOf f p 2 (f 9))))), (4, .int (f 9)), (0, .ref r), (1, .int (nI p))]) hx hb dX5_isOff_35 hl (k := 2) rfl (by decide) (by decide) rfl (fun ls hl => ?_)
  refine lv_goto (tgt := 4) hx hb dX5_isOff_38 (by decide) ?_
  refine lv_iload_n hx hb dX5_isOff_4 rfl (lv_at hl 0 rfl) ?_
  refine lv_iconst (v := nI 3) hx hb dX5_isOff_5 (by decide) ?_
  refine rn_icmp_ge (a := 3) (b := 3) (tgt := 41) hx hb (by omega) (by omega) dX5_isOff_6 (by decide) (fun c_4 => ?_) (fun c_4 => absurd c_4 (by omega))
  refine lv_iload_n hx hb dX5_isOff_41 rfl (lv_at hl 1 rfl) ?_
  refine lv_aload_n hx hb dX5_isOff_42 rfl (lv_at hl 3 rfl) ?_
  refine lv_iconst (v := nI 1) hx hb dX5_isOff_43 (by decide) ?_
  refine rwV (rest := [.int (imax (imax (imax (nI 0) (iabs (cOf f p 0 (f 7)))) (iabs (cOf f p 1 (f 8)))) (iabs (cOf f p 2 (f 9))))]) S (c_X3_read l E r rc f 1 (by omega)) cd_X3_read bw_367 ⟨Nat.le_of_ble_eq_true rfl, Nat.le_of_ble_eq_true rfl⟩ ⟨Nat.zero_le _, Nat.zero_le _⟩ hP (hD0.con rfl) hE hA hS [0, 1] rfl rfl rfl (ci := 2) rfl (q0 := 0) rfl rfl rfl (Nat.le_of_ble_eq_true rfl) hl.1 dX5_isOff_44 (fun H locs hP _ hS => ?_)
  have hP : va_P E.1 vwCl [(r, .inr (2, [.ref rc])), (rc, .inl (E.2.1, 293, .inl f))] H := hP
  refine lv_icmp_le (tgt := 54) hx hb dX5_isOff_47 (by decide) (fun c_5 => ?_) (fun c_5 => ?_)
  · refine lv_iconst (v := nI 0) hx hb dX5_isOff_54 (by decide) ?_
    exact hret _ _ _ _ _ _ (by rw [cOo, if_pos c_5]) rfl (by decide) hP hS dX5_isOff_55
  · refine lv_iconst (v := nI 1) hx hb dX5_isOff_50 (by decide) ?_
    refine lv_goto (tgt := 55) hx hb dX5_isOff_51 (by decide) ?_
    exact hret _ _ _ _ _ _ (by rw [cOo, if_neg c_5]) rfl (by decide) hP hS dX5_isOff_55

theorem hasS_lt {n q : Nat} (hn : n < 2 ^ 31) (hq : q < 2 ^ 31) (h : ¬ hasS n (nI q) = 0) : q < n := by
  unfold hasS at h
  rcases Nat.lt_or_ge q n with e | e
  · exact e
  · rw [if_neg (nI_pos hq), if_pos (nI_le e hq)] at h
    exact absurd nI_0 h
theorem hasS_ne {n q : Nat} (hn : n < 2 ^ 31) (h : q < n) : ¬ hasS n (nI q) = 0 := by
  unfold hasS
  rw [if_neg (nI_pos (by omega)), if_neg (nI_ge h hn)]
  decide
theorem hasS_of {n : Nat} {x : Int32} (hn : n < 2 ^ 31) (h : ¬ hasS n x = 0) : ∃ i : Nat, i < n ∧ x = nI i := by
  unfold hasS at h
  by_cases h0 : x < 0
  · rw [if_pos h0] at h; exact absurd nI_0 h
  · obtain ⟨i, hi, rfl⟩ := nI_of h0
    refine ⟨i, ?_, rfl⟩
    rw [if_neg h0] at h
    rcases Nat.lt_or_ge i n with e | e
    · exact e
    · rw [if_pos (nI_le e hi)] at h; exact absurd nI_0 h
theorem isW_of {n : Nat} {x : Int32} (hn : n < 2 ^ 31) (h : ¬ isW x (nI 0) (nI n) = 0) : ∃ i : Nat, i < n + 1 ∧ x = nI i := by
  unfold isW at h
  by_cases h0 : x < nI 0
  · rw [if_pos h0] at h; exact absurd nI_0 h
  · rw [nI_0] at h0
    obtain ⟨i, hi, rfl⟩ := nI_of h0
    refine ⟨i, ?_, rfl⟩
    rw [nI_0, if_neg h0] at h
    rcases Nat.lt_or_ge n i with e | e
    · rw [if_pos (nI_lt e hi)] at h; exact absurd nI_0 h
    · omega
theorem isC_of {x : Int32} (h : ¬ isC x = 0) : ∃ i : Nat, i < 3 ∧ x = nI i := isW_of (n := 2) (by omega) h
theorem cd_X5_jumps : cdS yX5_jumps cX5_jumps 5 (some .boolean) 2 := ⟨⟨bw_423, bw_67, by decide, by decide, by decide +kernel⟩, bw_422⟩
def cJu (f : Nat → Int32) (n : Nat) (p : Nat) : Int32 := if hasS n (nI (p + 1)) = 0 then nI 0 else if imax (imax (imax (nI 0) (iabs (cPn f (p + 1) 0 - (cPn f p 0)))) (iabs (cPn f (p + 1) 1 - (cPn f p 1)))) (iabs (cPn f (p + 1) 2 - (cPn f p 2))) ≤ f 2 then nI 0 else nI 1
theorem cJu_z (f : Nat → Int32) (n : Nat) (p : Nat) : narrow .boolean (.int (cJu f n p)) = .int (cJu f n p) := by
  unfold cJu
  repeat' split
  all_goals first | rfl | decide | exact cAn_z _ _ | exact cBa_z _ _ | exact cOo_z _ _ | exact hasS_z _ _ | exact isC_z _ | exact isP_z _ | exact isSl_z _ | exact isW_z _ _ _
set_option maxHeartbeats 4000000 in
set_option maxRecDepth 100000 in
theorem c_X5_jumps (l : Launch) (E : EV) (r : Nat) (rc : Nat) (f : Nat → Int32) (n : Nat) (p : Nat) (hf : f 12 = nI n) (hn : n ≤ 20) (hp : p < 20) : rcI l E yX5_jumps cX5_jumps 5 .boolean 3 [.ref r, .int (nI p)] [(r, .inr (2, [.ref rc])), (rc, .inl (E.2.1, 293, .inl f))] (cJu f n p) [(r, .inr (2, [.ref rc])), (rc, .inl (E.2.1, 293, .inl f))] := by
  refine rcI_of (by decide) (Nat.le_of_ble_eq_true rfl) ?_
  intro pg e s m below meth c Q A ls S hP hD0 hE hA hl hret
  have hx := S.1
  have hb := S.2.1
  have hown := S.2.2.2.1
  have hts := S.2.2.2.2
  have hK := hE.1
  have hS : va_S A s.heap s.heap [] := va_S.rf
  have hl : lv_has ls 5 [(0, .ref r), (1, .int (nI p))] := hl
  refine lv_aload_n hx hb dX5_jumps_0 rfl (lv_at hl 0 rfl) ?_
  refine lv_iload_n hx hb dX5_jumps_1 rfl (lv_at hl 1 rfl) ?_
  refine lv_iconst (v := nI 1) hx hb dX5_jumps_2 (by decide) ?_
  refine rn_add (a := p) (b := 1) hx hb dX5_jumps_3 ?_
  refine rwV (rest := []) S (c_X3_hasShot l E r rc f n (nI (p + 1)) (by omega)) cd_X3_hasShot bw_424 ⟨Nat.le_of_ble_eq_true rfl, Nat.le_of_ble_eq_true rfl⟩ ⟨Nat.zero_le _, Nat.zero_le _⟩ hP (hD0.con rfl) hE hA hS [0, 1] rfl rfl rfl (ci := 2) rfl (q0 := 0) rfl rfl rfl (Nat.le_of_ble_eq_true rfl) hl.1 dX5_jumps_4 (fun H locs hP _ hS => ?_)
  have hP : va_P E.1 vwCl [(r, .inr (2, [.ref rc])), (rc, .inl (E.2.1, 293, .inl f))] H := hP
  refine lv_if_ne (tgt := 12) hx hb dX5_jumps_7 (by decide) (fun c_1 => ?_) (fun c_1 => ?_)
  · have hpn := hasS_lt (by omega) (by omega) c_1
    refine lv_iconst (v := nI 0) hx hb dX5_jumps_12 (by decide) ?_
    refine lv_istore_n (lv' := [(2, .int (nI 0)), (0, .ref r), (1, .int (nI p))]) hx hb dX5_jumps_13 rfl hl (by decide) rfl (fun ls hl => ?_)
    refine lv_iconst (v := nI 0) hx hb dX5_jumps_14 (by decide) ?_
    refine lv_istore_n (lv' := [(3, .int (nI 0)), (2, .int (nI 0)), (0, .ref r), (1, .int (nI p))]) hx hb dX5_jumps_15 rfl hl (by decide) rfl (fun ls hl => ?_)
    refine lv_iload_n hx hb dX5_jumps_16 rfl (lv_at hl 0 rfl) ?_
    refine lv_iconst (v := nI 3) hx hb dX5_jumps_17 (by decide) ?_
    refine rn_icmp_ge (a := 0) (b := 3) (tgt := 54) hx hb (by omega) (by omega) dX5_jumps_18 (by decide) (fun c_2 => absurd c_2 (by omega)) (fun c_2 => ?_)
    refine lv_aload_n hx hb dX5_jumps_21 rfl (lv_at hl 2 rfl) ?_
    refine lv_iload_n hx hb dX5_jumps_22 rfl (lv_at hl 3 rfl) ?_
    refine lv_iconst (v := nI 1) hx hb dX5_jumps_23 (by decide) ?_
    refine rn_add (a := p) (b := 1) hx hb dX5_jumps_24 ?_
    refine lv_iload_n hx hb dX5_jumps_25 rfl (lv_at hl 0 rfl) ?_
    refine rwS (rest := []) S (c_X5_printsNow l E r rc f (p + 1) 0 (by omega) (by omega)) cd_X5_printsNow bw_425 ⟨Nat.le_of_ble_eq_true rfl, Nat.le_of_ble_eq_true rfl⟩ ⟨Nat.zero_le _, Nat.zero_le _⟩ hP (hD0.con rfl) hE hA hS [0, 1] rfl rfl rfl rfl rfl (Nat.le_of_ble_eq_true rfl) hl.1 dX5_jumps_26 (fun H locs hP _ hS => ?_)
    have hP : va_P E.1 vwCl [(r, .inr (2, [.ref rc])), (rc, .inl (E.2.1, 293, .inl f))] H := hP
    refine lv_aload_n hx hb dX5_jumps_29 rfl (lv_at hl 2 rfl) ?_
    refine lv_iload_n hx hb dX5_jumps_30 rfl (lv_at hl 3 rfl) ?_
    refine lv_iload_n hx hb dX5_jumps_31 rfl (lv_at hl 0 rfl) ?_
    refine rwS (rest := [.int (cPn f (p + 1) 0)]) S (c_X5_printsNow l E r rc f p 0 (by omega) (by omega)) cd_X5_printsNow bw_425 ⟨Nat.le_of_ble_eq_true rfl, Nat.le_of_ble_eq_true rfl⟩ ⟨Nat.zero_le _, Nat.zero_le _⟩ hP (hD0.con rfl) hE hA hS [0, 1] rfl rfl rfl rfl rfl (Nat.le_of_ble_eq_true rfl) hl.1 dX5_jumps_32 (fun H locs hP _ hS => ?_)
    have hP : va_P E.1 vwCl [(r, .inr (2, [.ref rc])), (rc, .inl (E.2.1, 293, .inl f))] H := hP
    refine lv_isub hx hb dX5_jumps_35 ?_
    refine lv_istore (lv' := [(4, .int (cPn f (p + 1) 0 - (cPn f p 0))), (3, .int (nI 0)), (2, .int (nI 0)), (0, .ref r), (1, .int (nI p))]) hx hb dX5_jumps_36 hl (by decide) rfl (fun ls hl => ?_)
    refine lv_iload_n hx hb dX5_jumps_38 rfl (lv_at hl 2 rfl) ?_
    refine lv_iload hx hb dX5_jumps_39 (lv_at hl 0 rfl) ?_
    refine rw_abs S hl.1 bw_362 ⟨Nat.le_of_ble_eq_true rfl, Nat.le_of_ble_eq_true rfl⟩ (Nat.le_of_ble_eq_true rfl) ⟨Nat.zero_le _, Nat.zero_le _⟩ dX5_jumps_41 ?_
    refine rw_max S hl.1 bw_363 ⟨Nat.le_of_ble_eq_true rfl, Nat.le_of_ble_eq_true rfl⟩ (Nat.le_of_ble_eq_true rfl) ⟨Nat.zero_le _, Nat.zero_le _⟩ dX5_jumps_44 ?_
    refine lv_istore_n (lv' := [(2, .int (imax (nI 0) (iabs (cPn f (p + 1) 0 - (cPn f p 0))))), (4, .int (cPn f (p + 1) 0 - (cPn f p 0))), (3, .int (nI 0)), (0, .ref r), (1, .int (nI p))]) hx hb dX5_jumps_47 rfl hl (by decide) rfl (fun ls hl => ?_)
    refine rn_inc (a := 0) (d := 1) (lv' := [(3, .int (nI 1)), (2, .int (imax (nI 0) (iabs (cPn f (p + 1) 0 - (cPn f p 0))))), (4, .int (cPn f (p + 1) 0 - (cPn f p 0))), (0, .ref r), (1, .int (nI p))]) hx hb dX5_jumps_48 hl (k := 2) rfl (by decide) (by decide) rfl (fun ls hl => ?_)
    refine lv_goto (tgt := 16) hx hb dX5_jumps_51 (by decide) ?_
    refine lv_iload_n hx hb dX5_jumps_16 rfl (lv_at hl 0 rfl) ?_
    refine lv_iconst (v := nI 3) hx hb dX5_jumps_17 (by decide) ?_
    refine rn_icmp_ge (a := 1) (b := 3) (tgt := 54) hx hb (by omega) (by omega) dX5_jumps_18 (by decide) (fun c_3 => absurd c_3 (by omega)) (fun c_3 => ?_)
    refine lv_aload_n hx hb dX5_jumps_21 rfl (lv_at hl 3 rfl) ?_
    refine lv_iload_n hx hb dX5_jumps_22 rfl (lv_at hl 4 rfl) ?_
    refine lv_iconst (v := nI 1) hx hb dX5_jumps_23 (by decide) ?_
    refine rn_add (a := p) (b := 1) hx hb dX5_jumps_24 ?_
    refine lv_iload_n hx hb dX5_jumps_25 rfl (lv_at hl 0 rfl) ?_
    refine rwS (rest := []) S (c_X5_printsNow l E r rc f (p + 1) 1 (by omega) (by omega)) cd_X5_printsNow bw_425 ⟨Nat.le_of_ble_eq_true rfl, Nat.le_of_ble_eq_true rfl⟩ ⟨Nat.zero_le _, Nat.zero_le _⟩ hP (hD0.con rfl) hE hA hS [0, 1] rfl rfl rfl rfl rfl (Nat.le_of_ble_eq_true rfl) hl.1 dX5_jumps_26 (fun H locs hP _ hS => ?_)
    have hP : va_P E.1 vwCl [(r, .inr (2, [.ref rc])), (rc, .inl (E.2.1, 293, .inl f))] H := hP
    refine lv_aload_n hx hb dX5_jumps_29 rfl (lv_at hl 3 rfl) ?_
    refine lv_iload_n hx hb dX5_jumps_30 rfl (lv_at hl 4 rfl) ?_
    refine lv_iload_n hx hb dX5_jumps_31 rfl (lv_at hl 0 rfl) ?_
    refine rwS (rest := [.int (cPn f (p + 1) 1)]) S (c_X5_printsNow l E r rc f p 1 (by omega) (by omega)) cd_X5_printsNow bw_425 ⟨Nat.le_of_ble_eq_true rfl, Nat.le_of_ble_eq_true rfl⟩ ⟨Nat.zero_le _, Nat.zero_le _⟩ hP (hD0.con rfl) hE hA hS [0, 1] rfl rfl rfl rfl rfl (Nat.le_of_ble_eq_true rfl) hl.1 dX5_jumps_32 (fun H locs hP _ hS => ?_)
    have hP : va_P E.1 vwCl [(r, .inr (2, [.ref rc])), (rc, .inl (E.2.1, 293, .inl f))] H := hP
    refine lv_isub hx hb dX5_jumps_35 ?_
    refine lv_istore (lv' := [(4, .int (cPn f (p + 1) 1 - (cPn f p 1))), (3, .int (nI 1)), (2, .int (imax (nI 0) (iabs (cPn f (p + 1) 0 - (cPn f p 0))))), (0, .ref r), (1, .int (nI p))]) hx hb dX5_jumps_36 hl (by decide) rfl (fun ls hl => ?_)
    refine lv_iload_n hx hb dX5_jumps_38 rfl (lv_at hl 2 rfl) ?_
    refine lv_iload hx hb dX5_jumps_39 (lv_at hl 0 rfl) ?_
    refine rw_abs S hl.1 bw_362 ⟨Nat.le_of_ble_eq_true rfl, Nat.le_of_ble_eq_true rfl⟩ (Nat.le_of_ble_eq_true rfl) ⟨Nat.zero_le _, Nat.zero_le _⟩ dX5_jumps_41 ?_
    refine rw_max S hl.1 bw_363 ⟨Nat.le_of_ble_eq_true rfl, Nat.le_of_ble_eq_true rfl⟩ (Nat.le_of_ble_eq_true rfl) ⟨Nat.zero_le _, Nat.zero_le _⟩ dX5_jumps_44 ?_
    refine lv_istore_n (lv' := [(2, .int (imax (imax (nI 0) (iabs (cPn f (p + 1) 0 - (cPn f p 0)))) (iabs (cPn f (p + 1) 1 - (cPn f p 1))))), (4, .int (cPn f (p + 1) 1 - (cPn f p 1))), (3, .int (nI 1)), (0, .ref r), (1, .int (nI p))]) hx hb dX5_jumps_47 rfl hl (by decide) rfl (fun ls hl => ?_)
    refine rn_inc (a := 1) (d := 1) (lv' := [(3, .int (nI 2)), (2, .int (imax (imax (nI 0) (iabs (cPn f (p + 1) 0 - (cPn f p 0)))) (iabs (cPn f (p + 1) 1 - (cPn f p 1))))), (4, .int (cPn f (p + 1) 1 - (cPn f p 1))), (0, .ref r), (1, .int (nI p))]) hx hb dX5_jumps_48 hl (k := 2) rfl (by decide) (by decide) rfl (fun ls hl => ?_)
    refine lv_goto (tgt := 16) hx hb dX5_jumps_51 (by decide) ?_
    refine lv_iload_n hx hb dX5_jumps_16 rfl (lv_at hl 0 rfl) ?_
    refine lv_iconst (v := nI 3) hx hb dX5_jumps_17 (by decide) ?_
    refine rn_icmp_ge (a := 2) (b := 3) (tgt := 54) hx hb (by omega) (by omega) dX5_jumps_18 (by decide) (fun c_4 => absurd c_4 (by omega)) (fun c_4 => ?_)
    refine lv_aload_n hx hb dX5_jumps_21 rfl (lv_at hl 3 rfl) ?_
    refine lv_iload_n hx hb dX5_jumps_22 rfl (lv_at hl 4 rfl) ?_
    refine lv_iconst (v := nI 1) hx hb dX5_jumps_23 (by decide) ?_
    refine rn_add (a := p) (b := 1) hx hb dX5_jumps_24 ?_
    refine lv_iload_n hx hb dX5_jumps_25 rfl (lv_at hl 0 rfl) ?_
    refine rwS (rest := []) S (c_X5_printsNow l E r rc f (p + 1) 2 (by omega) (by omega)) cd_X5_printsNow bw_425 ⟨Nat.le_of_ble_eq_true rfl, Nat.le_of_ble_eq_true rfl⟩ ⟨Nat.zero_le _, Nat.zero_le _⟩ hP (hD0.con rfl) hE hA hS [0, 1] rfl rfl rfl rfl rfl (Nat.le_of_ble_eq_true rfl) hl.1 dX5_jumps_26 (fun H locs hP _ hS => ?_)
    have hP : va_P E.1 vwCl [(r, .inr (2, [.ref rc])), (rc, .inl (E.2.1, 293, .inl f))] H := hP
    refine lv_aload_n hx hb dX5_jumps_29 rfl (lv_at hl 3 rfl) ?_
    refine lv_iload_n hx hb dX5_jumps_30 rfl (lv_at hl 4 rfl) ?_
    refine lv_iload_n hx hb dX5_jumps_31 rfl (lv_at hl 0 rfl) ?_
    refine rwS (rest := [.int (cPn f (p + 1) 2)]) S (c_X5_printsNow l E r rc f p 2 (by omega) (by omega)) cd_X5_printsNow bw_425 ⟨Nat.le_of_ble_eq_true rfl, Nat.le_of_ble_eq_true rfl⟩ ⟨Nat.zero_le _, Nat.zero_le _⟩ hP (hD0.con rfl) hE hA hS [0, 1] rfl rfl rfl rfl rfl (Nat.le_of_ble_eq_true rfl) hl.1 dX5_jumps_32 (fun H locs hP _ hS => ?_)
    have hP : va_P E.1 vwCl [(r, .inr (2, [.ref rc])), (rc, .inl (E.2.1, 293, .inl f))] H := hP
    refine lv_isub hx hb dX5_jumps_35 ?_
    refine lv_istore (lv' := [(4, .int (cPn f (p + 1) 2 - (cPn f p 2))), (3, .int (nI 2)), (2, .int (imax (imax (nI 0) (iabs (cPn f (p + 1) 0 - (cPn f p 0)))) (iabs (cPn f (p + 1) 1 - (cPn f p 1))))), (0, .ref r), (1, .int (nI p))]) hx hb dX5_jumps_36 hl (by decide) rfl (fun ls hl => ?_)
    refine lv_iload_n hx hb dX5_jumps_38 rfl (lv_at hl 2 rfl) ?_
    refine lv_iload hx hb dX5_jumps_39 (lv_at hl 0 rfl) ?_
    refine rw_abs S hl.1 bw_362 ⟨Nat.le_of_ble_eq_true rfl, Nat.le_of_ble_eq_true rfl⟩ (Nat.le_of_ble_eq_true rfl) ⟨Nat.zero_le _, Nat.zero_le _⟩ dX5_jumps_41 ?_
    refine rw_max S hl.1 bw_363 ⟨Nat.le_of_ble_eq_true rfl, Nat.le_of_ble_eq_true rfl⟩ (Nat.le_of_ble_eq_true rfl) ⟨Nat.zero_le _, Nat.zero_le _⟩ dX5_jumps_44 ?_
    refine lv_istore_n (lv' := [(2, .int (imax (imax (imax (nI 0) (iabs (cPn f (p + 1) 0 - (cPn f p 0)))) (iabs (cPn f (p + 1) 1 - (cPn f p 1)))) (iabs (cPn f (p + 1) 2 - (cPn f p 2))))), (4, .int (cPn f (p + 1) 2 - (cPn f p 2))), (3, .int (nI 2)), (0, .ref r), (1, .int (nI p))]) hx hb dX5_jumps_47 rfl hl (by decide) rfl (fun ls hl => ?_)
    refine rn_inc (a := 2) (d := 1) (lv' := [(3, .int (nI 3)), (2, .int (imax (imax (imax (nI 0) (iabs (cPn f (p + 1) 0 - (cPn f p 0)))) (iabs (cPn f (p + 1) 1 - (cPn f p 1)))) (iabs (cPn f (p + 1) 2 - (cPn f p 2))))), (4, .int (cPn f (p + 1) 2 - (cPn f p 2))), (0, .ref r), (1, .int (nI p))]) hx hb dX5_jumps_48 hl (k := 2) rfl (by decide) (by decide) rfl (fun ls hl => ?_)
    refine lv_goto (tgt := 16) hx hb dX5_jumps_51 (by decide) ?_
    refine lv_iload_n hx hb dX5_jumps_16 rfl (lv_at hl 0 rfl) ?_
    refine lv_iconst (v := nI 3) hx hb dX5_jumps_17 (by decide) ?_
    refine rn_icmp_ge (a := 3) (b := 3) (tgt := 54) hx hb (by omega) (by omega) dX5_jumps_18 (by decide) (fun c_5 => ?_) (fun c_5 => absurd c_5 (by omega))
    refine lv_iload_n hx hb dX5_jumps_54 rfl (lv_at hl 1 rfl) ?_
    refine lv_aload_n hx hb dX5_jumps_55 rfl (lv_at hl 3 rfl) ?_
    refine lv_iconst (v := nI 2) hx hb dX5_jumps_56 (by decide) ?_
    refine rwV (rest := [.int (imax (imax (imax (nI 0) (iabs (cPn f (p + 1) 0 - (cPn f p 0)))) (iabs (cPn f (p + 1) 1 - (cPn f p 1)))) (iabs (cPn f (p + 1) 2 - (cPn f p 2))))]) S (c_X3_read l E r rc f 2 (by omega)) cd_X3_read bw_367 ⟨Nat.le_of_ble_eq_true rfl, Nat.le_of_ble_eq_true rfl⟩ ⟨Nat.zero_le _, Nat.zero_le _⟩ hP (hD0.con rfl) hE hA hS [0, 1] rfl rfl rfl (ci := 2) rfl (q0 := 0) rfl rfl rfl (Nat.le_of_ble_eq_true rfl) hl.1 dX5_jumps_57 (fun H locs hP _ hS => ?_)
    have hP : va_P E.1 vwCl [(r, .inr (2, [.ref rc])), (rc, .inl (E.2.1, 293, .inl f))] H := hP
    refine lv_icmp_le (tgt := 67) hx hb dX5_jumps_60 (by decide) (fun c_6 => ?_) (fun c_6 => ?_)
    · refine lv_iconst (v := nI 0) hx hb dX5_jumps_67 (by decide) ?_
      exact hret _ _ _ _ _ _ (by rw [cJu, if_neg c_1, if_pos c_6]) rfl (by decide) hP hS dX5_jumps_68
    · refine lv_iconst (v := nI 1) hx hb dX5_jumps_63 (by decide) ?_
      refine lv_goto (tgt := 68) hx hb dX5_jumps_64 (by decide) ?_
      exact hret _ _ _ _ _ _ (by rw [cJu, if_neg c_1, if_neg c_6]) rfl (by decide) hP hS dX5_jumps_68
  · refine lv_iconst (v := nI 0) hx hb dX5_jumps_10 (by decide) ?_
    exact hret _ _ _ _ _ _ (by rw [cJu, if_pos c_1]) rfl (by decide) hP hS dX5_jumps_11

theorem cd_X5_holds : cdS yX5_holds cX5_holds 3 (some .boolean) 3 := ⟨⟨bw_455, bw_67, by decide, by decide, by decide +kernel⟩, bw_454⟩
set_option maxHeartbeats 4000000 in
set_option maxRecDepth 100000 in
theorem c_X5_holds_0 (l : Launch) (E : EV) (r : Nat) (rc : Nat) (f : Nat → Int32) (n : Nat) (p : Nat) (hf : f 12 = nI n) (hn : n ≤ 20) (hp : p < 20) : rcI l E yX5_holds cX5_holds 3 .boolean 4 [.ref r, .int (nI p), .int (nI 0)] [(r, .inr (2, [.ref rc])), (rc, .inl (E.2.1, 293, .inl f))] (cAn f p) [(r, .inr (2, [.ref rc])), (rc, .inl (E.2.1, 293, .inl f))] := by
  refine rcI_of (by decide) (Nat.le_of_ble_eq_true rfl) ?_
  intro pg e s m below meth c Q A ls S hP hD0 hE hA hl hret
  have hx := S.1
  have hb := S.2.1
  have hown := S.2.2.2.1
  have hts := S.2.2.2.2
  have hK := hE.1
  have hS : va_S A s.heap s.heap [] := va_S.rf
  have hl : lv_has ls 3 [(0, .ref r), (1, .int (nI p)), (2, .int (nI 0))] := hl
  refine lv_iload_n hx hb dX5_holds_0 rfl (lv_at hl 2 rfl) ?_
  refine lv_tableIn (tgt := 32) hx hb dX5_holds_1 (by decide) (by decide) rfl (by decide) ?_
  refine lv_aload_n hx hb dX5_holds_32 rfl (lv_at hl 0 rfl) ?_
  refine lv_iload_n hx hb dX5_holds_33 rfl (lv_at hl 1 rfl) ?_
  refine rwS (rest := []) S (c_X5_isAnswered l E r rc f p (by omega)) cd_X5_isAnswered bw_364 ⟨Nat.le_of_ble_eq_true rfl, Nat.le_of_ble_eq_true rfl⟩ ⟨Nat.zero_le _, Nat.zero_le _⟩ hP (hD0.con rfl) hE hA hS [0, 1] rfl rfl rfl rfl rfl (Nat.le_of_ble_eq_true rfl) hl.1 dX5_holds_34 (fun H locs hP _ hS => ?_)
  have hP : va_P E.1 vwCl [(r, .inr (2, [.ref rc])), (rc, .inl (E.2.1, 293, .inl f))] H := hP
  exact hret _ _ _ _ _ _ rfl rfl (by first | exact cAn_z _ _ | assumption) hP hS dX5_holds_37

set_option maxHeartbeats 4000000 in
set_option maxRecDepth 100000 in
theorem c_X5_holds_1 (l : Launch) (E : EV) (r : Nat) (rc : Nat) (f : Nat → Int32) (n : Nat) (p : Nat) (hf : f 12 = nI n) (hn : n ≤ 20) (hp : p < 20) : rcI l E yX5_holds cX5_holds 3 .boolean 4 [.ref r, .int (nI p), .int (nI 1)] [(r, .inr (2, [.ref rc])), (rc, .inl (E.2.1, 293, .inl f))] (cBa f p) [(r, .inr (2, [.ref rc])), (rc, .inl (E.2.1, 293, .inl f))] := by
  refine rcI_of (by decide) (Nat.le_of_ble_eq_true rfl) ?_
  intro pg e s m below meth c Q A ls S hP hD0 hE hA hl hret
  have hx := S.1
  have hb := S.2.1
  have hown := S.2.2.2.1
  have hts := S.2.2.2.2
  have hK := hE.1
  have hS : va_S A s.heap s.heap [] := va_S.rf
  have hl : lv_has ls 3 [(0, .ref r), (1, .int (nI p)), (2, .int (nI 1))] := hl
  refine lv_iload_n hx hb dX5_holds_0 rfl (lv_at hl 2 rfl) ?_
  refine lv_tableIn (tgt := 38) hx hb dX5_holds_1 (by decide) (by decide) rfl (by decide) ?_
  refine lv_aload_n hx hb dX5_holds_38 rfl (lv_at hl 0 rfl) ?_
  refine lv_iload_n hx hb dX5_holds_39 rfl (lv_at hl 1 rfl) ?_
  refine rwS (rest := []) S (c_X5_isBad l E r rc f p (by omega)) cd_X5_isBad bw_456 ⟨Nat.le_of_ble_eq_true rfl, Nat.le_of_ble_eq_true rfl⟩ ⟨Nat.zero_le _, Nat.zero_le _⟩ hP (hD0.con rfl) hE hA hS [0, 1] rfl rfl rfl rfl rfl (Nat.le_of_ble_eq_true rfl) hl.1 dX5_holds_40 (fun H locs hP _ hS => ?_)
  have hP : va_P E.1 vwCl [(r, .inr (2, [.ref rc])), (rc, .inl (E.2.1, 293, .inl f))] H := hP
  exact hret _ _ _ _ _ _ rfl rfl (by first | exact cBa_z _ _ | assumption) hP hS dX5_holds_43

set_option maxHeartbeats 4000000 in
set_option maxRecDepth 100000 in
theorem c_X5_holds_2 (l : Launch) (E : EV) (r : Nat) (rc : Nat) (f : Nat → Int32) (n : Nat) (p : Nat) (hf : f 12 = nI n) (hn : n ≤ 20) (hp : p < 20) : rcI l E yX5_holds cX5_holds 3 .boolean 4 [.ref r, .int (nI p), .int (nI 2)] [(r, .inr (2, [.ref rc])), (rc, .inl (E.2.1, 293, .inl f))] (cJu f n p) [(r, .inr (2, [.ref rc])), (rc, .inl (E.2.1, 293, .inl f))] := by
  refine rcI_of (by decide) (Nat.le_of_ble_eq_true rfl) ?_
  intro pg e s m below meth c Q A ls S hP hD0 hE hA hl hret
  have hx := S.1
  have hb := S.2.1
  have hown := S.2.2.2.1
  have hts := S.2.2.2.2
  have hK := hE.1
  have hS : va_S A s.heap s.heap [] := va_S.rf
  have hl : lv_has ls 3 [(0, .ref r), (1, .int (nI p)), (2, .int (nI 2))] := hl
  refine lv_iload_n hx hb dX5_holds_0 rfl (lv_at hl 2 rfl) ?_
  refine lv_tableIn (tgt := 44) hx hb dX5_holds_1 (by decide) (by decide) rfl (by decide) ?_
  refine lv_aload_n hx hb dX5_holds_44 rfl (lv_at hl 0 rfl) ?_
  refine lv_iload_n hx hb dX5_holds_45 rfl (lv_at hl 1 rfl) ?_
  refine rwS (rest := []) S (c_X5_jumps l E r rc f n p (by omega) (by omega) (by omega)) cd_X5_jumps bw_457 ⟨Nat.le_of_ble_eq_true rfl, Nat.le_of_ble_eq_true rfl⟩ ⟨Nat.zero_le _, Nat.zero_le _⟩ hP (hD0.con rfl) hE hA hS [0, 1] rfl rfl rfl rfl rfl (Nat.le_of_ble_eq_true rfl) hl.1 dX5_holds_46 (fun H locs hP _ hS => ?_)
  have hP : va_P E.1 vwCl [(r, .inr (2, [.ref rc])), (rc, .inl (E.2.1, 293, .inl f))] H := hP
  exact hret _ _ _ _ _ _ rfl rfl (by first | exact cJu_z _ _ _ | assumption) hP hS dX5_holds_49

set_option maxHeartbeats 4000000 in
set_option maxRecDepth 100000 in
theorem c_X5_holds_3 (l : Launch) (E : EV) (r : Nat) (rc : Nat) (f : Nat → Int32) (n : Nat) (p : Nat) (hf : f 12 = nI n) (hn : n ≤ 20) (hp : p < 20) : rcI l E yX5_holds cX5_holds 3 .boolean 4 [.ref r, .int (nI p), .int (nI 3)] [(r, .inr (2, [.ref rc])), (rc, .inl (E.2.1, 293, .inl f))] (cOo f p) [(r, .inr (2, [.ref rc])), (rc, .inl (E.2.1, 293, .inl f))] := by
  refine rcI_of (by decide) (Nat.le_of_ble_eq_true rfl) ?_
  intro pg e s m below meth c Q A ls S hP hD0 hE hA hl hret
  have hx := S.1
  have hb := S.2.1
  have hown := S.2.2.2.1
  have hts := S.2.2.2.2
  have hK := hE.1
  have hS : va_S A s.heap s.heap [] := va_S.rf
  have hl : lv_has ls 3 [(0, .ref r), (1, .int (nI p)), (2, .int (nI 3))] := hl
  refine lv_iload_n hx hb dX5_holds_0 rfl (lv_at hl 2 rfl) ?_
  refine lv_tableIn (tgt := 50) hx hb dX5_holds_1 (by decide) (by decide) rfl (by decide) ?_
  refine lv_aload_n hx hb dX5_holds_50 rfl (lv_at hl 0 rfl) ?_
  refine lv_iload_n hx hb dX5_holds_51 rfl (lv_at hl 1 rfl) ?_
  refine rwS (rest := []) S (c_X5_isOff l E r rc f p (by omega)) cd_X5_isOff bw_458 ⟨Nat.le_of_ble_eq_true rfl, Nat.le_of_ble_eq_true rfl⟩ ⟨Nat.zero_le _, Nat.zero_le _⟩ hP (hD0.con rfl) hE hA hS [0, 1] rfl rfl rfl rfl rfl (Nat.le_of_ble_eq_true rfl) hl.1 dX5_holds_52 (fun H locs hP _ hS => ?_)
  have hP : va_P E.1 vwCl [(r, .inr (2, [.ref rc])), (rc, .inl (E.2.1, 293, .inl f))] H := hP
  exact hret _ _ _ _ _ _ rfl rfl (by first | exact cOo_z _ _ | assumption) hP hS dX5_holds_55

def cSt (P : Nat → Int32) : Nat → Int32
  | 0 => nI 0
  | k + 1 => if P k = 0 then cSt P k else cSt P k ||| (nI 1 <<< (nI k &&& 31))
theorem cSt_p {P : Nat → Int32} {k : Nat} (h : P k = 0) : cSt P (k + 1) = cSt P k := by rw [cSt, if_pos h]
theorem cSt_n {P : Nat → Int32} {k : Nat} (h : ¬ P k = 0) : cSt P (k + 1) = cSt P k ||| (nI 1 <<< (nI k &&& 31)) := by rw [cSt, if_neg h]
theorem cd_X5_setOf : cdS yX5_setOf cX5_setOf 4 (some .int) 2 := ⟨⟨bw_451, bw_67, by decide, by decide, by decide +kernel⟩, bw_450⟩
set_option maxHeartbeats 4000000 in
set_option maxRecDepth 100000 in
theorem c_X5_setOf_0 (l : Launch) (E : EV) (r : Nat) (rc : Nat) (f : Nat → Int32) (n : Nat) (hf : f 12 = nI n) (hn : n ≤ 20) : rcI l E yX5_setOf cX5_setOf 4 .int 5 [.ref r, .int (nI 0)] [(r, .inr (2, [.ref rc])), (rc, .inl (E.2.1, 293, .inl f))] (cSt (fun p => cAn f p) n) [(r, .inr (2, [.ref rc])), (rc, .inl (E.2.1, 293, .inl f))] := by
  refine rcI_of (by decide) (Nat.le_of_ble_eq_true rfl) ?_
  intro pg e s m below meth c Q A ls S hP hD0 hE hA hl hret
  have hx := S.1
  have hb := S.2.1
  have hown := S.2.2.2.1
  have hts := S.2.2.2.2
  have hK := hE.1
  have hS : va_S A s.heap s.heap [] := va_S.rf
  have hl : lv_has ls 4 [(0, .ref r), (1, .int (nI 0))] := hl
  refine lv_iconst (v := nI 0) hx hb dX5_setOf_0 (by decide) ?_
  refine lv_istore_n (lv' := [(2, .int (nI 0)), (0, .ref r), (1, .int (nI 0))]) hx hb dX5_setOf_1 rfl hl (by decide) rfl (fun ls hl => ?_)
  refine lv_iconst (v := nI 0) hx hb dX5_setOf_2 (by decide) ?_
  refine lv_istore_n (lv' := [(3, .int (nI 0)), (2, .int (nI 0)), (0, .ref r), (1, .int (nI 0))]) hx hb dX5_setOf_3 rfl hl (by decide) rfl (fun ls hl => ?_)
  have loop4 : ∀ (fuel : Nat) (k : Nat), n - k < fuel → k ≤ n → ∀ (H : Heap) (locs : List Loc), va_P E.1 vwCl [(r, .inr (2, [.ref rc])), (rc, .inl (E.2.1, 293, .inl f))] H → va_S A s.heap H locs → ∀ ls : Array Slot, lv_has ls 4 [(3, .int (nI k)), (2, .int (cSt (fun p => cAn f p) k)), (0, .ref r), (1, .int (nI 0))] → W pg l e (rq 5) s m ([.ref r, .int (nI 0)] : List Value).toArray below meth c H locs 0 0 Q (F0 m 4 ls []) := by
    intro fuel
    induction fuel with
    | zero => intro k h9; exact absurd h9 (Nat.not_lt_zero _)
    | succ fuel ih4 =>
      intro k hfu4 hk H locs hP hS ls hl
      refine lv_iload_n hx hb dX5_setOf_4 rfl (lv_at hl 0 rfl) ?_
      refine lv_aload_n hx hb dX5_setOf_5 rfl (lv_at hl 2 rfl) ?_
      refine rwV (rest := [.int (nI k)]) S (c_X3_shots l E r rc f n (by omega)) cd_X3_shots bw_452 ⟨Nat.le_of_ble_eq_true rfl, Nat.le_of_ble_eq_true rfl⟩ ⟨Nat.zero_le _, Nat.zero_le _⟩ hP (hD0.con rfl) hE hA hS [0, 1] rfl rfl rfl (ci := 2) rfl (q0 := 0) rfl rfl rfl (Nat.le_of_ble_eq_true rfl) hl.1 dX5_setOf_6 (fun H locs hP _ hS => ?_)
      have hP : va_P E.1 vwCl [(r, .inr (2, [.ref rc])), (rc, .inl (E.2.1, 293, .inl f))] H := hP
      refine rn_icmp_ge (a := k) (b := n) (tgt := 39) hx hb (by omega) (by omega) dX5_setOf_9 (by decide) (fun c_1 => ?_) (fun c_1 => ?_)
      · have hex : n = k := by omega
        subst hex
        refine lv_iload_n hx hb dX5_setOf_39 rfl (lv_at hl 1 rfl) ?_
        exact hret _ _ _ _ _ _ rfl rfl rfl hP hS dX5_setOf_40
      · refine lv_iload_n hx hb dX5_setOf_12 rfl (lv_at hl 0 rfl) ?_
        refine lv_bipush (v := nI 20) hx hb dX5_setOf_13 (by decide) ?_
        refine rn_icmp_ge (a := k) (b := 20) (tgt := 39) hx hb (by omega) (by omega) dX5_setOf_15 (by decide) (fun c_2 => absurd c_2 (by omega)) (fun c_2 => ?_)
        refine lv_aload_n hx hb dX5_setOf_18 rfl (lv_at hl 2 rfl) ?_
        refine lv_iload_n hx hb dX5_setOf_19 rfl (lv_at hl 0 rfl) ?_
        refine lv_iload_n hx hb dX5_setOf_20 rfl (lv_at hl 3 rfl) ?_
        refine rwS (rest := []) S (c_X5_holds_0 l E r rc f n k (by omega) (by omega) (by omega)) cd_X5_holds bw_453 ⟨Nat.le_of_ble_eq_true rfl, Nat.le_of_ble_eq_true rfl⟩ ⟨Nat.zero_le _, Nat.zero_le _⟩ hP (hD0.con rfl) hE hA hS [0, 1] rfl rfl rfl rfl rfl (Nat.le_of_ble_eq_true rfl) hl.1 dX5_setOf_21 (fun H locs hP _ hS => ?_)
        have hP : va_P E.1 vwCl [(r, .inr (2, [.ref rc])), (rc, .inl (E.2.1, 293, .inl f))] H := hP
        refine lv_if_eq (tgt := 33) hx hb dX5_setOf_24 (by decide) (fun c_3 => ?_) (fun c_3 => ?_)
        · refine rn_inc (a := k) (d := 1) (lv' := [(3, .int (nI (k + 1))), (2, .int (cSt (fun p => cAn f p) k)), (0, .ref r), (1, .int (nI 0))]) hx hb dX5_setOf_33 hl (k := 0) rfl (by decide) (by decide) rfl (fun ls hl => ?_)
          refine lv_goto (tgt := 4) hx hb dX5_setOf_36 (by decide) ?_
          have hl : lv_has ls 4 [(3, .int (nI (k + 1))), (2, .int (cSt (fun p => cAn f p) k)), (0, .ref r), (1, .int (nI 0))] := lv_sub hl [0, 1, 2, 3] rfl
          have hl : lv_has ls 4 [(3, .int (nI (k + 1))), (2, .int (cSt (fun p => cAn f p) (k + 1))), (0, .ref r), (1, .int (nI 0))] := by first | (rw [cSt_p (P := fun p => cAn f p) c_3]; exact hl) | (rw [cSt_n (P := fun p => cAn f p) c_3]; exact hl)
          exact ih4 (k + 1) (by omega) (by omega) _ _ hP hS _ hl
        · refine lv_iload_n hx hb dX5_setOf_27 rfl (lv_at hl 1 rfl) ?_
          refine lv_iconst (v := nI 1) hx hb dX5_setOf_28 (by decide) ?_
          refine lv_iload_n hx hb dX5_setOf_29 rfl (lv_at hl 0 rfl) ?_
          refine lv_ishl hx hb dX5_setOf_30 ?_
          refine lv_ior hx hb dX5_setOf_31 ?_
          refine lv_istore_n (lv' := [(2, .int ((cSt (fun p => cAn f p) k) ||| ((nI 1) <<< (nI k &&& 31)))), (3, .int (nI k)), (0, .ref r), (1, .int (nI 0))]) hx hb dX5_setOf_32 rfl hl (by decide) rfl (fun ls hl => ?_)
          refine rn_inc (a := k) (d := 1) (lv' := [(3, .int (nI (k + 1))), (2, .int ((cSt (fun p => cAn f p) k) ||| ((nI 1) <<< (nI k &&& 31)))), (0, .ref r), (1, .int (nI 0))]) hx hb dX5_setOf_33 hl (k := 1) rfl (by decide) (by decide) rfl (fun ls hl => ?_)
          refine lv_goto (tgt := 4) hx hb dX5_setOf_36 (by decide) ?_
          have hl : lv_has ls 4 [(3, .int (nI (k + 1))), (2, .int ((cSt (fun p => cAn f p) k) ||| ((nI 1) <<< (nI k &&& 31)))), (0, .ref r), (1, .int (nI 0))] := lv_sub hl [0, 1, 2, 3] rfl
          have hl : lv_has ls 4 [(3, .int (nI (k + 1))), (2, .int (cSt (fun p => cAn f p) (k + 1))), (0, .ref r), (1, .int (nI 0))] := by first | (rw [cSt_p (P := fun p => cAn f p) c_3]; exact hl) | (rw [cSt_n (P := fun p => cAn f p) c_3]; exact hl)
          exact ih4 (k + 1) (by omega) (by omega) _ _ hP hS _ hl
  have hl : lv_has ls 4 [(3, .int (nI 0)), (2, .int (cSt (fun p => cAn f p) 0)), (0, .ref r), (1, .int (nI 0))] := lv_sub hl [0, 1, 2, 3] rfl
  exact loop4 _ 0 (Nat.lt_succ_self _) (by omega) _ _ hP hS _ hl

set_option maxHeartbeats 4000000 in
set_option maxRecDepth 100000 in
theorem c_X5_setOf_1 (l : Launch) (E : EV) (r : Nat) (rc : Nat) (f : Nat → Int32) (n : Nat) (hf : f 12 = nI n) (hn : n ≤ 20) : rcI l E yX5_setOf cX5_setOf 4 .int 5 [.ref r, .int (nI 1)] [(r, .inr (2, [.ref rc])), (rc, .inl (E.2.1, 293, .inl f))] (cSt (fun p => cBa f p) n) [(r, .inr (2, [.ref rc])), (rc, .inl (E.2.1, 293, .inl f))] := by
  refine rcI_of (by decide) (Nat.le_of_ble_eq_true rfl) ?_
  intro pg e s m below meth c Q A ls S hP hD0 hE hA hl hret
  have hx := S.1
  have hb := S.2.1
  have hown := S.2.2.2.1
  have hts := S.2.2.2.2
  have hK := hE.1
  have hS : va_S A s.heap s.heap [] := va_S.rf
  have hl : lv_has ls 4 [(0, .ref r), (1, .int (nI 1))] := hl
  refine lv_iconst (v := nI 0) hx hb dX5_setOf_0 (by decide) ?_
  refine lv_istore_n (lv' := [(2, .int (nI 0)), (0, .ref r), (1, .int (nI 1))]) hx hb dX5_setOf_1 rfl hl (by decide) rfl (fun ls hl => ?_)
  refine lv_iconst (v := nI 0) hx hb dX5_setOf_2 (by decide) ?_
  refine lv_istore_n (lv' := [(3, .int (nI 0)), (2, .int (nI 0)), (0, .ref r), (1, .int (nI 1))]) hx hb dX5_setOf_3 rfl hl (by decide) rfl (fun ls hl => ?_)
  have loop4 : ∀ (fuel : Nat) (k : Nat), n - k < fuel → k ≤ n → ∀ (H : Heap) (locs : List Loc), va_P E.1 vwCl [(r, .inr (2, [.ref rc])), (rc, .inl (E.2.1, 293, .inl f))] H → va_S A s.heap H locs → ∀ ls : Array Slot, lv_has ls 4 [(3, .int (nI k)), (2, .int (cSt (fun p => cBa f p) k)), (0, .ref r), (1, .int (nI 1))] → W pg l e (rq 5) s m ([.ref r, .int (nI 1)] : List Value).toArray below meth c H locs 0 0 Q (F0 m 4 ls []) := by
    intro fuel
    induction fuel with
    | zero => intro k h9; exact absurd h9 (Nat.not_lt_zero _)
    | succ fuel ih4 =>
      intro k hfu4 hk H locs hP hS ls hl
      refine lv_iload_n hx hb dX5_setOf_4 rfl (lv_at hl 0 rfl) ?_
      refine lv_aload_n hx hb dX5_setOf_5 rfl (lv_at hl 2 rfl) ?_
      refine rwV (rest := [.int (nI k)]) S (c_X3_shots l E r rc f n (by omega)) cd_X3_shots bw_452 ⟨Nat.le_of_ble_eq_true rfl, Nat.le_of_ble_eq_true rfl⟩ ⟨Nat.zero_le _, Nat.zero_le _⟩ hP (hD0.con rfl) hE hA hS [0, 1] rfl rfl rfl (ci := 2) rfl (q0 := 0) rfl rfl rfl (Nat.le_of_ble_eq_true rfl) hl.1 dX5_setOf_6 (fun H locs hP _ hS => ?_)
      have hP : va_P E.1 vwCl [(r, .inr (2, [.ref rc])), (rc, .inl (E.2.1, 293, .inl f))] H := hP
      refine rn_icmp_ge (a := k) (b := n) (tgt := 39) hx hb (by omega) (by omega) dX5_setOf_9 (by decide) (fun c_1 => ?_) (fun c_1 => ?_)
      · have hex : n = k := by omega
        subst hex
        refine lv_iload_n hx hb dX5_setOf_39 rfl (lv_at hl 1 rfl) ?_
        exact hret _ _ _ _ _ _ rfl rfl rfl hP hS dX5_setOf_40
      · refine lv_iload_n hx hb dX5_setOf_12 rfl (lv_at hl 0 rfl) ?_
        refine lv_bipush (v := nI 20) hx hb dX5_setOf_13 (by decide) ?_
        refine rn_icmp_ge (a := k) (b := 20) (tgt := 39) hx hb (by omega) (by omega) dX5_setOf_15 (by decide) (fun c_2 => absurd c_2 (by omega)) (fun c_2 => ?_)
        refine lv_aload_n hx hb dX5_setOf_18 rfl (lv_at hl 2 rfl) ?_
        refine lv_iload_n hx hb dX5_setOf_19 rfl (lv_at hl 0 rfl) ?_
        refine lv_iload_n hx hb dX5_setOf_20 rfl (lv_at hl 3 rfl) ?_
        refine rwS (rest := []) S (c_X5_holds_1 l E r rc f n k (by omega) (by omega) (by omega)) cd_X5_holds bw_453 ⟨Nat.le_of_ble_eq_true rfl, Nat.le_of_ble_eq_true rfl⟩ ⟨Nat.zero_le _, Nat.zero_le _⟩ hP (hD0.con rfl) hE hA hS [0, 1] rfl rfl rfl rfl rfl (Nat.le_of_ble_eq_true rfl) hl.1 dX5_setOf_21 (fun H locs hP _ hS => ?_)
        have hP : va_P E.1 vwCl [(r, .inr (2, [.ref rc])), (rc, .inl (E.2.1, 293, .inl f))] H := hP
        refine lv_if_eq (tgt := 33) hx hb dX5_setOf_24 (by decide) (fun c_3 => ?_) (fun c_3 => ?_)
        · refine rn_inc (a := k) (d := 1) (lv' := [(3, .int (nI (k + 1))), (2, .int (cSt (fun p => cBa f p) k)), (0, .ref r), (1, .int (nI 1))]) hx hb dX5_setOf_33 hl (k := 0) rfl (by decide) (by decide) rfl (fun ls hl => ?_)
          refine lv_goto (tgt := 4) hx hb dX5_setOf_36 (by decide) ?_
          have hl : lv_has ls 4 [(3, .int (nI (k + 1))), (2, .int (cSt (fun p => cBa f p) k)), (0, .ref r), (1, .int (nI 1))] := lv_sub hl [0, 1, 2, 3] rfl
          have hl : lv_has ls 4 [(3, .int (nI (k + 1))), (2, .int (cSt (fun p => cBa f p) (k + 1))), (0, .ref r), (1, .int (nI 1))] := by first | (rw [cSt_p (P := fun p => cBa f p) c_3]; exact hl) | (rw [cSt_n (P := fun p => cBa f p) c_3]; exact hl)
          exact ih4 (k + 1) (by omega) (by omega) _ _ hP hS _ hl
        · refine lv_iload_n hx hb dX5_setOf_27 rfl (lv_at hl 1 rfl) ?_
          refine lv_iconst (v := nI 1) hx hb dX5_setOf_28 (by decide) ?_
          refine lv_iload_n hx hb dX5_setOf_29 rfl (lv_at hl 0 rfl) ?_
          refine lv_ishl hx hb dX5_setOf_30 ?_
          refine lv_ior hx hb dX5_setOf_31 ?_
          refine lv_istore_n (lv' := [(2, .int ((cSt (fun p => cBa f p) k) ||| ((nI 1) <<< (nI k &&& 31)))), (3, .int (nI k)), (0, .ref r), (1, .int (nI 1))]) hx hb dX5_setOf_32 rfl hl (by decide) rfl (fun ls hl => ?_)
          refine rn_inc (a := k) (d := 1) (lv' := [(3, .int (nI (k + 1))), (2, .int ((cSt (fun p => cBa f p) k) ||| ((nI 1) <<< (nI k &&& 31)))), (0, .ref r), (1, .int (nI 1))]) hx hb dX5_setOf_33 hl (k := 1) rfl (by decide) (by decide) rfl (fun ls hl => ?_)
          refine lv_goto (tgt := 4) hx hb dX5_setOf_36 (by decide) ?_
          have hl : lv_has ls 4 [(3, .int (nI (k + 1))), (2, .int ((cSt (fun p => cBa f p) k) ||| ((nI 1) <<< (nI k &&& 31)))), (0, .ref r), (1, .int (nI 1))] := lv_sub hl [0, 1, 2, 3] rfl
          have hl : lv_has ls 4 [(3, .int (nI (k + 1))), (2, .int (cSt (fun p => cBa f p) (k + 1))), (0, .ref r), (1, .int (nI 1))] := by first | (rw [cSt_p (P := fun p => cBa f p) c_3]; exact hl) | (rw [cSt_n (P := fun p => cBa f p) c_3]; exact hl)
          exact ih4 (k + 1) (by omega) (by omega) _ _ hP hS _ hl
  have hl : lv_has ls 4 [(3, .int (nI 0)), (2, .int (cSt (fun p => cBa f p) 0)), (0, .ref r), (1, .int (nI 1))] := lv_sub hl [0, 1, 2, 3] rfl
  exact loop4 _ 0 (Nat.lt_succ_self _) (by omega) _ _ hP hS _ hl

set_option maxHeartbeats 4000000 in
set_option maxRecDepth 100000 in
theorem c_X5_setOf_2 (l : Launch) (E : EV) (r : Nat) (rc : Nat) (f : Nat → Int32) (n : Nat) (hf : f 12 = nI n) (hn : n ≤ 20) : rcI l E yX5_setOf cX5_setOf 4 .int 5 [.ref r, .int (nI 2)] [(r, .inr (2, [.ref rc])), (rc, .inl (E.2.1, 293, .inl f))] (cSt (fun p => cJu f n p) n) [(r, .inr (2, [.ref rc])), (rc, .inl (E.2.1, 293, .inl f))] := by
  refine rcI_of (by decide) (Nat.le_of_ble_eq_true rfl) ?_
  intro pg e s m below meth c Q A ls S hP hD0 hE hA hl hret
  have hx := S.1
  have hb := S.2.1
  have hown := S.2.2.2.1
  have hts := S.2.2.2.2
  have hK := hE.1
  have hS : va_S A s.heap s.heap [] := va_S.rf
  have hl : lv_has ls 4 [(0, .ref r), (1, .int (nI 2))] := hl
  refine lv_iconst (v := nI 0) hx hb dX5_setOf_0 (by decide) ?_
  refine lv_istore_n (lv' := [(2, .int (nI 0)), (0, .ref r), (1, .int (nI 2))]) hx hb dX5_setOf_1 rfl hl (by decide) rfl (fun ls hl => ?_)
  refine lv_iconst (v := nI 0) hx hb dX5_setOf_2 (by decide) ?_
  refine lv_istore_n (lv' := [(3, .int (nI 0)), (2, .int (nI 0)), (0, .ref r), (1, .int (nI 2))]) hx hb dX5_setOf_3 rfl hl (by decide) rfl (fun ls hl => ?_)
  have loop4 : ∀ (fuel : Nat) (k : Nat), n - k < fuel → k ≤ n → ∀ (H : Heap) (locs : List Loc), va_P E.1 vwCl [(r, .inr (2, [.ref rc])), (rc, .inl (E.2.1, 293, .inl f))] H → va_S A s.heap H locs → ∀ ls : Array Slot, lv_has ls 4 [(3, .int (nI k)), (2, .int (cSt (fun p => cJu f n p) k)), (0, .ref r), (1, .int (nI 2))] → W pg l e (rq 5) s m ([.ref r, .int (nI 2)] : List Value).toArray below meth c H locs 0 0 Q (F0 m 4 ls []) := by
    intro fuel
    induction fuel with
    | zero => intro k h9; exact absurd h9 (Nat.not_lt_zero _)
    | succ fuel ih4 =>
      intro k hfu4 hk H locs hP hS ls hl
      refine lv_iload_n hx hb dX5_setOf_4 rfl (lv_at hl 0 rfl) ?_
      refine lv_aload_n hx hb dX5_setOf_5 rfl (lv_at hl 2 rfl) ?_
      refine rwV (rest := [.int (nI k)]) S (c_X3_shots l E r rc f n (by omega)) cd_X3_shots bw_452 ⟨Nat.le_of_ble_eq_true rfl, Nat.le_of_ble_eq_true rfl⟩ ⟨Nat.zero_le _, Nat.zero_le _⟩ hP (hD0.con rfl) hE hA hS [0, 1] rfl rfl rfl (ci := 2) rfl (q0 := 0) rfl rfl rfl (Nat.le_of_ble_eq_true rfl) hl.1 dX5_setOf_6 (fun H locs hP _ hS => ?_)
      have hP : va_P E.1 vwCl [(r, .inr (2, [.ref rc])), (rc, .inl (E.2.1, 293, .inl f))] H := hP
      refine rn_icmp_ge (a := k) (b := n) (tgt := 39) hx hb (by omega) (by omega) dX5_setOf_9 (by decide) (fun c_1 => ?_) (fun c_1 => ?_)
      · have hex : n = k := by omega
        subst hex
        refine lv_iload_n hx hb dX5_setOf_39 rfl (lv_at hl 1 rfl) ?_
        exact hret _ _ _ _ _ _ rfl rfl rfl hP hS dX5_setOf_40
      · refine lv_iload_n hx hb dX5_setOf_12 rfl (lv_at hl 0 rfl) ?_
        refine lv_bipush (v := nI 20) hx hb dX5_setOf_13 (by decide) ?_
        refine rn_icmp_ge (a := k) (b := 20) (tgt := 39) hx hb (by omega) (by omega) dX5_setOf_15 (by decide) (fun c_2 => absurd c_2 (by omega)) (fun c_2 => ?_)
        refine lv_aload_n hx hb dX5_setOf_18 rfl (lv_at hl 2 rfl) ?_
        refine lv_iload_n hx hb dX5_setOf_19 rfl (lv_at hl 0 rfl) ?_
        refine lv_iload_n hx hb dX5_setOf_20 rfl (lv_at hl 3 rfl) ?_
        refine rwS (rest := []) S (c_X5_holds_2 l E r rc f n k (by omega) (by omega) (by omega)) cd_X5_holds bw_453 ⟨Nat.le_of_ble_eq_true rfl, Nat.le_of_ble_eq_true rfl⟩ ⟨Nat.zero_le _, Nat.zero_le _⟩ hP (hD0.con rfl) hE hA hS [0, 1] rfl rfl rfl rfl rfl (Nat.le_of_ble_eq_true rfl) hl.1 dX5_setOf_21 (fun H locs hP _ hS => ?_)
        have hP : va_P E.1 vwCl [(r, .inr (2, [.ref rc])), (rc, .inl (E.2.1, 293, .inl f))] H := hP
        refine lv_if_eq (tgt := 33) hx hb dX5_setOf_24 (by decide) (fun c_3 => ?_) (fun c_3 => ?_)
        · refine rn_inc (a := k) (d := 1) (lv' := [(3, .int (nI (k + 1))), (2, .int (cSt (fun p => cJu f n p) k)), (0, .ref r), (1, .int (nI 2))]) hx hb dX5_setOf_33 hl (k := 0) rfl (by decide) (by decide) rfl (fun ls hl => ?_)
          refine lv_goto (tgt := 4) hx hb dX5_setOf_36 (by decide) ?_
          have hl : lv_has ls 4 [(3, .int (nI (k + 1))), (2, .int (cSt (fun p => cJu f n p) k)), (0, .ref r), (1, .int (nI 2))] := lv_sub hl [0, 1, 2, 3] rfl
          have hl : lv_has ls 4 [(3, .int (nI (k + 1))), (2, .int (cSt (fun p => cJu f n p) (k + 1))), (0, .ref r), (1, .int (nI 2))] := by first | (rw [cSt_p (P := fun p => cJu f n p) c_3]; exact hl) | (rw [cSt_n (P := fun p => cJu f n p) c_3]; exact hl)
          exact ih4 (k + 1) (by omega) (by omega) _ _ hP hS _ hl
        · refine lv_iload_n hx hb dX5_setOf_27 rfl (lv_at hl 1 rfl) ?_
          refine lv_iconst (v := nI 1) hx hb dX5_setOf_28 (by decide) ?_
          refine lv_iload_n hx hb dX5_setOf_29 rfl (lv_at hl 0 rfl) ?_
          refine lv_ishl hx hb dX5_setOf_30 ?_
          refine lv_ior hx hb dX5_setOf_31 ?_
          refine lv_istore_n (lv' := [(2, .int ((cSt (fun p => cJu f n p) k) ||| ((nI 1) <<< (nI k &&& 31)))), (3, .int (nI k)), (0, .ref r), (1, .int (nI 2))]) hx hb dX5_setOf_32 rfl hl (by decide) rfl (fun ls hl => ?_)
          refine rn_inc (a := k) (d := 1) (lv' := [(3, .int (nI (k + 1))), (2, .int ((cSt (fun p => cJu f n p) k) ||| ((nI 1) <<< (nI k &&& 31)))), (0, .ref r), (1, .int (nI 2))]) hx hb dX5_setOf_33 hl (k := 1) rfl (by decide) (by decide) rfl (fun ls hl => ?_)
          refine lv_goto (tgt := 4) hx hb dX5_setOf_36 (by decide) ?_
          have hl : lv_has ls 4 [(3, .int (nI (k + 1))), (2, .int ((cSt (fun p => cJu f n p) k) ||| ((nI 1) <<< (nI k &&& 31)))), (0, .ref r), (1, .int (nI 2))] := lv_sub hl [0, 1, 2, 3] rfl
          have hl : lv_has ls 4 [(3, .int (nI (k + 1))), (2, .int (cSt (fun p => cJu f n p) (k + 1))), (0, .ref r), (1, .int (nI 2))] := by first | (rw [cSt_p (P := fun p => cJu f n p) c_3]; exact hl) | (rw [cSt_n (P := fun p => cJu f n p) c_3]; exact hl)
          exact ih4 (k + 1) (by omega) (by omega) _ _ hP hS _ hl
  have hl : lv_has ls 4 [(3, .int (nI 0)), (2, .int (cSt (fun p => cJu f n p) 0)), (0, .ref r), (1, .int (nI 2))] := lv_sub hl [0, 1, 2, 3] rfl
  exact loop4 _ 0 (Nat.lt_succ_self _) (by omega) _ _ hP hS _ hl

set_option maxHeartbeats 4000000 in
set_option maxRecDepth 100000 in
theorem c_X5_setOf_3 (l : Launch) (E : EV) (r : Nat) (rc : Nat) (f : Nat → Int32) (n : Nat) (hf : f 12 = nI n) (hn : n ≤ 20) : rcI l E yX5_setOf cX5_setOf 4 .int 5 [.ref r, .int (nI 3)] [(r, .inr (2, [.ref rc])), (rc, .inl (E.2.1, 293, .inl f))] (cSt (fun p => cOo f p) n) [(r, .inr (2, [.ref rc])), (rc, .inl (E.2.1, 293, .inl f))] := by
  refine rcI_of (by decide) (Nat.le_of_ble_eq_true rfl) ?_
  intro pg e s m below meth c Q A ls S hP hD0 hE hA hl hret
  have hx := S.1
  have hb := S.2.1
  have hown := S.2.2.2.1
  have hts := S.2.2.2.2
  have hK := hE.1
  have hS : va_S A s.heap s.heap [] := va_S.rf
  have hl : lv_has ls 4 [(0, .ref r), (1, .int (nI 3))] := hl
  refine lv_iconst (v := nI 0) hx hb dX5_setOf_0 (by decide) ?_
  refine lv_istore_n (lv' := [(2, .int (nI 0)), (0, .ref r), (1, .int (nI 3))]) hx hb dX5_setOf_1 rfl hl (by decide) rfl (fun ls hl => ?_)
  refine lv_iconst (v := nI 0) hx hb dX5_setOf_2 (by decide) ?_
  refine lv_istore_n (lv' := [(3, .int (nI 0)), (2, .int (nI 0)), (0, .ref r), (1, .int (nI 3))]) hx hb dX5_setOf_3 rfl hl (by decide) rfl (fun ls hl => ?_)
  have loop4 : ∀ (fuel : Nat) (k : Nat), n - k < fuel → k ≤ n → ∀ (H : Heap) (locs : List Loc), va_P E.1 vwCl [(r, .inr (2, [.ref rc])), (rc, .inl (E.2.1, 293, .inl f))] H → va_S A s.heap H locs → ∀ ls : Array Slot, lv_has ls 4 [(3, .int (nI k)), (2, .int (cSt (fun p => cOo f p) k)), (0, .ref r), (1, .int (nI 3))] → W pg l e (rq 5) s m ([.ref r, .int (nI 3)] : List Value).toArray below meth c H locs 0 0 Q (F0 m 4 ls []) := by
    intro fuel
    induction fuel with
    | zero => intro k h9; exact absurd h9 (Nat.not_lt_zero _)
    | succ fuel ih4 =>
      intro k hfu4 hk H locs hP hS ls hl
      refine lv_iload_n hx hb dX5_setOf_4 rfl (lv_at hl 0 rfl) ?_
      refine lv_aload_n hx hb dX5_setOf_5 rfl (lv_at hl 2 rfl) ?_
      refine rwV (rest := [.int (nI k)]) S (c_X3_shots l E r rc f n (by omega)) cd_X3_shots bw_452 ⟨Nat.le_of_ble_eq_true rfl, Nat.le_of_ble_eq_true rfl⟩ ⟨Nat.zero_le _, Nat.zero_le _⟩ hP (hD0.con rfl) hE hA hS [0, 1] rfl rfl rfl (ci := 2) rfl (q0 := 0) rfl rfl rfl (Nat.le_of_ble_eq_true rfl) hl.1 dX5_setOf_6 (fun H locs hP _ hS => ?_)
      have hP : va_P E.1 vwCl [(r, .inr (2, [.ref rc])), (rc, .inl (E.2.1, 293, .inl f))] H := hP
      refine rn_icmp_ge (a := k) (b := n) (tgt := 39) hx hb (by omega) (by omega) dX5_setOf_9 (by decide) (fun c_1 => ?_) (fun c_1 => ?_)
      · have hex : n = k := by omega
        subst hex
        refine lv_iload_n hx hb dX5_setOf_39 rfl (lv_at hl 1 rfl) ?_
        exact hret _ _ _ _ _ _ rfl rfl rfl hP hS dX5_setOf_40
      · refine lv_iload_n hx hb dX5_setOf_12 rfl (lv_at hl 0 rfl) ?_
        refine lv_bipush (v := nI 20) hx hb dX5_setOf_13 (by decide) ?_
        refine rn_icmp_ge (a := k) (b := 20) (tgt := 39) hx hb (by omega) (by omega) dX5_setOf_15 (by decide) (fun c_2 => absurd c_2 (by omega)) (fun c_2 => ?_)
        refine lv_aload_n hx hb dX5_setOf_18 rfl (lv_at hl 2 rfl) ?_
        refine lv_iload_n hx hb dX5_setOf_19 rfl (lv_at hl 0 rfl) ?_
        refine lv_iload_n hx hb dX5_setOf_20 rfl (lv_at hl 3 rfl) ?_
        refine rwS (rest := []) S (c_X5_holds_3 l E r rc f n k (by omega) (by omega) (by omega)) cd_X5_holds bw_453 ⟨Nat.le_of_ble_eq_true rfl, Nat.le_of_ble_eq_true rfl⟩ ⟨Nat.zero_le _, Nat.zero_le _⟩ hP (hD0.con rfl) hE hA hS [0, 1] rfl rfl rfl rfl rfl (Nat.le_of_ble_eq_true rfl) hl.1 dX5_setOf_21 (fun H locs hP _ hS => ?_)
        have hP : va_P E.1 vwCl [(r, .inr (2, [.ref rc])), (rc, .inl (E.2.1, 293, .inl f))] H := hP
        refine lv_if_eq (tgt := 33) hx hb dX5_setOf_24 (by decide) (fun c_3 => ?_) (fun c_3 => ?_)
        · refine rn_inc (a := k) (d := 1) (lv' := [(3, .int (nI (k + 1))), (2, .int (cSt (fun p => cOo f p) k)), (0, .ref r), (1, .int (nI 3))]) hx hb dX5_setOf_33 hl (k := 0) rfl (by decide) (by decide) rfl (fun ls hl => ?_)
          refine lv_goto (tgt := 4) hx hb dX5_setOf_36 (by decide) ?_
          have hl : lv_has ls 4 [(3, .int (nI (k + 1))), (2, .int (cSt (fun p => cOo f p) k)), (0, .ref r), (1, .int (nI 3))] := lv_sub hl [0, 1, 2, 3] rfl
          have hl : lv_has ls 4 [(3, .int (nI (k + 1))), (2, .int (cSt (fun p => cOo f p) (k + 1))), (0, .ref r), (1, .int (nI 3))] := by first | (rw [cSt_p (P := fun p => cOo f p) c_3]; exact hl) | (rw [cSt_n (P := fun p => cOo f p) c_3]; exact hl)
          exact ih4 (k + 1) (by omega) (by omega) _ _ hP hS _ hl
        · refine lv_iload_n hx hb dX5_setOf_27 rfl (lv_at hl 1 rfl) ?_
          refine lv_iconst (v := nI 1) hx hb dX5_setOf_28 (by decide) ?_
          refine lv_iload_n hx hb dX5_setOf_29 rfl (lv_at hl 0 rfl) ?_
          refine lv_ishl hx hb dX5_setOf_30 ?_
          refine lv_ior hx hb dX5_setOf_31 ?_
          refine lv_istore_n (lv' := [(2, .int ((cSt (fun p => cOo f p) k) ||| ((nI 1) <<< (nI k &&& 31)))), (3, .int (nI k)), (0, .ref r), (1, .int (nI 3))]) hx hb dX5_setOf_32 rfl hl (by decide) rfl (fun ls hl => ?_)
          refine rn_inc (a := k) (d := 1) (lv' := [(3, .int (nI (k + 1))), (2, .int ((cSt (fun p => cOo f p) k) ||| ((nI 1) <<< (nI k &&& 31)))), (0, .ref r), (1, .int (nI 3))]) hx hb dX5_setOf_33 hl (k := 1) rfl (by decide) (by decide) rfl (fun ls hl => ?_)
          refine lv_goto (tgt := 4) hx hb dX5_setOf_36 (by decide) ?_
          have hl : lv_has ls 4 [(3, .int (nI (k + 1))), (2, .int ((cSt (fun p => cOo f p) k) ||| ((nI 1) <<< (nI k &&& 31)))), (0, .ref r), (1, .int (nI 3))] := lv_sub hl [0, 1, 2, 3] rfl
          have hl : lv_has ls 4 [(3, .int (nI (k + 1))), (2, .int (cSt (fun p => cOo f p) (k + 1))), (0, .ref r), (1, .int (nI 3))] := by first | (rw [cSt_p (P := fun p => cOo f p) c_3]; exact hl) | (rw [cSt_n (P := fun p => cOo f p) c_3]; exact hl)
          exact ih4 (k + 1) (by omega) (by omega) _ _ hP hS _ hl
  have hl : lv_has ls 4 [(3, .int (nI 0)), (2, .int (cSt (fun p => cOo f p) 0)), (0, .ref r), (1, .int (nI 3))] := lv_sub hl [0, 1, 2, 3] rfl
  exact loop4 _ 0 (Nat.lt_succ_self _) (by omega) _ _ hP hS _ hl
end
section
/-! the changes -/
theorem cd_X0_exchange : cdS yX0_exchange cX0_exchange 4 (some .int) 3 := ⟨⟨bw_202, bw_66, by decide, by decide, by decide +kernel⟩, bw_201⟩
set_option maxHeartbeats 4000000 in
set_option maxRecDepth 100000 in
theorem c_X0_exchange (l : Launch) (E : EV) (r : Nat) (rc : Nat) (f : Nat → Int32) (p : Nat) (z : Int32) (hp : p < 293) : rcI l E yX0_exchange cX0_exchange 4 .int 1 [.ref r, .int (nI p), .int z] [(r, .inr (2, [.ref rc])), (rc, .inl (E.2.1, 293, .inl f))] (f p) [(r, .inr (2, [.ref rc])), (rc, .inl (E.2.1, 293, .inl (upd f p z)))] := by
  refine rcI_of (by decide) (Nat.le_of_ble_eq_true rfl) ?_
  intro pg e s m below meth c Q A ls S hP hD0 hE hA hl hret
  have hx := S.1
  have hb := S.2.1
  have hown := S.2.2.2.1
  have hts := S.2.2.2.2
  have hK := hE.1
  have hS : va_S A s.heap s.heap [] := va_S.rf
  have hl : lv_has ls 4 [(0, .ref r), (1, .int (nI p)), (2, .int z)] := hl
  refine lv_aload_n hx hb dX0_exchange_0 rfl (lv_at hl 0 rfl) ?_
  refine lv_iload_n hx hb dX0_exchange_1 rfl (lv_at hl 1 rfl) ?_
  refine rwV (rest := []) S (c_X3_read l E r rc f p (by omega)) cd_X3_read bw_203 ⟨Nat.le_of_ble_eq_true rfl, Nat.le_of_ble_eq_true rfl⟩ ⟨Nat.zero_le _, Nat.zero_le _⟩ hP (hD0.con rfl) hE hA hS [0, 1] rfl rfl rfl (ci := 2) rfl (q0 := 0) rfl rfl rfl (Nat.le_of_ble_eq_true rfl) hl.1 dX0_exchange_2 (fun H locs hP _ hS => ?_)
  have hP : va_P E.1 vwCl [(r, .inr (2, [.ref rc])), (rc, .inl (E.2.1, 293, .inl f))] H := hP
  refine lv_istore_n (lv' := [(3, .int (f p)), (0, .ref r), (1, .int (nI p)), (2, .int z)]) hx hb dX0_exchange_5 rfl hl (by decide) rfl (fun ls hl => ?_)
  refine lv_aload_n hx hb dX0_exchange_6 rfl (lv_at hl 1 rfl) ?_
  refine lv_iload_n hx hb dX0_exchange_7 rfl (lv_at hl 2 rfl) ?_
  refine lv_iload_n hx hb dX0_exchange_8 rfl (lv_at hl 3 rfl) ?_
  refine rwVv (rest := []) S (c_X3_write l E r rc f p z (by omega)) cd_X3_write bw_207 ⟨Nat.le_of_ble_eq_true rfl, Nat.le_of_ble_eq_true rfl⟩ ⟨Nat.zero_le _, Nat.zero_le _⟩ hP (hD0.con rfl) hE hA hS [0, 1] rfl rfl rfl (ci := 2) rfl (q0 := 0) rfl rfl rfl (Nat.le_of_ble_eq_true rfl) hl.1 dX0_exchange_9 (fun H locs hP _ hS => ?_)
  have hP : va_P E.1 vwCl [(r, .inr (2, [.ref rc])), (rc, .inl (E.2.1, 293, .inl (upd f p z)))] H := hP
  refine lv_iload_n hx hb dX0_exchange_12 rfl (lv_at hl 0 rfl) ?_
  exact hret _ _ _ _ _ _ rfl rfl rfl hP hS dX0_exchange_13

theorem cd_X0_changeSetting : cdS yX0_changeSetting cX0_changeSetting 3 (some .int) 3 := ⟨⟨bw_192, bw_66, by decide, by decide, by decide +kernel⟩, bw_191⟩
def cSv (f : Nat → Int32) (x : Int32) (z : Int32) : Int32 := if isW x (nI 0) (nI 3) = 0 then (-2) else if isW z (([1, 0, 1, 0] : List Int32).getD (ix x) 0) (([5, 9, 40, 50] : List Int32).getD (ix x) 0) = 0 then (-2) else f (0 + (ix x))
def cSw (f : Nat → Int32) (x : Int32) (z : Int32) : Nat → Int32 := if isW x (nI 0) (nI 3) = 0 then f else if isW z (([1, 0, 1, 0] : List Int32).getD (ix x) 0) (([5, 9, 40, 50] : List Int32).getD (ix x) 0) = 0 then f else upd f (0 + (ix x)) z
set_option maxHeartbeats 4000000 in
set_option maxRecDepth 100000 in
theorem c_X0_changeSetting (l : Launch) (E : EV) (r : Nat) (rc : Nat) (f : Nat → Int32) (x : Int32) (z : Int32)  : rcI l E yX0_changeSetting cX0_changeSetting 3 .int 2 [.ref r, .int x, .int z] [(r, .inr (2, [.ref rc])), (rc, .inl (E.2.1, 293, .inl f))] (cSv f x z) [(r, .inr (2, [.ref rc])), (rc, .inl (E.2.1, 293, .inl (cSw f x z)))] := by
  refine rcI_of (by decide) (Nat.le_of_ble_eq_true rfl) ?_
  intro pg e s m below meth c Q A ls S hP hD0 hE hA hl hret
  have hx := S.1
  have hb := S.2.1
  have hown := S.2.2.2.1
  have hts := S.2.2.2.2
  have hK := hE.1
  have hS : va_S A s.heap s.heap [] := va_S.rf
  have hl : lv_has ls 3 [(0, .ref r), (1, .int x), (2, .int z)] := hl
  refine lv_iload_n hx hb dX0_changeSetting_0 rfl (lv_at hl 1 rfl) ?_
  refine lv_iconst (v := nI 0) hx hb dX0_changeSetting_1 (by decide) ?_
  refine lv_iconst (v := nI 3) hx hb dX0_changeSetting_2 (by decide) ?_
  refine rwN (rest := []) S (c_X7_isWithin l E x (nI 0) (nI 3)) cd_X7_isWithin hE.2.1.1 ⟨Nat.le_of_ble_eq_true rfl, Nat.le_of_ble_eq_true rfl⟩ ⟨Nat.zero_le _, Nat.zero_le _⟩ hP (hD0.con rfl) hE hA hS [] rfl rfl rfl rfl rfl (Nat.le_of_ble_eq_true rfl) hl.1 dX0_changeSetting_3 (fun H locs hP _ hS => ?_)
  have hP : va_P E.1 vwCl [(r, .inr (2, [.ref rc])), (rc, .inl (E.2.1, 293, .inl f))] H := hP
  refine lv_if_eq (tgt := 26) hx hb dX0_changeSetting_6 (by decide) (fun c_1 => ?_) (fun c_1 => ?_)
  · refine lv_bipush (v := (-2)) hx hb dX0_changeSetting_26 (by decide) ?_
    exact hret _ _ _ _ _ _ (by rw [cSv, if_pos c_1]) (by rw [cSw, if_pos c_1]) rfl hP hS dX0_changeSetting_28
  · obtain ⟨i, hi, rfl⟩ : ∃ i : Nat, i < 4 ∧ x = nI i := (isW_of (n := 3) (by omega) c_1)
    refine lv_iload_n hx hb dX0_changeSetting_9 rfl (lv_at hl 2 rfl) ?_
    obtain ⟨tb_L, hZ_L, hT_L⟩ := hE.2.2.2.2.1
    refine va_getsN (host := "TimingLights") hx hb hZ_L hS hown (va_Nw.use rfl hE.2.1.2.2.2.2.2.2.2.2.1) (fun _ h9 => h9) dX0_changeSetting_10 ?_
    refine lv_iload_n hx hb dX0_changeSetting_13 rfl (lv_at hl 1 rfl) ?_
    refine rn_tab (i := i) hx hb hT_L hS (by omega) dX0_changeSetting_14 ?_
    obtain ⟨tb_M, hZ_M, hT_M⟩ := hE.2.2.2.2.2.1
    refine va_getsN (host := "TimingLights") hx hb hZ_M hS hown (va_Nw.use rfl hE.2.1.2.2.2.2.2.2.2.2.2) (fun _ h9 => h9) dX0_changeSetting_15 ?_
    refine lv_iload_n hx hb dX0_changeSetting_18 rfl (lv_at hl 1 rfl) ?_
    refine rn_tab (i := i) hx hb hT_M hS (by omega) dX0_changeSetting_19 ?_
    refine rwN (rest := []) S (c_X7_isWithin l E z (([1, 0, 1, 0] : List Int32).getD i 0) (([5, 9, 40, 50] : List Int32).getD i 0)) cd_X7_isWithin hE.2.1.1 ⟨Nat.le_of_ble_eq_true rfl, Nat.le_of_ble_eq_true rfl⟩ ⟨Nat.zero_le _, Nat.zero_le _⟩ hP (hD0.con rfl) hE hA hS [] rfl rfl rfl rfl rfl (Nat.le_of_ble_eq_true rfl) hl.1 dX0_changeSetting_20 (fun H locs hP _ hS => ?_)
    have hP : va_P E.1 vwCl [(r, .inr (2, [.ref rc])), (rc, .inl (E.2.1, 293, .inl f))] H := hP
    refine lv_if_ne (tgt := 29) hx hb dX0_changeSetting_23 (by decide) (fun c_2 => ?_) (fun c_2 => ?_)
    · refine lv_aload_n hx hb dX0_changeSetting_29 rfl (lv_at hl 0 rfl) ?_
      refine lv_iconst (v := nI 0) hx hb dX0_changeSetting_30 (by decide) ?_
      refine lv_iload_n hx hb dX0_changeSetting_31 rfl (lv_at hl 1 rfl) ?_
      refine rn_add (a := 0) (b := i) hx hb dX0_changeSetting_32 ?_
      refine lv_iload_n hx hb dX0_changeSetting_33 rfl (lv_at hl 2 rfl) ?_
      refine rwS (rest := []) S (c_X0_exchange l E r rc f (0 + i) z (by omega)) cd_X0_exchange bw_200 ⟨Nat.le_of_ble_eq_true rfl, Nat.le_of_ble_eq_true rfl⟩ ⟨Nat.zero_le _, Nat.zero_le _⟩ hP (hD0.con rfl) hE hA hS [0, 1] rfl rfl rfl rfl rfl (Nat.le_of_ble_eq_true rfl) hl.1 dX0_changeSetting_34 (fun H locs hP _ hS => ?_)
      have hP : va_P E.1 vwCl [(r, .inr (2, [.ref rc])), (rc, .inl (E.2.1, 293, .inl (upd f (0 + i) z)))] H := hP
      exact hret _ _ _ _ _ _ (by first | rw [cSv, ix_nI (show i < 2 ^ 31 by omega), if_neg c_1, if_neg c_2] | rw [cSv, if_neg c_1, if_neg c_2] | simp only [cSv, ix_nI (show i < 2 ^ 31 by omega), if_neg c_1, if_neg c_2]) (by first | rw [cSw, ix_nI (show i < 2 ^ 31 by omega), if_neg c_1, if_neg c_2] | rw [cSw, if_neg c_1, if_neg c_2] | simp only [cSw, ix_nI (show i < 2 ^ 31 by omega), if_neg c_1, if_neg c_2]) rfl hP hS dX0_changeSetting_37
    · refine lv_bipush (v := (-2)) hx hb dX0_changeSetting_26 (by decide) ?_
      exact hret _ _ _ _ _ _ (by first | rw [cSv, ix_nI (show i < 2 ^ 31 by omega), if_neg c_1, if_pos c_2] | rw [cSv, if_neg c_1, if_pos c_2] | simp only [cSv, ix_nI (show i < 2 ^ 31 by omega), if_neg c_1, if_pos c_2]) (by first | rw [cSw, ix_nI (show i < 2 ^ 31 by omega), if_neg c_1, if_pos c_2] | rw [cSw, if_neg c_1, if_pos c_2] | simp only [cSw, ix_nI (show i < 2 ^ 31 by omega), if_neg c_1, if_pos c_2]) rfl hP hS dX0_changeSetting_28

theorem cd_X0_addShot : cdS yX0_addShot cX0_addShot 7 (some .int) 6 := ⟨⟨bw_233, bw_66, by decide, by decide, by decide +kernel⟩, bw_232⟩
def cAv (f : Nat → Int32) (n : Nat) (x : Int32) (ft : Int32) (re : Int32) (gr : Int32) (bl : Int32) : Int32 := if isW x (nI 0) (nI n) = 0 then (-1) else if isW ft (nI 1) (nI 99) = 0 then (-2) else if isP re = 0 then (-2) else if isP gr = 0 then (-2) else if isP bl = 0 then (-2) else if n < 20 then nI (n + 1) else (-4)
def cAw (f : Nat → Int32) (n : Nat) (x : Int32) (ft : Int32) (re : Int32) (gr : Int32) (bl : Int32) : Nat → Int32 := if isW x (nI 0) (nI n) = 0 then f else if isW ft (nI 1) (nI 99) = 0 then f else if isP re = 0 then f else if isP gr = 0 then f else if isP bl = 0 then f else if n < 20 then (upd (upd (upd (upd (upd (upd (upd (upd (upd (upd (upd (opS f n (ix x)) (13 + 14 * (ix x) + 0) ft) (13 + 14 * (ix x) + 1) (nI 0)) (13 + 14 * (ix x) + 2) re) (13 + 14 * (ix x) + 3) gr) (13 + 14 * (ix x) + 4) bl) (13 + 14 * (ix x) + 5) (nI 0)) (13 + 14 * (ix x) + 8) (nI 25)) (13 + 14 * (ix x) + 6) (nI 0)) (13 + 14 * (ix x) + 9) (nI 25)) (13 + 14 * (ix x) + 7) (nI 0)) (13 + 14 * (ix x) + 10) (nI 25)) else f
set_option maxHeartbeats 4000000 in
set_option maxRecDepth 100000 in
theorem c_X0_addShot (l : Launch) (E : EV) (r : Nat) (rc : Nat) (f : Nat → Int32) (n : Nat) (x : Int32) (ft : Int32) (re : Int32) (gr : Int32) (bl : Int32) (hf : f 12 = nI n) (hn : n ≤ 20) : rcI l E yX0_addShot cX0_addShot 7 .int 3 [.ref r, .int x, .int ft, .int re, .int gr, .int bl] [(r, .inr (2, [.ref rc])), (rc, .inl (E.2.1, 293, .inl f))] (cAv f n x ft re gr bl) [(r, .inr (2, [.ref rc])), (rc, .inl (E.2.1, 293, .inl (cAw f n x ft re gr bl)))] := by
  refine rcI_of (by decide) (Nat.le_of_ble_eq_true rfl) ?_
  intro pg e s m below meth c Q A ls S hP hD0 hE hA hl hret
  have hx := S.1
  have hb := S.2.1
  have hown := S.2.2.2.1
  have hts := S.2.2.2.2
  have hK := hE.1
  have hS : va_S A s.heap s.heap [] := va_S.rf
  have hl : lv_has ls 7 [(0, .ref r), (1, .int x), (2, .int ft), (3, .int re), (4, .int gr), (5, .int bl)] := hl
  refine lv_iload_n hx hb dX0_addShot_0 rfl (lv_at hl 1 rfl) ?_
  refine lv_iconst (v := nI 0) hx hb dX0_addShot_1 (by decide) ?_
  refine lv_aload_n hx hb dX0_addShot_2 rfl (lv_at hl 0 rfl) ?_
  refine rwV (rest := [.int (nI 0), .int x]) S (c_X3_shots l E r rc f n hf) cd_X3_shots bw_234 ⟨Nat.le_of_ble_eq_true rfl, Nat.le_of_ble_eq_true rfl⟩ ⟨Nat.zero_le _, Nat.zero_le _⟩ hP (hD0.con rfl) hE hA hS [0, 1] rfl rfl rfl (ci := 2) rfl (q0 := 0) rfl rfl rfl (Nat.le_of_ble_eq_true rfl) hl.1 dX0_addShot_3 (fun H locs hP _ hS => ?_)
  have hP : va_P E.1 vwCl [(r, .inr (2, [.ref rc])), (rc, .inl (E.2.1, 293, .inl f))] H := hP
  refine rwN (rest := []) S (c_X7_isWithin l E x (nI 0) (nI n)) cd_X7_isWithin hE.2.1.1 ⟨Nat.le_of_ble_eq_true rfl, Nat.le_of_ble_eq_true rfl⟩ ⟨Nat.zero_le _, Nat.zero_le _⟩ hP (hD0.con rfl) hE hA hS [] rfl rfl rfl rfl rfl (Nat.le_of_ble_eq_true rfl) hl.1 dX0_addShot_6 (fun H locs hP _ hS => ?_)
  have hP : va_P E.1 vwCl [(r, .inr (2, [.ref rc])), (rc, .inl (E.2.1, 293, .inl f))] H := hP
  refine lv_if_ne (tgt := 14) hx hb dX0_addShot_9 (by decide) (fun c_1 => ?_) (fun c_1 => ?_)
  · obtain ⟨p, hp, rfl⟩ : ∃ p : Nat, p < n + 1 ∧ x = nI p := (isW_of (by omega) c_1)
    refine lv_iload_n hx hb dX0_addShot_14 rfl (lv_at hl 2 rfl) ?_
    refine lv_iconst (v := nI 1) hx hb dX0_addShot_15 (by decide) ?_
    refine lv_bipush (v := nI 99) hx hb dX0_addShot_16 (by decide) ?_
    refine rwN (rest := []) S (c_X7_isWithin l E ft (nI 1) (nI 99)) cd_X7_isWithin hE.2.1.1 ⟨Nat.le_of_ble_eq_true rfl, Nat.le_of_ble_eq_true rfl⟩ ⟨Nat.zero_le _, Nat.zero_le _⟩ hP (hD0.con rfl) hE hA hS [] rfl rfl rfl rfl rfl (Nat.le_of_ble_eq_true rfl) hl.1 dX0_addShot_18 (fun H locs hP _ hS => ?_)
    have hP : va_P E.1 vwCl [(r, .inr (2, [.ref rc])), (rc, .inl (E.2.1, 293, .inl f))] H := hP
    refine lv_if_eq (tgt := 47) hx hb dX0_addShot_21 (by decide) (fun c_2 => ?_) (fun c_2 => ?_)
    · refine lv_bipush (v := (-2)) hx hb dX0_addShot_47 (by decide) ?_
      exact hret _ _ _ _ _ _ (by first | rw [cAv, ix_nI (show p < 2 ^ 31 by omega), if_neg c_1, if_pos c_2] | rw [cAv, if_neg c_1, if_pos c_2] | simp only [cAv, ix_nI (show p < 2 ^ 31 by omega), if_neg c_1, if_pos c_2]) (by first | rw [cAw, ix_nI (show p < 2 ^ 31 by omega), if_neg c_1, if_pos c_2] | rw [cAw, if_neg c_1, if_pos c_2] | simp only [cAw, ix_nI (show p < 2 ^ 31 by omega), if_neg c_1, if_pos c_2]) rfl hP hS dX0_addShot_49
    · refine lv_iload_n hx hb dX0_addShot_24 rfl (lv_at hl 3 rfl) ?_
      refine rwN (rest := []) S (c_X7_isPoints l E re) cd_X7_isPoints hE.2.1.2.1 ⟨Nat.le_of_ble_eq_true rfl, Nat.le_of_ble_eq_true rfl⟩ ⟨Nat.zero_le _, Nat.zero_le _⟩ hP (hD0.con rfl) hE hA hS [] rfl rfl rfl rfl rfl (Nat.le_of_ble_eq_true rfl) hl.1 dX0_addShot_25 (fun H locs hP _ hS => ?_)
      have hP : va_P E.1 vwCl [(r, .inr (2, [.ref rc])), (rc, .inl (E.2.1, 293, .inl f))] H := hP
      refine lv_if_eq (tgt := 47) hx hb dX0_addShot_28 (by decide) (fun c_3 => ?_) (fun c_3 => ?_)
      · refine lv_bipush (v := (-2)) hx hb dX0_addShot_47 (by decide) ?_
        exact hret _ _ _ _ _ _ (by first | rw [cAv, ix_nI (show p < 2 ^ 31 by omega), if_neg c_1, if_neg c_2, if_pos c_3] | rw [cAv, if_neg c_1, if_neg c_2, if_pos c_3] | simp only [cAv, ix_nI (show p < 2 ^ 31 by omega), if_neg c_1, if_neg c_2, if_pos c_3]) (by first | rw [cAw, ix_nI (show p < 2 ^ 31 by omega), if_neg c_1, if_neg c_2, if_pos c_3] | rw [cAw, if_neg c_1, if_neg c_2, if_pos c_3] | simp only [cAw, ix_nI (show p < 2 ^ 31 by omega), if_neg c_1, if_neg c_2, if_pos c_3]) rfl hP hS dX0_addShot_49
      · refine lv_iload hx hb dX0_addShot_31 (lv_at hl 4 rfl) ?_
        refine rwN (rest := []) S (c_X7_isPoints l E gr) cd_X7_isPoints hE.2.1.2.1 ⟨Nat.le_of_ble_eq_true rfl, Nat.le_of_ble_eq_true rfl⟩ ⟨Nat.zero_le _, Nat.zero_le _⟩ hP (hD0.con rfl) hE hA hS [] rfl rfl rfl rfl rfl (Nat.le_of_ble_eq_true rfl) hl.1 dX0_addShot_33 (fun H locs hP _ hS => ?_)
        have hP : va_P E.1 vwCl [(r, .inr (2, [.ref rc])), (rc, .inl (E.2.1, 293, .inl f))] H := hP
        refine lv_if_eq (tgt := 47) hx hb dX0_addShot_36 (by decide) (fun c_4 => ?_) (fun c_4 => ?_)
        · refine lv_bipush (v := (-2)) hx hb dX0_addShot_47 (by decide) ?_
          exact hret _ _ _ _ _ _ (by first | rw [cAv, ix_nI (show p < 2 ^ 31 by omega), if_neg c_1, if_neg c_2, if_neg c_3, if_pos c_4] | rw [cAv, if_neg c_1, if_neg c_2, if_neg c_3, if_pos c_4] | simp only [cAv, ix_nI (show p < 2 ^ 31 by omega), if_neg c_1, if_neg c_2, if_neg c_3, if_pos c_4]) (by first | rw [cAw, ix_nI (show p < 2 ^ 31 by omega), if_neg c_1, if_neg c_2, if_neg c_3, if_pos c_4] | rw [cAw, if_neg c_1, if_neg c_2, if_neg c_3, if_pos c_4] | simp only [cAw, ix_nI (show p < 2 ^ 31 by omega), if_neg c_1, if_neg c_2, if_neg c_3, if_pos c_4]) rfl hP hS dX0_addShot_49
        · refine lv_iload hx hb dX0_addShot_39 (lv_at hl 5 rfl) ?_
          refine rwN (rest := []) S (c_X7_isPoints l E bl) cd_X7_isPoints hE.2.1.2.1 ⟨Nat.le_of_ble_eq_true rfl, Nat.le_of_ble_eq_true rfl⟩ ⟨Nat.zero_le _, Nat.zero_le _⟩ hP (hD0.con rfl) hE hA hS [] rfl rfl rfl rfl rfl (Nat.le_of_ble_eq_true rfl) hl.1 dX0_addShot_41 (fun H locs hP _ hS => ?_)
          have hP : va_P E.1 vwCl [(r, .inr (2, [.ref rc])), (rc, .inl (E.2.1, 293, .inl f))] H := hP
          refine lv_if_ne (tgt := 50) hx hb dX0_addShot_44 (by decide) (fun c_5 => ?_) (fun c_5 => ?_)
          · refine lv_aload_n hx hb dX0_addShot_50 rfl (lv_at hl 0 rfl) ?_
            refine rwV (rest := []) S (c_X3_shots l E r rc f n hf) cd_X3_shots bw_234 ⟨Nat.le_of_ble_eq_true rfl, Nat.le_of_ble_eq_true rfl⟩ ⟨Nat.zero_le _, Nat.zero_le _⟩ hP (hD0.con rfl) hE hA hS [0, 1] rfl rfl rfl (ci := 2) rfl (q0 := 0) rfl rfl rfl (Nat.le_of_ble_eq_true rfl) hl.1 dX0_addShot_51 (fun H locs hP _ hS => ?_)
            have hP : va_P E.1 vwCl [(r, .inr (2, [.ref rc])), (rc, .inl (E.2.1, 293, .inl f))] H := hP
            refine lv_bipush (v := nI 20) hx hb dX0_addShot_54 (by decide) ?_
            refine rn_icmp_lt (a := n) (b := 20) (tgt := 62) hx hb (by omega) (by omega) dX0_addShot_56 (by decide) (fun c_6 => ?_) (fun c_6 => ?_)
            · refine lv_aload_n hx hb dX0_addShot_62 rfl (lv_at hl 0 rfl) ?_
              refine lv_iload_n hx hb dX0_addShot_63 rfl (lv_at hl 1 rfl) ?_
              refine rwVv (rest := []) S (c_X3_openPlace l E r rc f n p hf c_6 (by omega)) cd_X3_openPlace bw_243 ⟨Nat.le_of_ble_eq_true rfl, Nat.le_of_ble_eq_true rfl⟩ ⟨Nat.zero_le _, Nat.zero_le _⟩ hP (hD0.con rfl) hE hA hS [0, 1] rfl rfl rfl (ci := 2) rfl (q0 := 0) rfl rfl rfl (Nat.le_of_ble_eq_true rfl) hl.1 dX0_addShot_64 (fun H locs hP _ hS => ?_)
              have hP : va_P E.1 vwCl [(r, .inr (2, [.ref rc])), (rc, .inl (E.2.1, 293, .inl (opS f n p)))] H := hP
              refine lv_aload_n hx hb dX0_addShot_67 rfl (lv_at hl 0 rfl) ?_
              refine lv_iload_n hx hb dX0_addShot_68 rfl (lv_at hl 1 rfl) ?_
              refine lv_iconst (v := nI 0) hx hb dX0_addShot_69 (by decide) ?_
              refine lv_iload_n hx hb dX0_addShot_70 rfl (lv_at hl 2 rfl) ?_
              refine rwVv (rest := []) S (c_X3_writeShot l E r rc (opS f n p) p 0 ft (by omega) (by omega)) cd_X3_writeShot bw_264 ⟨Nat.le_of_ble_eq_true rfl, Nat.le_of_ble_eq_true rfl⟩ ⟨Nat.zero_le _, Nat.zero_le _⟩ hP (hD0.con rfl) hE hA hS [0, 1] rfl rfl rfl (ci := 2) rfl (q0 := 0) rfl rfl rfl (Nat.le_of_ble_eq_true rfl) hl.1 dX0_addShot_71 (fun H locs hP _ hS => ?_)
              have hP : va_P E.1 vwCl [(r, .inr (2, [.ref rc])), (rc, .inl (E.2.1, 293, .inl (upd (opS f n p) (13 + 14 * p + 0) ft)))] H := hP
              refine lv_aload_n hx hb dX0_addShot_74 rfl (lv_at hl 0 rfl) ?_
              refine lv_iload_n hx hb dX0_addShot_75 rfl (lv_at hl 1 rfl) ?_
              refine lv_iconst (v := nI 1) hx hb dX0_addShot_76 (by decide) ?_
              refine lv_iconst (v := nI 0) hx hb dX0_addShot_77 (by decide) ?_
              refine rwVv (rest := []) S (c_X3_writeShot l E r rc (upd (opS f n p) (13 + 14 * p + 0) ft) p 1 (nI 0) (by omega) (by omega)) cd_X3_writeShot bw_264 ⟨Nat.le_of_ble_eq_true rfl, Nat.le_of_ble_eq_true rfl⟩ ⟨Nat.zero_le _, Nat.zero_le _⟩ hP (hD0.con rfl) hE hA hS [0, 1] rfl rfl rfl (ci := 2) rfl (q0 := 0) rfl rfl rfl (Nat.le_of_ble_eq_true rfl) hl.1 dX0_addShot_78 (fun H locs hP _ hS => ?_)
              have hP : va_P E.1 vwCl [(r, .inr (2, [.ref rc])), (rc, .inl (E.2.1, 293, .inl (upd (upd (opS f n p) (13 + 14 * p + 0) ft) (13 + 14 * p + 1) (nI 0))))] H := hP
              refine lv_aload_n hx hb dX0_addShot_81 rfl (lv_at hl 0 rfl) ?_
              refine lv_iload_n hx hb dX0_addShot_82 rfl (lv_at hl 1 rfl) ?_
              refine lv_iconst (v := nI 2) hx hb dX0_addShot_83 (by decide) ?_
              refine lv_iload_n hx hb dX0_addShot_84 rfl (lv_at hl 3 rfl) ?_
              refine rwVv (rest := []) S (c_X3_writeShot l E r rc (upd (upd (opS f n p) (13 + 14 * p + 0) ft) (13 + 14 * p + 1) (nI 0)) p 2 re (by omega) (by omega)) cd_X3_writeShot bw_264 ⟨Nat.le_of_ble_eq_true rfl, Nat.le_of_ble_eq_true rfl⟩ ⟨Nat.zero_le _, Nat.zero_le _⟩ hP (hD0.con rfl) hE hA hS [0, 1] rfl rfl rfl (ci := 2) rfl (q0 := 0) rfl rfl rfl (Nat.le_of_ble_eq_true rfl) hl.1 dX0_addShot_85 (fun H locs hP _ hS => ?_)
              have hP : va_P E.1 vwCl [(r, .inr (2, [.ref rc])), (rc, .inl (E.2.1, 293, .inl (upd (upd (upd (opS f n p) (13 + 14 * p + 0) ft) (13 + 14 * p + 1) (nI 0)) (13 + 14 * p + 2) re)))] H := hP
              refine lv_aload_n hx hb dX0_addShot_88 rfl (lv_at hl 0 rfl) ?_
              refine lv_iload_n hx hb dX0_addShot_89 rfl (lv_at hl 1 rfl) ?_
              refine lv_iconst (v := nI 3) hx hb dX0_addShot_90 (by decide) ?_
              refine lv_iload hx hb dX0_addShot_91 (lv_at hl 4 rfl) ?_
              refine rwVv (rest := []) S (c_X3_writeShot l E r rc (upd (upd (upd (opS f n p) (13 + 14 * p + 0) ft) (13 + 14 * p + 1) (nI 0)) (13 + 14 * p + 2) re) p 3 gr (by omega) (by omega)) cd_X3_writeShot bw_264 ⟨Nat.le_of_ble_eq_true rfl, Nat.le_of_ble_eq_true rfl⟩ ⟨Nat.zero_le _, Nat.zero_le _⟩ hP (hD0.con rfl) hE hA hS [0, 1] rfl rfl rfl (ci := 2) rfl (q0 := 0) rfl rfl rfl (Nat.le_of_ble_eq_true rfl) hl.1 dX0_addShot_93 (fun H locs hP _ hS => ?_)
              have hP : va_P E.1 vwCl [(r, .inr (2, [.ref rc])), (rc, .inl (E.2.1, 293, .inl (upd (upd (upd (upd (opS f n p) (13 + 14 * p + 0) ft) (13 + 14 * p + 1) (nI 0)) (13 + 14 * p + 2) re) (13 + 14 * p + 3) gr)))] H := hP
              refine lv_aload_n hx hb dX0_addShot_96 rfl (lv_at hl 0 rfl) ?_
              refine lv_iload_n hx hb dX0_addShot_97 rfl (lv_at hl 1 rfl) ?_
              refine lv_iconst (v := nI 4) hx hb dX0_addShot_98 (by decide) ?_
              refine lv_iload hx hb dX0_addShot_99 (lv_at hl 5 rfl) ?_
              refine rwVv (rest := []) S (c_X3_writeShot l E r rc (upd (upd (upd (upd (opS f n p) (13 + 14 * p + 0) ft) (13 + 14 * p + 1) (nI 0)) (13 + 14 * p + 2) re) (13 + 14 * p + 3) gr) p 4 bl (by omega) (by omega)) cd_X3_writeShot bw_264 ⟨Nat.le_of_ble_eq_true rfl, Nat.le_of_ble_eq_true rfl⟩ ⟨Nat.zero_le _, Nat.zero_le _⟩ hP (hD0.con rfl) hE hA hS [0, 1] rfl rfl rfl (ci := 2) rfl (q0 := 0) rfl rfl rfl (Nat.le_of_ble_eq_true rfl) hl.1 dX0_addShot_101 (fun H locs hP _ hS => ?_)
              have hP : va_P E.1 vwCl [(r, .inr (2, [.ref rc])), (rc, .inl (E.2.1, 293, .inl (upd (upd (upd (upd (upd (opS f n p) (13 + 14 * p + 0) ft) (13 + 14 * p + 1) (nI 0)) (13 + 14 * p + 2) re) (13 + 14 * p + 3) gr) (13 + 14 * p + 4) bl)))] H := hP
              refine lv_iconst (v := nI 0) hx hb dX0_addShot_104 (by decide) ?_
              refine lv_istore (lv' := [(6, .int (nI 0)), (0, .ref r), (1, .int (nI p)), (2, .int ft), (3, .int re), (4, .int gr), (5, .int bl)]) hx hb dX0_addShot_105 hl (by decide) rfl (fun ls hl => ?_)
              refine lv_iload hx hb dX0_addShot_107 (lv_at hl 0 rfl) ?_
              refine lv_iconst (v := nI 3) hx hb dX0_addShot_109 (by decide) ?_
              refine rn_icmp_ge (a := 0) (b := 3) (tgt := 141) hx hb (by omega) (by omega) dX0_addShot_110 (by decide) (fun c_7 => absurd c_7 (by omega)) (fun c_7 => ?_)
              refine lv_aload_n hx hb dX0_addShot_113 rfl (lv_at hl 1 rfl) ?_
              refine lv_iload_n hx hb dX0_addShot_114 rfl (lv_at hl 2 rfl) ?_
              refine lv_iconst (v := nI 5) hx hb dX0_addShot_115 (by decide) ?_
              refine lv_iload hx hb dX0_addShot_116 (lv_at hl 0 rfl) ?_
              refine rn_add (a := 5) (b := 0) hx hb dX0_addShot_118 ?_
              refine lv_iconst (v := nI 0) hx hb dX0_addShot_119 (by decide) ?_
              refine rwVv (rest := []) S (c_X3_writeShot l E r rc (upd (upd (upd (upd (upd (opS f n p) (13 + 14 * p + 0) ft) (13 + 14 * p + 1) (nI 0)) (13 + 14 * p + 2) re) (13 + 14 * p + 3) gr) (13 + 14 * p + 4) bl) p 5 (nI 0) (by omega) (by omega)) cd_X3_writeShot bw_264 ⟨Nat.le_of_ble_eq_true rfl, Nat.le_of_ble_eq_true rfl⟩ ⟨Nat.zero_le _, Nat.zero_le _⟩ hP (hD0.con rfl) hE hA hS [0, 1] rfl rfl rfl (ci := 2) rfl (q0 := 0) rfl rfl rfl (Nat.le_of_ble_eq_true rfl) hl.1 dX0_addShot_120 (fun H locs hP _ hS => ?_)
              have hP : va_P E.1 vwCl [(r, .inr (2, [.ref rc])), (rc, .inl (E.2.1, 293, .inl (upd (upd (upd (upd (upd (upd (opS f n p) (13 + 14 * p + 0) ft) (13 + 14 * p + 1) (nI 0)) (13 + 14 * p + 2) re) (13 + 14 * p + 3) gr) (13 + 14 * p + 4) bl) (13 + 14 * p + 5) (nI 0))))] H := hP
              refine lv_aload_n hx hb dX0_addShot_123 rfl (lv_at hl 1 rfl) ?_
              refine lv_iload_n hx hb dX0_addShot_124 rfl (lv_at hl 2 rfl) ?_
              refine lv_bipush (v := nI 8) hx hb dX0_addShot_125 (by decide) ?_
              refine lv_iload hx hb dX0_addShot_127 (lv_at hl 0 rfl) ?_
              refine rn_add (a := 8) (b := 0) hx hb dX0_addShot_129 ?_
              refine lv_bipush (v := nI 25) hx hb dX0_addShot_130 (by decide) ?_
              refine rwVv (rest := []) S (c_X3_writeShot l E r rc (upd (upd (upd (upd (upd (upd (opS f n p) (13 + 14 * p + 0) ft) (13 + 14 * p + 1) (nI 0)) (13 + 14 * p + 2) re) (13 + 14 * p + 3) gr) (13 + 14 * p + 4) bl) (13 + 14 * p + 5) (nI 0)) p 8 (nI 25) (by omega) (by omega)) cd_X3_writeShot bw_264 ⟨Nat.le_of_ble_eq_true rfl, Nat.le_of_ble_eq_true rfl⟩ ⟨Nat.zero_le _, Nat.zero_le _⟩ hP (hD0.con rfl) hE hA hS [0, 1] rfl rfl rfl (ci := 2) rfl (q0 := 0) rfl rfl rfl (Nat.le_of_ble_eq_true rfl) hl.1 dX0_addShot_132 (fun H locs hP _ hS => ?_)
              have hP : va_P E.1 vwCl [(r, .inr (2, [.ref rc])), (rc, .inl (E.2.1, 293, .inl (upd (upd (upd (upd (upd (upd (upd (opS f n p) (13 + 14 * p + 0) ft) (13 + 14 * p + 1) (nI 0)) (13 + 14 * p + 2) re) (13 + 14 * p + 3) gr) (13 + 14 * p + 4) bl) (13 + 14 * p + 5) (nI 0)) (13 + 14 * p + 8) (nI 25))))] H := hP
              refine rn_inc (a := 0) (d := 1) (lv' := [(6, .int (nI 1)), (0, .ref r), (1, .int (nI p)), (2, .int ft), (3, .int re), (4, .int gr), (5, .int bl)]) hx hb dX0_addShot_135 hl (k := 0) rfl (by decide) (by decide) rfl (fun ls hl => ?_)
              refine lv_goto (tgt := 107) hx hb dX0_addShot_138 (by decide) ?_
              refine lv_iload hx hb dX0_addShot_107 (lv_at hl 0 rfl) ?_
              refine lv_iconst (v := nI 3) hx hb dX0_addShot_109 (by decide) ?_
              refine rn_icmp_ge (a := 1) (b := 3) (tgt := 141) hx hb (by omega) (by omega) dX0_addShot_110 (by decide) (fun c_8 => absurd c_8 (by omega)) (fun c_8 => ?_)
              refine lv_aload_n hx hb dX0_addShot_113 rfl (lv_at hl 1 rfl) ?_
              refine lv_iload_n hx hb dX0_addShot_114 rfl (lv_at hl 2 rfl) ?_
              refine lv_iconst (v := nI 5) hx hb dX0_addShot_115 (by decide) ?_
              refine lv_iload hx hb dX0_addShot_116 (lv_at hl 0 rfl) ?_
              refine rn_add (a := 5) (b := 1) hx hb dX0_addShot_118 ?_
              refine lv_iconst (v := nI 0) hx hb dX0_addShot_119 (by decide) ?_
              refine rwVv (rest := []) S (c_X3_writeShot l E r rc (upd (upd (upd (upd (upd (upd (upd (opS f n p) (13 + 14 * p + 0) ft) (13 + 14 * p + 1) (nI 0)) (13 + 14 * p + 2) re) (13 + 14 * p + 3) gr) (13 + 14 * p + 4) bl) (13 + 14 * p + 5) (nI 0)) (13 + 14 * p + 8) (nI 25)) p 6 (nI 0) (by omega) (by omega)) cd_X3_writeShot bw_264 ⟨Nat.le_of_ble_eq_true rfl, Nat.le_of_ble_eq_true rfl⟩ ⟨Nat.zero_le _, Nat.zero_le _⟩ hP (hD0.con rfl) hE hA hS [0, 1] rfl rfl rfl (ci := 2) rfl (q0 := 0) rfl rfl rfl (Nat.le_of_ble_eq_true rfl) hl.1 dX0_addShot_120 (fun H locs hP _ hS => ?_)
              have hP : va_P E.1 vwCl [(r, .inr (2, [.ref rc])), (rc, .inl (E.2.1, 293, .inl (upd (upd (upd (upd (upd (upd (upd (upd (opS f n p) (13 + 14 * p + 0) ft) (13 + 14 * p + 1) (nI 0)) (13 + 14 * p + 2) re) (13 + 14 * p + 3) gr) (13 + 14 * p + 4) bl) (13 + 14 * p + 5) (nI 0)) (13 + 14 * p + 8) (nI 25)) (13 + 14 * p + 6) (nI 0))))] H := hP
              refine lv_aload_n hx hb dX0_addShot_123 rfl (lv_at hl 1 rfl) ?_
              refine lv_iload_n hx hb dX0_addShot_124 rfl (lv_at hl 2 rfl) ?_
              refine lv_bipush (v := nI 8) hx hb dX0_addShot_125 (by decide) ?_
              refine lv_iload hx hb dX0_addShot_127 (lv_at hl 0 rfl) ?_
              refine rn_add (a := 8) (b := 1) hx hb dX0_addShot_129 ?_
              refine lv_bipush (v := nI 25) hx hb dX0_addShot_130 (by decide) ?_
              refine rwVv (rest := []) S (c_X3_writeShot l E r rc (upd (upd (upd (upd (upd (upd (upd (upd (opS f n p) (13 + 14 * p + 0) ft) (13 + 14 * p + 1) (nI 0)) (13 + 14 * p + 2) re) (13 + 14 * p + 3) gr) (13 + 14 * p + 4) bl) (13 + 14 * p + 5) (nI 0)) (13 + 14 * p + 8) (nI 25)) (13 + 14 * p + 6) (nI 0)) p 9 (nI 25) (by omega) (by omega)) cd_X3_writeShot bw_264 ⟨Nat.le_of_ble_eq_true rfl, Nat.le_of_ble_eq_true rfl⟩ ⟨Nat.zero_le _, Nat.zero_le _⟩ hP (hD0.con rfl) hE hA hS [0, 1] rfl rfl rfl (ci := 2) rfl (q0 := 0) rfl rfl rfl (Nat.le_of_ble_eq_true rfl) hl.1 dX0_addShot_132 (fun H locs hP _ hS => ?_)
              have hP : va_P E.1 vwCl [(r, .inr (2, [.ref rc])), (rc, .inl (E.2.1, 293, .inl (upd (upd (upd (upd (upd (upd (upd (upd (upd (opS f n p) (13 + 14 * p + 0) ft) (13 + 14 * p + 1) (nI 0)) (13 + 14 * p + 2) re) (13 + 14 * p + 3) gr) (13 + 14 * p + 4) bl) (13 + 14 * p + 5) (nI 0)) (13 + 14 * p + 8) (nI 25)) (13 + 14 * p + 6) (nI 0)) (13 + 14 * p + 9) (nI 25))))] H := hP
              refine rn_inc (a := 1) (d := 1) (lv' := [(6, .int (nI 2)), (0, .ref r), (1, .int (nI p)), (2, .int ft), (3, .int re), (4, .int gr), (5, .int bl)]) hx hb dX0_addShot_135 hl (k := 0) rfl (by decide) (by decide) rfl (fun ls hl => ?_)
              refine lv_goto (tgt := 107) hx hb dX0_addShot_138 (by decide) ?_
              refine lv_iload hx hb dX0_addShot_107 (lv_at hl 0 rfl) ?_
              refine lv_iconst (v := nI 3) hx hb dX0_addShot_109 (by decide) ?_
              refine rn_icmp_ge (a := 2) (b := 3) (tgt := 141) hx hb (by omega) (by omega) dX0_addShot_110 (by decide) (fun c_9 => absurd c_9 (by omega)) (fun c_9 => ?_)
              refine lv_aload_n hx hb dX0_addShot_113 rfl (lv_at hl 1 rfl) ?_
              refine lv_iload_n hx hb dX0_addShot_114 rfl (lv_at hl 2 rfl) ?_
              refine lv_iconst (v := nI 5) hx hb dX0_addShot_115 (by decide) ?_
              refine lv_iload hx hb dX0_addShot_116 (lv_at hl 0 rfl) ?_
              refine rn_add (a := 5) (b := 2) hx hb dX0_addShot_118 ?_
              refine lv_iconst (v := nI 0) hx hb dX0_addShot_119 (by decide) ?_
              refine rwVv (rest := []) S (c_X3_writeShot l E r rc (upd (upd (upd (upd (upd (upd (upd (upd (upd (opS f n p) (13 + 14 * p + 0) ft) (13 + 14 * p + 1) (nI 0)) (13 + 14 * p + 2) re) (13 + 14 * p + 3) gr) (13 + 14 * p + 4) bl) (13 + 14 * p + 5) (nI 0)) (13 + 14 * p + 8) (nI 25)) (13 + 14 * p + 6) (nI 0)) (13 + 14 * p + 9) (nI 25)) p 7 (nI 0) (by omega) (by omega)) cd_X3_writeShot bw_264 ⟨Nat.le_of_ble_eq_true rfl, Nat.le_of_ble_eq_true rfl⟩ ⟨Nat.zero_le _, Nat.zero_le _⟩ hP (hD0.con rfl) hE hA hS [0, 1] rfl rfl rfl (ci := 2) rfl (q0 := 0) rfl rfl rfl (Nat.le_of_ble_eq_true rfl) hl.1 dX0_addShot_120 (fun H locs hP _ hS => ?_)
              have hP : va_P E.1 vwCl [(r, .inr (2, [.ref rc])), (rc, .inl (E.2.1, 293, .inl (upd (upd (upd (upd (upd (upd (upd (upd (upd (upd (opS f n p) (13 + 14 * p + 0) ft) (13 + 14 * p + 1) (nI 0)) (13 + 14 * p + 2) re) (13 + 14 * p + 3) gr) (13 + 14 * p + 4) bl) (13 + 14 * p + 5) (nI 0)) (13 + 14 * p + 8) (nI 25)) (13 + 14 * p + 6) (nI 0)) (13 + 14 * p + 9) (nI 25)) (13 + 14 * p + 7) (nI 0))))] H := hP
              refine lv_aload_n hx hb dX0_addShot_123 rfl (lv_at hl 1 rfl) ?_
              refine lv_iload_n hx hb dX0_addShot_124 rfl (lv_at hl 2 rfl) ?_
              refine lv_bipush (v := nI 8) hx hb dX0_addShot_125 (by decide) ?_
              refine lv_iload hx hb dX0_addShot_127 (lv_at hl 0 rfl) ?_
              refine rn_add (a := 8) (b := 2) hx hb dX0_addShot_129 ?_
              refine lv_bipush (v := nI 25) hx hb dX0_addShot_130 (by decide) ?_
              refine rwVv (rest := []) S (c_X3_writeShot l E r rc (upd (upd (upd (upd (upd (upd (upd (upd (upd (upd (opS f n p) (13 + 14 * p + 0) ft) (13 + 14 * p + 1) (nI 0)) (13 + 14 * p + 2) re) (13 + 14 * p + 3) gr) (13 + 14 * p + 4) bl) (13 + 14 * p + 5) (nI 0)) (13 + 14 * p + 8) (nI 25)) (13 + 14 * p + 6) (nI 0)) (13 + 14 * p + 9) (nI 25)) (13 + 14 * p + 7) (nI 0)) p 10 (nI 25) (by omega) (by omega)) cd_X3_writeShot bw_264 ⟨Nat.le_of_ble_eq_true rfl, Nat.le_of_ble_eq_true rfl⟩ ⟨Nat.zero_le _, Nat.zero_le _⟩ hP (hD0.con rfl) hE hA hS [0, 1] rfl rfl rfl (ci := 2) rfl (q0 := 0) rfl rfl rfl (Nat.le_of_ble_eq_true rfl) hl.1 dX0_addShot_132 (fun H locs hP _ hS => ?_)
              have hP : va_P E.1 vwCl [(r, .inr (2, [.ref rc])), (rc, .inl (E.2.1, 293, .inl (upd (upd (upd (upd (upd (upd (upd (upd (upd (upd (upd (opS f n p) (13 + 14 * p + 0) ft) (13 + 14 * p + 1) (nI 0)) (13 + 14 * p + 2) re) (13 + 14 * p + 3) gr) (13 + 14 * p + 4) bl) (13 + 14 * p + 5) (nI 0)) (13 + 14 * p + 8) (nI 25)) (13 + 14 * p + 6) (nI 0)) (13 + 14 * p + 9) (nI 25)) (13 + 14 * p + 7) (nI 0)) (13 + 14 * p + 10) (nI 25))))] H := hP
              refine rn_inc (a := 2) (d := 1) (lv' := [(6, .int (nI 3)), (0, .ref r), (1, .int (nI p)), (2, .int ft), (3, .int re), (4, .int gr), (5, .int bl)]) hx hb dX0_addShot_135 hl (k := 0) rfl (by decide) (by decide) rfl (fun ls hl => ?_)
              refine lv_goto (tgt := 107) hx hb dX0_addShot_138 (by decide) ?_
              refine lv_iload hx hb dX0_addShot_107 (lv_at hl 0 rfl) ?_
              refine lv_iconst (v := nI 3) hx hb dX0_addShot_109 (by decide) ?_
              refine rn_icmp_ge (a := 3) (b := 3) (tgt := 141) hx hb (by omega) (by omega) dX0_addShot_110 (by decide) (fun c_10 => ?_) (fun c_10 => absurd c_10 (by omega))
              refine lv_aload_n hx hb dX0_addShot_141 rfl (lv_at hl 1 rfl) ?_
              refine rwV (rest := []) S (c_X3_shots l E r rc (upd (upd (upd (upd (upd (upd (upd (upd (upd (upd (upd (opS f n p) (13 + 14 * p + 0) ft) (13 + 14 * p + 1) (nI 0)) (13 + 14 * p + 2) re) (13 + 14 * p + 3) gr) (13 + 14 * p + 4) bl) (13 + 14 * p + 5) (nI 0)) (13 + 14 * p + 8) (nI 25)) (13 + 14 * p + 6) (nI 0)) (13 + 14 * p + 9) (nI 25)) (13 + 14 * p + 7) (nI 0)) (13 + 14 * p + 10) (nI 25)) (n + 1) ((pk_un (by omega)).trans ((pk_un (by omega)).trans ((pk_un (by omega)).trans ((pk_un (by omega)).trans ((pk_un (by omega)).trans ((pk_un (by omega)).trans ((pk_un (by omega)).trans ((pk_un (by omega)).trans ((pk_un (by omega)).trans ((pk_un (by omega)).trans ((pk_un (by omega)).trans pk_us)))))))))))) cd_X3_shots bw_234 ⟨Nat.le_of_ble_eq_true rfl, Nat.le_of_ble_eq_true rfl⟩ ⟨Nat.zero_le _, Nat.zero_le _⟩ hP (hD0.con rfl) hE hA hS [0, 1] rfl rfl rfl (ci := 2) rfl (q0 := 0) rfl rfl rfl (Nat.le_of_ble_eq_true rfl) hl.1 dX0_addShot_142 (fun H locs hP _ hS => ?_)
              have hP : va_P E.1 vwCl [(r, .inr (2, [.ref rc])), (rc, .inl (E.2.1, 293, .inl (upd (upd (upd (upd (upd (upd (upd (upd (upd (upd (upd (opS f n p) (13 + 14 * p + 0) ft) (13 + 14 * p + 1) (nI 0)) (13 + 14 * p + 2) re) (13 + 14 * p + 3) gr) (13 + 14 * p + 4) bl) (13 + 14 * p + 5) (nI 0)) (13 + 14 * p + 8) (nI 25)) (13 + 14 * p + 6) (nI 0)) (13 + 14 * p + 9) (nI 25)) (13 + 14 * p + 7) (nI 0)) (13 + 14 * p + 10) (nI 25))))] H := hP
              exact hret _ _ _ _ _ _ (by first | rw [cAv, ix_nI (show p < 2 ^ 31 by omega), if_neg c_1, if_neg c_2, if_neg c_3, if_neg c_4, if_neg c_5, if_pos c_6] | rw [cAv, if_neg c_1, if_neg c_2, if_neg c_3, if_neg c_4, if_neg c_5, if_pos c_6] | simp only [cAv, ix_nI (show p < 2 ^ 31 by omega), if_neg c_1, if_neg c_2, if_neg c_3, if_neg c_4, if_neg c_5, if_pos c_6]) (by first | rw [cAw, ix_nI (show p < 2 ^ 31 by omega), if_neg c_1, if_neg c_2, if_neg c_3, if_neg c_4, if_neg c_5, if_pos c_6] | rw [cAw, if_neg c_1, if_neg c_2, if_neg c_3, if_neg c_4, if_neg c_5, if_pos c_6] | simp only [cAw, ix_nI (show p < 2 ^ 31 by omega), if_neg c_1, if_neg c_2, if_neg c_3, if_neg c_4, if_neg c_5, if_pos c_6]) rfl hP hS dX0_addShot_145
            · refine lv_bipush (v := (-4)) hx hb dX0_addShot_59 (by decide) ?_
              exact hret _ _ _ _ _ _ (by first | rw [cAv, ix_nI (show p < 2 ^ 31 by omega), if_neg c_1, if_neg c_2, if_neg c_3, if_neg c_4, if_neg c_5, if_neg c_6] | rw [cAv, if_neg c_1, if_neg c_2, if_neg c_3, if_neg c_4, if_neg c_5, if_neg c_6] | simp only [cAv, ix_nI (show p < 2 ^ 31 by omega), if_neg c_1, if_neg c_2, if_neg c_3, if_neg c_4, if_neg c_5, if_neg c_6]) (by first | rw [cAw, ix_nI (show p < 2 ^ 31 by omega), if_neg c_1, if_neg c_2, if_neg c_3, if_neg c_4, if_neg c_5, if_neg c_6] | rw [cAw, if_neg c_1, if_neg c_2, if_neg c_3, if_neg c_4, if_neg c_5, if_neg c_6] | simp only [cAw, ix_nI (show p < 2 ^ 31 by omega), if_neg c_1, if_neg c_2, if_neg c_3, if_neg c_4, if_neg c_5, if_neg c_6]) rfl hP hS dX0_addShot_61
          · refine lv_bipush (v := (-2)) hx hb dX0_addShot_47 (by decide) ?_
            exact hret _ _ _ _ _ _ (by first | rw [cAv, ix_nI (show p < 2 ^ 31 by omega), if_neg c_1, if_neg c_2, if_neg c_3, if_neg c_4, if_pos c_5] | rw [cAv, if_neg c_1, if_neg c_2, if_neg c_3, if_neg c_4, if_pos c_5] | simp only [cAv, ix_nI (show p < 2 ^ 31 by omega), if_neg c_1, if_neg c_2, if_neg c_3, if_neg c_4, if_pos c_5]) (by first | rw [cAw, ix_nI (show p < 2 ^ 31 by omega), if_neg c_1, if_neg c_2, if_neg c_3, if_neg c_4, if_pos c_5] | rw [cAw, if_neg c_1, if_neg c_2, if_neg c_3, if_neg c_4, if_pos c_5] | simp only [cAw, ix_nI (show p < 2 ^ 31 by omega), if_neg c_1, if_neg c_2, if_neg c_3, if_neg c_4, if_pos c_5]) rfl hP hS dX0_addShot_49
  · refine lv_iconst (v := (-1)) hx hb dX0_addShot_12 (by decide) ?_
    exact hret _ _ _ _ _ _ (by rw [cAv, if_pos c_1]) (by rw [cAw, if_pos c_1]) rfl hP hS dX0_addShot_13

theorem cd_X0_dropShot : cdS yX0_dropShot cX0_dropShot 2 (some .int) 2 := ⟨⟨bw_271, bw_66, by decide, by decide, by decide +kernel⟩, bw_270⟩
def cDv (f : Nat → Int32) (n : Nat) (x : Int32) : Int32 := if hasS n x = 0 then (-1) else nI (n - 1)
def cDw (f : Nat → Int32) (n : Nat) (x : Int32) : Nat → Int32 := if hasS n x = 0 then f else (clS f n (ix x))
set_option maxHeartbeats 4000000 in
set_option maxRecDepth 100000 in
theorem c_X0_dropShot (l : Launch) (E : EV) (r : Nat) (rc : Nat) (f : Nat → Int32) (n : Nat) (x : Int32) (hf : f 12 = nI n) (hn : n ≤ 20) : rcI l E yX0_dropShot cX0_dropShot 2 .int 3 [.ref r, .int x] [(r, .inr (2, [.ref rc])), (rc, .inl (E.2.1, 293, .inl f))] (cDv f n x) [(r, .inr (2, [.ref rc])), (rc, .inl (E.2.1, 293, .inl (cDw f n x)))] := by
  refine rcI_of (by decide) (Nat.le_of_ble_eq_true rfl) ?_
  intro pg e s m below meth c Q A ls S hP hD0 hE hA hl hret
  have hx := S.1
  have hb := S.2.1
  have hown := S.2.2.2.1
  have hts := S.2.2.2.2
  have hK := hE.1
  have hS : va_S A s.heap s.heap [] := va_S.rf
  have hl : lv_has ls 2 [(0, .ref r), (1, .int x)] := hl
  refine lv_aload_n hx hb dX0_dropShot_0 rfl (lv_at hl 0 rfl) ?_
  refine lv_iload_n hx hb dX0_dropShot_1 rfl (lv_at hl 1 rfl) ?_
  refine rwV (rest := []) S (c_X3_hasShot l E r rc f n x hf) cd_X3_hasShot bw_272 ⟨Nat.le_of_ble_eq_true rfl, Nat.le_of_ble_eq_true rfl⟩ ⟨Nat.zero_le _, Nat.zero_le _⟩ hP (hD0.con rfl) hE hA hS [0, 1] rfl rfl rfl (ci := 2) rfl (q0 := 0) rfl rfl rfl (Nat.le_of_ble_eq_true rfl) hl.1 dX0_dropShot_2 (fun H locs hP _ hS => ?_)
  have hP : va_P E.1 vwCl [(r, .inr (2, [.ref rc])), (rc, .inl (E.2.1, 293, .inl f))] H := hP
  refine lv_if_ne (tgt := 10) hx hb dX0_dropShot_5 (by decide) (fun c_1 => ?_) (fun c_1 => ?_)
  · obtain ⟨p, hp, rfl⟩ : ∃ p : Nat, p < n ∧ x = nI p := (hasS_of (by omega) c_1)
    refine lv_aload_n hx hb dX0_dropShot_10 rfl (lv_at hl 0 rfl) ?_
    refine lv_iload_n hx hb dX0_dropShot_11 rfl (lv_at hl 1 rfl) ?_
    refine rwVv (rest := []) S (c_X3_closePlace l E r rc f n p hf (by omega) (by omega)) cd_X3_closePlace bw_276 ⟨Nat.le_of_ble_eq_true rfl, Nat.le_of_ble_eq_true rfl⟩ ⟨Nat.zero_le _, Nat.zero_le _⟩ hP (hD0.con rfl) hE hA hS [0, 1] rfl rfl rfl (ci := 2) rfl (q0 := 0) rfl rfl rfl (Nat.le_of_ble_eq_true rfl) hl.1 dX0_dropShot_12 (fun H locs hP _ hS => ?_)
    have hP : va_P E.1 vwCl [(r, .inr (2, [.ref rc])), (rc, .inl (E.2.1, 293, .inl (clS f n p)))] H := hP
    refine lv_aload_n hx hb dX0_dropShot_15 rfl (lv_at hl 0 rfl) ?_
    refine rwV (rest := []) S (c_X3_shots l E r rc (clS f n p) (n - 1) pk_us) cd_X3_shots bw_234 ⟨Nat.le_of_ble_eq_true rfl, Nat.le_of_ble_eq_true rfl⟩ ⟨Nat.zero_le _, Nat.zero_le _⟩ hP (hD0.con rfl) hE hA hS [0, 1] rfl rfl rfl (ci := 2) rfl (q0 := 0) rfl rfl rfl (Nat.le_of_ble_eq_true rfl) hl.1 dX0_dropShot_16 (fun H locs hP _ hS => ?_)
    have hP : va_P E.1 vwCl [(r, .inr (2, [.ref rc])), (rc, .inl (E.2.1, 293, .inl (clS f n p)))] H := hP
    exact hret _ _ _ _ _ _ (by first | rw [cDv, ix_nI (show p < 2 ^ 31 by omega), if_neg c_1] | rw [cDv, if_neg c_1] | simp only [cDv, ix_nI (show p < 2 ^ 31 by omega), if_neg c_1]) (by first | rw [cDw, ix_nI (show p < 2 ^ 31 by omega), if_neg c_1] | rw [cDw, if_neg c_1] | simp only [cDw, ix_nI (show p < 2 ^ 31 by omega), if_neg c_1]) rfl hP hS dX0_dropShot_19
  · refine lv_iconst (v := (-1)) hx hb dX0_dropShot_8 (by decide) ?_
    exact hret _ _ _ _ _ _ (by rw [cDv, if_pos c_1]) (by rw [cDw, if_pos c_1]) rfl hP hS dX0_dropShot_9

theorem cd_X0_changeLight : cdS yX0_changeLight cX0_changeLight 5 (some .int) 4 := ⟨⟨bw_286, bw_66, by decide, by decide, by decide +kernel⟩, bw_285⟩
def cLv (f : Nat → Int32) (n : Nat) (x : Int32) (y : Int32) (z : Int32) : Int32 := if hasS n x = 0 then (-1) else if isC y = 0 then (-2) else if isP z = 0 then (-2) else f (13 + 14 * (ix x) + (8 + (ix y)))
def cLw (f : Nat → Int32) (n : Nat) (x : Int32) (y : Int32) (z : Int32) : Nat → Int32 := if hasS n x = 0 then f else if isC y = 0 then f else if isP z = 0 then f else upd f (13 + 14 * (ix x) + (8 + (ix y))) z
set_option maxHeartbeats 4000000 in
set_option maxRecDepth 100000 in
theorem c_X0_changeLight (l : Launch) (E : EV) (r : Nat) (rc : Nat) (f : Nat → Int32) (n : Nat) (x : Int32) (y : Int32) (z : Int32) (hf : f 12 = nI n) (hn : n ≤ 20) : rcI l E yX0_changeLight cX0_changeLight 5 .int 3 [.ref r, .int x, .int y, .int z] [(r, .inr (2, [.ref rc])), (rc, .inl (E.2.1, 293, .inl f))] (cLv f n x y z) [(r, .inr (2, [.ref rc])), (rc, .inl (E.2.1, 293, .inl (cLw f n x y z)))] := by
  refine rcI_of (by decide) (Nat.le_of_ble_eq_true rfl) ?_
  intro pg e s m below meth c Q A ls S hP hD0 hE hA hl hret
  have hx := S.1
  have hb := S.2.1
  have hown := S.2.2.2.1
  have hts := S.2.2.2.2
  have hK := hE.1
  have hS : va_S A s.heap s.heap [] := va_S.rf
  have hl : lv_has ls 5 [(0, .ref r), (1, .int x), (2, .int y), (3, .int z)] := hl
  refine lv_aload_n hx hb dX0_changeLight_0 rfl (lv_at hl 0 rfl) ?_
  refine lv_iload_n hx hb dX0_changeLight_1 rfl (lv_at hl 1 rfl) ?_
  refine rwV (rest := []) S (c_X3_hasShot l E r rc f n x hf) cd_X3_hasShot bw_272 ⟨Nat.le_of_ble_eq_true rfl, Nat.le_of_ble_eq_true rfl⟩ ⟨Nat.zero_le _, Nat.zero_le _⟩ hP (hD0.con rfl) hE hA hS [0, 1] rfl rfl rfl (ci := 2) rfl (q0 := 0) rfl rfl rfl (Nat.le_of_ble_eq_true rfl) hl.1 dX0_changeLight_2 (fun H locs hP _ hS => ?_)
  have hP : va_P E.1 vwCl [(r, .inr (2, [.ref rc])), (rc, .inl (E.2.1, 293, .inl f))] H := hP
  refine lv_if_ne (tgt := 10) hx hb dX0_changeLight_5 (by decide) (fun c_1 => ?_) (fun c_1 => ?_)
  · obtain ⟨p, hp, rfl⟩ : ∃ p : Nat, p < n ∧ x = nI p := (hasS_of (by omega) c_1)
    refine lv_iload_n hx hb dX0_changeLight_10 rfl (lv_at hl 2 rfl) ?_
    refine rwN (rest := []) S (c_X7_isColour l E y) cd_X7_isColour hE.2.1.2.2.1 ⟨Nat.le_of_ble_eq_true rfl, Nat.le_of_ble_eq_true rfl⟩ ⟨Nat.zero_le _, Nat.zero_le _⟩ hP (hD0.con rfl) hE hA hS [] rfl rfl rfl rfl rfl (Nat.le_of_ble_eq_true rfl) hl.1 dX0_changeLight_11 (fun H locs hP _ hS => ?_)
    have hP : va_P E.1 vwCl [(r, .inr (2, [.ref rc])), (rc, .inl (E.2.1, 293, .inl f))] H := hP
    refine lv_if_eq (tgt := 24) hx hb dX0_changeLight_14 (by decide) (fun c_2 => ?_) (fun c_2 => ?_)
    · refine lv_bipush (v := (-2)) hx hb dX0_changeLight_24 (by decide) ?_
      exact hret _ _ _ _ _ _ (by first | rw [cLv, ix_nI (show p < 2 ^ 31 by omega), if_neg c_1, if_pos c_2] | rw [cLv, if_neg c_1, if_pos c_2] | simp only [cLv, ix_nI (show p < 2 ^ 31 by omega), if_neg c_1, if_pos c_2]) (by first | rw [cLw, ix_nI (show p < 2 ^ 31 by omega), if_neg c_1, if_pos c_2] | rw [cLw, if_neg c_1, if_pos c_2] | simp only [cLw, ix_nI (show p < 2 ^ 31 by omega), if_neg c_1, if_pos c_2]) rfl hP hS dX0_changeLight_26
    · obtain ⟨co, hco, rfl⟩ : ∃ co : Nat, co < 3 ∧ y = nI co := (isC_of c_2)
      refine lv_iload_n hx hb dX0_changeLight_17 rfl (lv_at hl 3 rfl) ?_
      refine rwN (rest := []) S (c_X7_isPoints l E z) cd_X7_isPoints hE.2.1.2.1 ⟨Nat.le_of_ble_eq_true rfl, Nat.le_of_ble_eq_true rfl⟩ ⟨Nat.zero_le _, Nat.zero_le _⟩ hP (hD0.con rfl) hE hA hS [] rfl rfl rfl rfl rfl (Nat.le_of_ble_eq_true rfl) hl.1 dX0_changeLight_18 (fun H locs hP _ hS => ?_)
      have hP : va_P E.1 vwCl [(r, .inr (2, [.ref rc])), (rc, .inl (E.2.1, 293, .inl f))] H := hP
      refine lv_if_ne (tgt := 27) hx hb dX0_changeLight_21 (by decide) (fun c_3 => ?_) (fun c_3 => ?_)
      · refine lv_aload_n hx hb dX0_changeLight_27 rfl (lv_at hl 0 rfl) ?_
        refine lv_iload_n hx hb dX0_changeLight_28 rfl (lv_at hl 1 rfl) ?_
        refine lv_bipush (v := nI 8) hx hb dX0_changeLight_29 (by decide) ?_
        refine lv_iload_n hx hb dX0_changeLight_31 rfl (lv_at hl 2 rfl) ?_
        refine rn_add (a := 8) (b := co) hx hb dX0_changeLight_32 ?_
        refine rwV (rest := []) S (c_X3_readShot l E r rc f p (8 + co) (by omega) (by omega)) cd_X3_readShot bw_290 ⟨Nat.le_of_ble_eq_true rfl, Nat.le_of_ble_eq_true rfl⟩ ⟨Nat.zero_le _, Nat.zero_le _⟩ hP (hD0.con rfl) hE hA hS [0, 1] rfl rfl rfl (ci := 2) rfl (q0 := 0) rfl rfl rfl (Nat.le_of_ble_eq_true rfl) hl.1 dX0_changeLight_33 (fun H locs hP _ hS => ?_)
        have hP : va_P E.1 vwCl [(r, .inr (2, [.ref rc])), (rc, .inl (E.2.1, 293, .inl f))] H := hP
        refine lv_istore (lv' := [(4, .int (f (13 + 14 * p + (8 + co)))), (0, .ref r), (1, .int (nI p)), (2, .int (nI co)), (3, .int z)]) hx hb dX0_changeLight_36 hl (by decide) rfl (fun ls hl => ?_)
        refine lv_aload_n hx hb dX0_changeLight_38 rfl (lv_at hl 1 rfl) ?_
        refine lv_iload_n hx hb dX0_changeLight_39 rfl (lv_at hl 2 rfl) ?_
        refine lv_bipush (v := nI 8) hx hb dX0_changeLight_40 (by decide) ?_
        refine lv_iload_n hx hb dX0_changeLight_42 rfl (lv_at hl 3 rfl) ?_
        refine rn_add (a := 8) (b := co) hx hb dX0_changeLight_43 ?_
        refine lv_iload_n hx hb dX0_changeLight_44 rfl (lv_at hl 4 rfl) ?_
        refine rwVv (rest := []) S (c_X3_writeShot l E r rc f p (8 + co) z (by omega) (by omega)) cd_X3_writeShot bw_264 ⟨Nat.le_of_ble_eq_true rfl, Nat.le_of_ble_eq_true rfl⟩ ⟨Nat.zero_le _, Nat.zero_le _⟩ hP (hD0.con rfl) hE hA hS [0, 1] rfl rfl rfl (ci := 2) rfl (q0 := 0) rfl rfl rfl (Nat.le_of_ble_eq_true rfl) hl.1 dX0_changeLight_45 (fun H locs hP _ hS => ?_)
        have hP : va_P E.1 vwCl [(r, .inr (2, [.ref rc])), (rc, .inl (E.2.1, 293, .inl (upd f (13 + 14 * p + (8 + co)) z)))] H := hP
        refine lv_iload hx hb dX0_changeLight_48 (lv_at hl 0 rfl) ?_
        exact hret _ _ _ _ _ _ (by first | rw [cLv, ix_nI (show p < 2 ^ 31 by omega), ix_nI (show co < 2 ^ 31 by omega), if_neg c_1, if_neg c_2, if_neg c_3] | rw [cLv, if_neg c_1, if_neg c_2, if_neg c_3] | simp only [cLv, ix_nI (show p < 2 ^ 31 by omega), ix_nI (show co < 2 ^ 31 by omega), if_neg c_1, if_neg c_2, if_neg c_3]) (by first | rw [cLw, ix_nI (show p < 2 ^ 31 by omega), ix_nI (show co < 2 ^ 31 by omega), if_neg c_1, if_neg c_2, if_neg c_3] | rw [cLw, if_neg c_1, if_neg c_2, if_neg c_3] | simp only [cLw, ix_nI (show p < 2 ^ 31 by omega), ix_nI (show co < 2 ^ 31 by omega), if_neg c_1, if_neg c_2, if_neg c_3]) rfl hP hS dX0_changeLight_50
      · refine lv_bipush (v := (-2)) hx hb dX0_changeLight_24 (by decide) ?_
        exact hret _ _ _ _ _ _ (by first | rw [cLv, ix_nI (show p < 2 ^ 31 by omega), ix_nI (show co < 2 ^ 31 by omega), if_neg c_1, if_neg c_2, if_pos c_3] | rw [cLv, if_neg c_1, if_neg c_2, if_pos c_3] | simp only [cLv, ix_nI (show p < 2 ^ 31 by omega), ix_nI (show co < 2 ^ 31 by omega), if_neg c_1, if_neg c_2, if_pos c_3]) (by first | rw [cLw, ix_nI (show p < 2 ^ 31 by omega), ix_nI (show co < 2 ^ 31 by omega), if_neg c_1, if_neg c_2, if_pos c_3] | rw [cLw, if_neg c_1, if_neg c_2, if_pos c_3] | simp only [cLw, ix_nI (show p < 2 ^ 31 by omega), ix_nI (show co < 2 ^ 31 by omega), if_neg c_1, if_neg c_2, if_pos c_3]) rfl hP hS dX0_changeLight_26
  · refine lv_iconst (v := (-1)) hx hb dX0_changeLight_8 (by decide) ?_
    exact hret _ _ _ _ _ _ (by rw [cLv, if_pos c_1]) (by rw [cLw, if_pos c_1]) rfl hP hS dX0_changeLight_9

theorem cd_X0_changeWish : cdS yX0_changeWish cX0_changeWish 5 (some .int) 4 := ⟨⟨bw_297, bw_66, by decide, by decide, by decide +kernel⟩, bw_296⟩
def cWv (f : Nat → Int32) (n : Nat) (x : Int32) (y : Int32) (z : Int32) : Int32 := if hasS n x = 0 then (-1) else if isC y = 0 then (-2) else if isW z (-10) (nI 10) = 0 then (-2) else f (13 + 14 * (ix x) + (5 + (ix y))) + (nI 10)
def cWw (f : Nat → Int32) (n : Nat) (x : Int32) (y : Int32) (z : Int32) : Nat → Int32 := if hasS n x = 0 then f else if isC y = 0 then f else if isW z (-10) (nI 10) = 0 then f else upd f (13 + 14 * (ix x) + (5 + (ix y))) z
set_option maxHeartbeats 4000000 in
set_option maxRecDepth 100000 in
theorem c_X0_changeWish (l : Launch) (E : EV) (r : Nat) (rc : Nat) (f : Nat → Int32) (n : Nat) (x : Int32) (y : Int32) (z : Int32) (hf : f 12 = nI n) (hn : n ≤ 20) : rcI l E yX0_changeWish cX0_changeWish 5 .int 3 [.ref r, .int x, .int y, .int z] [(r, .inr (2, [.ref rc])), (rc, .inl (E.2.1, 293, .inl f))] (cWv f n x y z) [(r, .inr (2, [.ref rc])), (rc, .inl (E.2.1, 293, .inl (cWw f n x y z)))] := by
  refine rcI_of (by decide) (Nat.le_of_ble_eq_true rfl) ?_
  intro pg e s m below meth c Q A ls S hP hD0 hE hA hl hret
  have hx := S.1
  have hb := S.2.1
  have hown := S.2.2.2.1
  have hts := S.2.2.2.2
  have hK := hE.1
  have hS : va_S A s.heap s.heap [] := va_S.rf
  have hl : lv_has ls 5 [(0, .ref r), (1, .int x), (2, .int y), (3, .int z)] := hl
  refine lv_aload_n hx hb dX0_changeWish_0 rfl (lv_at hl 0 rfl) ?_
  refine lv_iload_n hx hb dX0_changeWish_1 rfl (lv_at hl 1 rfl) ?_
  refine rwV (rest := []) S (c_X3_hasShot l E r rc f n x hf) cd_X3_hasShot bw_272 ⟨Nat.le_of_ble_eq_true rfl, Nat.le_of_ble_eq_true rfl⟩ ⟨Nat.zero_le _, Nat.zero_le _⟩ hP (hD0.con rfl) hE hA hS [0, 1] rfl rfl rfl (ci := 2) rfl (q0 := 0) rfl rfl rfl (Nat.le_of_ble_eq_true rfl) hl.1 dX0_changeWish_2 (fun H locs hP _ hS => ?_)
  have hP : va_P E.1 vwCl [(r, .inr (2, [.ref rc])), (rc, .inl (E.2.1, 293, .inl f))] H := hP
  refine lv_if_ne (tgt := 10) hx hb dX0_changeWish_5 (by decide) (fun c_1 => ?_) (fun c_1 => ?_)
  · obtain ⟨p, hp, rfl⟩ : ∃ p : Nat, p < n ∧ x = nI p := (hasS_of (by omega) c_1)
    refine lv_iload_n hx hb dX0_changeWish_10 rfl (lv_at hl 2 rfl) ?_
    refine rwN (rest := []) S (c_X7_isColour l E y) cd_X7_isColour hE.2.1.2.2.1 ⟨Nat.le_of_ble_eq_true rfl, Nat.le_of_ble_eq_true rfl⟩ ⟨Nat.zero_le _, Nat.zero_le _⟩ hP (hD0.con rfl) hE hA hS [] rfl rfl rfl rfl rfl (Nat.le_of_ble_eq_true rfl) hl.1 dX0_changeWish_11 (fun H locs hP _ hS => ?_)
    have hP : va_P E.1 vwCl [(r, .inr (2, [.ref rc])), (rc, .inl (E.2.1, 293, .inl f))] H := hP
    refine lv_if_eq (tgt := 28) hx hb dX0_changeWish_14 (by decide) (fun c_2 => ?_) (fun c_2 => ?_)
    · refine lv_bipush (v := (-2)) hx hb dX0_changeWish_28 (by decide) ?_
      exact hret _ _ _ _ _ _ (by first | rw [cWv, ix_nI (show p < 2 ^ 31 by omega), if_neg c_1, if_pos c_2] | rw [cWv, if_neg c_1, if_pos c_2] | simp only [cWv, ix_nI (show p < 2 ^ 31 by omega), if_neg c_1, if_pos c_2]) (by first | rw [cWw, ix_nI (show p < 2 ^ 31 by omega), if_neg c_1, if_pos c_2] | rw [cWw, if_neg c_1, if_pos c_2] | simp only [cWw, ix_nI (show p < 2 ^ 31 by omega), if_neg c_1, if_pos c_2]) rfl hP hS dX0_changeWish_30
    · obtain ⟨co, hco, rfl⟩ : ∃ co : Nat, co < 3 ∧ y = nI co := (isC_of c_2)
      refine lv_iload_n hx hb dX0_changeWish_17 rfl (lv_at hl 3 rfl) ?_
      refine lv_bipush (v := (-10)) hx hb dX0_changeWish_18 (by decide) ?_
      refine lv_bipush (v := nI 10) hx hb dX0_changeWish_20 (by decide) ?_
      refine rwN (rest := []) S (c_X7_isWithin l E z (-10) (nI 10)) cd_X7_isWithin hE.2.1.1 ⟨Nat.le_of_ble_eq_true rfl, Nat.le_of_ble_eq_true rfl⟩ ⟨Nat.zero_le _, Nat.zero_le _⟩ hP (hD0.con rfl) hE hA hS [] rfl rfl rfl rfl rfl (Nat.le_of_ble_eq_true rfl) hl.1 dX0_changeWish_22 (fun H locs hP _ hS => ?_)
      have hP : va_P E.1 vwCl [(r, .inr (2, [.ref rc])), (rc, .inl (E.2.1, 293, .inl f))] H := hP
      refine lv_if_ne (tgt := 31) hx hb dX0_changeWish_25 (by decide) (fun c_3 => ?_) (fun c_3 => ?_)
      · refine lv_aload_n hx hb dX0_changeWish_31 rfl (lv_at hl 0 rfl) ?_
        refine lv_iload_n hx hb dX0_changeWish_32 rfl (lv_at hl 1 rfl) ?_
        refine lv_iconst (v := nI 5) hx hb dX0_changeWish_33 (by decide) ?_
        refine lv_iload_n hx hb dX0_changeWish_34 rfl (lv_at hl 2 rfl) ?_
        refine rn_add (a := 5) (b := co) hx hb dX0_changeWish_35 ?_
        refine rwV (rest := []) S (c_X3_readShot l E r rc f p (5 + co) (by omega) (by omega)) cd_X3_readShot bw_290 ⟨Nat.le_of_ble_eq_true rfl, Nat.le_of_ble_eq_true rfl⟩ ⟨Nat.zero_le _, Nat.zero_le _⟩ hP (hD0.con rfl) hE hA hS [0, 1] rfl rfl rfl (ci := 2) rfl (q0 := 0) rfl rfl rfl (Nat.le_of_ble_eq_true rfl) hl.1 dX0_changeWish_36 (fun H locs hP _ hS => ?_)
        have hP : va_P E.1 vwCl [(r, .inr (2, [.ref rc])), (rc, .inl (E.2.1, 293, .inl f))] H := hP
        refine lv_istore (lv' := [(4, .int (f (13 + 14 * p + (5 + co)))), (0, .ref r), (1, .int (nI p)), (2, .int (nI co)), (3, .int z)]) hx hb dX0_changeWish_39 hl (by decide) rfl (fun ls hl => ?_)
        refine lv_aload_n hx hb dX0_changeWish_41 rfl (lv_at hl 1 rfl) ?_
        refine lv_iload_n hx hb dX0_changeWish_42 rfl (lv_at hl 2 rfl) ?_
        refine lv_iconst (v := nI 5) hx hb dX0_changeWish_43 (by decide) ?_
        refine lv_iload_n hx hb dX0_changeWish_44 rfl (lv_at hl 3 rfl) ?_
        refine rn_add (a := 5) (b := co) hx hb dX0_changeWish_45 ?_
        refine lv_iload_n hx hb dX0_changeWish_46 rfl (lv_at hl 4 rfl) ?_
        refine rwVv (rest := []) S (c_X3_writeShot l E r rc f p (5 + co) z (by omega) (by omega)) cd_X3_writeShot bw_264 ⟨Nat.le_of_ble_eq_true rfl, Nat.le_of_ble_eq_true rfl⟩ ⟨Nat.zero_le _, Nat.zero_le _⟩ hP (hD0.con rfl) hE hA hS [0, 1] rfl rfl rfl (ci := 2) rfl (q0 := 0) rfl rfl rfl (Nat.le_of_ble_eq_true rfl) hl.1 dX0_changeWish_47 (fun H locs hP _ hS => ?_)
        have hP : va_P E.1 vwCl [(r, .inr (2, [.ref rc])), (rc, .inl (E.2.1, 293, .inl (upd f (13 + 14 * p + (5 + co)) z)))] H := hP
        refine lv_iload hx hb dX0_changeWish_50 (lv_at hl 0 rfl) ?_
        refine lv_bipush (v := nI 10) hx hb dX0_changeWish_52 (by decide) ?_
        refine lv_iadd hx hb dX0_changeWish_54 ?_
        exact hret _ _ _ _ _ _ (by first | rw [cWv, ix_nI (show p < 2 ^ 31 by omega), ix_nI (show co < 2 ^ 31 by omega), if_neg c_1, if_neg c_2, if_neg c_3] | rw [cWv, if_neg c_1, if_neg c_2, if_neg c_3] | simp only [cWv, ix_nI (show p < 2 ^ 31 by omega), ix_nI (show co < 2 ^ 31 by omega), if_neg c_1, if_neg c_2, if_neg c_3]) (by first | rw [cWw, ix_nI (show p < 2 ^ 31 by omega), ix_nI (show co < 2 ^ 31 by omega), if_neg c_1, if_neg c_2, if_neg c_3] | rw [cWw, if_neg c_1, if_neg c_2, if_neg c_3] | simp only [cWw, ix_nI (show p < 2 ^ 31 by omega), ix_nI (show co < 2 ^ 31 by omega), if_neg c_1, if_neg c_2, if_neg c_3]) rfl hP hS dX0_changeWish_55
      · refine lv_bipush (v := (-2)) hx hb dX0_changeWish_28 (by decide) ?_
        exact hret _ _ _ _ _ _ (by first | rw [cWv, ix_nI (show p < 2 ^ 31 by omega), ix_nI (show co < 2 ^ 31 by omega), if_neg c_1, if_neg c_2, if_pos c_3] | rw [cWv, if_neg c_1, if_neg c_2, if_pos c_3] | simp only [cWv, ix_nI (show p < 2 ^ 31 by omega), ix_nI (show co < 2 ^ 31 by omega), if_neg c_1, if_neg c_2, if_pos c_3]) (by first | rw [cWw, ix_nI (show p < 2 ^ 31 by omega), ix_nI (show co < 2 ^ 31 by omega), if_neg c_1, if_neg c_2, if_pos c_3] | rw [cWw, if_neg c_1, if_neg c_2, if_pos c_3] | simp only [cWw, ix_nI (show p < 2 ^ 31 by omega), ix_nI (show co < 2 ^ 31 by omega), if_neg c_1, if_neg c_2, if_pos c_3]) rfl hP hS dX0_changeWish_30
  · refine lv_iconst (v := (-1)) hx hb dX0_changeWish_8 (by decide) ?_
    exact hret _ _ _ _ _ _ (by rw [cWv, if_pos c_1]) (by rw [cWw, if_pos c_1]) rfl hP hS dX0_changeWish_9
end
