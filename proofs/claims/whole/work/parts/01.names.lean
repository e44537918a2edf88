-- ===== PART A: goes FIRST, ahead of the names: the tables' words, and 'selects' of the private methods out of them =====
/-- a private method of a class that the tables say can be made, by its rows of tables_1 -/
def lw_okq (q : MethodName × Nat) : Prop := (q.1.cls ≠ "java/lang/invoke/MethodHandle" ∧ q.1.cls ≠ "java/lang/invoke/VarHandle") ∧ Cond.instantiable q.1.cls q.2 ∈ tables_1 ∧ Cond.privateMethod q.1 ∈ tables_1 ∧ Cond.instanceMethod q.1 ∈ tables_1
theorem lw_p0 : lw_okq (⟨"FishCounter$DeliveryText", "readNumber", "(II)I"⟩, 7) := ⟨⟨by decide +kernel, by decide +kernel⟩, List.mem_of_getElem? (i := 174) (by decide +kernel), List.mem_of_getElem? (i := 542) (by decide +kernel), List.mem_of_getElem? (i := 543) (by decide +kernel)⟩
theorem lw_p1 : lw_okq (⟨"FishCounter$DeliveryText", "digitHere", "()I"⟩, 7) := ⟨⟨by decide +kernel, by decide +kernel⟩, List.mem_of_getElem? (i := 174) (by decide +kernel), List.mem_of_getElem? (i := 546) (by decide +kernel), List.mem_of_getElem? (i := 547) (by decide +kernel)⟩
theorem lw_p2 : lw_okq (⟨"FishCounter", "mixedWithLot", "(JI)J"⟩, 5) := ⟨⟨by decide +kernel, by decide +kernel⟩, List.mem_of_getElem? (i := 11) (by decide +kernel), List.mem_of_getElem? (i := 580) (by decide +kernel), List.mem_of_getElem? (i := 581) (by decide +kernel)⟩
theorem lw_p3 : lw_okq (⟨"FishCounter", "mixedWithPlaces", "(J)J"⟩, 5) := ⟨⟨by decide +kernel, by decide +kernel⟩, List.mem_of_getElem? (i := 11) (by decide +kernel), List.mem_of_getElem? (i := 587) (by decide +kernel), List.mem_of_getElem? (i := 588) (by decide +kernel)⟩
theorem lw_p4 : lw_okq (⟨"FishCounterModel", "record", "()V"⟩, 12) := ⟨⟨by decide +kernel, by decide +kernel⟩, List.mem_of_getElem? (i := 596) (by decide +kernel), List.mem_of_getElem? (i := 649) (by decide +kernel), List.mem_of_getElem? (i := 650) (by decide +kernel)⟩
theorem lw_p5 : lw_okq (⟨"FishCounterModel", "whyNotDelivered", "(IIII)I"⟩, 12) := ⟨⟨by decide +kernel, by decide +kernel⟩, List.mem_of_getElem? (i := 596) (by decide +kernel), List.mem_of_getElem? (i := 671) (by decide +kernel), List.mem_of_getElem? (i := 672) (by decide +kernel)⟩
theorem lw_p6 : lw_okq (⟨"FishCounterModel", "whyNotRoom", "(I)I"⟩, 12) := ⟨⟨by decide +kernel, by decide +kernel⟩, List.mem_of_getElem? (i := 596) (by decide +kernel), List.mem_of_getElem? (i := 678) (by decide +kernel), List.mem_of_getElem? (i := 679) (by decide +kernel)⟩
theorem lw_p7 : lw_okq (⟨"FishCounterModel", "lotsAt", "(I)I"⟩, 12) := ⟨⟨by decide +kernel, by decide +kernel⟩, List.mem_of_getElem? (i := 596) (by decide +kernel), List.mem_of_getElem? (i := 682) (by decide +kernel), List.mem_of_getElem? (i := 683) (by decide +kernel)⟩
theorem lw_p8 : lw_okq (⟨"FishCounterModel", "part", "(II)I"⟩, 12) := ⟨⟨by decide +kernel, by decide +kernel⟩, List.mem_of_getElem? (i := 596) (by decide +kernel), List.mem_of_getElem? (i := 686) (by decide +kernel), List.mem_of_getElem? (i := 687) (by decide +kernel)⟩
theorem lw_p9 : lw_okq (⟨"FishCounterModel", "delivers", "(IIII)I"⟩, 12) := ⟨⟨by decide +kernel, by decide +kernel⟩, List.mem_of_getElem? (i := 596) (by decide +kernel), List.mem_of_getElem? (i := 690) (by decide +kernel), List.mem_of_getElem? (i := 691) (by decide +kernel)⟩
theorem lw_p10 : lw_okq (⟨"FishCounterModel", "adds", "(IIII)I"⟩, 12) := ⟨⟨by decide +kernel, by decide +kernel⟩, List.mem_of_getElem? (i := 596) (by decide +kernel), List.mem_of_getElem? (i := 697) (by decide +kernel), List.mem_of_getElem? (i := 698) (by decide +kernel)⟩
theorem lw_p11 : lw_okq (⟨"FishCounterModel", "setPart", "(III)V"⟩, 12) := ⟨⟨by decide +kernel, by decide +kernel⟩, List.mem_of_getElem? (i := 596) (by decide +kernel), List.mem_of_getElem? (i := 701) (by decide +kernel), List.mem_of_getElem? (i := 702) (by decide +kernel)⟩
theorem lw_p12 : lw_okq (⟨"FishCounterModel", "ices", "(II)I"⟩, 12) := ⟨⟨by decide +kernel, by decide +kernel⟩, List.mem_of_getElem? (i := 596) (by decide +kernel), List.mem_of_getElem? (i := 709) (by decide +kernel), List.mem_of_getElem? (i := 710) (by decide +kernel)⟩
theorem lw_p13 : lw_okq (⟨"FishCounterModel", "find", "(I)I"⟩, 12) := ⟨⟨by decide +kernel, by decide +kernel⟩, List.mem_of_getElem? (i := 596) (by decide +kernel), List.mem_of_getElem? (i := 724) (by decide +kernel), List.mem_of_getElem? (i := 725) (by decide +kernel)⟩
theorem lw_p14 : lw_okq (⟨"FishCounterModel", "priceOf", "(I)I"⟩, 12) := ⟨⟨by decide +kernel, by decide +kernel⟩, List.mem_of_getElem? (i := 596) (by decide +kernel), List.mem_of_getElem? (i := 728) (by decide +kernel), List.mem_of_getElem? (i := 729) (by decide +kernel)⟩
theorem lw_p15 : lw_okq (⟨"FishCounterModel", "priceWith", "(III)I"⟩, 12) := ⟨⟨by decide +kernel, by decide +kernel⟩, List.mem_of_getElem? (i := 596) (by decide +kernel), List.mem_of_getElem? (i := 732) (by decide +kernel), List.mem_of_getElem? (i := 733) (by decide +kernel)⟩
def lw_privs_1 : List (MethodName × Nat) := [(⟨"FishCounter$DeliveryText", "readNumber", "(II)I"⟩, 7), (⟨"FishCounter$DeliveryText", "digitHere", "()I"⟩, 7), (⟨"FishCounter", "mixedWithLot", "(JI)J"⟩, 5), (⟨"FishCounter", "mixedWithPlaces", "(J)J"⟩, 5), (⟨"FishCounterModel", "record", "()V"⟩, 12), (⟨"FishCounterModel", "whyNotDelivered", "(IIII)I"⟩, 12), (⟨"FishCounterModel", "whyNotRoom", "(I)I"⟩, 12), (⟨"FishCounterModel", "lotsAt", "(I)I"⟩, 12), (⟨"FishCounterModel", "part", "(II)I"⟩, 12), (⟨"FishCounterModel", "delivers", "(IIII)I"⟩, 12), (⟨"FishCounterModel", "adds", "(IIII)I"⟩, 12), (⟨"FishCounterModel", "setPart", "(III)V"⟩, 12), (⟨"FishCounterModel", "ices", "(II)I"⟩, 12), (⟨"FishCounterModel", "find", "(I)I"⟩, 12), (⟨"FishCounterModel", "priceOf", "(I)I"⟩, 12), (⟨"FishCounterModel", "priceWith", "(III)I"⟩, 12)]
theorem lw_r1 : ∀ q ∈ lw_privs_1, lw_okq q := List.forall_mem_cons.mpr ⟨lw_p0, List.forall_mem_cons.mpr ⟨lw_p1, List.forall_mem_cons.mpr ⟨lw_p2, List.forall_mem_cons.mpr ⟨lw_p3, List.forall_mem_cons.mpr ⟨lw_p4, List.forall_mem_cons.mpr ⟨lw_p5, List.forall_mem_cons.mpr ⟨lw_p6, List.forall_mem_cons.mpr ⟨lw_p7, List.forall_mem_cons.mpr ⟨lw_p8, List.forall_mem_cons.mpr ⟨lw_p9, List.forall_mem_cons.mpr ⟨lw_p10, List.forall_mem_cons.mpr ⟨lw_p11, List.forall_mem_cons.mpr ⟨lw_p12, List.forall_mem_cons.mpr ⟨lw_p13, List.forall_mem_cons.mpr ⟨lw_p14, List.forall_mem_cons.mpr ⟨lw_p15, fun _ h => absurd h List.not_mem_nil⟩⟩⟩⟩⟩⟩⟩⟩⟩⟩⟩⟩⟩⟩⟩⟩
theorem lw_p16 : lw_okq (⟨"FishCounterModel", "throwsAway", "(I)V"⟩, 12) := ⟨⟨by decide +kernel, by decide +kernel⟩, List.mem_of_getElem? (i := 596) (by decide +kernel), List.mem_of_getElem? (i := 748) (by decide +kernel), List.mem_of_getElem? (i := 749) (by decide +kernel)⟩
theorem lw_p17 : lw_okq (⟨"FishCounterModel", "drops", "(I)V"⟩, 12) := ⟨⟨by decide +kernel, by decide +kernel⟩, List.mem_of_getElem? (i := 596) (by decide +kernel), List.mem_of_getElem? (i := 752) (by decide +kernel), List.mem_of_getElem? (i := 753) (by decide +kernel)⟩
theorem lw_p18 : lw_okq (⟨"FishCounterModel", "nextFor", "(III)I"⟩, 12) := ⟨⟨by decide +kernel, by decide +kernel⟩, List.mem_of_getElem? (i := 596) (by decide +kernel), List.mem_of_getElem? (i := 760) (by decide +kernel), List.mem_of_getElem? (i := 761) (by decide +kernel)⟩
theorem lw_p19 : lw_okq (⟨"FishCounterModel", "isSold", "(I)Z"⟩, 12) := ⟨⟨by decide +kernel, by decide +kernel⟩, List.mem_of_getElem? (i := 596) (by decide +kernel), List.mem_of_getElem? (i := 767) (by decide +kernel), List.mem_of_getElem? (i := 768) (by decide +kernel)⟩
theorem lw_p20 : lw_okq (⟨"FishCounterModel", "passesHour", "()V"⟩, 12) := ⟨⟨by decide +kernel, by decide +kernel⟩, List.mem_of_getElem? (i := 596) (by decide +kernel), List.mem_of_getElem? (i := 775) (by decide +kernel), List.mem_of_getElem? (i := 776) (by decide +kernel)⟩
theorem lw_p21 : lw_okq (⟨"FishCounterModel", "iceThen", "(II)I"⟩, 12) := ⟨⟨by decide +kernel, by decide +kernel⟩, List.mem_of_getElem? (i := 596) (by decide +kernel), List.mem_of_getElem? (i := 785) (by decide +kernel), List.mem_of_getElem? (i := 786) (by decide +kernel)⟩
theorem lw_p22 : lw_okq (⟨"FishCounterModel", "closes", "()I"⟩, 12) := ⟨⟨by decide +kernel, by decide +kernel⟩, List.mem_of_getElem? (i := 596) (by decide +kernel), List.mem_of_getElem? (i := 793) (by decide +kernel), List.mem_of_getElem? (i := 794) (by decide +kernel)⟩
theorem lw_p23 : lw_okq (⟨"FishCounterModel", "firstAt", "(I)I"⟩, 12) := ⟨⟨by decide +kernel, by decide +kernel⟩, List.mem_of_getElem? (i := 596) (by decide +kernel), List.mem_of_getElem? (i := 797) (by decide +kernel), List.mem_of_getElem? (i := 798) (by decide +kernel)⟩
theorem lw_p24 : lw_okq (⟨"FishCounterModel", "coldest", "()I"⟩, 12) := ⟨⟨by decide +kernel, by decide +kernel⟩, List.mem_of_getElem? (i := 596) (by decide +kernel), List.mem_of_getElem? (i := 801) (by decide +kernel), List.mem_of_getElem? (i := 802) (by decide +kernel)⟩
theorem lw_p25 : lw_okq (⟨"FishCounterModel", "countOf", "(I)J"⟩, 12) := ⟨⟨by decide +kernel, by decide +kernel⟩, List.mem_of_getElem? (i := 596) (by decide +kernel), List.mem_of_getElem? (i := 809) (by decide +kernel), List.mem_of_getElem? (i := 810) (by decide +kernel)⟩
theorem lw_p26 : lw_okq (⟨"FishCounterModel", "allGrams", "()I"⟩, 12) := ⟨⟨by decide +kernel, by decide +kernel⟩, List.mem_of_getElem? (i := 596) (by decide +kernel), List.mem_of_getElem? (i := 813) (by decide +kernel), List.mem_of_getElem? (i := 814) (by decide +kernel)⟩
theorem lw_p27 : lw_okq (⟨"FishCounterModel", "ofLot", "(II)I"⟩, 12) := ⟨⟨by decide +kernel, by decide +kernel⟩, List.mem_of_getElem? (i := 596) (by decide +kernel), List.mem_of_getElem? (i := 822) (by decide +kernel), List.mem_of_getElem? (i := 823) (by decide +kernel)⟩
theorem lw_p28 : lw_okq (⟨"FishCounterModel", "ofBox", "(II)I"⟩, 12) := ⟨⟨by decide +kernel, by decide +kernel⟩, List.mem_of_getElem? (i := 596) (by decide +kernel), List.mem_of_getElem? (i := 830) (by decide +kernel), List.mem_of_getElem? (i := 831) (by decide +kernel)⟩
theorem lw_p29 : lw_okq (⟨"FishCounterModel", "gramsAt", "(I)I"⟩, 12) := ⟨⟨by decide +kernel, by decide +kernel⟩, List.mem_of_getElem? (i := 596) (by decide +kernel), List.mem_of_getElem? (i := 834) (by decide +kernel), List.mem_of_getElem? (i := 835) (by decide +kernel)⟩
theorem lw_p30 : lw_okq (⟨"FishCounterModel", "numberAt", "(I)I"⟩, 12) := ⟨⟨by decide +kernel, by decide +kernel⟩, List.mem_of_getElem? (i := 596) (by decide +kernel), List.mem_of_getElem? (i := 838) (by decide +kernel), List.mem_of_getElem? (i := 839) (by decide +kernel)⟩
theorem lw_p31 : lw_okq (⟨"FishCounterModel", "ofTray", "(II)I"⟩, 12) := ⟨⟨by decide +kernel, by decide +kernel⟩, List.mem_of_getElem? (i := 596) (by decide +kernel), List.mem_of_getElem? (i := 846) (by decide +kernel), List.mem_of_getElem? (i := 847) (by decide +kernel)⟩
def lw_privs_2 : List (MethodName × Nat) := [(⟨"FishCounterModel", "throwsAway", "(I)V"⟩, 12), (⟨"FishCounterModel", "drops", "(I)V"⟩, 12), (⟨"FishCounterModel", "nextFor", "(III)I"⟩, 12), (⟨"FishCounterModel", "isSold", "(I)Z"⟩, 12), (⟨"FishCounterModel", "passesHour", "()V"⟩, 12), (⟨"FishCounterModel", "iceThen", "(II)I"⟩, 12), (⟨"FishCounterModel", "closes", "()I"⟩, 12), (⟨"FishCounterModel", "firstAt", "(I)I"⟩, 12), (⟨"FishCounterModel", "coldest", "()I"⟩, 12), (⟨"FishCounterModel", "countOf", "(I)J"⟩, 12), (⟨"FishCounterModel", "allGrams", "()I"⟩, 12), (⟨"FishCounterModel", "ofLot", "(II)I"⟩, 12), (⟨"FishCounterModel", "ofBox", "(II)I"⟩, 12), (⟨"FishCounterModel", "gramsAt", "(I)I"⟩, 12), (⟨"FishCounterModel", "numberAt", "(I)I"⟩, 12), (⟨"FishCounterModel", "ofTray", "(II)I"⟩, 12)]
theorem lw_r2 : ∀ q ∈ lw_privs_2, lw_okq q := List.forall_mem_cons.mpr ⟨lw_p16, List.forall_mem_cons.mpr ⟨lw_p17, List.forall_mem_cons.mpr ⟨lw_p18, List.forall_mem_cons.mpr ⟨lw_p19, List.forall_mem_cons.mpr ⟨lw_p20, List.forall_mem_cons.mpr ⟨lw_p21, List.forall_mem_cons.mpr ⟨lw_p22, List.forall_mem_cons.mpr ⟨lw_p23, List.forall_mem_cons.mpr ⟨lw_p24, List.forall_mem_cons.mpr ⟨lw_p25, List.forall_mem_cons.mpr ⟨lw_p26, List.forall_mem_cons.mpr ⟨lw_p27, List.forall_mem_cons.mpr ⟨lw_p28, List.forall_mem_cons.mpr ⟨lw_p29, List.forall_mem_cons.mpr ⟨lw_p30, List.forall_mem_cons.mpr ⟨lw_p31, fun _ h => absurd h List.not_mem_nil⟩⟩⟩⟩⟩⟩⟩⟩⟩⟩⟩⟩⟩⟩⟩⟩
theorem lw_p32 : lw_okq (⟨"FishCounterModel", "ofKind", "(II)I"⟩, 12) := ⟨⟨by decide +kernel, by decide +kernel⟩, List.mem_of_getElem? (i := 596) (by decide +kernel), List.mem_of_getElem? (i := 854) (by decide +kernel), List.mem_of_getElem? (i := 855) (by decide +kernel)⟩
theorem lw_p33 : lw_okq (⟨"FishCounterModel", "gramsOfKind", "(I)I"⟩, 12) := ⟨⟨by decide +kernel, by decide +kernel⟩, List.mem_of_getElem? (i := 596) (by decide +kernel), List.mem_of_getElem? (i := 858) (by decide +kernel), List.mem_of_getElem? (i := 859) (by decide +kernel)⟩
theorem lw_p34 : lw_okq (⟨"FishCounterModel", "freshest", "(I)I"⟩, 12) := ⟨⟨by decide +kernel, by decide +kernel⟩, List.mem_of_getElem? (i := 596) (by decide +kernel), List.mem_of_getElem? (i := 862) (by decide +kernel), List.mem_of_getElem? (i := 863) (by decide +kernel)⟩
theorem lw_p35 : lw_okq (⟨"FishCounterModel", "freshIn", "(II)I"⟩, 12) := ⟨⟨by decide +kernel, by decide +kernel⟩, List.mem_of_getElem? (i := 596) (by decide +kernel), List.mem_of_getElem? (i := 874) (by decide +kernel), List.mem_of_getElem? (i := 875) (by decide +kernel)⟩
theorem lw_p36 : lw_okq (⟨"FishCounterModel", "leftOf", "(I)I"⟩, 12) := ⟨⟨by decide +kernel, by decide +kernel⟩, List.mem_of_getElem? (i := 596) (by decide +kernel), List.mem_of_getElem? (i := 882) (by decide +kernel), List.mem_of_getElem? (i := 883) (by decide +kernel)⟩
theorem lw_p37 : lw_okq (⟨"FishCounterModel", "bestOf", "(I)I"⟩, 12) := ⟨⟨by decide +kernel, by decide +kernel⟩, List.mem_of_getElem? (i := 596) (by decide +kernel), List.mem_of_getElem? (i := 890) (by decide +kernel), List.mem_of_getElem? (i := 891) (by decide +kernel)⟩
theorem lw_p38 : lw_okq (⟨"FishCounterModel", "allWorth", "()J"⟩, 12) := ⟨⟨by decide +kernel, by decide +kernel⟩, List.mem_of_getElem? (i := 596) (by decide +kernel), List.mem_of_getElem? (i := 902) (by decide +kernel), List.mem_of_getElem? (i := 903) (by decide +kernel)⟩
theorem lw_p39 : lw_okq (⟨"FishCounterModel", "findError", "()I"⟩, 12) := ⟨⟨by decide +kernel, by decide +kernel⟩, List.mem_of_getElem? (i := 596) (by decide +kernel), List.mem_of_getElem? (i := 918) (by decide +kernel), List.mem_of_getElem? (i := 919) (by decide +kernel)⟩
theorem lw_p40 : lw_okq (⟨"FishCounterModel", "readsItem", "()Z"⟩, 12) := ⟨⟨by decide +kernel, by decide +kernel⟩, List.mem_of_getElem? (i := 596) (by decide +kernel), List.mem_of_getElem? (i := 922) (by decide +kernel), List.mem_of_getElem? (i := 923) (by decide +kernel)⟩
theorem lw_p41 : lw_okq (⟨"FishCounterModel", "readsDigit", "(II)Z"⟩, 12) := ⟨⟨by decide +kernel, by decide +kernel⟩, List.mem_of_getElem? (i := 596) (by decide +kernel), List.mem_of_getElem? (i := 926) (by decide +kernel), List.mem_of_getElem? (i := 927) (by decide +kernel)⟩
theorem lw_p42 : lw_okq (⟨"FishCounterModel", "character", "(I)I"⟩, 12) := ⟨⟨by decide +kernel, by decide +kernel⟩, List.mem_of_getElem? (i := 596) (by decide +kernel), List.mem_of_getElem? (i := 930) (by decide +kernel), List.mem_of_getElem? (i := 931) (by decide +kernel)⟩
theorem lw_p43 : lw_okq (⟨"FishCounterModel", "isNext", "(I)Z"⟩, 12) := ⟨⟨by decide +kernel, by decide +kernel⟩, List.mem_of_getElem? (i := 596) (by decide +kernel), List.mem_of_getElem? (i := 934) (by decide +kernel), List.mem_of_getElem? (i := 935) (by decide +kernel)⟩
theorem lw_p44 : lw_okq (⟨"FishCounterModel", "readsNumber", "(II)Z"⟩, 12) := ⟨⟨by decide +kernel, by decide +kernel⟩, List.mem_of_getElem? (i := 596) (by decide +kernel), List.mem_of_getElem? (i := 938) (by decide +kernel), List.mem_of_getElem? (i := 939) (by decide +kernel)⟩
def lw_privs_3 : List (MethodName × Nat) := [(⟨"FishCounterModel", "ofKind", "(II)I"⟩, 12), (⟨"FishCounterModel", "gramsOfKind", "(I)I"⟩, 12), (⟨"FishCounterModel", "freshest", "(I)I"⟩, 12), (⟨"FishCounterModel", "freshIn", "(II)I"⟩, 12), (⟨"FishCounterModel", "leftOf", "(I)I"⟩, 12), (⟨"FishCounterModel", "bestOf", "(I)I"⟩, 12), (⟨"FishCounterModel", "allWorth", "()J"⟩, 12), (⟨"FishCounterModel", "findError", "()I"⟩, 12), (⟨"FishCounterModel", "readsItem", "()Z"⟩, 12), (⟨"FishCounterModel", "readsDigit", "(II)Z"⟩, 12), (⟨"FishCounterModel", "character", "(I)I"⟩, 12), (⟨"FishCounterModel", "isNext", "(I)Z"⟩, 12), (⟨"FishCounterModel", "readsNumber", "(II)Z"⟩, 12)]
theorem lw_r3 : ∀ q ∈ lw_privs_3, lw_okq q := List.forall_mem_cons.mpr ⟨lw_p32, List.forall_mem_cons.mpr ⟨lw_p33, List.forall_mem_cons.mpr ⟨lw_p34, List.forall_mem_cons.mpr ⟨lw_p35, List.forall_mem_cons.mpr ⟨lw_p36, List.forall_mem_cons.mpr ⟨lw_p37, List.forall_mem_cons.mpr ⟨lw_p38, List.forall_mem_cons.mpr ⟨lw_p39, List.forall_mem_cons.mpr ⟨lw_p40, List.forall_mem_cons.mpr ⟨lw_p41, List.forall_mem_cons.mpr ⟨lw_p42, List.forall_mem_cons.mpr ⟨lw_p43, List.forall_mem_cons.mpr ⟨lw_p44, fun _ h => absurd h List.not_mem_nil⟩⟩⟩⟩⟩⟩⟩⟩⟩⟩⟩⟩⟩
def lw_privs : List (MethodName × Nat) := lw_privs_1 ++ (lw_privs_2 ++ (lw_privs_3))
def lw_tbl : List Cond := k2_sels lw_privs ++ tables_1
theorem lw_privs_ok : ∀ q ∈ lw_privs, lw_okq q := by
  show ∀ q ∈ lw_privs_1 ++ (lw_privs_2 ++ (lw_privs_3)), lw_okq q
  exact List.forall_mem_append.mpr ⟨lw_r1, List.forall_mem_append.mpr ⟨lw_r2, lw_r3⟩⟩
/-! ===== BEGIN words of one list among another's, by their places ===== -/
theorem goodIn_r {big : List Cond} (ws : List Cond) (ps : List Nat) (hp : ws = ps.filterMap (fun i => big[i]?)) (h : ws.all goodWord = true) : GoodIn big ws := by
  intro w hw
  have h1 := List.all_eq_true.mp h w hw
  rw [hp] at hw
  obtain ⟨i, -, hi⟩ := List.mem_filterMap.mp hw
  have hm : w ∈ big := by first | exact List.mem_of_getElem? hi | exact List.getElem?_mem hi
  exact ⟨hm, good_of_word h1⟩
theorem goodIn_app {big a b : List Cond} (ha : GoodIn big a) (hb : GoodIn big b) : GoodIn big (a ++ b) := fun w h => (List.mem_append.mp h).elim (ha w) (hb w)
theorem goodIn_ca {big a b : List Cond} {c : Cond} (ha : GoodIn big (c :: a)) (hb : GoodIn big b) : GoodIn big (c :: (a ++ b)) := fun w h => (List.mem_cons.mp h).elim (fun e => ha w (List.mem_cons.mpr (Or.inl e))) (fun h => (List.mem_append.mp h).elim (fun h => ha w (List.mem_cons.mpr (Or.inr h))) (hb w))
theorem goodIn_sub {big ws : List Cond} (hm : ∀ w ∈ ws, w ∈ big) (h : ws.all goodWord = true) : GoodIn big ws := fun w hw => ⟨hm w hw, good_of_word (List.all_eq_true.mp h w hw)⟩
/-! ===== END ===== -/

/-! ===== BEGIN printed: names, fields, word lists, decode rows ===== -/
def RX0 : String := "FishCounter$DeliveryText"
def TX0 : u_T := fun k => match k with
  | 0 => ("FishCounter$DeliveryText", "length", "I", false)
  | 1 => ("FishCounter$DeliveryText", "kind", "I", false)
  | 2 => ("FishCounter$DeliveryText", "grams", "I", false)
  | 3 => ("FishCounter$DeliveryText", "fresh", "I", false)
  | 4 => ("FishCounter$DeliveryText", "box", "I", false)
  | 5 => ("FishCounter$DeliveryText", "position", "I", false)
  | _ => ("FishCounter$DeliveryText", "signs", "[C", true)
def tyX0 : Nat → FieldType := fun k => match k with
  | 0 => .int
  | 1 => .int
  | 2 => .int
  | 3 => .int
  | 4 => .int
  | 5 => .int
  | _ => .array .char
abbrev wsX00 : List Cond := u_ws RX0 TX0 7
theorem nmX0 : ∀ a, a < 7 → ∀ b, b < 7 → a ≠ b → (TX0 a).2.1 ≠ (TX0 b).2.1 := by decide +kernel
theorem tyX0_ok : ∀ k, k < 7 → parseFieldDescriptor (TX0 k).2.2.1 = some (tyX0 k) := by decide +kernel
abbrev cX0_init : ByteArray := prog_2_method_1_code
def yX0_init : MethodName := ⟨RX0, "<init>", "()V"⟩
abbrev cX0_append : ByteArray := prog_2_method_2_code
def yX0_append : MethodName := ⟨RX0, "append", "(C)V"⟩
abbrev cX0_firstError : ByteArray := prog_2_method_3_code
def yX0_firstError : MethodName := ⟨RX0, "firstError", "()I"⟩
abbrev cX0_startReading : ByteArray := prog_2_method_4_code
def yX0_startReading : MethodName := ⟨RX0, "startReading", "()V"⟩
abbrev cX0_readItem : ByteArray := prog_2_method_5_code
def yX0_readItem : MethodName := ⟨RX0, "readItem", "()Z"⟩
abbrev cX0_skipSign : ByteArray := prog_2_method_6_code
def yX0_skipSign : MethodName := ⟨RX0, "skipSign", "(C)Z"⟩
abbrev cX0_readNumber : ByteArray := prog_2_method_7_code
def yX0_readNumber : MethodName := ⟨RX0, "readNumber", "(II)I"⟩
abbrev cX0_digitHere : ByteArray := prog_2_method_8_code
def yX0_digitHere : MethodName := ⟨RX0, "digitHere", "()I"⟩
def RX1 : String := "FishCounter$Forecast"
def TX1 : u_T := fun k => match k with
  | 0 => ("FishCounter$Forecast", "fresh", "I", false)
  | 1 => ("FishCounter$Forecast", "ice", "I", false)
  | 2 => ("FishCounter$Forecast", "melting", "I", false)
  | _ => ("FishCounter$Forecast", "onTray", "Z", false)
def tyX1 : Nat → FieldType := fun k => match k with
  | 0 => .int
  | 1 => .int
  | 2 => .int
  | _ => .boolean
abbrev wsX10 : List Cond := u_ws RX1 TX1 4
theorem nmX1 : ∀ a, a < 4 → ∀ b, b < 4 → a ≠ b → (TX1 a).2.1 ≠ (TX1 b).2.1 := by decide +kernel
theorem tyX1_ok : ∀ k, k < 4 → parseFieldDescriptor (TX1 k).2.2.1 = some (tyX1 k) := by decide +kernel
abbrev cX1_init : ByteArray := prog_3_method_1_code
def yX1_init : MethodName := ⟨RX1, "<init>", "()V"⟩
abbrev cX1_start : ByteArray := prog_3_method_2_code
def yX1_start : MethodName := ⟨RX1, "start", "(LFishCounter$Shop;LFishCounter$Lot;)V"⟩
abbrev cX1_passHour : ByteArray := prog_3_method_3_code
def yX1_passHour : MethodName := ⟨RX1, "passHour", "()V"⟩
def RX2 : String := "FishCounter$History"
def TX2 : u_T := fun k => match k with
  | 0 => ("FishCounter$History", "count", "I", false)
  | 1 => ("FishCounter$History", "next", "I", false)
  | _ => ("FishCounter$History", "saved", "[LFishCounter$Shop;", true)
def tyX2 : Nat → FieldType := fun k => match k with
  | 0 => .int
  | 1 => .int
  | _ => .array (.object "FishCounter$Shop")
abbrev wsX20 : List Cond := u_ws RX2 TX2 3
theorem nmX2 : ∀ a, a < 3 → ∀ b, b < 3 → a ≠ b → (TX2 a).2.1 ≠ (TX2 b).2.1 := by decide +kernel
theorem tyX2_ok : ∀ k, k < 3 → parseFieldDescriptor (TX2 k).2.2.1 = some (tyX2 k) := by decide +kernel
abbrev cX2_init : ByteArray := prog_4_method_1_code
def yX2_init : MethodName := ⟨RX2, "<init>", "()V"⟩
abbrev cX2_save : ByteArray := prog_4_method_2_code
def yX2_save : MethodName := ⟨RX2, "save", "(LFishCounter$Shop;)V"⟩
abbrev cX2_restore : ByteArray := prog_4_method_3_code
def yX2_restore : MethodName := ⟨RX2, "restore", "(LFishCounter$Shop;)V"⟩
def RX3 : String := "FishCounter$Lot"
def TX3 : u_T := fun k => match k with
  | 0 => ("FishCounter$Lot", "number", "I", false)
  | 1 => ("FishCounter$Lot", "kind", "I", false)
  | 2 => ("FishCounter$Lot", "grams", "I", false)
  | 3 => ("FishCounter$Lot", "fresh", "I", false)
  | 4 => ("FishCounter$Lot", "box", "I", false)
  | _ => ("FishCounter$Lot", "tray", "I", false)
def tyX3 : Nat → FieldType := fun k => match k with
  | 0 => .int
  | 1 => .int
  | 2 => .int
  | 3 => .int
  | 4 => .int
  | _ => .int
abbrev wsX30 : List Cond := u_ws RX3 TX3 6
theorem nmX3 : ∀ a, a < 6 → ∀ b, b < 6 → a ≠ b → (TX3 a).2.1 ≠ (TX3 b).2.1 := by decide +kernel
theorem tyX3_ok : ∀ k, k < 6 → parseFieldDescriptor (TX3 k).2.2.1 = some (tyX3 k) := by decide +kernel
abbrev cX3_init : ByteArray := prog_5_method_1_code
def yX3_init : MethodName := ⟨RX3, "<init>", "()V"⟩
abbrev cX3_isOnTray : ByteArray := prog_5_method_2_code
def yX3_isOnTray : MethodName := ⟨RX3, "isOnTray", "()Z"⟩
abbrev cX3_putInBox : ByteArray := prog_5_method_3_code
def yX3_putInBox : MethodName := ⟨RX3, "putInBox", "(I)V"⟩
abbrev cX3_putOnTray : ByteArray := prog_5_method_4_code
def yX3_putOnTray : MethodName := ⟨RX3, "putOnTray", "(I)V"⟩
abbrev cX3_copyFrom : ByteArray := prog_5_method_5_code
def yX3_copyFrom : MethodName := ⟨RX3, "copyFrom", "(LFishCounter$Lot;)V"⟩
def RX4 : String := "FishCounter$Shop"
def TX4 : u_T := fun k => match k with
  | 0 => ("FishCounter$Shop", "day", "I", false)
  | 1 => ("FishCounter$Shop", "hour", "I", false)
  | 2 => ("FishCounter$Shop", "melting", "I", false)
  | 3 => ("FishCounter$Shop", "limit", "I", false)
  | 4 => ("FishCounter$Shop", "lastNumber", "I", false)
  | 5 => ("FishCounter$Shop", "lotCount", "I", false)
  | 6 => ("FishCounter$Shop", "gramsCame", "J", false)
  | 7 => ("FishCounter$Shop", "gramsSold", "J", false)
  | 8 => ("FishCounter$Shop", "gramsThrownAway", "J", false)
  | 9 => ("FishCounter$Shop", "moneyPaid", "J", false)
  | 10 => ("FishCounter$Shop", "moneyTaken", "J", false)
  | 11 => ("FishCounter$Shop", "prices", "[I", true)
  | 12 => ("FishCounter$Shop", "costs", "[I", true)
  | 13 => ("FishCounter$Shop", "cuts", "[I", true)
  | 14 => ("FishCounter$Shop", "boxIce", "[I", true)
  | 15 => ("FishCounter$Shop", "trayIce", "[I", true)
  | _ => ("FishCounter$Shop", "lots", "[LFishCounter$Lot;", true)
def tyX4 : Nat → FieldType := fun k => match k with
  | 0 => .int
  | 1 => .int
  | 2 => .int
  | 3 => .int
  | 4 => .int
  | 5 => .int
  | 6 => .long
  | 7 => .long
  | 8 => .long
  | 9 => .long
  | 10 => .long
  | 11 => .array .int
  | 12 => .array .int
  | 13 => .array .int
  | 14 => .array .int
  | 15 => .array .int
  | _ => .array (.object "FishCounter$Lot")
abbrev wsX40 : List Cond := u_ws RX4 TX4 17
theorem nmX4 : ∀ a, a < 17 → ∀ b, b < 17 → a ≠ b → (TX4 a).2.1 ≠ (TX4 b).2.1 := by decide +kernel
theorem tyX4_ok : ∀ k, k < 17 → parseFieldDescriptor (TX4 k).2.2.1 = some (tyX4 k) := by decide +kernel
abbrev cX4_init : ByteArray := prog_6_method_1_code
def yX4_init : MethodName := ⟨RX4, "<init>", "()V"⟩
abbrev cX4_copyFrom : ByteArray := prog_6_method_2_code
def yX4_copyFrom : MethodName := ⟨RX4, "copyFrom", "(LFishCounter$Shop;)V"⟩
abbrev cX4_indexOfLot : ByteArray := prog_6_method_3_code
def yX4_indexOfLot : MethodName := ⟨RX4, "indexOfLot", "(I)I"⟩
abbrev cX4_findLot : ByteArray := prog_6_method_4_code
def yX4_findLot : MethodName := ⟨RX4, "findLot", "(I)LFishCounter$Lot;"⟩
abbrev cX4_indexOnTray : ByteArray := prog_6_method_5_code
def yX4_indexOnTray : MethodName := ⟨RX4, "indexOnTray", "(I)I"⟩
abbrev cX4_numberOnTray : ByteArray := prog_6_method_6_code
def yX4_numberOnTray : MethodName := ⟨RX4, "numberOnTray", "(I)I"⟩
abbrev cX4_lotsInBox : ByteArray := prog_6_method_7_code
def yX4_lotsInBox : MethodName := ⟨RX4, "lotsInBox", "(I)I"⟩
abbrev cX4_isBoxFull : ByteArray := prog_6_method_8_code
def yX4_isBoxFull : MethodName := ⟨RX4, "isBoxFull", "(I)Z"⟩
abbrev cX4_gramsInBox : ByteArray := prog_6_method_9_code
def yX4_gramsInBox : MethodName := ⟨RX4, "gramsInBox", "(I)I"⟩
abbrev cX4_firstLotInBox : ByteArray := prog_6_method_10_code
def yX4_firstLotInBox : MethodName := ⟨RX4, "firstLotInBox", "(I)I"⟩
abbrev cX4_gramsInShop : ByteArray := prog_6_method_11_code
def yX4_gramsInShop : MethodName := ⟨RX4, "gramsInShop", "()I"⟩
abbrev cX4_gramsOfKind : ByteArray := prog_6_method_12_code
def yX4_gramsOfKind : MethodName := ⟨RX4, "gramsOfKind", "(I)I"⟩
abbrev cX4_freshestLotOfKind : ByteArray := prog_6_method_13_code
def yX4_freshestLotOfKind : MethodName := ⟨RX4, "freshestLotOfKind", "(I)I"⟩
abbrev cX4_priceAt : ByteArray := prog_6_method_14_code
def yX4_priceAt : MethodName := ⟨RX4, "priceAt", "(III)I"⟩
abbrev cX4_priceOf : ByteArray := prog_6_method_15_code
def yX4_priceOf : MethodName := ⟨RX4, "priceOf", "(LFishCounter$Lot;)I"⟩
abbrev cX4_iceAt : ByteArray := prog_6_method_16_code
def yX4_iceAt : MethodName := ⟨RX4, "iceAt", "(LFishCounter$Lot;)I"⟩
abbrev cX4_refusalOfNewLot : ByteArray := prog_6_method_17_code
def yX4_refusalOfNewLot : MethodName := ⟨RX4, "refusalOfNewLot", "(I)I"⟩
abbrev cX4_addLot : ByteArray := prog_6_method_18_code
def yX4_addLot : MethodName := ⟨RX4, "addLot", "(IIII)I"⟩
abbrev cX4_buyLot : ByteArray := prog_6_method_19_code
def yX4_buyLot : MethodName := ⟨RX4, "buyLot", "(IIII)I"⟩
abbrev cX4_removeLotAt : ByteArray := prog_6_method_20_code
def yX4_removeLotAt : MethodName := ⟨RX4, "removeLotAt", "(I)V"⟩
abbrev cX4_discardLotAt : ByteArray := prog_6_method_21_code
def yX4_discardLotAt : MethodName := ⟨RX4, "discardLotAt", "(I)I"⟩
abbrev cX4_sell : ByteArray := prog_6_method_22_code
def yX4_sell : MethodName := ⟨RX4, "sell", "(IIII)I"⟩
abbrev cX4_nextLotToSell : ByteArray := prog_6_method_23_code
def yX4_nextLotToSell : MethodName := ⟨RX4, "nextLotToSell", "(III)I"⟩
abbrev cX4_sellFromLotAt : ByteArray := prog_6_method_24_code
def yX4_sellFromLotAt : MethodName := ⟨RX4, "sellFromLotAt", "(II)I"⟩
abbrev cX4_passHour : ByteArray := prog_6_method_25_code
def yX4_passHour : MethodName := ⟨RX4, "passHour", "()V"⟩
abbrev cX4_closeDay : ByteArray := prog_6_method_26_code
def yX4_closeDay : MethodName := ⟨RX4, "closeDay", "()I"⟩
abbrev cX4_discardLotsBelowLimit : ByteArray := prog_6_method_27_code
def yX4_discardLotsBelowLimit : MethodName := ⟨RX4, "discardLotsBelowLimit", "()I"⟩
abbrev cX4_clearTray : ByteArray := prog_6_method_28_code
def yX4_clearTray : MethodName := ⟨RX4, "clearTray", "(I)I"⟩
abbrev cX4_boxForTheNight : ByteArray := prog_6_method_29_code
def yX4_boxForTheNight : MethodName := ⟨RX4, "boxForTheNight", "()I"⟩
def RX5 : String := "FishCounter"
def TX5 : u_T := fun k => match k with
  | 0 => ("FishCounter", "now", "LFishCounter$Shop;", true)
  | 1 => ("FishCounter", "trial", "LFishCounter$Shop;", true)
  | 2 => ("FishCounter", "forecast", "LFishCounter$Forecast;", true)
  | 3 => ("FishCounter", "history", "LFishCounter$History;", true)
  | _ => ("FishCounter", "text", "LFishCounter$DeliveryText;", true)
def tyX5 : Nat → FieldType := fun k => match k with
  | 0 => .object "FishCounter$Shop"
  | 1 => .object "FishCounter$Shop"
  | 2 => .object "FishCounter$Forecast"
  | 3 => .object "FishCounter$History"
  | _ => .object "FishCounter$DeliveryText"
abbrev wsX50 : List Cond := u_ws RX5 TX5 5
theorem nmX5 : ∀ a, a < 5 → ∀ b, b < 5 → a ≠ b → (TX5 a).2.1 ≠ (TX5 b).2.1 := by decide +kernel
theorem tyX5_ok : ∀ k, k < 5 → parseFieldDescriptor (TX5 k).2.2.1 = some (tyX5 k) := by decide +kernel
abbrev cX5_init : ByteArray := prog_1_method_1_code
def yX5_init : MethodName := ⟨RX5, "<init>", "()V"⟩
abbrev cX5_setPrice : ByteArray := prog_1_method_2_code
def yX5_setPrice : MethodName := ⟨RX5, "setPrice", "(III)I"⟩
abbrev cX5_setCut : ByteArray := prog_1_method_3_code
def yX5_setCut : MethodName := ⟨RX5, "setCut", "(II)I"⟩
abbrev cX5_setMelting : ByteArray := prog_1_method_4_code
def yX5_setMelting : MethodName := ⟨RX5, "setMelting", "(II)I"⟩
abbrev cX5_deliver : ByteArray := prog_1_method_5_code
def yX5_deliver : MethodName := ⟨RX5, "deliver", "(IIII)I"⟩
abbrev cX5_iceBox : ByteArray := prog_1_method_6_code
def yX5_iceBox : MethodName := ⟨RX5, "iceBox", "(II)I"⟩
abbrev cX5_iceTray : ByteArray := prog_1_method_7_code
def yX5_iceTray : MethodName := ⟨RX5, "iceTray", "(II)I"⟩
abbrev cX5_toTray : ByteArray := prog_1_method_8_code
def yX5_toTray : MethodName := ⟨RX5, "toTray", "(II)I"⟩
abbrev cX5_toBox : ByteArray := prog_1_method_9_code
def yX5_toBox : MethodName := ⟨RX5, "toBox", "(II)I"⟩
abbrev cX5_divide : ByteArray := prog_1_method_10_code
def yX5_divide : MethodName := ⟨RX5, "divide", "(III)I"⟩
abbrev cX5_throwAway : ByteArray := prog_1_method_11_code
def yX5_throwAway : MethodName := ⟨RX5, "throwAway", "(I)I"⟩
abbrev cX5_order : ByteArray := prog_1_method_12_code
def yX5_order : MethodName := ⟨RX5, "order", "(IIII)I"⟩
abbrev cX5_pass : ByteArray := prog_1_method_13_code
def yX5_pass : MethodName := ⟨RX5, "pass", "()I"⟩
abbrev cX5_close : ByteArray := prog_1_method_14_code
def yX5_close : MethodName := ⟨RX5, "close", "()I"⟩
abbrev cX5_count : ByteArray := prog_1_method_15_code
def yX5_count : MethodName := ⟨RX5, "count", "(I)J"⟩
abbrev cX5_lot : ByteArray := prog_1_method_16_code
def yX5_lot : MethodName := ⟨RX5, "lot", "(II)I"⟩
abbrev cX5_box : ByteArray := prog_1_method_17_code
def yX5_box : MethodName := ⟨RX5, "box", "(II)I"⟩
abbrev cX5_tray : ByteArray := prog_1_method_18_code
def yX5_tray : MethodName := ⟨RX5, "tray", "(II)I"⟩
abbrev cX5_kind : ByteArray := prog_1_method_19_code
def yX5_kind : MethodName := ⟨RX5, "kind", "(II)I"⟩
abbrev cX5_cut : ByteArray := prog_1_method_20_code
def yX5_cut : MethodName := ⟨RX5, "cut", "(I)I"⟩
abbrev cX5_freshAfter : ByteArray := prog_1_method_21_code
def yX5_freshAfter : MethodName := ⟨RX5, "freshAfter", "(II)I"⟩
abbrev cX5_hoursLeft : ByteArray := prog_1_method_22_code
def yX5_hoursLeft : MethodName := ⟨RX5, "hoursLeft", "(I)I"⟩
abbrev cX5_bestHour : ByteArray := prog_1_method_23_code
def yX5_bestHour : MethodName := ⟨RX5, "bestHour", "(I)I"⟩
abbrev cX5_ifClosed : ByteArray := prog_1_method_24_code
def yX5_ifClosed : MethodName := ⟨RX5, "ifClosed", "(I)I"⟩
abbrev cX5_worth : ByteArray := prog_1_method_25_code
def yX5_worth : MethodName := ⟨RX5, "worth", "()J"⟩
abbrev cX5_type : ByteArray := prog_1_method_26_code
def yX5_type : MethodName := ⟨RX5, "type", "(I)I"⟩
abbrev cX5_clearText : ByteArray := prog_1_method_27_code
def yX5_clearText : MethodName := ⟨RX5, "clearText", "()I"⟩
abbrev cX5_syntaxError : ByteArray := prog_1_method_28_code
def yX5_syntaxError : MethodName := ⟨RX5, "syntaxError", "()I"⟩
abbrev cX5_deliverAll : ByteArray := prog_1_method_29_code
def yX5_deliverAll : MethodName := ⟨RX5, "deliverAll", "()I"⟩
abbrev cX5_undo : ByteArray := prog_1_method_30_code
def yX5_undo : MethodName := ⟨RX5, "undo", "()I"⟩
abbrev cX5_digest : ByteArray := prog_1_method_31_code
def yX5_digest : MethodName := ⟨RX5, "digest", "()J"⟩
abbrev cX5_mixedWithLot : ByteArray := prog_1_method_32_code
def yX5_mixedWithLot : MethodName := ⟨RX5, "mixedWithLot", "(JI)J"⟩
abbrev cX5_mixedWithPlaces : ByteArray := prog_1_method_33_code
def yX5_mixedWithPlaces : MethodName := ⟨RX5, "mixedWithPlaces", "(J)J"⟩
abbrev cX5_mixed : ByteArray := prog_1_method_34_code
def yX5_mixed : MethodName := ⟨RX5, "mixed", "(JJ)J"⟩
abbrev cX5_within : ByteArray := prog_1_method_35_code
def yX5_within : MethodName := ⟨RX5, "within", "(III)Z"⟩
abbrev cX5_isKind : ByteArray := prog_1_method_36_code
def yX5_isKind : MethodName := ⟨RX5, "isKind", "(I)Z"⟩
abbrev cX5_isBox : ByteArray := prog_1_method_37_code
def yX5_isBox : MethodName := ⟨RX5, "isBox", "(I)Z"⟩
abbrev cX5_isTray : ByteArray := prog_1_method_38_code
def yX5_isTray : MethodName := ⟨RX5, "isTray", "(I)Z"⟩
abbrev cX5_isHour : ByteArray := prog_1_method_39_code
def yX5_isHour : MethodName := ⟨RX5, "isHour", "(I)Z"⟩
abbrev cX5_moneyFor : ByteArray := prog_1_method_40_code
def yX5_moneyFor : MethodName := ⟨RX5, "moneyFor", "(II)I"⟩
abbrev cX5_freshAnHourLater : ByteArray := prog_1_method_41_code
def yX5_freshAnHourLater : MethodName := ⟨RX5, "freshAnHourLater", "(IZI)I"⟩
abbrev cX5_iceAnHourLater : ByteArray := prog_1_method_42_code
def yX5_iceAnHourLater : MethodName := ⟨RX5, "iceAnHourLater", "(IZI)I"⟩
def RX6 : String := "FishCounterModel"
def TX6 : u_T := fun k => match k with
  | 0 => ("FishCounterModel", "state", "[I", true)
  | 1 => ("FishCounterModel", "kept", "[I", true)
  | 2 => ("FishCounterModel", "history", "[I", true)
  | 3 => ("FishCounterModel", "recorded", "I", false)
  | 4 => ("FishCounterModel", "text", "[I", true)
  | 5 => ("FishCounterModel", "textLength", "I", false)
  | 6 => ("FishCounterModel", "at", "I", false)
  | 7 => ("FishCounterModel", "number", "I", false)
  | 8 => ("FishCounterModel", "kindRead", "I", false)
  | 9 => ("FishCounterModel", "gramsRead", "I", false)
  | 10 => ("FishCounterModel", "freshRead", "I", false)
  | _ => ("FishCounterModel", "boxRead", "I", false)
def tyX6 : Nat → FieldType := fun k => match k with
  | 0 => .array .int
  | 1 => .array .int
  | 2 => .array .int
  | 3 => .int
  | 4 => .array .int
  | 5 => .int
  | 6 => .int
  | 7 => .int
  | 8 => .int
  | 9 => .int
  | 10 => .int
  | _ => .int
abbrev wsX60 : List Cond := u_ws RX6 TX6 12
theorem nmX6 : ∀ a, a < 12 → ∀ b, b < 12 → a ≠ b → (TX6 a).2.1 ≠ (TX6 b).2.1 := by decide +kernel
theorem tyX6_ok : ∀ k, k < 12 → parseFieldDescriptor (TX6 k).2.2.1 = some (tyX6 k) := by decide +kernel
abbrev cX6_init : ByteArray := prog_8_method_1_code
def yX6_init : MethodName := ⟨RX6, "<init>", "()V"⟩
abbrev cX6_within : ByteArray := prog_8_method_3_code
def yX6_within : MethodName := ⟨RX6, "within", "(III)Z"⟩
abbrev cX6_copies : ByteArray := prog_8_method_4_code
def yX6_copies : MethodName := ⟨RX6, "copies", "([II[II)V"⟩
abbrev cX6_record : ByteArray := prog_8_method_5_code
def yX6_record : MethodName := ⟨RX6, "record", "()V"⟩
abbrev cX6_part : ByteArray := prog_8_method_6_code
def yX6_part : MethodName := ⟨RX6, "part", "(II)I"⟩
abbrev cX6_setPart : ByteArray := prog_8_method_7_code
def yX6_setPart : MethodName := ⟨RX6, "setPart", "(III)V"⟩
abbrev cX6_find : ByteArray := prog_8_method_8_code
def yX6_find : MethodName := ⟨RX6, "find", "(I)I"⟩
abbrev cX6_drops : ByteArray := prog_8_method_9_code
def yX6_drops : MethodName := ⟨RX6, "drops", "(I)V"⟩
abbrev cX6_throwsAway : ByteArray := prog_8_method_10_code
def yX6_throwsAway : MethodName := ⟨RX6, "throwsAway", "(I)V"⟩
abbrev cX6_isKind : ByteArray := prog_8_method_11_code
def yX6_isKind : MethodName := ⟨RX6, "isKind", "(I)Z"⟩
abbrev cX6_isBox : ByteArray := prog_8_method_12_code
def yX6_isBox : MethodName := ⟨RX6, "isBox", "(I)Z"⟩
abbrev cX6_isTray : ByteArray := prog_8_method_13_code
def yX6_isTray : MethodName := ⟨RX6, "isTray", "(I)Z"⟩
abbrev cX6_isTrayPlace : ByteArray := prog_8_method_14_code
def yX6_isTrayPlace : MethodName := ⟨RX6, "isTrayPlace", "(I)Z"⟩
abbrev cX6_lotsAt : ByteArray := prog_8_method_15_code
def yX6_lotsAt : MethodName := ⟨RX6, "lotsAt", "(I)I"⟩
abbrev cX6_firstAt : ByteArray := prog_8_method_16_code
def yX6_firstAt : MethodName := ⟨RX6, "firstAt", "(I)I"⟩
abbrev cX6_priceWith : ByteArray := prog_8_method_17_code
def yX6_priceWith : MethodName := ⟨RX6, "priceWith", "(III)I"⟩
abbrev cX6_priceOf : ByteArray := prog_8_method_18_code
def yX6_priceOf : MethodName := ⟨RX6, "priceOf", "(I)I"⟩
abbrev cX6_worthOf : ByteArray := prog_8_method_19_code
def yX6_worthOf : MethodName := ⟨RX6, "worthOf", "(II)I"⟩
abbrev cX6_isSold : ByteArray := prog_8_method_20_code
def yX6_isSold : MethodName := ⟨RX6, "isSold", "(I)Z"⟩
abbrev cX6_setPrice : ByteArray := prog_8_method_21_code
def yX6_setPrice : MethodName := ⟨RX6, "setPrice", "(III)I"⟩
abbrev cX6_isHour : ByteArray := prog_8_method_22_code
def yX6_isHour : MethodName := ⟨RX6, "isHour", "(I)Z"⟩
abbrev cX6_setCut : ByteArray := prog_8_method_23_code
def yX6_setCut : MethodName := ⟨RX6, "setCut", "(II)I"⟩
abbrev cX6_setMelting : ByteArray := prog_8_method_24_code
def yX6_setMelting : MethodName := ⟨RX6, "setMelting", "(II)I"⟩
abbrev cX6_adds : ByteArray := prog_8_method_25_code
def yX6_adds : MethodName := ⟨RX6, "adds", "(IIII)I"⟩
abbrev cX6_whyNotRoom : ByteArray := prog_8_method_26_code
def yX6_whyNotRoom : MethodName := ⟨RX6, "whyNotRoom", "(I)I"⟩
abbrev cX6_whyNotDelivered : ByteArray := prog_8_method_27_code
def yX6_whyNotDelivered : MethodName := ⟨RX6, "whyNotDelivered", "(IIII)I"⟩
abbrev cX6_delivers : ByteArray := prog_8_method_28_code
def yX6_delivers : MethodName := ⟨RX6, "delivers", "(IIII)I"⟩
abbrev cX6_deliver : ByteArray := prog_8_method_29_code
def yX6_deliver : MethodName := ⟨RX6, "deliver", "(IIII)I"⟩
abbrev cX6_ices : ByteArray := prog_8_method_30_code
def yX6_ices : MethodName := ⟨RX6, "ices", "(II)I"⟩
abbrev cX6_iceBox : ByteArray := prog_8_method_31_code
def yX6_iceBox : MethodName := ⟨RX6, "iceBox", "(II)I"⟩
abbrev cX6_iceTray : ByteArray := prog_8_method_32_code
def yX6_iceTray : MethodName := ⟨RX6, "iceTray", "(II)I"⟩
abbrev cX6_toTray : ByteArray := prog_8_method_33_code
def yX6_toTray : MethodName := ⟨RX6, "toTray", "(II)I"⟩
abbrev cX6_toBox : ByteArray := prog_8_method_34_code
def yX6_toBox : MethodName := ⟨RX6, "toBox", "(II)I"⟩
abbrev cX6_divide : ByteArray := prog_8_method_35_code
def yX6_divide : MethodName := ⟨RX6, "divide", "(III)I"⟩
abbrev cX6_throwAway : ByteArray := prog_8_method_36_code
def yX6_throwAway : MethodName := ⟨RX6, "throwAway", "(I)I"⟩
abbrev cX6_nextFor : ByteArray := prog_8_method_37_code
def yX6_nextFor : MethodName := ⟨RX6, "nextFor", "(III)I"⟩
abbrev cX6_order : ByteArray := prog_8_method_38_code
def yX6_order : MethodName := ⟨RX6, "order", "(IIII)I"⟩
abbrev cX6_loss : ByteArray := prog_8_method_39_code
def yX6_loss : MethodName := ⟨RX6, "loss", "(II)I"⟩
abbrev cX6_iceThen : ByteArray := prog_8_method_40_code
def yX6_iceThen : MethodName := ⟨RX6, "iceThen", "(II)I"⟩
abbrev cX6_freshThen : ByteArray := prog_8_method_41_code
def yX6_freshThen : MethodName := ⟨RX6, "freshThen", "(II)I"⟩
abbrev cX6_passesHour : ByteArray := prog_8_method_42_code
def yX6_passesHour : MethodName := ⟨RX6, "passesHour", "()V"⟩
abbrev cX6_pass : ByteArray := prog_8_method_43_code
def yX6_pass : MethodName := ⟨RX6, "pass", "()I"⟩
abbrev cX6_coldest : ByteArray := prog_8_method_44_code
def yX6_coldest : MethodName := ⟨RX6, "coldest", "()I"⟩
abbrev cX6_closes : ByteArray := prog_8_method_45_code
def yX6_closes : MethodName := ⟨RX6, "closes", "()I"⟩
abbrev cX6_close : ByteArray := prog_8_method_46_code
def yX6_close : MethodName := ⟨RX6, "close", "()I"⟩
abbrev cX6_allGrams : ByteArray := prog_8_method_47_code
def yX6_allGrams : MethodName := ⟨RX6, "allGrams", "()I"⟩
abbrev cX6_countOf : ByteArray := prog_8_method_48_code
def yX6_countOf : MethodName := ⟨RX6, "countOf", "(I)J"⟩
abbrev cX6_count : ByteArray := prog_8_method_49_code
def yX6_count : MethodName := ⟨RX6, "count", "(I)J"⟩
abbrev cX6_ofLot : ByteArray := prog_8_method_50_code
def yX6_ofLot : MethodName := ⟨RX6, "ofLot", "(II)I"⟩
abbrev cX6_lot : ByteArray := prog_8_method_51_code
def yX6_lot : MethodName := ⟨RX6, "lot", "(II)I"⟩
abbrev cX6_gramsAt : ByteArray := prog_8_method_52_code
def yX6_gramsAt : MethodName := ⟨RX6, "gramsAt", "(I)I"⟩
abbrev cX6_numberAt : ByteArray := prog_8_method_53_code
def yX6_numberAt : MethodName := ⟨RX6, "numberAt", "(I)I"⟩
abbrev cX6_ofBox : ByteArray := prog_8_method_54_code
def yX6_ofBox : MethodName := ⟨RX6, "ofBox", "(II)I"⟩
abbrev cX6_box : ByteArray := prog_8_method_55_code
def yX6_box : MethodName := ⟨RX6, "box", "(II)I"⟩
abbrev cX6_ofTray : ByteArray := prog_8_method_56_code
def yX6_ofTray : MethodName := ⟨RX6, "ofTray", "(II)I"⟩
abbrev cX6_tray : ByteArray := prog_8_method_57_code
def yX6_tray : MethodName := ⟨RX6, "tray", "(II)I"⟩
abbrev cX6_gramsOfKind : ByteArray := prog_8_method_58_code
def yX6_gramsOfKind : MethodName := ⟨RX6, "gramsOfKind", "(I)I"⟩
abbrev cX6_freshest : ByteArray := prog_8_method_59_code
def yX6_freshest : MethodName := ⟨RX6, "freshest", "(I)I"⟩
abbrev cX6_ofKind : ByteArray := prog_8_method_60_code
def yX6_ofKind : MethodName := ⟨RX6, "ofKind", "(II)I"⟩
abbrev cX6_kind : ByteArray := prog_8_method_61_code
def yX6_kind : MethodName := ⟨RX6, "kind", "(II)I"⟩
abbrev cX6_cut : ByteArray := prog_8_method_62_code
def yX6_cut : MethodName := ⟨RX6, "cut", "(I)I"⟩
abbrev cX6_freshIn : ByteArray := prog_8_method_63_code
def yX6_freshIn : MethodName := ⟨RX6, "freshIn", "(II)I"⟩
abbrev cX6_freshAfter : ByteArray := prog_8_method_64_code
def yX6_freshAfter : MethodName := ⟨RX6, "freshAfter", "(II)I"⟩
abbrev cX6_leftOf : ByteArray := prog_8_method_65_code
def yX6_leftOf : MethodName := ⟨RX6, "leftOf", "(I)I"⟩
abbrev cX6_hoursLeft : ByteArray := prog_8_method_66_code
def yX6_hoursLeft : MethodName := ⟨RX6, "hoursLeft", "(I)I"⟩
abbrev cX6_bestOf : ByteArray := prog_8_method_67_code
def yX6_bestOf : MethodName := ⟨RX6, "bestOf", "(I)I"⟩
abbrev cX6_bestHour : ByteArray := prog_8_method_68_code
def yX6_bestHour : MethodName := ⟨RX6, "bestHour", "(I)I"⟩
abbrev cX6_ifClosed : ByteArray := prog_8_method_69_code
def yX6_ifClosed : MethodName := ⟨RX6, "ifClosed", "(I)I"⟩
abbrev cX6_allWorth : ByteArray := prog_8_method_70_code
def yX6_allWorth : MethodName := ⟨RX6, "allWorth", "()J"⟩
abbrev cX6_worth : ByteArray := prog_8_method_71_code
def yX6_worth : MethodName := ⟨RX6, "worth", "()J"⟩
abbrev cX6_type : ByteArray := prog_8_method_72_code
def yX6_type : MethodName := ⟨RX6, "type", "(I)I"⟩
abbrev cX6_clearText : ByteArray := prog_8_method_73_code
def yX6_clearText : MethodName := ⟨RX6, "clearText", "()I"⟩
abbrev cX6_character : ByteArray := prog_8_method_74_code
def yX6_character : MethodName := ⟨RX6, "character", "(I)I"⟩
abbrev cX6_isNext : ByteArray := prog_8_method_75_code
def yX6_isNext : MethodName := ⟨RX6, "isNext", "(I)Z"⟩
abbrev cX6_readsDigit : ByteArray := prog_8_method_76_code
def yX6_readsDigit : MethodName := ⟨RX6, "readsDigit", "(II)Z"⟩
abbrev cX6_readsNumber : ByteArray := prog_8_method_77_code
def yX6_readsNumber : MethodName := ⟨RX6, "readsNumber", "(II)Z"⟩
abbrev cX6_readsItem : ByteArray := prog_8_method_78_code
def yX6_readsItem : MethodName := ⟨RX6, "readsItem", "()Z"⟩
abbrev cX6_findError : ByteArray := prog_8_method_79_code
def yX6_findError : MethodName := ⟨RX6, "findError", "()I"⟩
abbrev cX6_syntaxError : ByteArray := prog_8_method_80_code
def yX6_syntaxError : MethodName := ⟨RX6, "syntaxError", "()I"⟩
abbrev cX6_deliverAll : ByteArray := prog_8_method_81_code
def yX6_deliverAll : MethodName := ⟨RX6, "deliverAll", "()I"⟩
abbrev cX6_undo : ByteArray := prog_8_method_82_code
def yX6_undo : MethodName := ⟨RX6, "undo", "()I"⟩
abbrev cX6_digest : ByteArray := prog_8_method_83_code
def yX6_digest : MethodName := ⟨RX6, "digest", "()J"⟩
def RJ9 : String := "java/lang/Math"
def TJ9 : u_T := fun k => match k with
  | _ => ("", "", "", false)
def tyJ9 : Nat → FieldType := fun k => match k with
  | _ => .int
abbrev wsJ90 : List Cond := u_ws RJ9 TJ9 0
theorem nmJ9 : ∀ a, a < 0 → ∀ b, b < 0 → a ≠ b → (TJ9 a).2.1 ≠ (TJ9 b).2.1 := by decide +kernel
theorem tyJ9_ok : ∀ k, k < 0 → parseFieldDescriptor (TJ9 k).2.2.1 = some (tyJ9 k) := by decide +kernel
abbrev cJ9_max_7cf53 : ByteArray := prog_9_method_65_code
def yJ9_max_7cf53 : MethodName := ⟨RJ9, "max", "(II)I"⟩
abbrev cJ9_min_7cf53 : ByteArray := prog_9_method_69_code
def yJ9_min_7cf53 : MethodName := ⟨RJ9, "min", "(II)I"⟩
def RJ10 : String := "java/lang/System"
def TJ10 : u_T := fun k => match k with
  | _ => ("", "", "", false)
def tyJ10 : Nat → FieldType := fun k => match k with
  | _ => .int
abbrev wsJ100 : List Cond := u_ws RJ10 TJ10 0
theorem nmJ10 : ∀ a, a < 0 → ∀ b, b < 0 → a ≠ b → (TJ10 a).2.1 ≠ (TJ10 b).2.1 := by decide +kernel
theorem tyJ10_ok : ∀ k, k < 0 → parseFieldDescriptor (TJ10 k).2.2.1 = some (tyJ10 k) := by decide +kernel
def RL : String := "FishCounterLaw"
abbrev cL_law : ByteArray := code
def yL_law : MethodName := ⟨RL, "law", "([I)Z"⟩
def wsJ9_max_7cf53 : List Cond := .code yJ9_max_7cf53 cJ9_max_7cf53 2 (some .int) :: ([])
def wsJ9_min_7cf53 : List Cond := .code yJ9_min_7cf53 cJ9_min_7cf53 2 (some .int) :: ([])
theorem inJ9 : ∀ w ∈ wsJ90, w ∈ lw_tbl := by decide +kernel
theorem inJ10 : ∀ w ∈ wsJ100, w ∈ lw_tbl := by decide +kernel
abbrev vwCl : List vw_C := [(RX0, TX0, 7), (RX1, TX1, 4), (RX2, TX2, 3), (RX3, TX3, 6), (RX4, TX4, 17), (RX5, TX5, 5), (RX6, TX6, 12)]
/-! ===== END printed: names ===== -/
/-- the words that every contract takes: all of the tables' that stay true -/
def wsL_law : List Cond := lw_tbl.filter goodWord
theorem wsL_law_in : ∀ w ∈ wsL_law, w ∈ lw_tbl := fun _ h => (List.mem_filter.mp h).1
theorem kGood : wsL_law.all goodWord = true := List.all_eq_true.mpr (fun _ h => (List.mem_filter.mp h).2)
theorem kW {w : Cond} (i : Nat) (h : (lw_tbl[i]? = some w) ∧ goodWord w = true) : w ∈ wsL_law := List.mem_filter.mpr ⟨List.mem_of_getElem? h.1, h.2⟩
theorem kWs {ws : List Cond} (ps : List Nat) (hp : ws = ps.filterMap (fun i => lw_tbl[i]?)) (h : ws.all goodWord = true) : ∀ w ∈ ws, w ∈ wsL_law := fun w hw => List.mem_filter.mpr ⟨((goodIn_r ws ps hp h) w hw).1, List.all_eq_true.mp h w hw⟩

