section
-- ===== PART A: goes FIRST, ahead of the names: the tables' words, and 'selects' of the private methods out of them =====
/-- a private method of a class that the tables say can be made, by its rows of tables_1 -/
def lw_okq (q : MethodName × Nat) : Prop := (q.1.cls ≠ "java/lang/invoke/MethodHandle" ∧ q.1.cls ≠ "java/lang/invoke/VarHandle") ∧ Cond.instantiable q.1.cls q.2 ∈ tables_1 ∧ Cond.privateMethod q.1 ∈ tables_1 ∧ Cond.instanceMethod q.1 ∈ tables_1
theorem lw_p0 : lw_okq (⟨"FishCounter$DeliveryText", "readNumber", "(II)I"⟩, 7) := ⟨⟨by decide +kernel, by decide +kernel⟩, List.mem_of_getElem? (i := 174) (by decide +kernel), List.mem_of_getElem? (i := 542) (by decide +kernel), List.mem_of_getElem? (i := 543) (by decide +kernel)⟩
theorem lw_p1 : lw_okq (⟨"FishCounter$DeliveryText", "digitHere", "()I"⟩, 7) := ⟨⟨by decide +kernel, by decide +kernel⟩, List.mem_of_getElem? (i := 174) (by decide +kernel), List.mem_of_getElem? (i := 546) (by decide +kernel), List.mem_of_getElem? (i := 547) (by decide +kernel)⟩
theorem lw_p2 : lw_okq (⟨"FishCounter", "mixedWithLot", "(JI)J"⟩, 5) := ⟨⟨by decide +kernel, by decide +kernel⟩, List.mem_of_getElem? (i := 11) (by decide +kernel), List.mem_of_getElem? (i := 580) (by decide +kernel), List.mem_of_getElem? (i := 581) (by decide +kernel)⟩
theorem lw_p3 : lw_okq (⟨"FishCounter", "mixedWithPlaces", "(J)J"⟩, 5) := ⟨⟨by decide +kernel, by decide +kernel⟩, List.mem_of_getElem? (i := 11) (by decide +kernel), List.mem_of_getElem? (i := 587) (by decide +kernel), List.mem_of_getElem? (i := 588) (by decide +kernel)⟩
theorem lw_p4 : lw_okq (⟨"FishCounterModel", "record", "()V"⟩, 12) := ⟨⟨by decide +kernel, by decide +kernel⟩, List.mem_of_getElem? (i := 596) (by decide +kernel), List.mem_of_getElem? (i := 649) (by decide +kernel), List.mem_of_getElem? (i := 650) (by decide +kernel)⟩
theorem lw_p5 : lw_okq (⟨"FishCounterModel", "whyNotDelivered", "(IIII)I"⟩, 12) := ⟨⟨by decide +kernel, by decide +kernel⟩, List.mem_of_getElem? (i := 596) (by decide +kernel), List.mem_of_getElem? (i := 671) (by decide +kernel), List.mem_of_getElem? (i := 672) (by decide +kernel)⟩
theorem lw_p6 : lw_okq (⟨"FishCounterModel", "whyNotRoom", "(I)I"⟩, 12) := ⟨⟨by decide +kernel, by decide +kernel⟩, List.mem_of_getElem? (i := 596) (by decide +kernel), List.mem_of_getElem? (i := 678) (by decide +kernel), List.mem_of_getElem? (i := 679) (by decide +kernel)⟩
theorem lw_p7 : lw_okq (⟨"FishCounterModel", "lotsAt", "(I)I"⟩, 12) := ⟨⟨by decide +kernel, by decide +kernel⟩, List.mem_of_getElem? (i := 596) (by decide +kernel), List.mem_of_getElem? (i := 682) (by decide +kernel), List.mem_of_getElem? (i := 683) (by decide +kernel)⟩
theorem lw_p8 : lw_okq (⟨"FishCounterModel", "part", "(II)I"⟩, 12) := ⟨⟨by decide +kernel, by decide +kernel⟩, List.mem_of_getElem? (i := 596) (by decide +kernel), List.mem_of_getElem? (i := 686) (by decide +kernel), List.mem_of_getElem? (i := 687) (by decide +kernel)⟩
theorem lw_p9 : lw_okq (⟨"FishCounterModel", "delivers", "(IIII)I"⟩, 12) := ⟨⟨by decide +kernel, by decide +kernel⟩, List.mem_of_getElem? (i := 596) (by decide +kernel), List.mem_of_getElem? (i := 690) (by decide +kernel), List.mem_of_getElem? (i := 691) (by decide +kernel)⟩
theorem lw_p10 : lw_okq (⟨"FishCounterModel", "adds", "(IIII)I"⟩, 12) := ⟨⟨by decide +kernel, by decide +kernel⟩, List.mem_of_getElem? (i := 596) (by decide +kernel), List.mem_of_getElem? (i := 697) (by decide +kernel), List.mem_of_getElem? (i := 698) (by decide +kernel)⟩
theorem lw_p11 : lw_okq (⟨"FishCounterModel", "setPart", "(III)V"⟩, 12) := ⟨⟨by decide +kernel, by decide +kernel⟩, List.mem_of_getElem? (i := 596) (by decide +kernel), List.mem_of_getElem? (i := 701) (by decide +kernel), List.mem_of_getElem? (i := 702) (by decide +kernel)⟩
theorem lw_p12 : lw_okq (⟨"FishCounterModel", "ices", "(II)I"⟩, 12) := ⟨⟨by decide +kernel, by decide +kernel⟩, List.mem_of_getElem? (i := 596) (by decide +kernel), List.mem_of_getElem? (i := 709) (by decide +kernel), List.mem_of_getElem? (i := 710) (by decide +kernel)⟩
theorem lw_p13 : lw_okq (⟨"FishCounterModel", "find", "(I)I"⟩, 12) := ⟨⟨by decide +kernel, by decide +kernel⟩, List.mem_of_getElem? (i := 596) (by decide +kernel), List.mem_of_getElem? (i := 724) (by decide +kernel), List.mem_of_getElem? (i := 725) (by decide +kernel)⟩
theorem lw_p14 : lw_okq (⟨"FishCounterModel", "priceOf", "(I)I"⟩, 12) := ⟨⟨by decide +kernel, by decide +kernel⟩, List.mem_of_getElem? (i := 596) (by decide +kernel), List.mem_of_getElem? (i := 728) (by decide +kernel), List.mem_of_getElem? (i := 729) (by decide +kernel)⟩
theorem lw_p15 : lw_okq (⟨"FishCounterModel", "priceWith", "(III)I"⟩, 12) := ⟨⟨by decide +kernel, by decide +kernel⟩, List.mem_of_getElem? (i := 596) (by decide +kernel), List.mem_of_getElem? (i := 732) (by decide +kernel), List.mem_of_getElem? (i := 733) (by decide +kernel)⟩
def lw_privs_1 : List (MethodName × Nat) := [(⟨"FishCounter$DeliveryText", "readNumber", "(II)I"⟩, 7), (⟨"FishCounter$DeliveryText", "digitHere", "()I"⟩, 7), (⟨"FishCounter", "mixedWithLot", "(JI)J"⟩, 5), (⟨"FishCounter", "mixedWithPlaces", "(J)J"⟩, 5), (⟨"FishCounterModel", "record", "()V"⟩, 12), (⟨"FishCounterModel", "whyNotDelivered", "(IIII)I"⟩, 12), (⟨"FishCounterModel", "whyNotRoom", "(I)I"⟩, 12), (⟨"FishCounterModel", "lotsAt", "(I)I"⟩, 12), (⟨"FishCounterModel", "part", "(II)I"⟩, 12), (⟨"FishCounterModel", "delivers", "(IIII)I"⟩, 12), (⟨"FishCounterModel", "adds", "(IIII)I"⟩, 12), (⟨"FishCounterModel", "setPart", "(III)V"⟩, 12), (⟨"FishCounterModel", "ices", "(II)I"⟩, 12), (⟨"FishCounterModel", "find", "(I)I"⟩, 12), (⟨"FishCounterModel", "priceOf", "(I)I"⟩, 12), (⟨"FishCounterModel", "priceWith", "(III)I"⟩, 12)]
theorem lw_r1 : ∀ q ∈ lw_privs_1, lw_okq q := List.forall_mem_cons.mpr ⟨lw_p0, List.forall_mem_cons.mpr ⟨lw_p1, List.forall_mem_cons.mpr ⟨lw_p2, List.forall_mem_cons.mpr ⟨lw_p3, List.forall_mem_cons.mpr ⟨lw_p4, List.forall_mem_cons.mpr ⟨lw_p5, List.forall_mem_cons.mpr ⟨lw_p6, List.forall_mem_cons.mpr ⟨lw_p7, List.forall_mem_cons.mpr ⟨lw_p8, List.forall_mem_cons.mpr ⟨lw_p9, List.forall_mem_cons.mpr ⟨lw_p10, List.forall_mem_cons.mpr ⟨lw_p11, List.forall_mem_cons.mpr ⟨lw_p12, List.forall_mem_cons.mpr ⟨lw_p13, List.forall_mem_cons.mpr ⟨lw_p14, List.forall_mem_cons.mpr ⟨lw_p15, fun _ h => absurd h List.not_mem_nil⟩⟩⟩⟩⟩⟩⟩⟩⟩⟩⟩⟩⟩⟩⟩⟩
theorem lw_p16 : lw_okq (⟨"FishCounterModel", "throwsAway", "(I)V"⟩, 12) := ⟨⟨by decide +kernel, by decide +kernel⟩, List.mem_of_getElem? (i := 596) (by decide +kernel), List.mem_of_getElem? (i := 748) (by decide +kernel), List.mem_of_getElem? (i := 749) (by decide +kernel)⟩
theorem lw_p17 : lw_okq (⟨"FishCounterModel", "drops", "(I)V"⟩, 12) := ⟨⟨by decide +kernel, by decide +kernel⟩, List.mem_of_getElem? (i := 596) (by decide +kernel), List.mem_of_getElem? (i := 752) (by decide +kernel), List.mem_of_getElem? (i := 753) (by decide +kernel)⟩
theorem lw_p18 : lw_okq (⟨"FishCounterModel", "nextFor", "(III)I"⟩, 12) := ⟨⟨by decide +kernel, by decide +kernel⟩, List.mem_of_getElem? (i := 596) (by decide +kernel), List.mem_of_getElem? (i := 760) (by decide +kernel), List.mem_of_getElem? (i := 761) (by decide +kernel)⟩
theorem lw_p19 : lw_okq (⟨"FishCounterModel", "isSold", "(I)Z"⟩, 12) := ⟨⟨by decide +kernel, by decide +kernel⟩, List.mem_of_getElem? (i := 596) (by decide +kernel), List.mem_of_getElem? (i := 767) (by decide +kernel), List.mem_of_getElem? (i := 768) (by decide +kernel)⟩
theorem lw_p20 : lw_okq (⟨"FishCounterModel", "passesHour", "()V"⟩, 12) := ⟨⟨by decide +kernel, by decide +kernel⟩, List.mem_of_getElem? (i := 596) (by decide +kernel), List.mem_of_getElem? (i := 775) (by decide +kernel), List.mem_of_getElem? (i := 776) (by decide +kernel)⟩
theorem lw_p21 : lw_okq (⟨"FishCounterModel", "iceThen", "(II)I"⟩, 12) := ⟨⟨by decide +kernel, by decide +kernel⟩, List.mem_of_getElem? (i := 596) (by decide +kernel), List.mem_of_getElem? (i := 785) (by decide +kernel), List.mem_of_getElem? (i := 786) (by decide +kernel)⟩
theorem lw_p22 : lw_okq (⟨"FishCounterModel", "closes", "()I"⟩, 12) := ⟨⟨by decide +kernel, by decide +kernel⟩, List.mem_of_getElem? (i := 596) (by decide +kernel), List.mem_of_getElem? (i := 793) (by decide +kernel), List.mem_of_getElem? (i := 794) (by decide +kernel)⟩
theorem lw_p23 : lw_okq (⟨"FishCounterModel", "firstAt", "(I)I"⟩, 12) := ⟨⟨by decide +kernel, by decide +kernel⟩, List.mem_of_getElem? (i := 596) (by decide +kernel), List.mem_of_getElem? (i := 797) (by decide +kernel), List.mem_of_getElem? (i := 798) (by decide +kernel)⟩
theorem lw_p24 : lw_okq (⟨"FishCounterModel", "coldest", "()I"⟩, 12) := ⟨⟨by decide +kernel, by decide +kernel⟩, List.mem_of_getElem? (i := 596) (by decide +kernel), List.mem_of_getElem? (i := 801) (by decide +kernel), List.mem_of_getElem? (i := 802) (by decide +kernel)⟩
theorem lw_p25 : lw_okq (⟨"FishCounterModel", "countOf", "(I)J"⟩, 12) := ⟨⟨by decide +kernel, by decide +kernel⟩, List.mem_of_getElem? (i := 596) (by decide +kernel), List.mem_of_getElem? (i := 809) (by decide +kernel), List.mem_of_getElem? (i := 810) (by decide +kernel)⟩
theorem lw_p26 : lw_okq (⟨"FishCounterModel", "allGrams", "()I"⟩, 12) := ⟨⟨by decide +kernel, by decide +kernel⟩, List.mem_of_getElem? (i := 596) (by decide +kernel), List.mem_of_getElem? (i := 813) (by decide +kernel), List.mem_of_getElem? (i := 814) (by decide +kernel)⟩
theorem lw_p27 : lw_okq (⟨"FishCounterModel", "ofLot", "(II)I"⟩, 12) := ⟨⟨by decide +kernel, by decide +kernel⟩, List.mem_of_getElem? (i := 596) (by decide +kernel), List.mem_of_getElem? (i := 822) (by decide +kernel), List.mem_of_getElem? (i := 823) (by decide +kernel)⟩
theorem lw_p28 : lw_okq (⟨"FishCounterModel", "ofBox", "(II)I"⟩, 12) := ⟨⟨by decide +kernel, by decide +kernel⟩, List.mem_of_getElem? (i := 596) (by decide +kernel), List.mem_of_getElem? (i := 830) (by decide +kernel), List.mem_of_getElem? (i := 831) (by decide +kernel)⟩
theorem lw_p29 : lw_okq (⟨"FishCounterModel", "gramsAt", "(I)I"⟩, 12) := ⟨⟨by decide +kernel, by decide +kernel⟩, List.mem_of_getElem? (i := 596) (by decide +kernel), List.mem_of_getElem? (i := 834) (by decide +kernel), List.mem_of_getElem? (i := 835) (by decide +kernel)⟩
theorem lw_p30 : lw_okq (⟨"FishCounterModel", "numberAt", "(I)I"⟩, 12) := ⟨⟨by decide +kernel, by decide +kernel⟩, List.mem_of_getElem? (i := 596) (by decide +kernel), List.mem_of_getElem? (i := 838) (by decide +kernel), List.mem_of_getElem? (i := 839) (by decide +kernel)⟩
theorem lw_p31 : lw_okq (⟨"FishCounterModel", "ofTray", "(II)I"⟩, 12) := ⟨⟨by decide +kernel, by decide +kernel⟩, List.mem_of_getElem? (i := 596) (by decide +kernel), List.mem_of_getElem? (i := 846) (by decide +kernel), List.mem_of_getElem? (i := 847) (by decide +kernel)⟩
def lw_privs_2 : List (MethodName × Nat) := [(⟨"FishCounterModel", "throwsAway", "(I)V"⟩, 12), (⟨"FishCounterModel", "drops", "(I)V"⟩, 12), (⟨"FishCounterModel", "nextFor", "(III)I"⟩, 12), (⟨"FishCounterModel", "isSold", "(I)Z"⟩, 12), (⟨"FishCounterModel", "passesHour", "()V"⟩, 12), (⟨"FishCounterModel", "iceThen", "(II)I"⟩, 12), (⟨"FishCounterModel", "closes", "()I"⟩, 12), (⟨"FishCounterModel", "firstAt", "(I)I"⟩, 12), (⟨"FishCounterModel", "coldest", "()I"⟩, 12), (⟨"FishCounterModel", "countOf", "(I)J"⟩, 12), (⟨"FishCounterModel", "allGrams", "()I"⟩, 12), (⟨"FishCounterModel", "ofLot", "(II)I"⟩, 12), (⟨"FishCounterModel", "ofBox", "(II)I"⟩, 12), (⟨"FishCounterModel", "gramsAt", "(I)I"⟩, 12), (⟨"FishCounterModel", "numberAt", "(I)I"⟩, 12), (⟨"FishCounterModel", "ofTray", "(II)I"⟩, 12)]
theorem lw_r2 : ∀ q ∈ lw_privs_2, lw_okq q := List.forall_mem_cons.mpr ⟨lw_p16, List.forall_mem_cons.mpr ⟨lw_p17, List.forall_mem_cons.mpr ⟨lw_p18, List.forall_mem_cons.mpr ⟨lw_p19, List.forall_mem_cons.mpr ⟨lw_p20, List.forall_mem_cons.mpr ⟨lw_p21, List.forall_mem_cons.mpr ⟨lw_p22, List.forall_mem_cons.mpr ⟨lw_p23, List.forall_mem_cons.mpr ⟨lw_p24, List.forall_mem_cons.mpr ⟨lw_p25, List.forall_mem_cons.mpr ⟨lw_p26, List.forall_mem_cons.mpr ⟨lw_p27, List.forall_mem_cons.mpr ⟨lw_p28, List.forall_mem_cons.mpr ⟨lw_p29, List.forall_mem_cons.mpr ⟨lw_p30, List.forall_mem_cons.mpr ⟨lw_p31, fun _ h => absurd h List.not_mem_nil⟩⟩⟩⟩⟩⟩⟩⟩⟩⟩⟩⟩⟩⟩⟩⟩
theorem lw_p32 : lw_okq (⟨"FishCounterModel", "ofKind", "(II)I"⟩, 12) := ⟨⟨by decide +kernel, by decide +kernel⟩, List.mem_of_getElem? (i := 596) (by decide +kernel), List.mem_of_getElem? (i := 854) (by decide +kernel), List.mem_of_getElem? (i := 855) (by decide +kernel)⟩
theorem lw_p33 : lw_okq (⟨"FishCounterModel", "gramsOfKind", "(I)I"⟩, 12) := ⟨⟨by decide +kernel, by decide +kernel⟩, List.mem_of_getElem? (i := 596) (by decide +kernel), List.mem_of_getElem? (i := 858) (by decide +kernel), List.mem_of_getElem? (i := 859) (by decide +kernel)⟩
theorem lw_p34 : lw_okq (⟨"FishCounterModel", "freshest", "(I)I"⟩, 12) := ⟨⟨by decide +kernel, by decide +kernel⟩, List.mem_of_getElem? (i := 596) (by decide +kernel), List.mem_of_getElem? (i := 862) (by decide +kernel), List.mem_of_getElem? (i := 863) (by decide +kernel)⟩
theorem lw_p35 : lw_okq (⟨"FishCounterModel", "freshIn", "(II)I"⟩, 12) := ⟨⟨by decide +kernel, by decide +kernel⟩, List.mem_of_getElem? (i := 596) (by decide +kernel), List.mem_of_getElem? (i := 874) (by decide +kernel), List.mem_of_getElem? (i := 875) (by decide +kernel)⟩
theorem lw_p36 : lw_okq (⟨"FishCounterModel", "leftOf", "(I)I"⟩, 12) := ⟨⟨by decide +kernel, by decide +kernel⟩, List.mem_of_getElem? (i := 596) (by decide +kernel), List.mem_of_getElem? (i := 882) (by decide +kernel), List.mem_of_getElem? (i := 883) (by decide +kernel)⟩
theorem lw_p37 : lw_okq (⟨"FishCounterModel", "bestOf", "(I)I"⟩, 12) := ⟨⟨by decide +kernel, by decide +kernel⟩, List.mem_of_getElem? (i := 596) (by decide +kernel), List.mem_of_getElem? (i := 890) (by decide +kernel), List.mem_of_getElem? (i := 891) (by decide +kernel)⟩
theorem lw_p38 : lw_okq (⟨"FishCounterModel", "allWorth", "()J"⟩, 12) := ⟨⟨by decide +kernel, by decide +kernel⟩, List.mem_of_getElem? (i := 596) (by decide +kernel), List.mem_of_getElem? (i := 902) (by decide +kernel), List.mem_of_getElem? (i := 903) (by decide +kernel)⟩
theorem lw_p39 : lw_okq (⟨"FishCounterModel", "findError", "()I"⟩, 12) := ⟨⟨by decide +kernel, by decide +kernel⟩, List.mem_of_getElem? (i := 596) (by decide +kernel), List.mem_of_getElem? (i := 918) (by decide +kernel), List.mem_of_getElem? (i := 919) (by decide +kernel)⟩
theorem lw_p40 : lw_okq (⟨"FishCounterModel", "readsItem", "()Z"⟩, 12) := ⟨⟨by decide +kernel, by decide +kernel⟩, List.mem_of_getElem? (i := 596) (by decide +kernel), List.mem_of_getElem? (i := 922) (by decide +kernel), List.mem_of_getElem? (i := 923) (by decide +kernel)⟩
theorem lw_p41 : lw_okq (⟨"FishCounterModel", "readsDigit", "(II)Z"⟩, 12) := ⟨⟨by decide +kernel, by decide +kernel⟩, List.mem_of_getElem? (i := 596) (by decide +kernel), List.mem_of_getElem? (i := 926) (by decide +kernel), List.mem_of_getElem? (i := 927) (by decide +kernel)⟩
theorem lw_p42 : lw_okq (⟨"FishCounterModel", "character", "(I)I"⟩, 12) := ⟨⟨by decide +kernel, by decide +kernel⟩, List.mem_of_getElem? (i := 596) (by decide +kernel), List.mem_of_getElem? (i := 930) (by decide +kernel), List.mem_of_getElem? (i := 931) (by decide +kernel)⟩
theorem lw_p43 : lw_okq (⟨"FishCounterModel", "isNext", "(I)Z"⟩, 12) := ⟨⟨by decide +kernel, by decide +kernel⟩, List.mem_of_getElem? (i := 596) (by decide +kernel), List.mem_of_getElem? (i := 934) (by decide +kernel), List.mem_of_getElem? (i := 935) (by decide +kernel)⟩
theorem lw_p44 : lw_okq (⟨"FishCounterModel", "readsNumber", "(II)Z"⟩, 12) := ⟨⟨by decide +kernel, by decide +kernel⟩, List.mem_of_getElem? (i := 596) (by decide +kernel), List.mem_of_getElem? (i := 938) (by decide +kernel), List.mem_of_getElem? (i := 939) (by decide +kernel)⟩
def lw_privs_3 : List (MethodName × Nat) := [(⟨"FishCounterModel", "ofKind", "(II)I"⟩, 12), (⟨"FishCounterModel", "gramsOfKind", "(I)I"⟩, 12), (⟨"FishCounterModel", "freshest", "(I)I"⟩, 12), (⟨"FishCounterModel", "freshIn", "(II)I"⟩, 12), (⟨"FishCounterModel", "leftOf", "(I)I"⟩, 12), (⟨"FishCounterModel", "bestOf", "(I)I"⟩, 12), (⟨"FishCounterModel", "allWorth", "()J"⟩, 12), (⟨"FishCounterModel", "findError", "()I"⟩, 12), (⟨"FishCounterModel", "readsItem", "()Z"⟩, 12), (⟨"FishCounterModel", "readsDigit", "(II)Z"⟩, 12), (⟨"FishCounterModel", "character", "(I)I"⟩, 12), (⟨"FishCounterModel", "isNext", "(I)Z"⟩, 12), (⟨"FishCounterModel", "readsNumber", "(II)Z"⟩, 12)]
theorem lw_r3 : ∀ q ∈ lw_privs_3, lw_okq q := List.forall_mem_cons.mpr ⟨lw_p32, List.forall_mem_cons.mpr ⟨lw_p33, List.forall_mem_cons.mpr ⟨lw_p34, List.forall_mem_cons.mpr ⟨lw_p35, List.forall_mem_cons.mpr ⟨lw_p36, List.forall_mem_cons.mpr ⟨lw_p37, List.forall_mem_cons.mpr ⟨lw_p38, List.forall_mem_cons.mpr ⟨lw_p39, List.forall_mem_cons.mpr ⟨lw_p40, List.forall_mem_cons.mpr ⟨lw_p41, List.forall_mem_cons.mpr ⟨lw_p42, List.forall_mem_cons.mpr ⟨lw_p43, List.forall_mem_cons.mpr ⟨lw_p44, fun _ h => absurd h List.not_mem_nil⟩⟩⟩⟩⟩⟩⟩⟩⟩⟩⟩⟩⟩
def lw_privs : List (MethodName × Nat) := lw_privs_1 ++ (lw_privs_2 ++ (lw_privs_3))
def lw_tbl : List Cond := k2_sels lw_privs ++ tables_1
theorem lw_privs_ok : ∀ q ∈ lw_privs, lw_okq q := by
  show ∀ q ∈ lw_privs_1 ++ (lw_privs_2 ++ (lw_privs_3)), lw_okq q
  exact List.forall_mem_append.mpr ⟨lw_r1, List.forall_mem_append.mpr ⟨lw_r2, lw_r3⟩⟩
/-! ===== BEGIN words of one list among another's, by their places ===== -/
theorem goodIn_r {big : List Cond} (ws : List Cond) (ps : List Nat) (hp : ws = ps.filterMap (fun i => big[i]?)) (h : ws.all goodWord = true) : GoodIn big ws := by
  intro w hw
  have h1 := List.all_eq_true.mp h w hw
  rw [hp] at hw
  obtain ⟨i, -, hi⟩ := List.mem_filterMap.mp hw
  have hm : w ∈ big := by first | exact List.mem_of_getElem? hi | exact List.getElem?_mem hi
  exact ⟨hm, good_of_word h1⟩
theorem goodIn_app {big a b : List Cond} (ha : GoodIn big a) (hb : GoodIn big b) : GoodIn big (a ++ b) := fun w h => (List.mem_append.mp h).elim (ha w) (hb w)
theorem goodIn_ca {big a b : List Cond} {c : Cond} (ha : GoodIn big (c :: a)) (hb : GoodIn big b) : GoodIn big (c :: (a ++ b)) := fun w h => (List.mem_cons.mp h).elim (fun e => ha w (List.mem_cons.mpr (Or.inl e))) (fun h => (List.mem_append.mp h).elim (fun h => ha w (List.mem_cons.mpr (Or.inr h))) (hb w))
theorem goodIn_sub {big ws : List Cond} (hm : ∀ w ∈ ws, w ∈ big) (h : ws.all goodWord = true) : GoodIn big ws := fun w hw => ⟨hm w hw, good_of_word (List.all_eq_true.mp h w hw)⟩
/-! ===== END ===== -/

/-! ===== BEGIN printed: names, fields, word lists, decode rows ===== -/
def RX0 : String := "FishCounter$DeliveryText"
def TX0 : u_T := fun k => match k with
  | 0 => ("FishCounter$DeliveryText", "length", "I", false)
  | 1 => ("FishCounter$DeliveryText", "kind", "I", false)
  | 2 => ("FishCounter$DeliveryText", "grams", "I", false)
  | 3 => ("FishCounter$DeliveryText", "fresh", "I", false)
  | 4 => ("FishCounter$DeliveryText", "box", "I", false)
  | 5 => ("FishCounter$DeliveryText", "position", "I", false)
  | _ => ("FishCounter$DeliveryText", "signs", "[C", true)
def tyX0 : Nat → FieldType := fun k => match k with
  | 0 => .int
  | 1 => .int
  | 2 => .int
  | 3 => .int
  | 4 => .int
  | 5 => .int
  | _ => .array .char
abbrev wsX00 : List Cond := u_ws RX0 TX0 7
theorem nmX0 : ∀ a, a < 7 → ∀ b, b < 7 → a ≠ b → (TX0 a).2.1 ≠ (TX0 b).2.1 := by decide +kernel
theorem tyX0_ok : ∀ k, k < 7 → parseFieldDescriptor (TX0 k).2.2.1 = some (tyX0 k) := by decide +kernel
abbrev cX0_init : ByteArray := prog_2_method_1_code
def yX0_init : MethodName := ⟨RX0, "<init>", "()V"⟩
abbrev cX0_append : ByteArray := prog_2_method_2_code
def yX0_append : MethodName := ⟨RX0, "append", "(C)V"⟩
abbrev cX0_firstError : ByteArray := prog_2_method_3_code
def yX0_firstError : MethodName := ⟨RX0, "firstError", "()I"⟩
abbrev cX0_startReading : ByteArray := prog_2_method_4_code
def yX0_startReading : MethodName := ⟨RX0, "startReading", "()V"⟩
abbrev cX0_readItem : ByteArray := prog_2_method_5_code
def yX0_readItem : MethodName := ⟨RX0, "readItem", "()Z"⟩
abbrev cX0_skipSign : ByteArray := prog_2_method_6_code
def yX0_skipSign : MethodName := ⟨RX0, "skipSign", "(C)Z"⟩
abbrev cX0_readNumber : ByteArray := prog_2_method_7_code
def yX0_readNumber : MethodName := ⟨RX0, "readNumber", "(II)I"⟩
abbrev cX0_digitHere : ByteArray := prog_2_method_8_code
def yX0_digitHere : MethodName := ⟨RX0, "digitHere", "()I"⟩
def RX1 : String := "FishCounter$Forecast"
def TX1 : u_T := fun k => match k with
  | 0 => ("FishCounter$Forecast", "fresh", "I", false)
  | 1 => ("FishCounter$Forecast", "ice", "I", false)
  | 2 => ("FishCounter$Forecast", "melting", "I", false)
  | _ => ("FishCounter$Forecast", "onTray", "Z", false)
def tyX1 : Nat → FieldType := fun k => match k with
  | 0 => .int
  | 1 => .int
  | 2 => .int
  | _ => .boolean
abbrev wsX10 : List Cond := u_ws RX1 TX1 4
theorem nmX1 : ∀ a, a < 4 → ∀ b, b < 4 → a ≠ b → (TX1 a).2.1 ≠ (TX1 b).2.1 := by decide +kernel
theorem tyX1_ok : ∀ k, k < 4 → parseFieldDescriptor (TX1 k).2.2.1 = some (tyX1 k) := by decide +kernel
abbrev cX1_init : ByteArray := prog_3_method_1_code
def yX1_init : MethodName := ⟨RX1, "<init>", "()V"⟩
abbrev cX1_start : ByteArray := prog_3_method_2_code
def yX1_start : MethodName := ⟨RX1, "start", "(LFishCounter$Shop;LFishCounter$Lot;)V"⟩
abbrev cX1_passHour : ByteArray := prog_3_method_3_code
def yX1_passHour : MethodName := ⟨RX1, "passHour", "()V"⟩
def RX2 : String := "FishCounter$History"
def TX2 : u_T := fun k => match k with
  | 0 => ("FishCounter$History", "count", "I", false)
  | 1 => ("FishCounter$History", "next", "I", false)
  | _ => ("FishCounter$History", "saved", "[LFishCounter$Shop;", true)
def tyX2 : Nat → FieldType := fun k => match k with
  | 0 => .int
  | 1 => .int
  | _ => .array (.object "FishCounter$Shop")
abbrev wsX20 : List Cond := u_ws RX2 TX2 3
theorem nmX2 : ∀ a, a < 3 → ∀ b, b < 3 → a ≠ b → (TX2 a).2.1 ≠ (TX2 b).2.1 := by decide +kernel
theorem tyX2_ok : ∀ k, k < 3 → parseFieldDescriptor (TX2 k).2.2.1 = some (tyX2 k) := by decide +kernel
abbrev cX2_init : ByteArray := prog_4_method_1_code
def yX2_init : MethodName := ⟨RX2, "<init>", "()V"⟩
abbrev cX2_save : ByteArray := prog_4_method_2_code
def yX2_save : MethodName := ⟨RX2, "save", "(LFishCounter$Shop;)V"⟩
abbrev cX2_restore : ByteArray := prog_4_method_3_code
def yX2_restore : MethodName := ⟨RX2, "restore", "(LFishCounter$Shop;)V"⟩
def RX3 : String := "FishCounter$Lot"
def TX3 : u_T := fun k => match k with
  | 0 => ("FishCounter$Lot", "number", "I", false)
  | 1 => ("FishCounter$Lot", "kind", "I", false)
  | 2 => ("FishCounter$Lot", "grams", "I", false)
  | 3 => ("FishCounter$Lot", "fresh", "I", false)
  | 4 => ("FishCounter$Lot", "box", "I", false)
  | _ => ("FishCounter$Lot", "tray", "I", false)
def tyX3 : Nat → FieldType := fun k => match k with
  | 0 => .int
  | 1 => .int
  | 2 => .int
  | 3 => .int
  | 4 => .int
  | _ => .int
abbrev wsX30 : List Cond := u_ws RX3 TX3 6
theorem nmX3 : ∀ a, a < 6 → ∀ b, b < 6 → a ≠ b → (TX3 a).2.1 ≠ (TX3 b).2.1 := by decide +kernel
theorem tyX3_ok : ∀ k, k < 6 → parseFieldDescriptor (TX3 k).2.2.1 = some (tyX3 k) := by decide +kernel
abbrev cX3_init : ByteArray := prog_5_method_1_code
def yX3_init : MethodName := ⟨RX3, "<init>", "()V"⟩
abbrev cX3_isOnTray : ByteArray := prog_5_method_2_code
def yX3_isOnTray : MethodName := ⟨RX3, "isOnTray", "()Z"⟩
abbrev cX3_putInBox : ByteArray := prog_5_method_3_code
def yX3_putInBox : MethodName := ⟨RX3, "putInBox", "(I)V"⟩
abbrev cX3_putOnTray : ByteArray := prog_5_method_4_code
def yX3_putOnTray : MethodName := ⟨RX3, "putOnTray", "(I)V"⟩
abbrev cX3_copyFrom : ByteArray := prog_5_method_5_code
def yX3_copyFrom : MethodName := ⟨RX3, "copyFrom", "(LFishCounter$Lot;)V"⟩
def RX4 : String := "FishCounter$Shop"
def TX4 : u_T := fun k => match k with
  | 0 => ("FishCounter$Shop", "day", "I", false)
  | 1 => ("FishCounter$Shop", "hour", "I", false)
  | 2 => ("FishCounter$Shop", "melting", "I", false)
  | 3 => ("FishCounter$Shop", "limit", "I", false)
  | 4 => ("FishCounter$Shop", "lastNumber", "I", false)
  | 5 => ("FishCounter$Shop", "lotCount", "I", false)
  | 6 => ("FishCounter$Shop", "gramsCame", "J", false)
  | 7 => ("FishCounter$Shop", "gramsSold", "J", false)
  | 8 => ("FishCounter$Shop", "gramsThrownAway", "J", false)
  | 9 => ("FishCounter$Shop", "moneyPaid", "J", false)
  | 10 => ("FishCounter$Shop", "moneyTaken", "J", false)
  | 11 => ("FishCounter$Shop", "prices", "[I", true)
  | 12 => ("FishCounter$Shop", "costs", "[I", true)
  | 13 => ("FishCounter$Shop", "cuts", "[I", true)
  | 14 => ("FishCounter$Shop", "boxIce", "[I", true)
  | 15 => ("FishCounter$Shop", "trayIce", "[I", true)
  | _ => ("FishCounter$Shop", "lots", "[LFishCounter$Lot;", true)
def tyX4 : Nat → FieldType := fun k => match k with
  | 0 => .int
  | 1 => .int
  | 2 => .int
  | 3 => .int
  | 4 => .int
  | 5 => .int
  | 6 => .long
  | 7 => .long
  | 8 => .long
  | 9 => .long
  | 10 => .long
  | 11 => .array .int
  | 12 => .array .int
  | 13 => .array .int
  | 14 => .array .int
  | 15 => .array .int
  | _ => .array (.object "FishCounter$Lot")
abbrev wsX40 : List Cond := u_ws RX4 TX4 17
theorem nmX4 : ∀ a, a < 17 → ∀ b, b < 17 → a ≠ b → (TX4 a).2.1 ≠ (TX4 b).2.1 := by decide +kernel
theorem tyX4_ok : ∀ k, k < 17 → parseFieldDescriptor (TX4 k).2.2.1 = some (tyX4 k) := by decide +kernel
abbrev cX4_init : ByteArray := prog_6_method_1_code
def yX4_init : MethodName := ⟨RX4, "<init>", "()V"⟩
abbrev cX4_copyFrom : ByteArray := prog_6_method_2_code
def yX4_copyFrom : MethodName := ⟨RX4, "copyFrom", "(LFishCounter$Shop;)V"⟩
abbrev cX4_indexOfLot : ByteArray := prog_6_method_3_code
def yX4_indexOfLot : MethodName := ⟨RX4, "indexOfLot", "(I)I"⟩
abbrev cX4_findLot : ByteArray := prog_6_method_4_code
def yX4_findLot : MethodName := ⟨RX4, "findLot", "(I)LFishCounter$Lot;"⟩
abbrev cX4_lotOnTray : ByteArray := prog_6_method_5_code
def yX4_lotOnTray : MethodName := ⟨RX4, "lotOnTray", "(I)LFishCounter$Lot;"⟩
abbrev cX4_numberOnTray : ByteArray := prog_6_method_6_code
def yX4_numberOnTray : MethodName := ⟨RX4, "numberOnTray", "(I)I"⟩
abbrev cX4_lotsInBox : ByteArray := prog_6_method_7_code
def yX4_lotsInBox : MethodName := ⟨RX4, "lotsInBox", "(I)I"⟩
abbrev cX4_isBoxFull : ByteArray := prog_6_method_8_code
def yX4_isBoxFull : MethodName := ⟨RX4, "isBoxFull", "(I)Z"⟩
abbrev cX4_gramsInBox : ByteArray := prog_6_method_9_code
def yX4_gramsInBox : MethodName := ⟨RX4, "gramsInBox", "(I)I"⟩
abbrev cX4_firstLotInBox : ByteArray := prog_6_method_10_code
def yX4_firstLotInBox : MethodName := ⟨RX4, "firstLotInBox", "(I)I"⟩
abbrev cX4_gramsInShop : ByteArray := prog_6_method_11_code
def yX4_gramsInShop : MethodName := ⟨RX4, "gramsInShop", "()I"⟩
abbrev cX4_gramsOfKind : ByteArray := prog_6_method_12_code
def yX4_gramsOfKind : MethodName := ⟨RX4, "gramsOfKind", "(I)I"⟩
abbrev cX4_freshestLotOfKind : ByteArray := prog_6_method_13_code
def yX4_freshestLotOfKind : MethodName := ⟨RX4, "freshestLotOfKind", "(I)I"⟩
abbrev cX4_priceAt : ByteArray := prog_6_method_14_code
def yX4_priceAt : MethodName := ⟨RX4, "priceAt", "(III)I"⟩
abbrev cX4_priceOf : ByteArray := prog_6_method_15_code
def yX4_priceOf : MethodName := ⟨RX4, "priceOf", "(LFishCounter$Lot;)I"⟩
abbrev cX4_iceAt : ByteArray := prog_6_method_16_code
def yX4_iceAt : MethodName := ⟨RX4, "iceAt", "(LFishCounter$Lot;)I"⟩
abbrev cX4_refusalOfNewLot : ByteArray := prog_6_method_17_code
def yX4_refusalOfNewLot : MethodName := ⟨RX4, "refusalOfNewLot", "(I)I"⟩
abbrev cX4_addLot : ByteArray := prog_6_method_18_code
def yX4_addLot : MethodName := ⟨RX4, "addLot", "(IIII)I"⟩
abbrev cX4_buyLot : ByteArray := prog_6_method_19_code
def yX4_buyLot : MethodName := ⟨RX4, "buyLot", "(IIII)I"⟩
abbrev cX4_removeLotAt : ByteArray := prog_6_method_20_code
def yX4_removeLotAt : MethodName := ⟨RX4, "removeLotAt", "(I)V"⟩
abbrev cX4_discardLotAt : ByteArray := prog_6_method_21_code
def yX4_discardLotAt : MethodName := ⟨RX4, "discardLotAt", "(I)I"⟩
abbrev cX4_sell : ByteArray := prog_6_method_22_code
def yX4_sell : MethodName := ⟨RX4, "sell", "(IIII)I"⟩
abbrev cX4_nextLotToSell : ByteArray := prog_6_method_23_code
def yX4_nextLotToSell : MethodName := ⟨RX4, "nextLotToSell", "(III)I"⟩
abbrev cX4_sellFromLotAt : ByteArray := prog_6_method_24_code
def yX4_sellFromLotAt : MethodName := ⟨RX4, "sellFromLotAt", "(II)I"⟩
abbrev cX4_passHour : ByteArray := prog_6_method_25_code
def yX4_passHour : MethodName := ⟨RX4, "passHour", "()V"⟩
abbrev cX4_closeDay : ByteArray := prog_6_method_26_code
def yX4_closeDay : MethodName := ⟨RX4, "closeDay", "()I"⟩
abbrev cX4_discardLotsBelowLimit : ByteArray := prog_6_method_27_code
def yX4_discardLotsBelowLimit : MethodName := ⟨RX4, "discardLotsBelowLimit", "()I"⟩
abbrev cX4_clearTray : ByteArray := prog_6_method_28_code
def yX4_clearTray : MethodName := ⟨RX4, "clearTray", "(I)I"⟩
abbrev cX4_boxForTheNight : ByteArray := prog_6_method_29_code
def yX4_boxForTheNight : MethodName := ⟨RX4, "boxForTheNight", "()I"⟩
def RX5 : String := "FishCounter"
def TX5 : u_T := fun k => match k with
  | 0 => ("FishCounter", "now", "LFishCounter$Shop;", true)
  | 1 => ("FishCounter", "trial", "LFishCounter$Shop;", true)
  | 2 => ("FishCounter", "forecast", "LFishCounter$Forecast;", true)
  | 3 => ("FishCounter", "history", "LFishCounter$History;", true)
  | _ => ("FishCounter", "text", "LFishCounter$DeliveryText;", true)
def tyX5 : Nat → FieldType := fun k => match k with
  | 0 => .object "FishCounter$Shop"
  | 1 => .object "FishCounter$Shop"
  | 2 => .object "FishCounter$Forecast"
  | 3 => .object "FishCounter$History"
  | _ => .object "FishCounter$DeliveryText"
abbrev wsX50 : List Cond := u_ws RX5 TX5 5
theorem nmX5 : ∀ a, a < 5 → ∀ b, b < 5 → a ≠ b → (TX5 a).2.1 ≠ (TX5 b).2.1 := by decide +kernel
theorem tyX5_ok : ∀ k, k < 5 → parseFieldDescriptor (TX5 k).2.2.1 = some (tyX5 k) := by decide +kernel
abbrev cX5_init : ByteArray := prog_1_method_1_code
def yX5_init : MethodName := ⟨RX5, "<init>", "()V"⟩
abbrev cX5_setPrice : ByteArray := prog_1_method_2_code
def yX5_setPrice : MethodName := ⟨RX5, "setPrice", "(III)I"⟩
abbrev cX5_setCut : ByteArray := prog_1_method_3_code
def yX5_setCut : MethodName := ⟨RX5, "setCut", "(II)I"⟩
abbrev cX5_setMelting : ByteArray := prog_1_method_4_code
def yX5_setMelting : MethodName := ⟨RX5, "setMelting", "(II)I"⟩
abbrev cX5_deliver : ByteArray := prog_1_method_5_code
def yX5_deliver : MethodName := ⟨RX5, "deliver", "(IIII)I"⟩
abbrev cX5_iceBox : ByteArray := prog_1_method_6_code
def yX5_iceBox : MethodName := ⟨RX5, "iceBox", "(II)I"⟩
abbrev cX5_iceTray : ByteArray := prog_1_method_7_code
def yX5_iceTray : MethodName := ⟨RX5, "iceTray", "(II)I"⟩
abbrev cX5_toTray : ByteArray := prog_1_method_8_code
def yX5_toTray : MethodName := ⟨RX5, "toTray", "(II)I"⟩
abbrev cX5_toBox : ByteArray := prog_1_method_9_code
def yX5_toBox : MethodName := ⟨RX5, "toBox", "(II)I"⟩
abbrev cX5_divide : ByteArray := prog_1_method_10_code
def yX5_divide : MethodName := ⟨RX5, "divide", "(III)I"⟩
abbrev cX5_throwAway : ByteArray := prog_1_method_11_code
def yX5_throwAway : MethodName := ⟨RX5, "throwAway", "(I)I"⟩
abbrev cX5_order : ByteArray := prog_1_method_12_code
def yX5_order : MethodName := ⟨RX5, "order", "(IIII)I"⟩
abbrev cX5_pass : ByteArray := prog_1_method_13_code
def yX5_pass : MethodName := ⟨RX5, "pass", "()I"⟩
abbrev cX5_close : ByteArray := prog_1_method_14_code
def yX5_close : MethodName := ⟨RX5, "close", "()I"⟩
abbrev cX5_count : ByteArray := prog_1_method_15_code
def yX5_count : MethodName := ⟨RX5, "count", "(I)J"⟩
abbrev cX5_lot : ByteArray := prog_1_method_16_code
def yX5_lot : MethodName := ⟨RX5, "lot", "(II)I"⟩
abbrev cX5_box : ByteArray := prog_1_method_17_code
def yX5_box : MethodName := ⟨RX5, "box", "(II)I"⟩
abbrev cX5_tray : ByteArray := prog_1_method_18_code
def yX5_tray : MethodName := ⟨RX5, "tray", "(II)I"⟩
abbrev cX5_kind : ByteArray := prog_1_method_19_code
def yX5_kind : MethodName := ⟨RX5, "kind", "(II)I"⟩
abbrev cX5_cut : ByteArray := prog_1_method_20_code
def yX5_cut : MethodName := ⟨RX5, "cut", "(I)I"⟩
abbrev cX5_freshAfter : ByteArray := prog_1_method_21_code
def yX5_freshAfter : MethodName := ⟨RX5, "freshAfter", "(II)I"⟩
abbrev cX5_hoursLeft : ByteArray := prog_1_method_22_code
def yX5_hoursLeft : MethodName := ⟨RX5, "hoursLeft", "(I)I"⟩
abbrev cX5_bestHour : ByteArray := prog_1_method_23_code
def yX5_bestHour : MethodName := ⟨RX5, "bestHour", "(I)I"⟩
abbrev cX5_ifClosed : ByteArray := prog_1_method_24_code
def yX5_ifClosed : MethodName := ⟨RX5, "ifClosed", "(I)I"⟩
abbrev cX5_worth : ByteArray := prog_1_method_25_code
def yX5_worth : MethodName := ⟨RX5, "worth", "()J"⟩
abbrev cX5_type : ByteArray := prog_1_method_26_code
def yX5_type : MethodName := ⟨RX5, "type", "(I)I"⟩
abbrev cX5_clearText : ByteArray := prog_1_method_27_code
def yX5_clearText : MethodName := ⟨RX5, "clearText", "()I"⟩
abbrev cX5_syntaxError : ByteArray := prog_1_method_28_code
def yX5_syntaxError : MethodName := ⟨RX5, "syntaxError", "()I"⟩
abbrev cX5_deliverAll : ByteArray := prog_1_method_29_code
def yX5_deliverAll : MethodName := ⟨RX5, "deliverAll", "()I"⟩
abbrev cX5_undo : ByteArray := prog_1_method_30_code
def yX5_undo : MethodName := ⟨RX5, "undo", "()I"⟩
abbrev cX5_digest : ByteArray := prog_1_method_31_code
def yX5_digest : MethodName := ⟨RX5, "digest", "()J"⟩
abbrev cX5_mixedWithLot : ByteArray := prog_1_method_32_code
def yX5_mixedWithLot : MethodName := ⟨RX5, "mixedWithLot", "(JI)J"⟩
abbrev cX5_mixedWithPlaces : ByteArray := prog_1_method_33_code
def yX5_mixedWithPlaces : MethodName := ⟨RX5, "mixedWithPlaces", "(J)J"⟩
abbrev cX5_mixed : ByteArray := prog_1_method_34_code
def yX5_mixed : MethodName := ⟨RX5, "mixed", "(JJ)J"⟩
abbrev cX5_within : ByteArray := prog_1_method_35_code
def yX5_within : MethodName := ⟨RX5, "within", "(III)Z"⟩
abbrev cX5_isKind : ByteArray := prog_1_method_36_code
def yX5_isKind : MethodName := ⟨RX5, "isKind", "(I)Z"⟩
abbrev cX5_isBox : ByteArray := prog_1_method_37_code
def yX5_isBox : MethodName := ⟨RX5, "isBox", "(I)Z"⟩
abbrev cX5_isTray : ByteArray := prog_1_method_38_code
def yX5_isTray : MethodName := ⟨RX5, "isTray", "(I)Z"⟩
abbrev cX5_isHour : ByteArray := prog_1_method_39_code
def yX5_isHour : MethodName := ⟨RX5, "isHour", "(I)Z"⟩
abbrev cX5_moneyFor : ByteArray := prog_1_method_40_code
def yX5_moneyFor : MethodName := ⟨RX5, "moneyFor", "(II)I"⟩
abbrev cX5_freshAnHourLater : ByteArray := prog_1_method_41_code
def yX5_freshAnHourLater : MethodName := ⟨RX5, "freshAnHourLater", "(IZI)I"⟩
abbrev cX5_iceAnHourLater : ByteArray := prog_1_method_42_code
def yX5_iceAnHourLater : MethodName := ⟨RX5, "iceAnHourLater", "(IZI)I"⟩
def RX6 : String := "FishCounterModel"
def TX6 : u_T := fun k => match k with
  | 0 => ("FishCounterModel", "state", "[I", true)
  | 1 => ("FishCounterModel", "kept", "[I", true)
  | 2 => ("FishCounterModel", "history", "[I", true)
  | 3 => ("FishCounterModel", "recorded", "I", false)
  | 4 => ("FishCounterModel", "text", "[I", true)
  | 5 => ("FishCounterModel", "textLength", "I", false)
  | 6 => ("FishCounterModel", "at", "I", false)
  | 7 => ("FishCounterModel", "number", "I", false)
  | 8 => ("FishCounterModel", "kindRead", "I", false)
  | 9 => ("FishCounterModel", "gramsRead", "I", false)
  | 10 => ("FishCounterModel", "freshRead", "I", false)
  | _ => ("FishCounterModel", "boxRead", "I", false)
def tyX6 : Nat → FieldType := fun k => match k with
  | 0 => .array .int
  | 1 => .array .int
  | 2 => .array .int
  | 3 => .int
  | 4 => .array .int
  | 5 => .int
  | 6 => .int
  | 7 => .int
  | 8 => .int
  | 9 => .int
  | 10 => .int
  | _ => .int
abbrev wsX60 : List Cond := u_ws RX6 TX6 12
theorem nmX6 : ∀ a, a < 12 → ∀ b, b < 12 → a ≠ b → (TX6 a).2.1 ≠ (TX6 b).2.1 := by decide +kernel
theorem tyX6_ok : ∀ k, k < 12 → parseFieldDescriptor (TX6 k).2.2.1 = some (tyX6 k) := by decide +kernel
abbrev cX6_init : ByteArray := prog_8_method_1_code
def yX6_init : MethodName := ⟨RX6, "<init>", "()V"⟩
abbrev cX6_within : ByteArray := prog_8_method_3_code
def yX6_within : MethodName := ⟨RX6, "within", "(III)Z"⟩
abbrev cX6_copies : ByteArray := prog_8_method_4_code
def yX6_copies : MethodName := ⟨RX6, "copies", "([II[II)V"⟩
abbrev cX6_record : ByteArray := prog_8_method_5_code
def yX6_record : MethodName := ⟨RX6, "record", "()V"⟩
abbrev cX6_part : ByteArray := prog_8_method_6_code
def yX6_part : MethodName := ⟨RX6, "part", "(II)I"⟩
abbrev cX6_setPart : ByteArray := prog_8_method_7_code
def yX6_setPart : MethodName := ⟨RX6, "setPart", "(III)V"⟩
abbrev cX6_find : ByteArray := prog_8_method_8_code
def yX6_find : MethodName := ⟨RX6, "find", "(I)I"⟩
abbrev cX6_drops : ByteArray := prog_8_method_9_code
def yX6_drops : MethodName := ⟨RX6, "drops", "(I)V"⟩
abbrev cX6_throwsAway : ByteArray := prog_8_method_10_code
def yX6_throwsAway : MethodName := ⟨RX6, "throwsAway", "(I)V"⟩
abbrev cX6_isKind : ByteArray := prog_8_method_11_code
def yX6_isKind : MethodName := ⟨RX6, "isKind", "(I)Z"⟩
abbrev cX6_isBox : ByteArray := prog_8_method_12_code
def yX6_isBox : MethodName := ⟨RX6, "isBox", "(I)Z"⟩
abbrev cX6_isTray : ByteArray := prog_8_method_13_code
def yX6_isTray : MethodName := ⟨RX6, "isTray", "(I)Z"⟩
abbrev cX6_isTrayPlace : ByteArray := prog_8_method_14_code
def yX6_isTrayPlace : MethodName := ⟨RX6, "isTrayPlace", "(I)Z"⟩
abbrev cX6_lotsAt : ByteArray := prog_8_method_15_code
def yX6_lotsAt : MethodName := ⟨RX6, "lotsAt", "(I)I"⟩
abbrev cX6_firstAt : ByteArray := prog_8_method_16_code
def yX6_firstAt : MethodName := ⟨RX6, "firstAt", "(I)I"⟩
abbrev cX6_priceWith : ByteArray := prog_8_method_17_code
def yX6_priceWith : MethodName := ⟨RX6, "priceWith", "(III)I"⟩
abbrev cX6_priceOf : ByteArray := prog_8_method_18_code
def yX6_priceOf : MethodName := ⟨RX6, "priceOf", "(I)I"⟩
abbrev cX6_worthOf : ByteArray := prog_8_method_19_code
def yX6_worthOf : MethodName := ⟨RX6, "worthOf", "(II)I"⟩
abbrev cX6_isSold : ByteArray := prog_8_method_20_code
def yX6_isSold : MethodName := ⟨RX6, "isSold", "(I)Z"⟩
abbrev cX6_setPrice : ByteArray := prog_8_method_21_code
def yX6_setPrice : MethodName := ⟨RX6, "setPrice", "(III)I"⟩
abbrev cX6_isHour : ByteArray := prog_8_method_22_code
def yX6_isHour : MethodName := ⟨RX6, "isHour", "(I)Z"⟩
abbrev cX6_setCut : ByteArray := prog_8_method_23_code
def yX6_setCut : MethodName := ⟨RX6, "setCut", "(II)I"⟩
abbrev cX6_setMelting : ByteArray := prog_8_method_24_code
def yX6_setMelting : MethodName := ⟨RX6, "setMelting", "(II)I"⟩
abbrev cX6_adds : ByteArray := prog_8_method_25_code
def yX6_adds : MethodName := ⟨RX6, "adds", "(IIII)I"⟩
abbrev cX6_whyNotRoom : ByteArray := prog_8_method_26_code
def yX6_whyNotRoom : MethodName := ⟨RX6, "whyNotRoom", "(I)I"⟩
abbrev cX6_whyNotDelivered : ByteArray := prog_8_method_27_code
def yX6_whyNotDelivered : MethodName := ⟨RX6, "whyNotDelivered", "(IIII)I"⟩
abbrev cX6_delivers : ByteArray := prog_8_method_28_code
def yX6_delivers : MethodName := ⟨RX6, "delivers", "(IIII)I"⟩
abbrev cX6_deliver : ByteArray := prog_8_method_29_code
def yX6_deliver : MethodName := ⟨RX6, "deliver", "(IIII)I"⟩
abbrev cX6_ices : ByteArray := prog_8_method_30_code
def yX6_ices : MethodName := ⟨RX6, "ices", "(II)I"⟩
abbrev cX6_iceBox : ByteArray := prog_8_method_31_code
def yX6_iceBox : MethodName := ⟨RX6, "iceBox", "(II)I"⟩
abbrev cX6_iceTray : ByteArray := prog_8_method_32_code
def yX6_iceTray : MethodName := ⟨RX6, "iceTray", "(II)I"⟩
abbrev cX6_toTray : ByteArray := prog_8_method_33_code
def yX6_toTray : MethodName := ⟨RX6, "toTray", "(II)I"⟩
abbrev cX6_toBox : ByteArray := prog_8_method_34_code
def yX6_toBox : MethodName := ⟨RX6, "toBox", "(II)I"⟩
abbrev cX6_divide : ByteArray := prog_8_method_35_code
def yX6_divide : MethodName := ⟨RX6, "divide", "(III)I"⟩
abbrev cX6_throwAway : ByteArray := prog_8_method_36_code
def yX6_throwAway : MethodName := ⟨RX6, "throwAway", "(I)I"⟩
abbrev cX6_nextFor : ByteArray := prog_8_method_37_code
def yX6_nextFor : MethodName := ⟨RX6, "nextFor", "(III)I"⟩
abbrev cX6_order : ByteArray := prog_8_method_38_code
def yX6_order : MethodName := ⟨RX6, "order", "(IIII)I"⟩
abbrev cX6_loss : ByteArray := prog_8_method_39_code
def yX6_loss : MethodName := ⟨RX6, "loss", "(II)I"⟩
abbrev cX6_iceThen : ByteArray := prog_8_method_40_code
def yX6_iceThen : MethodName := ⟨RX6, "iceThen", "(II)I"⟩
abbrev cX6_freshThen : ByteArray := prog_8_method_41_code
def yX6_freshThen : MethodName := ⟨RX6, "freshThen", "(II)I"⟩
abbrev cX6_passesHour : ByteArray := prog_8_method_42_code
def yX6_passesHour : MethodName := ⟨RX6, "passesHour", "()V"⟩
abbrev cX6_pass : ByteArray := prog_8_method_43_code
def yX6_pass : MethodName := ⟨RX6, "pass", "()I"⟩
abbrev cX6_coldest : ByteArray := prog_8_method_44_code
def yX6_coldest : MethodName := ⟨RX6, "coldest", "()I"⟩
abbrev cX6_closes : ByteArray := prog_8_method_45_code
def yX6_closes : MethodName := ⟨RX6, "closes", "()I"⟩
abbrev cX6_close : ByteArray := prog_8_method_46_code
def yX6_close : MethodName := ⟨RX6, "close", "()I"⟩
abbrev cX6_allGrams : ByteArray := prog_8_method_47_code
def yX6_allGrams : MethodName := ⟨RX6, "allGrams", "()I"⟩
abbrev cX6_countOf : ByteArray := prog_8_method_48_code
def yX6_countOf : MethodName := ⟨RX6, "countOf", "(I)J"⟩
abbrev cX6_count : ByteArray := prog_8_method_49_code
def yX6_count : MethodName := ⟨RX6, "count", "(I)J"⟩
abbrev cX6_ofLot : ByteArray := prog_8_method_50_code
def yX6_ofLot : MethodName := ⟨RX6, "ofLot", "(II)I"⟩
abbrev cX6_lot : ByteArray := prog_8_method_51_code
def yX6_lot : MethodName := ⟨RX6, "lot", "(II)I"⟩
abbrev cX6_gramsAt : ByteArray := prog_8_method_52_code
def yX6_gramsAt : MethodName := ⟨RX6, "gramsAt", "(I)I"⟩
abbrev cX6_numberAt : ByteArray := prog_8_method_53_code
def yX6_numberAt : MethodName := ⟨RX6, "numberAt", "(I)I"⟩
abbrev cX6_ofBox : ByteArray := prog_8_method_54_code
def yX6_ofBox : MethodName := ⟨RX6, "ofBox", "(II)I"⟩
abbrev cX6_box : ByteArray := prog_8_method_55_code
def yX6_box : MethodName := ⟨RX6, "box", "(II)I"⟩
abbrev cX6_ofTray : ByteArray := prog_8_method_56_code
def yX6_ofTray : MethodName := ⟨RX6, "ofTray", "(II)I"⟩
abbrev cX6_tray : ByteArray := prog_8_method_57_code
def yX6_tray : MethodName := ⟨RX6, "tray", "(II)I"⟩
abbrev cX6_gramsOfKind : ByteArray := prog_8_method_58_code
def yX6_gramsOfKind : MethodName := ⟨RX6, "gramsOfKind", "(I)I"⟩
abbrev cX6_freshest : ByteArray := prog_8_method_59_code
def yX6_freshest : MethodName := ⟨RX6, "freshest", "(I)I"⟩
abbrev cX6_ofKind : ByteArray := prog_8_method_60_code
def yX6_ofKind : MethodName := ⟨RX6, "ofKind", "(II)I"⟩
abbrev cX6_kind : ByteArray := prog_8_method_61_code
def yX6_kind : MethodName := ⟨RX6, "kind", "(II)I"⟩
abbrev cX6_cut : ByteArray := prog_8_method_62_code
def yX6_cut : MethodName := ⟨RX6, "cut", "(I)I"⟩
abbrev cX6_freshIn : ByteArray := prog_8_method_63_code
def yX6_freshIn : MethodName := ⟨RX6, "freshIn", "(II)I"⟩
abbrev cX6_freshAfter : ByteArray := prog_8_method_64_code
def yX6_freshAfter : MethodName := ⟨RX6, "freshAfter", "(II)I"⟩
abbrev cX6_leftOf : ByteArray := prog_8_method_65_code
def yX6_leftOf : MethodName := ⟨RX6, "leftOf", "(I)I"⟩
abbrev cX6_hoursLeft : ByteArray := prog_8_method_66_code
def yX6_hoursLeft : MethodName := ⟨RX6, "hoursLeft", "(I)I"⟩
abbrev cX6_bestOf : ByteArray := prog_8_method_67_code
def yX6_bestOf : MethodName := ⟨RX6, "bestOf", "(I)I"⟩
abbrev cX6_bestHour : ByteArray := prog_8_method_68_code
def yX6_bestHour : MethodName := ⟨RX6, "bestHour", "(I)I"⟩
abbrev cX6_ifClosed : ByteArray := prog_8_method_69_code
def yX6_ifClosed : MethodName := ⟨RX6, "ifClosed", "(I)I"⟩
abbrev cX6_allWorth : ByteArray := prog_8_method_70_code
def yX6_allWorth : MethodName := ⟨RX6, "allWorth", "()J"⟩
abbrev cX6_worth : ByteArray := prog_8_method_71_code
def yX6_worth : MethodName := ⟨RX6, "worth", "()J"⟩
abbrev cX6_type : ByteArray := prog_8_method_72_code
def yX6_type : MethodName := ⟨RX6, "type", "(I)I"⟩
abbrev cX6_clearText : ByteArray := prog_8_method_73_code
def yX6_clearText : MethodName := ⟨RX6, "clearText", "()I"⟩
abbrev cX6_character : ByteArray := prog_8_method_74_code
def yX6_character : MethodName := ⟨RX6, "character", "(I)I"⟩
abbrev cX6_isNext : ByteArray := prog_8_method_75_code
def yX6_isNext : MethodName := ⟨RX6, "isNext", "(I)Z"⟩
abbrev cX6_readsDigit : ByteArray := prog_8_method_76_code
def yX6_readsDigit : MethodName := ⟨RX6, "readsDigit", "(II)Z"⟩
abbrev cX6_readsNumber : ByteArray := prog_8_method_77_code
def yX6_readsNumber : MethodName := ⟨RX6, "readsNumber", "(II)Z"⟩
abbrev cX6_readsItem : ByteArray := prog_8_method_78_code
def yX6_readsItem : MethodName := ⟨RX6, "readsItem", "()Z"⟩
abbrev cX6_findError : ByteArray := prog_8_method_79_code
def yX6_findError : MethodName := ⟨RX6, "findError", "()I"⟩
abbrev cX6_syntaxError : ByteArray := prog_8_method_80_code
def yX6_syntaxError : MethodName := ⟨RX6, "syntaxError", "()I"⟩
abbrev cX6_deliverAll : ByteArray := prog_8_method_81_code
def yX6_deliverAll : MethodName := ⟨RX6, "deliverAll", "()I"⟩
abbrev cX6_undo : ByteArray := prog_8_method_82_code
def yX6_undo : MethodName := ⟨RX6, "undo", "()I"⟩
abbrev cX6_digest : ByteArray := prog_8_method_83_code
def yX6_digest : MethodName := ⟨RX6, "digest", "()J"⟩
def RJ9 : String := "java/lang/Math"
def TJ9 : u_T := fun k => match k with
  | _ => ("", "", "", false)
def tyJ9 : Nat → FieldType := fun k => match k with
  | _ => .int
abbrev wsJ90 : List Cond := u_ws RJ9 TJ9 0
theorem nmJ9 : ∀ a, a < 0 → ∀ b, b < 0 → a ≠ b → (TJ9 a).2.1 ≠ (TJ9 b).2.1 := by decide +kernel
theorem tyJ9_ok : ∀ k, k < 0 → parseFieldDescriptor (TJ9 k).2.2.1 = some (tyJ9 k) := by decide +kernel
abbrev cJ9_max_7cf53 : ByteArray := prog_9_method_65_code
def yJ9_max_7cf53 : MethodName := ⟨RJ9, "max", "(II)I"⟩
abbrev cJ9_min_7cf53 : ByteArray := prog_9_method_69_code
def yJ9_min_7cf53 : MethodName := ⟨RJ9, "min", "(II)I"⟩
def RJ10 : String := "java/lang/System"
def TJ10 : u_T := fun k => match k with
  | _ => ("", "", "", false)
def tyJ10 : Nat → FieldType := fun k => match k with
  | _ => .int
abbrev wsJ100 : List Cond := u_ws RJ10 TJ10 0
theorem nmJ10 : ∀ a, a < 0 → ∀ b, b < 0 → a ≠ b → (TJ10 a).2.1 ≠ (TJ10 b).2.1 := by decide +kernel
theorem tyJ10_ok : ∀ k, k < 0 → parseFieldDescriptor (TJ10 k).2.2.1 = some (tyJ10 k) := by decide +kernel
def RL : String := "FishCounterLaw"
abbrev cL_law : ByteArray := code
def yL_law : MethodName := ⟨RL, "law", "([I)Z"⟩
def wsJ9_max_7cf53 : List Cond := .code yJ9_max_7cf53 cJ9_max_7cf53 2 (some .int) :: ([])
def wsJ9_min_7cf53 : List Cond := .code yJ9_min_7cf53 cJ9_min_7cf53 2 (some .int) :: ([])
theorem inJ9 : ∀ w ∈ wsJ90, w ∈ lw_tbl := by decide +kernel
theorem inJ10 : ∀ w ∈ wsJ100, w ∈ lw_tbl := by decide +kernel
abbrev vwCl : List vw_C := [(RX0, TX0, 7), (RX1, TX1, 4), (RX2, TX2, 3), (RX3, TX3, 6), (RX4, TX4, 17), (RX5, TX5, 5), (RX6, TX6, 12)]
/-! ===== END printed: names ===== -/
/-- the words that every contract takes: all of the tables' that stay true -/
def wsL_law : List Cond := lw_tbl.filter goodWord
theorem wsL_law_in : ∀ w ∈ wsL_law, w ∈ lw_tbl := fun _ h => (List.mem_filter.mp h).1
theorem kGood : wsL_law.all goodWord = true := List.all_eq_true.mpr (fun _ h => (List.mem_filter.mp h).2)
theorem kW {w : Cond} (i : Nat) (h : (lw_tbl[i]? = some w) ∧ goodWord w = true) : w ∈ wsL_law := List.mem_filter.mpr ⟨List.mem_of_getElem? h.1, h.2⟩
theorem kWs {ws : List Cond} (ps : List Nat) (hp : ws = ps.filterMap (fun i => lw_tbl[i]?)) (h : ws.all goodWord = true) : ∀ w ∈ ws, w ∈ wsL_law := fun w hw => List.mem_filter.mpr ⟨((goodIn_r ws ps hp h) w hw).1, List.all_eq_true.mp h w hw⟩
end
section
/-! THE WORDS, each by its place, and the methods' call facts -/
def kMy (y : MethodName) (bytes : ByteArray) (maxL : Nat) (ret : Option FieldType) (n : Nat) : Prop := Cond.initialized y.cls ∈ wsL_law ∧ Cond.code y bytes maxL ret ∈ wsL_law ∧ y.cls ≠ "java/lang/invoke/MethodHandle" ∧ y.cls ≠ "java/lang/invoke/VarHandle" ∧ (parseMethodDescriptor y.desc).map (fun d => d.parameters.length) = some n
theorem wk_L_7 : Cond.classLink RL 7 RX5 ∈ wsL_law := kW 55 (by decide +kernel)
theorem wy_X5 : Cond.instantiable RX5 5 ∈ wsL_law := kW 56 (by decide +kernel)
theorem wn_X5 : Cond.initialized RX5 ∈ wsL_law := kW 46 (by decide +kernel)
theorem wk_L_10 : Cond.classLink RL 10 RX6 ∈ wsL_law := kW 640 (by decide +kernel)
theorem wy_X6 : Cond.instantiable RX6 12 ∈ wsL_law := kW 641 (by decide +kernel)
theorem wn_X6 : Cond.initialized RX6 ∈ wsL_law := kW 52 (by decide +kernel)
theorem wm_L_9 : Cond.methodLink RL 9 yX5_init ∈ wsL_law := kW 57 (by decide +kernel)
theorem wi_X5_init : Cond.instanceMethod yX5_init ∈ wsL_law := kW 58 (by decide +kernel)
theorem wc_X5_init : Cond.code yX5_init cX5_init 1 none ∈ wsL_law := kW 59 (by decide +kernel)
theorem wm_X5_1 : Cond.methodLink RX5 1 objectInit ∈ wsL_law := kW 60 (by decide +kernel)
theorem wi_objInit : Cond.instanceMethod objectInit ∈ wsL_law := kW 61 (by decide +kernel)
theorem wc_objInit : Cond.code objectInit ⟨#[0xb1]⟩ 1 none ∈ wsL_law := kW 62 (by decide +kernel)
theorem wk_X5_7 : Cond.classLink RX5 7 RX4 ∈ wsL_law := kW 63 (by decide +kernel)
theorem wy_X4 : Cond.instantiable RX4 17 ∈ wsL_law := kW 64 (by decide +kernel)
theorem wn_X4 : Cond.initialized RX4 ∈ wsL_law := kW 47 (by decide +kernel)
theorem wf_X5_10 : Cond.fieldLink RX5 10 "FishCounter" "now" "LFishCounter$Shop;" ∈ wsL_law := kW 252 (by decide +kernel)
theorem wf_X5_16 : Cond.fieldLink RX5 16 "FishCounter" "trial" "LFishCounter$Shop;" ∈ wsL_law := kW 253 (by decide +kernel)
theorem wk_X5_19 : Cond.classLink RX5 19 RX1 ∈ wsL_law := kW 178 (by decide +kernel)
theorem wy_X1 : Cond.instantiable RX1 4 ∈ wsL_law := kW 179 (by decide +kernel)
theorem wn_X1 : Cond.initialized RX1 ∈ wsL_law := kW 49 (by decide +kernel)
theorem wf_X5_22 : Cond.fieldLink RX5 22 "FishCounter" "forecast" "LFishCounter$Forecast;" ∈ wsL_law := kW 254 (by decide +kernel)
theorem wk_X5_26 : Cond.classLink RX5 26 RX2 ∈ wsL_law := kW 198 (by decide +kernel)
theorem wy_X2 : Cond.instantiable RX2 3 ∈ wsL_law := kW 199 (by decide +kernel)
theorem wn_X2 : Cond.initialized RX2 ∈ wsL_law := kW 50 (by decide +kernel)
theorem wf_X5_29 : Cond.fieldLink RX5 29 "FishCounter" "history" "LFishCounter$History;" ∈ wsL_law := kW 255 (by decide +kernel)
theorem wk_X5_33 : Cond.classLink RX5 33 RX0 ∈ wsL_law := kW 218 (by decide +kernel)
theorem wy_X0 : Cond.instantiable RX0 7 ∈ wsL_law := kW 219 (by decide +kernel)
theorem wn_X0 : Cond.initialized RX0 ∈ wsL_law := kW 51 (by decide +kernel)
theorem wf_X5_36 : Cond.fieldLink RX5 36 "FishCounter" "text" "LFishCounter$DeliveryText;" ∈ wsL_law := kW 256 (by decide +kernel)
theorem wm_X5_9 : Cond.methodLink RX5 9 yX4_init ∈ wsL_law := kW 65 (by decide +kernel)
theorem wi_X4_init : Cond.instanceMethod yX4_init ∈ wsL_law := kW 66 (by decide +kernel)
theorem wc_X4_init : Cond.code yX4_init cX4_init 2 none ∈ wsL_law := kW 67 (by decide +kernel)
theorem wm_X4_3 : Cond.methodLink RX4 3 objectInit ∈ wsL_law := kW 68 (by decide +kernel)
theorem wf_X4_9 : Cond.fieldLink RX4 9 "FishCounter$Shop" "melting" "I" ∈ wsL_law := kW 113 (by decide +kernel)
theorem wf_X4_15 : Cond.fieldLink RX4 15 "FishCounter$Shop" "limit" "I" ∈ wsL_law := kW 116 (by decide +kernel)
theorem wa_int : Cond.arrayClass .int ∈ wsL_law := kW 108 (by decide +kernel)
theorem wf_X4_18 : Cond.fieldLink RX4 18 "FishCounter$Shop" "prices" "[I" ∈ wsL_law := kW 131 (by decide +kernel)
theorem wf_X4_22 : Cond.fieldLink RX4 22 "FishCounter$Shop" "costs" "[I" ∈ wsL_law := kW 133 (by decide +kernel)
theorem wf_X4_25 : Cond.fieldLink RX4 25 "FishCounter$Shop" "cuts" "[I" ∈ wsL_law := kW 135 (by decide +kernel)
theorem wf_X4_28 : Cond.fieldLink RX4 28 "FishCounter$Shop" "boxIce" "[I" ∈ wsL_law := kW 137 (by decide +kernel)
theorem wf_X4_31 : Cond.fieldLink RX4 31 "FishCounter$Shop" "trayIce" "[I" ∈ wsL_law := kW 139 (by decide +kernel)
theorem wk_X4_34 : Cond.classLink RX4 34 RX3 ∈ wsL_law := kW 69 (by decide +kernel)
theorem wf_X4_36 : Cond.fieldLink RX4 36 "FishCounter$Shop" "lots" "[LFishCounter$Lot;" ∈ wsL_law := kW 141 (by decide +kernel)
theorem wy_X3 : Cond.instantiable RX3 6 ∈ wsL_law := kW 71 (by decide +kernel)
theorem wn_X3 : Cond.initialized RX3 ∈ wsL_law := kW 48 (by decide +kernel)
theorem wi_X3_init : Cond.instanceMethod yX3_init ∈ wsL_law := kW 73 (by decide +kernel)
theorem wc_X3_init : Cond.code yX3_init cX3_init 1 none ∈ wsL_law := kW 74 (by decide +kernel)
theorem wm_X3_3 : Cond.methodLink RX3 3 objectInit ∈ wsL_law := kW 75 (by decide +kernel)
theorem wf_X3_9 : Cond.fieldLink RX3 9 "FishCounter$Lot" "box" "I" ∈ wsL_law := kW 89 (by decide +kernel)
theorem wf_X3_15 : Cond.fieldLink RX3 15 "FishCounter$Lot" "tray" "I" ∈ wsL_law := kW 92 (by decide +kernel)
theorem wi_X1_init : Cond.instanceMethod yX1_init ∈ wsL_law := kW 181 (by decide +kernel)
theorem wc_X1_init : Cond.code yX1_init cX1_init 1 none ∈ wsL_law := kW 182 (by decide +kernel)
theorem wm_X1_1 : Cond.methodLink RX1 1 objectInit ∈ wsL_law := kW 183 (by decide +kernel)
theorem wm_X5_28 : Cond.methodLink RX5 28 yX2_init ∈ wsL_law := kW 200 (by decide +kernel)
theorem wi_X2_init : Cond.instanceMethod yX2_init ∈ wsL_law := kW 201 (by decide +kernel)
theorem wc_X2_init : Cond.code yX2_init cX2_init 2 none ∈ wsL_law := kW 202 (by decide +kernel)
theorem wm_X2_3 : Cond.methodLink RX2 3 objectInit ∈ wsL_law := kW 203 (by decide +kernel)
theorem wk_X2_9 : Cond.classLink RX2 9 RX4 ∈ wsL_law := kW 204 (by decide +kernel)
theorem wf_X2_11 : Cond.fieldLink RX2 11 "FishCounter$History" "saved" "[LFishCounter$Shop;" ∈ wsL_law := kW 210 (by decide +kernel)
theorem wm_X2_17 : Cond.methodLink RX2 17 yX4_init ∈ wsL_law := kW 206 (by decide +kernel)
theorem wi_X0_init : Cond.instanceMethod yX0_init ∈ wsL_law := kW 221 (by decide +kernel)
theorem wc_X0_init : Cond.code yX0_init cX0_init 1 none ∈ wsL_law := kW 222 (by decide +kernel)
theorem wm_X0_3 : Cond.methodLink RX0 3 objectInit ∈ wsL_law := kW 223 (by decide +kernel)
theorem wa_char : Cond.arrayClass .char ∈ wsL_law := kW 251 (by decide +kernel)
theorem wf_X0_9 : Cond.fieldLink RX0 9 "FishCounter$DeliveryText" "signs" "[C" ∈ wsL_law := kW 235 (by decide +kernel)
theorem wm_L_12 : Cond.methodLink RL 12 yX6_init ∈ wsL_law := kW 642 (by decide +kernel)
theorem wi_X6_init : Cond.instanceMethod yX6_init ∈ wsL_law := kW 643 (by decide +kernel)
theorem wc_X6_init : Cond.code yX6_init cX6_init 2 none ∈ wsL_law := kW 644 (by decide +kernel)
theorem wm_X6_1 : Cond.methodLink RX6 1 objectInit ∈ wsL_law := kW 645 (by decide +kernel)
theorem wf_X6_7 : Cond.fieldLink RX6 7 "FishCounterModel" "state" "[I" ∈ wsL_law := kW 646 (by decide +kernel)
theorem wf_X6_13 : Cond.fieldLink RX6 13 "FishCounterModel" "kept" "[I" ∈ wsL_law := kW 647 (by decide +kernel)
theorem wf_X6_16 : Cond.fieldLink RX6 16 "FishCounterModel" "history" "[I" ∈ wsL_law := kW 648 (by decide +kernel)
theorem wf_X6_19 : Cond.fieldLink RX6 19 "FishCounterModel" "text" "[I" ∈ wsL_law := kW 650 (by decide +kernel)
theorem wm_L_13 : Cond.methodLink RL 13 yX5_setPrice ∈ wsL_law := kW 268 (by decide +kernel)
theorem wi_X5_setPrice : Cond.instanceMethod yX5_setPrice ∈ wsL_law := kW 269 (by decide +kernel)
theorem ws_X5_setPrice : Cond.selects RX5 yX5_setPrice yX5_setPrice ∈ wsL_law := kW 270 (by decide +kernel)
theorem wc_X5_setPrice : Cond.code yX5_setPrice cX5_setPrice 5 (some .int) ∈ wsL_law := kW 271 (by decide +kernel)
theorem wf_X5_52 : Cond.fieldLink RX5 52 "FishCounter$Shop" "prices" "[I" ∈ wsL_law := kW 132 (by decide +kernel)
theorem wf_X5_56 : Cond.fieldLink RX5 56 "FishCounter$Shop" "costs" "[I" ∈ wsL_law := kW 134 (by decide +kernel)
theorem wm_X5_40 : Cond.methodLink RX5 40 yX5_isKind ∈ wsL_law := kW 272 (by decide +kernel)
theorem wt_X5_isKind : Cond.static yX5_isKind ∈ wsL_law := kW 273 (by decide +kernel)
theorem wc_X5_isKind : Cond.code yX5_isKind cX5_isKind 1 (some .boolean) ∈ wsL_law := kW 274 (by decide +kernel)
theorem wm_X5_44 : Cond.methodLink RX5 44 yX5_within ∈ wsL_law := kW 275 (by decide +kernel)
theorem wt_X5_within : Cond.static yX5_within ∈ wsL_law := kW 276 (by decide +kernel)
theorem wc_X5_within : Cond.code yX5_within cX5_within 3 (some .boolean) ∈ wsL_law := kW 277 (by decide +kernel)
theorem wm_X5_48 : Cond.methodLink RX5 48 yX2_save ∈ wsL_law := kW 278 (by decide +kernel)
theorem wi_X2_save : Cond.instanceMethod yX2_save ∈ wsL_law := kW 279 (by decide +kernel)
theorem ws_X2_save : Cond.selects RX2 yX2_save yX2_save ∈ wsL_law := kW 280 (by decide +kernel)
theorem wc_X2_save : Cond.code yX2_save cX2_save 2 none ∈ wsL_law := kW 281 (by decide +kernel)
theorem wf_X2_18 : Cond.fieldLink RX2 18 "FishCounter$History" "next" "I" ∈ wsL_law := kW 209 (by decide +kernel)
theorem wf_X2_26 : Cond.fieldLink RX2 26 "FishCounter$History" "count" "I" ∈ wsL_law := kW 207 (by decide +kernel)
theorem wm_X2_29 : Cond.methodLink RX2 29 Lib.Math.min.name ∈ wsL_law := kW 293 (by decide +kernel)
theorem wt_min : Cond.static Lib.Math.min.name ∈ wsL_law := kW 294 (by decide +kernel)
theorem wn_Math : Cond.initialized "java/lang/Math" ∈ wsL_law := kW 54 (by decide +kernel)
theorem wc_min : Cond.code Lib.Math.min.name Lib.Math.min.code 2 (some .int) ∈ wsL_law := kW 295 (by decide +kernel)
theorem wm_X2_22 : Cond.methodLink RX2 22 yX4_copyFrom ∈ wsL_law := kW 282 (by decide +kernel)
theorem wi_X4_copyFrom : Cond.instanceMethod yX4_copyFrom ∈ wsL_law := kW 283 (by decide +kernel)
theorem ws_X4_copyFrom : Cond.selects RX4 yX4_copyFrom yX4_copyFrom ∈ wsL_law := kW 284 (by decide +kernel)
theorem wc_X4_copyFrom : Cond.code yX4_copyFrom cX4_copyFrom 3 none ∈ wsL_law := kW 285 (by decide +kernel)
theorem wf_X4_41 : Cond.fieldLink RX4 41 "FishCounter$Shop" "day" "I" ∈ wsL_law := kW 109 (by decide +kernel)
theorem wf_X4_44 : Cond.fieldLink RX4 44 "FishCounter$Shop" "hour" "I" ∈ wsL_law := kW 111 (by decide +kernel)
theorem wf_X4_47 : Cond.fieldLink RX4 47 "FishCounter$Shop" "lastNumber" "I" ∈ wsL_law := kW 118 (by decide +kernel)
theorem wf_X4_50 : Cond.fieldLink RX4 50 "FishCounter$Shop" "lotCount" "I" ∈ wsL_law := kW 119 (by decide +kernel)
theorem wf_X4_53 : Cond.fieldLink RX4 53 "FishCounter$Shop" "gramsCame" "J" ∈ wsL_law := kW 121 (by decide +kernel)
theorem wf_X4_57 : Cond.fieldLink RX4 57 "FishCounter$Shop" "gramsSold" "J" ∈ wsL_law := kW 123 (by decide +kernel)
theorem wf_X4_60 : Cond.fieldLink RX4 60 "FishCounter$Shop" "gramsThrownAway" "J" ∈ wsL_law := kW 125 (by decide +kernel)
theorem wf_X4_63 : Cond.fieldLink RX4 63 "FishCounter$Shop" "moneyPaid" "J" ∈ wsL_law := kW 127 (by decide +kernel)
theorem wf_X4_66 : Cond.fieldLink RX4 66 "FishCounter$Shop" "moneyTaken" "J" ∈ wsL_law := kW 129 (by decide +kernel)
theorem wm_X4_69 : Cond.methodLink RX4 69 arraycopyName ∈ wsL_law := kW 286 (by decide +kernel)
theorem wna_acopy : Cond.native arraycopyName ∈ wsL_law := kW 288 (by decide +kernel)
theorem wt_acopy : Cond.static arraycopyName ∈ wsL_law := kW 287 (by decide +kernel)
theorem wn_System : Cond.initialized "java/lang/System" ∈ wsL_law := kW 53 (by decide +kernel)
theorem wm_X4_75 : Cond.methodLink RX4 75 yX3_copyFrom ∈ wsL_law := kW 289 (by decide +kernel)
theorem wi_X3_copyFrom : Cond.instanceMethod yX3_copyFrom ∈ wsL_law := kW 290 (by decide +kernel)
theorem ws_X3_copyFrom : Cond.selects RX3 yX3_copyFrom yX3_copyFrom ∈ wsL_law := kW 291 (by decide +kernel)
theorem wc_X3_copyFrom : Cond.code yX3_copyFrom cX3_copyFrom 2 none ∈ wsL_law := kW 292 (by decide +kernel)
theorem wf_X3_18 : Cond.fieldLink RX3 18 "FishCounter$Lot" "number" "I" ∈ wsL_law := kW 77 (by decide +kernel)
theorem wf_X3_21 : Cond.fieldLink RX3 21 "FishCounter$Lot" "kind" "I" ∈ wsL_law := kW 79 (by decide +kernel)
theorem wf_X3_24 : Cond.fieldLink RX3 24 "FishCounter$Lot" "grams" "I" ∈ wsL_law := kW 82 (by decide +kernel)
theorem wf_X3_27 : Cond.fieldLink RX3 27 "FishCounter$Lot" "fresh" "I" ∈ wsL_law := kW 86 (by decide +kernel)
theorem wm_L_17 : Cond.methodLink RL 17 yX6_setPrice ∈ wsL_law := kW 683 (by decide +kernel)
theorem wi_X6_setPrice : Cond.instanceMethod yX6_setPrice ∈ wsL_law := kW 684 (by decide +kernel)
theorem ws_X6_setPrice : Cond.selects RX6 yX6_setPrice yX6_setPrice ∈ wsL_law := kW 685 (by decide +kernel)
theorem wc_X6_setPrice : Cond.code yX6_setPrice cX6_setPrice 5 (some .int) ∈ wsL_law := kW 686 (by decide +kernel)
theorem wm_X6_46 : Cond.methodLink RX6 46 yX6_isKind ∈ wsL_law := kW 687 (by decide +kernel)
theorem wt_X6_isKind : Cond.static yX6_isKind ∈ wsL_law := kW 688 (by decide +kernel)
theorem wc_X6_isKind : Cond.code yX6_isKind cX6_isKind 1 (some .boolean) ∈ wsL_law := kW 689 (by decide +kernel)
theorem wm_X6_38 : Cond.methodLink RX6 38 yX6_within ∈ wsL_law := kW 690 (by decide +kernel)
theorem wt_X6_within : Cond.static yX6_within ∈ wsL_law := kW 691 (by decide +kernel)
theorem wc_X6_within : Cond.code yX6_within cX6_within 3 (some .boolean) ∈ wsL_law := kW 692 (by decide +kernel)
theorem wm_X6_50 : Cond.methodLink RX6 50 yX6_record ∈ wsL_law := kW 693 (by decide +kernel)
theorem wi_X6_record : Cond.instanceMethod yX6_record ∈ wsL_law := kW 695 (by decide +kernel)
theorem ws_X6_record : Cond.selects RX6 yX6_record yX6_record ∈ wsL_law := kW 4 (by decide +kernel)
theorem wc_X6_record : Cond.code yX6_record cX6_record 2 none ∈ wsL_law := kW 696 (by decide +kernel)
theorem wf_X6_22 : Cond.fieldLink RX6 22 "FishCounterModel" "recorded" "I" ∈ wsL_law := kW 649 (by decide +kernel)
theorem wm_X6_26 : Cond.methodLink RX6 26 yX6_copies ∈ wsL_law := kW 697 (by decide +kernel)
theorem wt_X6_copies : Cond.static yX6_copies ∈ wsL_law := kW 698 (by decide +kernel)
theorem wc_X6_copies : Cond.code yX6_copies cX6_copies 5 none ∈ wsL_law := kW 699 (by decide +kernel)
theorem wm_L_18 : Cond.methodLink RL 18 yX5_setCut ∈ wsL_law := kW 296 (by decide +kernel)
theorem wi_X5_setCut : Cond.instanceMethod yX5_setCut ∈ wsL_law := kW 297 (by decide +kernel)
theorem ws_X5_setCut : Cond.selects RX5 yX5_setCut yX5_setCut ∈ wsL_law := kW 298 (by decide +kernel)
theorem wc_X5_setCut : Cond.code yX5_setCut cX5_setCut 4 (some .int) ∈ wsL_law := kW 299 (by decide +kernel)
theorem wf_X5_62 : Cond.fieldLink RX5 62 "FishCounter$Shop" "cuts" "[I" ∈ wsL_law := kW 136 (by decide +kernel)
theorem wm_X5_59 : Cond.methodLink RX5 59 yX5_isHour ∈ wsL_law := kW 300 (by decide +kernel)
theorem wt_X5_isHour : Cond.static yX5_isHour ∈ wsL_law := kW 301 (by decide +kernel)
theorem wc_X5_isHour : Cond.code yX5_isHour cX5_isHour 1 (some .boolean) ∈ wsL_law := kW 302 (by decide +kernel)
theorem wm_L_22 : Cond.methodLink RL 22 yX6_setCut ∈ wsL_law := kW 700 (by decide +kernel)
theorem wi_X6_setCut : Cond.instanceMethod yX6_setCut ∈ wsL_law := kW 701 (by decide +kernel)
theorem ws_X6_setCut : Cond.selects RX6 yX6_setCut yX6_setCut ∈ wsL_law := kW 702 (by decide +kernel)
theorem wc_X6_setCut : Cond.code yX6_setCut cX6_setCut 4 (some .int) ∈ wsL_law := kW 703 (by decide +kernel)
theorem wm_X6_53 : Cond.methodLink RX6 53 yX6_isHour ∈ wsL_law := kW 704 (by decide +kernel)
theorem wt_X6_isHour : Cond.static yX6_isHour ∈ wsL_law := kW 705 (by decide +kernel)
theorem wc_X6_isHour : Cond.code yX6_isHour cX6_isHour 1 (some .boolean) ∈ wsL_law := kW 706 (by decide +kernel)
theorem wm_L_23 : Cond.methodLink RL 23 yX5_setMelting ∈ wsL_law := kW 303 (by decide +kernel)
theorem wi_X5_setMelting : Cond.instanceMethod yX5_setMelting ∈ wsL_law := kW 304 (by decide +kernel)
theorem ws_X5_setMelting : Cond.selects RX5 yX5_setMelting yX5_setMelting ∈ wsL_law := kW 305 (by decide +kernel)
theorem wc_X5_setMelting : Cond.code yX5_setMelting cX5_setMelting 4 (some .int) ∈ wsL_law := kW 306 (by decide +kernel)
theorem wf_X5_65 : Cond.fieldLink RX5 65 "FishCounter$Shop" "limit" "I" ∈ wsL_law := kW 117 (by decide +kernel)
theorem wf_X5_69 : Cond.fieldLink RX5 69 "FishCounter$Shop" "melting" "I" ∈ wsL_law := kW 115 (by decide +kernel)
theorem wm_L_26 : Cond.methodLink RL 26 yX6_setMelting ∈ wsL_law := kW 707 (by decide +kernel)
theorem wi_X6_setMelting : Cond.instanceMethod yX6_setMelting ∈ wsL_law := kW 708 (by decide +kernel)
theorem ws_X6_setMelting : Cond.selects RX6 yX6_setMelting yX6_setMelting ∈ wsL_law := kW 709 (by decide +kernel)
theorem wc_X6_setMelting : Cond.code yX6_setMelting cX6_setMelting 4 (some .int) ∈ wsL_law := kW 710 (by decide +kernel)
theorem wm_L_27 : Cond.methodLink RL 27 yX5_deliver ∈ wsL_law := kW 307 (by decide +kernel)
theorem wi_X5_deliver : Cond.instanceMethod yX5_deliver ∈ wsL_law := kW 308 (by decide +kernel)
theorem ws_X5_deliver : Cond.selects RX5 yX5_deliver yX5_deliver ∈ wsL_law := kW 309 (by decide +kernel)
theorem wc_X5_deliver : Cond.code yX5_deliver cX5_deliver 6 (some .int) ∈ wsL_law := kW 310 (by decide +kernel)
theorem wm_X5_72 : Cond.methodLink RX5 72 yX5_isBox ∈ wsL_law := kW 311 (by decide +kernel)
theorem wt_X5_isBox : Cond.static yX5_isBox ∈ wsL_law := kW 312 (by decide +kernel)
theorem wc_X5_isBox : Cond.code yX5_isBox cX5_isBox 1 (some .boolean) ∈ wsL_law := kW 313 (by decide +kernel)
theorem wm_X5_75 : Cond.methodLink RX5 75 yX4_refusalOfNewLot ∈ wsL_law := kW 314 (by decide +kernel)
theorem wi_X4_refusalOfNewLot : Cond.instanceMethod yX4_refusalOfNewLot ∈ wsL_law := kW 315 (by decide +kernel)
theorem ws_X4_refusalOfNewLot : Cond.selects RX4 yX4_refusalOfNewLot yX4_refusalOfNewLot ∈ wsL_law := kW 316 (by decide +kernel)
theorem wc_X4_refusalOfNewLot : Cond.code yX4_refusalOfNewLot cX4_refusalOfNewLot 2 (some .int) ∈ wsL_law := kW 317 (by decide +kernel)
theorem wm_X4_119 : Cond.methodLink RX4 119 yX4_isBoxFull ∈ wsL_law := kW 318 (by decide +kernel)
theorem wi_X4_isBoxFull : Cond.instanceMethod yX4_isBoxFull ∈ wsL_law := kW 319 (by decide +kernel)
theorem ws_X4_isBoxFull : Cond.selects RX4 yX4_isBoxFull yX4_isBoxFull ∈ wsL_law := kW 320 (by decide +kernel)
theorem wc_X4_isBoxFull : Cond.code yX4_isBoxFull cX4_isBoxFull 2 (some .boolean) ∈ wsL_law := kW 321 (by decide +kernel)
theorem wm_X4_96 : Cond.methodLink RX4 96 yX4_lotsInBox ∈ wsL_law := kW 322 (by decide +kernel)
theorem wi_X4_lotsInBox : Cond.instanceMethod yX4_lotsInBox ∈ wsL_law := kW 323 (by decide +kernel)
theorem ws_X4_lotsInBox : Cond.selects RX4 yX4_lotsInBox yX4_lotsInBox ∈ wsL_law := kW 324 (by decide +kernel)
theorem wc_X4_lotsInBox : Cond.code yX4_lotsInBox cX4_lotsInBox 4 (some .int) ∈ wsL_law := kW 325 (by decide +kernel)
theorem wf_X4_93 : Cond.fieldLink RX4 93 "FishCounter$Lot" "box" "I" ∈ wsL_law := kW 90 (by decide +kernel)
theorem wm_X5_79 : Cond.methodLink RX5 79 yX4_buyLot ∈ wsL_law := kW 326 (by decide +kernel)
theorem wi_X4_buyLot : Cond.instanceMethod yX4_buyLot ∈ wsL_law := kW 327 (by decide +kernel)
theorem ws_X4_buyLot : Cond.selects RX4 yX4_buyLot yX4_buyLot ∈ wsL_law := kW 328 (by decide +kernel)
theorem wc_X4_buyLot : Cond.code yX4_buyLot cX4_buyLot 5 (some .int) ∈ wsL_law := kW 329 (by decide +kernel)
theorem wt_X5_moneyFor : Cond.static yX5_moneyFor ∈ wsL_law := kW 331 (by decide +kernel)
theorem wc_X5_moneyFor : Cond.code yX5_moneyFor cX5_moneyFor 2 (some .int) ∈ wsL_law := kW 332 (by decide +kernel)
theorem wm_X4_130 : Cond.methodLink RX4 130 yX4_addLot ∈ wsL_law := kW 333 (by decide +kernel)
theorem wi_X4_addLot : Cond.instanceMethod yX4_addLot ∈ wsL_law := kW 334 (by decide +kernel)
theorem ws_X4_addLot : Cond.selects RX4 yX4_addLot yX4_addLot ∈ wsL_law := kW 335 (by decide +kernel)
theorem wc_X4_addLot : Cond.code yX4_addLot cX4_addLot 6 (some .int) ∈ wsL_law := kW 336 (by decide +kernel)
theorem wf_X4_79 : Cond.fieldLink RX4 79 "FishCounter$Lot" "number" "I" ∈ wsL_law := kW 76 (by decide +kernel)
theorem wf_X4_102 : Cond.fieldLink RX4 102 "FishCounter$Lot" "kind" "I" ∈ wsL_law := kW 81 (by decide +kernel)
theorem wf_X4_99 : Cond.fieldLink RX4 99 "FishCounter$Lot" "grams" "I" ∈ wsL_law := kW 83 (by decide +kernel)
theorem wf_X4_105 : Cond.fieldLink RX4 105 "FishCounter$Lot" "fresh" "I" ∈ wsL_law := kW 88 (by decide +kernel)
theorem wm_X4_122 : Cond.methodLink RX4 122 yX3_putInBox ∈ wsL_law := kW 337 (by decide +kernel)
theorem wi_X3_putInBox : Cond.instanceMethod yX3_putInBox ∈ wsL_law := kW 338 (by decide +kernel)
theorem ws_X3_putInBox : Cond.selects RX3 yX3_putInBox yX3_putInBox ∈ wsL_law := kW 339 (by decide +kernel)
theorem wc_X3_putInBox : Cond.code yX3_putInBox cX3_putInBox 2 none ∈ wsL_law := kW 340 (by decide +kernel)
theorem wm_L_31 : Cond.methodLink RL 31 yX6_deliver ∈ wsL_law := kW 711 (by decide +kernel)
theorem wi_X6_deliver : Cond.instanceMethod yX6_deliver ∈ wsL_law := kW 712 (by decide +kernel)
theorem ws_X6_deliver : Cond.selects RX6 yX6_deliver yX6_deliver ∈ wsL_law := kW 713 (by decide +kernel)
theorem wc_X6_deliver : Cond.code yX6_deliver cX6_deliver 6 (some .int) ∈ wsL_law := kW 714 (by decide +kernel)
theorem wm_X6_77 : Cond.methodLink RX6 77 yX6_whyNotDelivered ∈ wsL_law := kW 715 (by decide +kernel)
theorem wi_X6_whyNotDelivered : Cond.instanceMethod yX6_whyNotDelivered ∈ wsL_law := kW 717 (by decide +kernel)
theorem ws_X6_whyNotDelivered : Cond.selects RX6 yX6_whyNotDelivered yX6_whyNotDelivered ∈ wsL_law := kW 5 (by decide +kernel)
theorem wc_X6_whyNotDelivered : Cond.code yX6_whyNotDelivered cX6_whyNotDelivered 5 (some .int) ∈ wsL_law := kW 718 (by decide +kernel)
theorem wm_X6_64 : Cond.methodLink RX6 64 yX6_isBox ∈ wsL_law := kW 719 (by decide +kernel)
theorem wt_X6_isBox : Cond.static yX6_isBox ∈ wsL_law := kW 720 (by decide +kernel)
theorem wc_X6_isBox : Cond.code yX6_isBox cX6_isBox 1 (some .boolean) ∈ wsL_law := kW 721 (by decide +kernel)
theorem wm_X6_67 : Cond.methodLink RX6 67 yX6_whyNotRoom ∈ wsL_law := kW 722 (by decide +kernel)
theorem wi_X6_whyNotRoom : Cond.instanceMethod yX6_whyNotRoom ∈ wsL_law := kW 724 (by decide +kernel)
theorem ws_X6_whyNotRoom : Cond.selects RX6 yX6_whyNotRoom yX6_whyNotRoom ∈ wsL_law := kW 6 (by decide +kernel)
theorem wc_X6_whyNotRoom : Cond.code yX6_whyNotRoom cX6_whyNotRoom 2 (some .int) ∈ wsL_law := kW 725 (by decide +kernel)
theorem wm_X6_60 : Cond.methodLink RX6 60 yX6_lotsAt ∈ wsL_law := kW 726 (by decide +kernel)
theorem wi_X6_lotsAt : Cond.instanceMethod yX6_lotsAt ∈ wsL_law := kW 728 (by decide +kernel)
theorem ws_X6_lotsAt : Cond.selects RX6 yX6_lotsAt yX6_lotsAt ∈ wsL_law := kW 7 (by decide +kernel)
theorem wc_X6_lotsAt : Cond.code yX6_lotsAt cX6_lotsAt 4 (some .int) ∈ wsL_law := kW 729 (by decide +kernel)
theorem wm_X6_30 : Cond.methodLink RX6 30 yX6_part ∈ wsL_law := kW 730 (by decide +kernel)
theorem wi_X6_part : Cond.instanceMethod yX6_part ∈ wsL_law := kW 732 (by decide +kernel)
theorem ws_X6_part : Cond.selects RX6 yX6_part yX6_part ∈ wsL_law := kW 8 (by decide +kernel)
theorem wc_X6_part : Cond.code yX6_part cX6_part 3 (some .int) ∈ wsL_law := kW 733 (by decide +kernel)
theorem wm_X6_80 : Cond.methodLink RX6 80 yX6_delivers ∈ wsL_law := kW 734 (by decide +kernel)
theorem wi_X6_delivers : Cond.instanceMethod yX6_delivers ∈ wsL_law := kW 736 (by decide +kernel)
theorem ws_X6_delivers : Cond.selects RX6 yX6_delivers yX6_delivers ∈ wsL_law := kW 9 (by decide +kernel)
theorem wc_X6_delivers : Cond.code yX6_delivers cX6_delivers 5 (some .int) ∈ wsL_law := kW 737 (by decide +kernel)
theorem wm_X6_70 : Cond.methodLink RX6 70 yX6_worthOf ∈ wsL_law := kW 738 (by decide +kernel)
theorem wt_X6_worthOf : Cond.static yX6_worthOf ∈ wsL_law := kW 739 (by decide +kernel)
theorem wc_X6_worthOf : Cond.code yX6_worthOf cX6_worthOf 2 (some .int) ∈ wsL_law := kW 740 (by decide +kernel)
theorem wm_X6_73 : Cond.methodLink RX6 73 yX6_adds ∈ wsL_law := kW 741 (by decide +kernel)
theorem wi_X6_adds : Cond.instanceMethod yX6_adds ∈ wsL_law := kW 743 (by decide +kernel)
theorem ws_X6_adds : Cond.selects RX6 yX6_adds yX6_adds ∈ wsL_law := kW 10 (by decide +kernel)
theorem wc_X6_adds : Cond.code yX6_adds cX6_adds 6 (some .int) ∈ wsL_law := kW 744 (by decide +kernel)
theorem wm_X6_56 : Cond.methodLink RX6 56 yX6_setPart ∈ wsL_law := kW 745 (by decide +kernel)
theorem wi_X6_setPart : Cond.instanceMethod yX6_setPart ∈ wsL_law := kW 747 (by decide +kernel)
theorem ws_X6_setPart : Cond.selects RX6 yX6_setPart yX6_setPart ∈ wsL_law := kW 11 (by decide +kernel)
theorem wc_X6_setPart : Cond.code yX6_setPart cX6_setPart 4 none ∈ wsL_law := kW 748 (by decide +kernel)
theorem wm_L_32 : Cond.methodLink RL 32 yX5_iceBox ∈ wsL_law := kW 341 (by decide +kernel)
theorem wi_X5_iceBox : Cond.instanceMethod yX5_iceBox ∈ wsL_law := kW 342 (by decide +kernel)
theorem ws_X5_iceBox : Cond.selects RX5 yX5_iceBox yX5_iceBox ∈ wsL_law := kW 343 (by decide +kernel)
theorem wc_X5_iceBox : Cond.code yX5_iceBox cX5_iceBox 3 (some .int) ∈ wsL_law := kW 344 (by decide +kernel)
theorem wf_X5_83 : Cond.fieldLink RX5 83 "FishCounter$Shop" "boxIce" "[I" ∈ wsL_law := kW 138 (by decide +kernel)
theorem wm_X5_86 : Cond.methodLink RX5 86 Lib.Math.min.name ∈ wsL_law := kW 345 (by decide +kernel)
theorem wm_L_35 : Cond.methodLink RL 35 yX6_iceBox ∈ wsL_law := kW 749 (by decide +kernel)
theorem wi_X6_iceBox : Cond.instanceMethod yX6_iceBox ∈ wsL_law := kW 750 (by decide +kernel)
theorem ws_X6_iceBox : Cond.selects RX6 yX6_iceBox yX6_iceBox ∈ wsL_law := kW 751 (by decide +kernel)
theorem wc_X6_iceBox : Cond.code yX6_iceBox cX6_iceBox 3 (some .int) ∈ wsL_law := kW 752 (by decide +kernel)
theorem wm_X6_83 : Cond.methodLink RX6 83 yX6_ices ∈ wsL_law := kW 753 (by decide +kernel)
theorem wi_X6_ices : Cond.instanceMethod yX6_ices ∈ wsL_law := kW 755 (by decide +kernel)
theorem ws_X6_ices : Cond.selects RX6 yX6_ices yX6_ices ∈ wsL_law := kW 12 (by decide +kernel)
theorem wc_X6_ices : Cond.code yX6_ices cX6_ices 4 (some .int) ∈ wsL_law := kW 756 (by decide +kernel)
theorem wm_L_36 : Cond.methodLink RL 36 yX5_iceTray ∈ wsL_law := kW 346 (by decide +kernel)
theorem wi_X5_iceTray : Cond.instanceMethod yX5_iceTray ∈ wsL_law := kW 347 (by decide +kernel)
theorem ws_X5_iceTray : Cond.selects RX5 yX5_iceTray yX5_iceTray ∈ wsL_law := kW 348 (by decide +kernel)
theorem wc_X5_iceTray : Cond.code yX5_iceTray cX5_iceTray 3 (some .int) ∈ wsL_law := kW 349 (by decide +kernel)
theorem wf_X5_95 : Cond.fieldLink RX5 95 "FishCounter$Shop" "trayIce" "[I" ∈ wsL_law := kW 140 (by decide +kernel)
theorem wm_X5_92 : Cond.methodLink RX5 92 yX5_isTray ∈ wsL_law := kW 350 (by decide +kernel)
theorem wt_X5_isTray : Cond.static yX5_isTray ∈ wsL_law := kW 351 (by decide +kernel)
theorem wc_X5_isTray : Cond.code yX5_isTray cX5_isTray 1 (some .boolean) ∈ wsL_law := kW 352 (by decide +kernel)
theorem wm_L_39 : Cond.methodLink RL 39 yX6_iceTray ∈ wsL_law := kW 757 (by decide +kernel)
theorem wi_X6_iceTray : Cond.instanceMethod yX6_iceTray ∈ wsL_law := kW 758 (by decide +kernel)
theorem ws_X6_iceTray : Cond.selects RX6 yX6_iceTray yX6_iceTray ∈ wsL_law := kW 759 (by decide +kernel)
theorem wc_X6_iceTray : Cond.code yX6_iceTray cX6_iceTray 3 (some .int) ∈ wsL_law := kW 760 (by decide +kernel)
theorem wm_X6_86 : Cond.methodLink RX6 86 yX6_isTray ∈ wsL_law := kW 761 (by decide +kernel)
theorem wt_X6_isTray : Cond.static yX6_isTray ∈ wsL_law := kW 762 (by decide +kernel)
theorem wc_X6_isTray : Cond.code yX6_isTray cX6_isTray 1 (some .boolean) ∈ wsL_law := kW 763 (by decide +kernel)
theorem wm_L_40 : Cond.methodLink RL 40 yX5_toTray ∈ wsL_law := kW 353 (by decide +kernel)
theorem wi_X5_toTray : Cond.instanceMethod yX5_toTray ∈ wsL_law := kW 354 (by decide +kernel)
theorem ws_X5_toTray : Cond.selects RX5 yX5_toTray yX5_toTray ∈ wsL_law := kW 355 (by decide +kernel)
theorem wc_X5_toTray : Cond.code yX5_toTray cX5_toTray 4 (some .int) ∈ wsL_law := kW 356 (by decide +kernel)
theorem wm_X5_98 : Cond.methodLink RX5 98 yX4_findLot ∈ wsL_law := kW 357 (by decide +kernel)
theorem wi_X4_findLot : Cond.instanceMethod yX4_findLot ∈ wsL_law := kW 358 (by decide +kernel)
theorem ws_X4_findLot : Cond.selects RX4 yX4_findLot yX4_findLot ∈ wsL_law := kW 359 (by decide +kernel)
theorem wc_X4_findLot : Cond.code yX4_findLot cX4_findLot 3 (some (.object "FishCounter$Lot")) ∈ wsL_law := kW 360 (by decide +kernel)
theorem wm_X4_82 : Cond.methodLink RX4 82 yX4_indexOfLot ∈ wsL_law := kW 361 (by decide +kernel)
theorem wi_X4_indexOfLot : Cond.instanceMethod yX4_indexOfLot ∈ wsL_law := kW 362 (by decide +kernel)
theorem ws_X4_indexOfLot : Cond.selects RX4 yX4_indexOfLot yX4_indexOfLot ∈ wsL_law := kW 363 (by decide +kernel)
theorem wc_X4_indexOfLot : Cond.code yX4_indexOfLot cX4_indexOfLot 3 (some .int) ∈ wsL_law := kW 364 (by decide +kernel)
theorem wm_X5_102 : Cond.methodLink RX5 102 yX4_lotOnTray ∈ wsL_law := kW 365 (by decide +kernel)
theorem wi_X4_lotOnTray : Cond.instanceMethod yX4_lotOnTray ∈ wsL_law := kW 366 (by decide +kernel)
theorem ws_X4_lotOnTray : Cond.selects RX4 yX4_lotOnTray yX4_lotOnTray ∈ wsL_law := kW 367 (by decide +kernel)
theorem wc_X4_lotOnTray : Cond.code yX4_lotOnTray cX4_lotOnTray 3 (some (.object "FishCounter$Lot")) ∈ wsL_law := kW 368 (by decide +kernel)
theorem wf_X4_86 : Cond.fieldLink RX4 86 "FishCounter$Lot" "tray" "I" ∈ wsL_law := kW 93 (by decide +kernel)
theorem wm_X5_105 : Cond.methodLink RX5 105 yX3_putOnTray ∈ wsL_law := kW 369 (by decide +kernel)
theorem wi_X3_putOnTray : Cond.instanceMethod yX3_putOnTray ∈ wsL_law := kW 370 (by decide +kernel)
theorem ws_X3_putOnTray : Cond.selects RX3 yX3_putOnTray yX3_putOnTray ∈ wsL_law := kW 371 (by decide +kernel)
theorem wc_X3_putOnTray : Cond.code yX3_putOnTray cX3_putOnTray 2 none ∈ wsL_law := kW 372 (by decide +kernel)
theorem wm_X5_111 : Cond.methodLink RX5 111 yX4_priceOf ∈ wsL_law := kW 373 (by decide +kernel)
theorem wi_X4_priceOf : Cond.instanceMethod yX4_priceOf ∈ wsL_law := kW 374 (by decide +kernel)
theorem ws_X4_priceOf : Cond.selects RX4 yX4_priceOf yX4_priceOf ∈ wsL_law := kW 375 (by decide +kernel)
theorem wc_X4_priceOf : Cond.code yX4_priceOf cX4_priceOf 2 (some .int) ∈ wsL_law := kW 376 (by decide +kernel)
theorem wm_X4_108 : Cond.methodLink RX4 108 yX4_priceAt ∈ wsL_law := kW 377 (by decide +kernel)
theorem wi_X4_priceAt : Cond.instanceMethod yX4_priceAt ∈ wsL_law := kW 378 (by decide +kernel)
theorem ws_X4_priceAt : Cond.selects RX4 yX4_priceAt yX4_priceAt ∈ wsL_law := kW 379 (by decide +kernel)
theorem wc_X4_priceAt : Cond.code yX4_priceAt cX4_priceAt 5 (some .int) ∈ wsL_law := kW 380 (by decide +kernel)
theorem wm_L_43 : Cond.methodLink RL 43 yX6_toTray ∈ wsL_law := kW 764 (by decide +kernel)
theorem wi_X6_toTray : Cond.instanceMethod yX6_toTray ∈ wsL_law := kW 765 (by decide +kernel)
theorem ws_X6_toTray : Cond.selects RX6 yX6_toTray yX6_toTray ∈ wsL_law := kW 766 (by decide +kernel)
theorem wc_X6_toTray : Cond.code yX6_toTray cX6_toTray 4 (some .int) ∈ wsL_law := kW 767 (by decide +kernel)
theorem wm_X6_89 : Cond.methodLink RX6 89 yX6_find ∈ wsL_law := kW 768 (by decide +kernel)
theorem wi_X6_find : Cond.instanceMethod yX6_find ∈ wsL_law := kW 770 (by decide +kernel)
theorem ws_X6_find : Cond.selects RX6 yX6_find yX6_find ∈ wsL_law := kW 13 (by decide +kernel)
theorem wc_X6_find : Cond.code yX6_find cX6_find 4 (some .int) ∈ wsL_law := kW 771 (by decide +kernel)
theorem wm_X6_92 : Cond.methodLink RX6 92 yX6_priceOf ∈ wsL_law := kW 772 (by decide +kernel)
theorem wi_X6_priceOf : Cond.instanceMethod yX6_priceOf ∈ wsL_law := kW 774 (by decide +kernel)
theorem ws_X6_priceOf : Cond.selects RX6 yX6_priceOf yX6_priceOf ∈ wsL_law := kW 14 (by decide +kernel)
theorem wc_X6_priceOf : Cond.code yX6_priceOf cX6_priceOf 2 (some .int) ∈ wsL_law := kW 775 (by decide +kernel)
theorem wm_X6_42 : Cond.methodLink RX6 42 yX6_priceWith ∈ wsL_law := kW 776 (by decide +kernel)
theorem wi_X6_priceWith : Cond.instanceMethod yX6_priceWith ∈ wsL_law := kW 778 (by decide +kernel)
theorem ws_X6_priceWith : Cond.selects RX6 yX6_priceWith yX6_priceWith ∈ wsL_law := kW 15 (by decide +kernel)
theorem wc_X6_priceWith : Cond.code yX6_priceWith cX6_priceWith 5 (some .int) ∈ wsL_law := kW 779 (by decide +kernel)
theorem wm_L_44 : Cond.methodLink RL 44 yX5_toBox ∈ wsL_law := kW 381 (by decide +kernel)
theorem wi_X5_toBox : Cond.instanceMethod yX5_toBox ∈ wsL_law := kW 382 (by decide +kernel)
theorem ws_X5_toBox : Cond.selects RX5 yX5_toBox yX5_toBox ∈ wsL_law := kW 383 (by decide +kernel)
theorem wc_X5_toBox : Cond.code yX5_toBox cX5_toBox 4 (some .int) ∈ wsL_law := kW 384 (by decide +kernel)
theorem wf_X5_115 : Cond.fieldLink RX5 115 "FishCounter$Lot" "box" "I" ∈ wsL_law := kW 91 (by decide +kernel)
theorem wm_X5_118 : Cond.methodLink RX5 118 yX4_isBoxFull ∈ wsL_law := kW 385 (by decide +kernel)
theorem wm_X5_121 : Cond.methodLink RX5 121 yX3_putInBox ∈ wsL_law := kW 386 (by decide +kernel)
theorem wm_X5_124 : Cond.methodLink RX5 124 yX4_lotsInBox ∈ wsL_law := kW 387 (by decide +kernel)
theorem wm_L_47 : Cond.methodLink RL 47 yX6_toBox ∈ wsL_law := kW 780 (by decide +kernel)
theorem wi_X6_toBox : Cond.instanceMethod yX6_toBox ∈ wsL_law := kW 781 (by decide +kernel)
theorem ws_X6_toBox : Cond.selects RX6 yX6_toBox yX6_toBox ∈ wsL_law := kW 782 (by decide +kernel)
theorem wc_X6_toBox : Cond.code yX6_toBox cX6_toBox 4 (some .int) ∈ wsL_law := kW 783 (by decide +kernel)
theorem wm_L_48 : Cond.methodLink RL 48 yX5_divide ∈ wsL_law := kW 388 (by decide +kernel)
theorem wi_X5_divide : Cond.instanceMethod yX5_divide ∈ wsL_law := kW 389 (by decide +kernel)
theorem ws_X5_divide : Cond.selects RX5 yX5_divide yX5_divide ∈ wsL_law := kW 390 (by decide +kernel)
theorem wc_X5_divide : Cond.code yX5_divide cX5_divide 6 (some .int) ∈ wsL_law := kW 391 (by decide +kernel)
theorem wf_X5_127 : Cond.fieldLink RX5 127 "FishCounter$Lot" "grams" "I" ∈ wsL_law := kW 84 (by decide +kernel)
theorem wf_X5_130 : Cond.fieldLink RX5 130 "FishCounter$Lot" "kind" "I" ∈ wsL_law := kW 80 (by decide +kernel)
theorem wf_X5_133 : Cond.fieldLink RX5 133 "FishCounter$Lot" "fresh" "I" ∈ wsL_law := kW 87 (by decide +kernel)
theorem wm_X5_136 : Cond.methodLink RX5 136 yX4_addLot ∈ wsL_law := kW 392 (by decide +kernel)
theorem wm_L_51 : Cond.methodLink RL 51 yX6_divide ∈ wsL_law := kW 784 (by decide +kernel)
theorem wi_X6_divide : Cond.instanceMethod yX6_divide ∈ wsL_law := kW 785 (by decide +kernel)
theorem ws_X6_divide : Cond.selects RX6 yX6_divide yX6_divide ∈ wsL_law := kW 786 (by decide +kernel)
theorem wc_X6_divide : Cond.code yX6_divide cX6_divide 6 (some .int) ∈ wsL_law := kW 787 (by decide +kernel)
theorem wm_L_52 : Cond.methodLink RL 52 yX5_throwAway ∈ wsL_law := kW 393 (by decide +kernel)
theorem wi_X5_throwAway : Cond.instanceMethod yX5_throwAway ∈ wsL_law := kW 394 (by decide +kernel)
theorem ws_X5_throwAway : Cond.selects RX5 yX5_throwAway yX5_throwAway ∈ wsL_law := kW 395 (by decide +kernel)
theorem wc_X5_throwAway : Cond.code yX5_throwAway cX5_throwAway 3 (some .int) ∈ wsL_law := kW 396 (by decide +kernel)
theorem wm_X5_139 : Cond.methodLink RX5 139 yX4_indexOfLot ∈ wsL_law := kW 397 (by decide +kernel)
theorem wm_X5_142 : Cond.methodLink RX5 142 yX4_discardLotAt ∈ wsL_law := kW 398 (by decide +kernel)
theorem wi_X4_discardLotAt : Cond.instanceMethod yX4_discardLotAt ∈ wsL_law := kW 399 (by decide +kernel)
theorem ws_X4_discardLotAt : Cond.selects RX4 yX4_discardLotAt yX4_discardLotAt ∈ wsL_law := kW 400 (by decide +kernel)
theorem wc_X4_discardLotAt : Cond.code yX4_discardLotAt cX4_discardLotAt 3 (some .int) ∈ wsL_law := kW 401 (by decide +kernel)
theorem wm_X4_134 : Cond.methodLink RX4 134 yX4_removeLotAt ∈ wsL_law := kW 402 (by decide +kernel)
theorem wi_X4_removeLotAt : Cond.instanceMethod yX4_removeLotAt ∈ wsL_law := kW 403 (by decide +kernel)
theorem ws_X4_removeLotAt : Cond.selects RX4 yX4_removeLotAt yX4_removeLotAt ∈ wsL_law := kW 404 (by decide +kernel)
theorem wc_X4_removeLotAt : Cond.code yX4_removeLotAt cX4_removeLotAt 4 none ∈ wsL_law := kW 405 (by decide +kernel)
theorem wm_L_56 : Cond.methodLink RL 56 yX6_throwAway ∈ wsL_law := kW 788 (by decide +kernel)
theorem wi_X6_throwAway : Cond.instanceMethod yX6_throwAway ∈ wsL_law := kW 789 (by decide +kernel)
theorem ws_X6_throwAway : Cond.selects RX6 yX6_throwAway yX6_throwAway ∈ wsL_law := kW 790 (by decide +kernel)
theorem wc_X6_throwAway : Cond.code yX6_throwAway cX6_throwAway 4 (some .int) ∈ wsL_law := kW 791 (by decide +kernel)
theorem wm_X6_95 : Cond.methodLink RX6 95 yX6_throwsAway ∈ wsL_law := kW 792 (by decide +kernel)
theorem wi_X6_throwsAway : Cond.instanceMethod yX6_throwsAway ∈ wsL_law := kW 794 (by decide +kernel)
theorem ws_X6_throwsAway : Cond.selects RX6 yX6_throwsAway yX6_throwsAway ∈ wsL_law := kW 16 (by decide +kernel)
theorem wc_X6_throwsAway : Cond.code yX6_throwsAway cX6_throwsAway 2 none ∈ wsL_law := kW 795 (by decide +kernel)
theorem wm_X6_34 : Cond.methodLink RX6 34 yX6_drops ∈ wsL_law := kW 796 (by decide +kernel)
theorem wi_X6_drops : Cond.instanceMethod yX6_drops ∈ wsL_law := kW 798 (by decide +kernel)
theorem ws_X6_drops : Cond.selects RX6 yX6_drops yX6_drops ∈ wsL_law := kW 17 (by decide +kernel)
theorem wc_X6_drops : Cond.code yX6_drops cX6_drops 3 none ∈ wsL_law := kW 799 (by decide +kernel)
theorem wm_L_57 : Cond.methodLink RL 57 yX5_order ∈ wsL_law := kW 406 (by decide +kernel)
theorem wi_X5_order : Cond.instanceMethod yX5_order ∈ wsL_law := kW 407 (by decide +kernel)
theorem ws_X5_order : Cond.selects RX5 yX5_order yX5_order ∈ wsL_law := kW 408 (by decide +kernel)
theorem wc_X5_order : Cond.code yX5_order cX5_order 5 (some .int) ∈ wsL_law := kW 409 (by decide +kernel)
theorem wm_X5_145 : Cond.methodLink RX5 145 yX4_sell ∈ wsL_law := kW 410 (by decide +kernel)
theorem wi_X4_sell : Cond.instanceMethod yX4_sell ∈ wsL_law := kW 411 (by decide +kernel)
theorem ws_X4_sell : Cond.selects RX4 yX4_sell yX4_sell ∈ wsL_law := kW 412 (by decide +kernel)
theorem wc_X4_sell : Cond.code yX4_sell cX4_sell 8 (some .int) ∈ wsL_law := kW 413 (by decide +kernel)
theorem wm_X4_137 : Cond.methodLink RX4 137 Lib.Math.max.name ∈ wsL_law := kW 414 (by decide +kernel)
theorem wt_max : Cond.static Lib.Math.max.name ∈ wsL_law := kW 415 (by decide +kernel)
theorem wc_max : Cond.code Lib.Math.max.name Lib.Math.max.code 2 (some .int) ∈ wsL_law := kW 416 (by decide +kernel)
theorem wm_X4_142 : Cond.methodLink RX4 142 yX4_nextLotToSell ∈ wsL_law := kW 417 (by decide +kernel)
theorem wi_X4_nextLotToSell : Cond.instanceMethod yX4_nextLotToSell ∈ wsL_law := kW 418 (by decide +kernel)
theorem ws_X4_nextLotToSell : Cond.selects RX4 yX4_nextLotToSell yX4_nextLotToSell ∈ wsL_law := kW 419 (by decide +kernel)
theorem wc_X4_nextLotToSell : Cond.code yX4_nextLotToSell cX4_nextLotToSell 8 (some .int) ∈ wsL_law := kW 420 (by decide +kernel)
theorem wm_X4_148 : Cond.methodLink RX4 148 yX3_isOnTray ∈ wsL_law := kW 421 (by decide +kernel)
theorem wi_X3_isOnTray : Cond.instanceMethod yX3_isOnTray ∈ wsL_law := kW 422 (by decide +kernel)
theorem ws_X3_isOnTray : Cond.selects RX3 yX3_isOnTray yX3_isOnTray ∈ wsL_law := kW 423 (by decide +kernel)
theorem wc_X3_isOnTray : Cond.code yX3_isOnTray cX3_isOnTray 1 (some .boolean) ∈ wsL_law := kW 424 (by decide +kernel)
theorem wm_X4_152 : Cond.methodLink RX4 152 yX4_priceOf ∈ wsL_law := kW 425 (by decide +kernel)
theorem wm_X4_145 : Cond.methodLink RX4 145 yX4_sellFromLotAt ∈ wsL_law := kW 426 (by decide +kernel)
theorem wi_X4_sellFromLotAt : Cond.instanceMethod yX4_sellFromLotAt ∈ wsL_law := kW 427 (by decide +kernel)
theorem ws_X4_sellFromLotAt : Cond.selects RX4 yX4_sellFromLotAt yX4_sellFromLotAt ∈ wsL_law := kW 428 (by decide +kernel)
theorem wc_X4_sellFromLotAt : Cond.code yX4_sellFromLotAt cX4_sellFromLotAt 5 (some .int) ∈ wsL_law := kW 429 (by decide +kernel)
theorem wm_X4_156 : Cond.methodLink RX4 156 Lib.Math.min.name ∈ wsL_law := kW 430 (by decide +kernel)
theorem wm_L_60 : Cond.methodLink RL 60 yX6_order ∈ wsL_law := kW 800 (by decide +kernel)
theorem wi_X6_order : Cond.instanceMethod yX6_order ∈ wsL_law := kW 801 (by decide +kernel)
theorem ws_X6_order : Cond.selects RX6 yX6_order yX6_order ∈ wsL_law := kW 802 (by decide +kernel)
theorem wc_X6_order : Cond.code yX6_order cX6_order 8 (some .int) ∈ wsL_law := kW 803 (by decide +kernel)
theorem wm_X6_104 : Cond.methodLink RX6 104 yX6_nextFor ∈ wsL_law := kW 804 (by decide +kernel)
theorem wi_X6_nextFor : Cond.instanceMethod yX6_nextFor ∈ wsL_law := kW 806 (by decide +kernel)
theorem ws_X6_nextFor : Cond.selects RX6 yX6_nextFor yX6_nextFor ∈ wsL_law := kW 18 (by decide +kernel)
theorem wc_X6_nextFor : Cond.code yX6_nextFor cX6_nextFor 7 (some .int) ∈ wsL_law := kW 807 (by decide +kernel)
theorem wm_X6_98 : Cond.methodLink RX6 98 yX6_isTrayPlace ∈ wsL_law := kW 808 (by decide +kernel)
theorem wt_X6_isTrayPlace : Cond.static yX6_isTrayPlace ∈ wsL_law := kW 809 (by decide +kernel)
theorem wc_X6_isTrayPlace : Cond.code yX6_isTrayPlace cX6_isTrayPlace 1 (some .boolean) ∈ wsL_law := kW 810 (by decide +kernel)
theorem wm_X6_101 : Cond.methodLink RX6 101 yX6_isSold ∈ wsL_law := kW 811 (by decide +kernel)
theorem wi_X6_isSold : Cond.instanceMethod yX6_isSold ∈ wsL_law := kW 813 (by decide +kernel)
theorem ws_X6_isSold : Cond.selects RX6 yX6_isSold yX6_isSold ∈ wsL_law := kW 19 (by decide +kernel)
theorem wc_X6_isSold : Cond.code yX6_isSold cX6_isSold 2 (some .boolean) ∈ wsL_law := kW 814 (by decide +kernel)
theorem wm_L_61 : Cond.methodLink RL 61 yX5_pass ∈ wsL_law := kW 431 (by decide +kernel)
theorem wi_X5_pass : Cond.instanceMethod yX5_pass ∈ wsL_law := kW 432 (by decide +kernel)
theorem ws_X5_pass : Cond.selects RX5 yX5_pass yX5_pass ∈ wsL_law := kW 433 (by decide +kernel)
theorem wc_X5_pass : Cond.code yX5_pass cX5_pass 1 (some .int) ∈ wsL_law := kW 434 (by decide +kernel)
theorem wf_X5_148 : Cond.fieldLink RX5 148 "FishCounter$Shop" "hour" "I" ∈ wsL_law := kW 112 (by decide +kernel)
theorem wm_X5_151 : Cond.methodLink RX5 151 yX4_passHour ∈ wsL_law := kW 435 (by decide +kernel)
theorem wi_X4_passHour : Cond.instanceMethod yX4_passHour ∈ wsL_law := kW 436 (by decide +kernel)
theorem ws_X4_passHour : Cond.selects RX4 yX4_passHour yX4_passHour ∈ wsL_law := kW 437 (by decide +kernel)
theorem wc_X4_passHour : Cond.code yX4_passHour cX4_passHour 3 none ∈ wsL_law := kW 438 (by decide +kernel)
theorem wm_X4_159 : Cond.methodLink RX4 159 yX4_iceAt ∈ wsL_law := kW 439 (by decide +kernel)
theorem wi_X4_iceAt : Cond.instanceMethod yX4_iceAt ∈ wsL_law := kW 440 (by decide +kernel)
theorem ws_X4_iceAt : Cond.selects RX4 yX4_iceAt yX4_iceAt ∈ wsL_law := kW 441 (by decide +kernel)
theorem wc_X4_iceAt : Cond.code yX4_iceAt cX4_iceAt 2 (some .int) ∈ wsL_law := kW 442 (by decide +kernel)
theorem wt_X5_freshAnHourLater : Cond.static yX5_freshAnHourLater ∈ wsL_law := kW 446 (by decide +kernel)
theorem wc_X5_freshAnHourLater : Cond.code yX5_freshAnHourLater cX5_freshAnHourLater 4 (some .int) ∈ wsL_law := kW 447 (by decide +kernel)
theorem wm_X5_298 : Cond.methodLink RX5 298 Lib.Math.max.name ∈ wsL_law := kW 448 (by decide +kernel)
theorem wt_X5_iceAnHourLater : Cond.static yX5_iceAnHourLater ∈ wsL_law := kW 450 (by decide +kernel)
theorem wc_X5_iceAnHourLater : Cond.code yX5_iceAnHourLater cX5_iceAnHourLater 3 (some .int) ∈ wsL_law := kW 451 (by decide +kernel)
theorem wm_L_65 : Cond.methodLink RL 65 yX6_pass ∈ wsL_law := kW 815 (by decide +kernel)
theorem wi_X6_pass : Cond.instanceMethod yX6_pass ∈ wsL_law := kW 816 (by decide +kernel)
theorem ws_X6_pass : Cond.selects RX6 yX6_pass yX6_pass ∈ wsL_law := kW 817 (by decide +kernel)
theorem wc_X6_pass : Cond.code yX6_pass cX6_pass 1 (some .int) ∈ wsL_law := kW 818 (by decide +kernel)
theorem wm_X6_116 : Cond.methodLink RX6 116 yX6_passesHour ∈ wsL_law := kW 819 (by decide +kernel)
theorem wi_X6_passesHour : Cond.instanceMethod yX6_passesHour ∈ wsL_law := kW 821 (by decide +kernel)
theorem ws_X6_passesHour : Cond.selects RX6 yX6_passesHour yX6_passesHour ∈ wsL_law := kW 20 (by decide +kernel)
theorem wc_X6_passesHour : Cond.code yX6_passesHour cX6_passesHour 2 none ∈ wsL_law := kW 822 (by decide +kernel)
theorem wm_X6_107 : Cond.methodLink RX6 107 yX6_loss ∈ wsL_law := kW 823 (by decide +kernel)
theorem wt_X6_loss : Cond.static yX6_loss ∈ wsL_law := kW 824 (by decide +kernel)
theorem wc_X6_loss : Cond.code yX6_loss cX6_loss 2 (some .int) ∈ wsL_law := kW 825 (by decide +kernel)
theorem wm_X6_110 : Cond.methodLink RX6 110 yX6_freshThen ∈ wsL_law := kW 826 (by decide +kernel)
theorem wt_X6_freshThen : Cond.static yX6_freshThen ∈ wsL_law := kW 827 (by decide +kernel)
theorem wc_X6_freshThen : Cond.code yX6_freshThen cX6_freshThen 2 (some .int) ∈ wsL_law := kW 828 (by decide +kernel)
theorem wm_X6_113 : Cond.methodLink RX6 113 yX6_iceThen ∈ wsL_law := kW 829 (by decide +kernel)
theorem wi_X6_iceThen : Cond.instanceMethod yX6_iceThen ∈ wsL_law := kW 831 (by decide +kernel)
theorem ws_X6_iceThen : Cond.selects RX6 yX6_iceThen yX6_iceThen ∈ wsL_law := kW 21 (by decide +kernel)
theorem wc_X6_iceThen : Cond.code yX6_iceThen cX6_iceThen 4 (some .int) ∈ wsL_law := kW 832 (by decide +kernel)
theorem wm_L_66 : Cond.methodLink RL 66 yX5_close ∈ wsL_law := kW 452 (by decide +kernel)
theorem wi_X5_close : Cond.instanceMethod yX5_close ∈ wsL_law := kW 453 (by decide +kernel)
theorem ws_X5_close : Cond.selects RX5 yX5_close yX5_close ∈ wsL_law := kW 454 (by decide +kernel)
theorem wc_X5_close : Cond.code yX5_close cX5_close 1 (some .int) ∈ wsL_law := kW 455 (by decide +kernel)
theorem wf_X5_154 : Cond.fieldLink RX5 154 "FishCounter$Shop" "day" "I" ∈ wsL_law := kW 110 (by decide +kernel)
theorem wm_X5_157 : Cond.methodLink RX5 157 yX4_closeDay ∈ wsL_law := kW 456 (by decide +kernel)
theorem wi_X4_closeDay : Cond.instanceMethod yX4_closeDay ∈ wsL_law := kW 457 (by decide +kernel)
theorem ws_X4_closeDay : Cond.selects RX4 yX4_closeDay yX4_closeDay ∈ wsL_law := kW 458 (by decide +kernel)
theorem wc_X4_closeDay : Cond.code yX4_closeDay cX4_closeDay 3 (some .int) ∈ wsL_law := kW 459 (by decide +kernel)
theorem wm_X4_169 : Cond.methodLink RX4 169 yX4_discardLotsBelowLimit ∈ wsL_law := kW 460 (by decide +kernel)
theorem wi_X4_discardLotsBelowLimit : Cond.instanceMethod yX4_discardLotsBelowLimit ∈ wsL_law := kW 461 (by decide +kernel)
theorem ws_X4_discardLotsBelowLimit : Cond.selects RX4 yX4_discardLotsBelowLimit yX4_discardLotsBelowLimit ∈ wsL_law := kW 462 (by decide +kernel)
theorem wc_X4_discardLotsBelowLimit : Cond.code yX4_discardLotsBelowLimit cX4_discardLotsBelowLimit 3 (some .int) ∈ wsL_law := kW 463 (by decide +kernel)
theorem wm_X4_176 : Cond.methodLink RX4 176 yX4_discardLotAt ∈ wsL_law := kW 464 (by decide +kernel)
theorem wm_X4_173 : Cond.methodLink RX4 173 yX4_clearTray ∈ wsL_law := kW 465 (by decide +kernel)
theorem wi_X4_clearTray : Cond.instanceMethod yX4_clearTray ∈ wsL_law := kW 466 (by decide +kernel)
theorem ws_X4_clearTray : Cond.selects RX4 yX4_clearTray yX4_clearTray ∈ wsL_law := kW 467 (by decide +kernel)
theorem wc_X4_clearTray : Cond.code yX4_clearTray cX4_clearTray 4 (some .int) ∈ wsL_law := kW 468 (by decide +kernel)
theorem wm_X4_89 : Cond.methodLink RX4 89 yX4_lotOnTray ∈ wsL_law := kW 469 (by decide +kernel)
theorem wm_X4_179 : Cond.methodLink RX4 179 yX4_boxForTheNight ∈ wsL_law := kW 470 (by decide +kernel)
theorem wi_X4_boxForTheNight : Cond.instanceMethod yX4_boxForTheNight ∈ wsL_law := kW 471 (by decide +kernel)
theorem ws_X4_boxForTheNight : Cond.selects RX4 yX4_boxForTheNight yX4_boxForTheNight ∈ wsL_law := kW 472 (by decide +kernel)
theorem wc_X4_boxForTheNight : Cond.code yX4_boxForTheNight cX4_boxForTheNight 4 (some .int) ∈ wsL_law := kW 473 (by decide +kernel)
theorem wm_L_69 : Cond.methodLink RL 69 yX6_close ∈ wsL_law := kW 833 (by decide +kernel)
theorem wi_X6_close : Cond.instanceMethod yX6_close ∈ wsL_law := kW 834 (by decide +kernel)
theorem ws_X6_close : Cond.selects RX6 yX6_close yX6_close ∈ wsL_law := kW 835 (by decide +kernel)
theorem wc_X6_close : Cond.code yX6_close cX6_close 1 (some .int) ∈ wsL_law := kW 836 (by decide +kernel)
theorem wm_X6_126 : Cond.methodLink RX6 126 yX6_closes ∈ wsL_law := kW 837 (by decide +kernel)
theorem wi_X6_closes : Cond.instanceMethod yX6_closes ∈ wsL_law := kW 839 (by decide +kernel)
theorem ws_X6_closes : Cond.selects RX6 yX6_closes yX6_closes ∈ wsL_law := kW 22 (by decide +kernel)
theorem wc_X6_closes : Cond.code yX6_closes cX6_closes 5 (some .int) ∈ wsL_law := kW 840 (by decide +kernel)
theorem wm_X6_119 : Cond.methodLink RX6 119 yX6_firstAt ∈ wsL_law := kW 841 (by decide +kernel)
theorem wi_X6_firstAt : Cond.instanceMethod yX6_firstAt ∈ wsL_law := kW 843 (by decide +kernel)
theorem ws_X6_firstAt : Cond.selects RX6 yX6_firstAt yX6_firstAt ∈ wsL_law := kW 23 (by decide +kernel)
theorem wc_X6_firstAt : Cond.code yX6_firstAt cX6_firstAt 4 (some .int) ∈ wsL_law := kW 844 (by decide +kernel)
theorem wm_X6_122 : Cond.methodLink RX6 122 yX6_coldest ∈ wsL_law := kW 845 (by decide +kernel)
theorem wi_X6_coldest : Cond.instanceMethod yX6_coldest ∈ wsL_law := kW 847 (by decide +kernel)
theorem ws_X6_coldest : Cond.selects RX6 yX6_coldest yX6_coldest ∈ wsL_law := kW 24 (by decide +kernel)
theorem wc_X6_coldest : Cond.code yX6_coldest cX6_coldest 4 (some .int) ∈ wsL_law := kW 848 (by decide +kernel)
theorem wm_L_70 : Cond.methodLink RL 70 yX5_count ∈ wsL_law := kW 474 (by decide +kernel)
theorem wi_X5_count : Cond.instanceMethod yX5_count ∈ wsL_law := kW 475 (by decide +kernel)
theorem ws_X5_count : Cond.selects RX5 yX5_count yX5_count ∈ wsL_law := kW 476 (by decide +kernel)
theorem wc_X5_count : Cond.code yX5_count cX5_count 2 (some .long) ∈ wsL_law := kW 477 (by decide +kernel)
theorem wf_X5_161 : Cond.fieldLink RX5 161 "FishCounter$Shop" "lotCount" "I" ∈ wsL_law := kW 120 (by decide +kernel)
theorem wf_X5_167 : Cond.fieldLink RX5 167 "FishCounter$Shop" "gramsCame" "J" ∈ wsL_law := kW 122 (by decide +kernel)
theorem wf_X5_171 : Cond.fieldLink RX5 171 "FishCounter$Shop" "gramsSold" "J" ∈ wsL_law := kW 124 (by decide +kernel)
theorem wf_X5_174 : Cond.fieldLink RX5 174 "FishCounter$Shop" "gramsThrownAway" "J" ∈ wsL_law := kW 126 (by decide +kernel)
theorem wf_X5_177 : Cond.fieldLink RX5 177 "FishCounter$Shop" "moneyPaid" "J" ∈ wsL_law := kW 128 (by decide +kernel)
theorem wf_X5_180 : Cond.fieldLink RX5 180 "FishCounter$Shop" "moneyTaken" "J" ∈ wsL_law := kW 130 (by decide +kernel)
theorem wq_X5_183 : Cond.constantLong RX5 183 (-2) ∈ wsL_law := kW 482 (by decide +kernel)
theorem wm_X5_164 : Cond.methodLink RX5 164 yX4_gramsInShop ∈ wsL_law := kW 478 (by decide +kernel)
theorem wi_X4_gramsInShop : Cond.instanceMethod yX4_gramsInShop ∈ wsL_law := kW 479 (by decide +kernel)
theorem ws_X4_gramsInShop : Cond.selects RX4 yX4_gramsInShop yX4_gramsInShop ∈ wsL_law := kW 480 (by decide +kernel)
theorem wc_X4_gramsInShop : Cond.code yX4_gramsInShop cX4_gramsInShop 3 (some .int) ∈ wsL_law := kW 481 (by decide +kernel)
theorem wm_L_74 : Cond.methodLink RL 74 yX6_count ∈ wsL_law := kW 849 (by decide +kernel)
theorem wi_X6_count : Cond.instanceMethod yX6_count ∈ wsL_law := kW 850 (by decide +kernel)
theorem ws_X6_count : Cond.selects RX6 yX6_count yX6_count ∈ wsL_law := kW 851 (by decide +kernel)
theorem wc_X6_count : Cond.code yX6_count cX6_count 2 (some .long) ∈ wsL_law := kW 852 (by decide +kernel)
theorem wq_X6_136 : Cond.constantLong RX6 136 (-2) ∈ wsL_law := kW 861 (by decide +kernel)
theorem wm_X6_132 : Cond.methodLink RX6 132 yX6_countOf ∈ wsL_law := kW 853 (by decide +kernel)
theorem wi_X6_countOf : Cond.instanceMethod yX6_countOf ∈ wsL_law := kW 855 (by decide +kernel)
theorem ws_X6_countOf : Cond.selects RX6 yX6_countOf yX6_countOf ∈ wsL_law := kW 25 (by decide +kernel)
theorem wc_X6_countOf : Cond.code yX6_countOf cX6_countOf 2 (some .long) ∈ wsL_law := kW 856 (by decide +kernel)
theorem wm_X6_129 : Cond.methodLink RX6 129 yX6_allGrams ∈ wsL_law := kW 857 (by decide +kernel)
theorem wi_X6_allGrams : Cond.instanceMethod yX6_allGrams ∈ wsL_law := kW 859 (by decide +kernel)
theorem ws_X6_allGrams : Cond.selects RX6 yX6_allGrams yX6_allGrams ∈ wsL_law := kW 26 (by decide +kernel)
theorem wc_X6_allGrams : Cond.code yX6_allGrams cX6_allGrams 3 (some .int) ∈ wsL_law := kW 860 (by decide +kernel)
theorem wm_L_75 : Cond.methodLink RL 75 yX5_lot ∈ wsL_law := kW 483 (by decide +kernel)
theorem wi_X5_lot : Cond.instanceMethod yX5_lot ∈ wsL_law := kW 484 (by decide +kernel)
theorem ws_X5_lot : Cond.selects RX5 yX5_lot yX5_lot ∈ wsL_law := kW 485 (by decide +kernel)
theorem wc_X5_lot : Cond.code yX5_lot cX5_lot 4 (some .int) ∈ wsL_law := kW 486 (by decide +kernel)
theorem wf_X5_185 : Cond.fieldLink RX5 185 "FishCounter$Lot" "tray" "I" ∈ wsL_law := kW 94 (by decide +kernel)
theorem wm_X5_188 : Cond.methodLink RX5 188 yX5_moneyFor ∈ wsL_law := kW 487 (by decide +kernel)
theorem wm_L_78 : Cond.methodLink RL 78 yX6_lot ∈ wsL_law := kW 862 (by decide +kernel)
theorem wi_X6_lot : Cond.instanceMethod yX6_lot ∈ wsL_law := kW 863 (by decide +kernel)
theorem ws_X6_lot : Cond.selects RX6 yX6_lot yX6_lot ∈ wsL_law := kW 864 (by decide +kernel)
theorem wc_X6_lot : Cond.code yX6_lot cX6_lot 4 (some .int) ∈ wsL_law := kW 865 (by decide +kernel)
theorem wm_X6_138 : Cond.methodLink RX6 138 yX6_ofLot ∈ wsL_law := kW 866 (by decide +kernel)
theorem wi_X6_ofLot : Cond.instanceMethod yX6_ofLot ∈ wsL_law := kW 868 (by decide +kernel)
theorem ws_X6_ofLot : Cond.selects RX6 yX6_ofLot yX6_ofLot ∈ wsL_law := kW 27 (by decide +kernel)
theorem wc_X6_ofLot : Cond.code yX6_ofLot cX6_ofLot 4 (some .int) ∈ wsL_law := kW 869 (by decide +kernel)
theorem wm_L_79 : Cond.methodLink RL 79 yX5_box ∈ wsL_law := kW 488 (by decide +kernel)
theorem wi_X5_box : Cond.instanceMethod yX5_box ∈ wsL_law := kW 489 (by decide +kernel)
theorem ws_X5_box : Cond.selects RX5 yX5_box yX5_box ∈ wsL_law := kW 490 (by decide +kernel)
theorem wc_X5_box : Cond.code yX5_box cX5_box 3 (some .int) ∈ wsL_law := kW 491 (by decide +kernel)
theorem wm_X5_191 : Cond.methodLink RX5 191 yX4_gramsInBox ∈ wsL_law := kW 492 (by decide +kernel)
theorem wi_X4_gramsInBox : Cond.instanceMethod yX4_gramsInBox ∈ wsL_law := kW 493 (by decide +kernel)
theorem ws_X4_gramsInBox : Cond.selects RX4 yX4_gramsInBox yX4_gramsInBox ∈ wsL_law := kW 494 (by decide +kernel)
theorem wc_X4_gramsInBox : Cond.code yX4_gramsInBox cX4_gramsInBox 4 (some .int) ∈ wsL_law := kW 495 (by decide +kernel)
theorem wm_X5_194 : Cond.methodLink RX5 194 yX4_firstLotInBox ∈ wsL_law := kW 496 (by decide +kernel)
theorem wi_X4_firstLotInBox : Cond.instanceMethod yX4_firstLotInBox ∈ wsL_law := kW 497 (by decide +kernel)
theorem ws_X4_firstLotInBox : Cond.selects RX4 yX4_firstLotInBox yX4_firstLotInBox ∈ wsL_law := kW 498 (by decide +kernel)
theorem wc_X4_firstLotInBox : Cond.code yX4_firstLotInBox cX4_firstLotInBox 3 (some .int) ∈ wsL_law := kW 499 (by decide +kernel)
theorem wm_L_82 : Cond.methodLink RL 82 yX6_box ∈ wsL_law := kW 870 (by decide +kernel)
theorem wi_X6_box : Cond.instanceMethod yX6_box ∈ wsL_law := kW 871 (by decide +kernel)
theorem ws_X6_box : Cond.selects RX6 yX6_box yX6_box ∈ wsL_law := kW 872 (by decide +kernel)
theorem wc_X6_box : Cond.code yX6_box cX6_box 3 (some .int) ∈ wsL_law := kW 873 (by decide +kernel)
theorem wm_X6_147 : Cond.methodLink RX6 147 yX6_ofBox ∈ wsL_law := kW 874 (by decide +kernel)
theorem wi_X6_ofBox : Cond.instanceMethod yX6_ofBox ∈ wsL_law := kW 876 (by decide +kernel)
theorem ws_X6_ofBox : Cond.selects RX6 yX6_ofBox yX6_ofBox ∈ wsL_law := kW 28 (by decide +kernel)
theorem wc_X6_ofBox : Cond.code yX6_ofBox cX6_ofBox 3 (some .int) ∈ wsL_law := kW 877 (by decide +kernel)
theorem wm_X6_141 : Cond.methodLink RX6 141 yX6_gramsAt ∈ wsL_law := kW 878 (by decide +kernel)
theorem wi_X6_gramsAt : Cond.instanceMethod yX6_gramsAt ∈ wsL_law := kW 880 (by decide +kernel)
theorem ws_X6_gramsAt : Cond.selects RX6 yX6_gramsAt yX6_gramsAt ∈ wsL_law := kW 29 (by decide +kernel)
theorem wc_X6_gramsAt : Cond.code yX6_gramsAt cX6_gramsAt 4 (some .int) ∈ wsL_law := kW 881 (by decide +kernel)
theorem wm_X6_144 : Cond.methodLink RX6 144 yX6_numberAt ∈ wsL_law := kW 882 (by decide +kernel)
theorem wi_X6_numberAt : Cond.instanceMethod yX6_numberAt ∈ wsL_law := kW 884 (by decide +kernel)
theorem ws_X6_numberAt : Cond.selects RX6 yX6_numberAt yX6_numberAt ∈ wsL_law := kW 30 (by decide +kernel)
theorem wc_X6_numberAt : Cond.code yX6_numberAt cX6_numberAt 2 (some .int) ∈ wsL_law := kW 885 (by decide +kernel)
theorem wm_L_83 : Cond.methodLink RL 83 yX5_tray ∈ wsL_law := kW 500 (by decide +kernel)
theorem wi_X5_tray : Cond.instanceMethod yX5_tray ∈ wsL_law := kW 501 (by decide +kernel)
theorem ws_X5_tray : Cond.selects RX5 yX5_tray yX5_tray ∈ wsL_law := kW 502 (by decide +kernel)
theorem wc_X5_tray : Cond.code yX5_tray cX5_tray 3 (some .int) ∈ wsL_law := kW 503 (by decide +kernel)
theorem wm_X5_197 : Cond.methodLink RX5 197 yX4_numberOnTray ∈ wsL_law := kW 504 (by decide +kernel)
theorem wi_X4_numberOnTray : Cond.instanceMethod yX4_numberOnTray ∈ wsL_law := kW 505 (by decide +kernel)
theorem ws_X4_numberOnTray : Cond.selects RX4 yX4_numberOnTray yX4_numberOnTray ∈ wsL_law := kW 506 (by decide +kernel)
theorem wc_X4_numberOnTray : Cond.code yX4_numberOnTray cX4_numberOnTray 3 (some .int) ∈ wsL_law := kW 507 (by decide +kernel)
theorem wm_L_86 : Cond.methodLink RL 86 yX6_tray ∈ wsL_law := kW 886 (by decide +kernel)
theorem wi_X6_tray : Cond.instanceMethod yX6_tray ∈ wsL_law := kW 887 (by decide +kernel)
theorem ws_X6_tray : Cond.selects RX6 yX6_tray yX6_tray ∈ wsL_law := kW 888 (by decide +kernel)
theorem wc_X6_tray : Cond.code yX6_tray cX6_tray 3 (some .int) ∈ wsL_law := kW 889 (by decide +kernel)
theorem wm_X6_150 : Cond.methodLink RX6 150 yX6_ofTray ∈ wsL_law := kW 890 (by decide +kernel)
theorem wi_X6_ofTray : Cond.instanceMethod yX6_ofTray ∈ wsL_law := kW 892 (by decide +kernel)
theorem ws_X6_ofTray : Cond.selects RX6 yX6_ofTray yX6_ofTray ∈ wsL_law := kW 31 (by decide +kernel)
theorem wc_X6_ofTray : Cond.code yX6_ofTray cX6_ofTray 3 (some .int) ∈ wsL_law := kW 893 (by decide +kernel)
theorem wm_L_87 : Cond.methodLink RL 87 yX5_kind ∈ wsL_law := kW 508 (by decide +kernel)
theorem wi_X5_kind : Cond.instanceMethod yX5_kind ∈ wsL_law := kW 509 (by decide +kernel)
theorem ws_X5_kind : Cond.selects RX5 yX5_kind yX5_kind ∈ wsL_law := kW 510 (by decide +kernel)
theorem wc_X5_kind : Cond.code yX5_kind cX5_kind 3 (some .int) ∈ wsL_law := kW 511 (by decide +kernel)
theorem wm_X5_200 : Cond.methodLink RX5 200 yX4_gramsOfKind ∈ wsL_law := kW 512 (by decide +kernel)
theorem wi_X4_gramsOfKind : Cond.instanceMethod yX4_gramsOfKind ∈ wsL_law := kW 513 (by decide +kernel)
theorem ws_X4_gramsOfKind : Cond.selects RX4 yX4_gramsOfKind yX4_gramsOfKind ∈ wsL_law := kW 514 (by decide +kernel)
theorem wc_X4_gramsOfKind : Cond.code yX4_gramsOfKind cX4_gramsOfKind 4 (some .int) ∈ wsL_law := kW 515 (by decide +kernel)
theorem wm_X5_203 : Cond.methodLink RX5 203 yX4_freshestLotOfKind ∈ wsL_law := kW 516 (by decide +kernel)
theorem wi_X4_freshestLotOfKind : Cond.instanceMethod yX4_freshestLotOfKind ∈ wsL_law := kW 517 (by decide +kernel)
theorem ws_X4_freshestLotOfKind : Cond.selects RX4 yX4_freshestLotOfKind yX4_freshestLotOfKind ∈ wsL_law := kW 518 (by decide +kernel)
theorem wc_X4_freshestLotOfKind : Cond.code yX4_freshestLotOfKind cX4_freshestLotOfKind 5 (some .int) ∈ wsL_law := kW 519 (by decide +kernel)
theorem wm_L_90 : Cond.methodLink RL 90 yX6_kind ∈ wsL_law := kW 894 (by decide +kernel)
theorem wi_X6_kind : Cond.instanceMethod yX6_kind ∈ wsL_law := kW 895 (by decide +kernel)
theorem ws_X6_kind : Cond.selects RX6 yX6_kind yX6_kind ∈ wsL_law := kW 896 (by decide +kernel)
theorem wc_X6_kind : Cond.code yX6_kind cX6_kind 3 (some .int) ∈ wsL_law := kW 897 (by decide +kernel)
theorem wm_X6_159 : Cond.methodLink RX6 159 yX6_ofKind ∈ wsL_law := kW 898 (by decide +kernel)
theorem wi_X6_ofKind : Cond.instanceMethod yX6_ofKind ∈ wsL_law := kW 900 (by decide +kernel)
theorem ws_X6_ofKind : Cond.selects RX6 yX6_ofKind yX6_ofKind ∈ wsL_law := kW 32 (by decide +kernel)
theorem wc_X6_ofKind : Cond.code yX6_ofKind cX6_ofKind 3 (some .int) ∈ wsL_law := kW 901 (by decide +kernel)
theorem wm_X6_153 : Cond.methodLink RX6 153 yX6_gramsOfKind ∈ wsL_law := kW 902 (by decide +kernel)
theorem wi_X6_gramsOfKind : Cond.instanceMethod yX6_gramsOfKind ∈ wsL_law := kW 904 (by decide +kernel)
theorem ws_X6_gramsOfKind : Cond.selects RX6 yX6_gramsOfKind yX6_gramsOfKind ∈ wsL_law := kW 33 (by decide +kernel)
theorem wc_X6_gramsOfKind : Cond.code yX6_gramsOfKind cX6_gramsOfKind 4 (some .int) ∈ wsL_law := kW 905 (by decide +kernel)
theorem wm_X6_156 : Cond.methodLink RX6 156 yX6_freshest ∈ wsL_law := kW 906 (by decide +kernel)
theorem wi_X6_freshest : Cond.instanceMethod yX6_freshest ∈ wsL_law := kW 908 (by decide +kernel)
theorem ws_X6_freshest : Cond.selects RX6 yX6_freshest yX6_freshest ∈ wsL_law := kW 34 (by decide +kernel)
theorem wc_X6_freshest : Cond.code yX6_freshest cX6_freshest 4 (some .int) ∈ wsL_law := kW 909 (by decide +kernel)
theorem wm_L_91 : Cond.methodLink RL 91 yX5_cut ∈ wsL_law := kW 520 (by decide +kernel)
theorem wi_X5_cut : Cond.instanceMethod yX5_cut ∈ wsL_law := kW 521 (by decide +kernel)
theorem ws_X5_cut : Cond.selects RX5 yX5_cut yX5_cut ∈ wsL_law := kW 522 (by decide +kernel)
theorem wc_X5_cut : Cond.code yX5_cut cX5_cut 2 (some .int) ∈ wsL_law := kW 523 (by decide +kernel)
theorem wm_L_94 : Cond.methodLink RL 94 yX6_cut ∈ wsL_law := kW 910 (by decide +kernel)
theorem wi_X6_cut : Cond.instanceMethod yX6_cut ∈ wsL_law := kW 911 (by decide +kernel)
theorem ws_X6_cut : Cond.selects RX6 yX6_cut yX6_cut ∈ wsL_law := kW 912 (by decide +kernel)
theorem wc_X6_cut : Cond.code yX6_cut cX6_cut 2 (some .int) ∈ wsL_law := kW 913 (by decide +kernel)
theorem wm_L_95 : Cond.methodLink RL 95 yX5_freshAfter ∈ wsL_law := kW 524 (by decide +kernel)
theorem wi_X5_freshAfter : Cond.instanceMethod yX5_freshAfter ∈ wsL_law := kW 525 (by decide +kernel)
theorem ws_X5_freshAfter : Cond.selects RX5 yX5_freshAfter yX5_freshAfter ∈ wsL_law := kW 526 (by decide +kernel)
theorem wc_X5_freshAfter : Cond.code yX5_freshAfter cX5_freshAfter 5 (some .int) ∈ wsL_law := kW 527 (by decide +kernel)
theorem wf_X5_211 : Cond.fieldLink RX5 211 "FishCounter$Forecast" "fresh" "I" ∈ wsL_law := kW 185 (by decide +kernel)
theorem wm_X5_206 : Cond.methodLink RX5 206 yX1_start ∈ wsL_law := kW 528 (by decide +kernel)
theorem wi_X1_start : Cond.instanceMethod yX1_start ∈ wsL_law := kW 529 (by decide +kernel)
theorem ws_X1_start : Cond.selects RX1 yX1_start yX1_start ∈ wsL_law := kW 530 (by decide +kernel)
theorem wc_X1_start : Cond.code yX1_start cX1_start 3 none ∈ wsL_law := kW 531 (by decide +kernel)
theorem wf_X1_7 : Cond.fieldLink RX1 7 "FishCounter$Lot" "fresh" "I" ∈ wsL_law := kW 85 (by decide +kernel)
theorem wf_X1_13 : Cond.fieldLink RX1 13 "FishCounter$Forecast" "fresh" "I" ∈ wsL_law := kW 184 (by decide +kernel)
theorem wf_X1_22 : Cond.fieldLink RX1 22 "FishCounter$Forecast" "ice" "I" ∈ wsL_law := kW 186 (by decide +kernel)
theorem wf_X1_25 : Cond.fieldLink RX1 25 "FishCounter$Shop" "melting" "I" ∈ wsL_law := kW 114 (by decide +kernel)
theorem wf_X1_28 : Cond.fieldLink RX1 28 "FishCounter$Forecast" "melting" "I" ∈ wsL_law := kW 187 (by decide +kernel)
theorem wf_X1_33 : Cond.fieldLink RX1 33 "FishCounter$Forecast" "onTray" "Z" ∈ wsL_law := kW 188 (by decide +kernel)
theorem wm_X1_16 : Cond.methodLink RX1 16 yX4_iceAt ∈ wsL_law := kW 532 (by decide +kernel)
theorem wm_X1_29 : Cond.methodLink RX1 29 yX3_isOnTray ∈ wsL_law := kW 533 (by decide +kernel)
theorem wm_X5_210 : Cond.methodLink RX5 210 yX1_passHour ∈ wsL_law := kW 534 (by decide +kernel)
theorem wi_X1_passHour : Cond.instanceMethod yX1_passHour ∈ wsL_law := kW 535 (by decide +kernel)
theorem ws_X1_passHour : Cond.selects RX1 yX1_passHour yX1_passHour ∈ wsL_law := kW 536 (by decide +kernel)
theorem wc_X1_passHour : Cond.code yX1_passHour cX1_passHour 1 none ∈ wsL_law := kW 537 (by decide +kernel)
theorem wm_L_98 : Cond.methodLink RL 98 yX6_freshAfter ∈ wsL_law := kW 914 (by decide +kernel)
theorem wi_X6_freshAfter : Cond.instanceMethod yX6_freshAfter ∈ wsL_law := kW 915 (by decide +kernel)
theorem ws_X6_freshAfter : Cond.selects RX6 yX6_freshAfter yX6_freshAfter ∈ wsL_law := kW 916 (by decide +kernel)
theorem wc_X6_freshAfter : Cond.code yX6_freshAfter cX6_freshAfter 4 (some .int) ∈ wsL_law := kW 917 (by decide +kernel)
theorem wm_X6_162 : Cond.methodLink RX6 162 yX6_freshIn ∈ wsL_law := kW 918 (by decide +kernel)
theorem wi_X6_freshIn : Cond.instanceMethod yX6_freshIn ∈ wsL_law := kW 920 (by decide +kernel)
theorem ws_X6_freshIn : Cond.selects RX6 yX6_freshIn yX6_freshIn ∈ wsL_law := kW 35 (by decide +kernel)
theorem wc_X6_freshIn : Cond.code yX6_freshIn cX6_freshIn 7 (some .int) ∈ wsL_law := kW 921 (by decide +kernel)
theorem wm_L_99 : Cond.methodLink RL 99 yX5_hoursLeft ∈ wsL_law := kW 540 (by decide +kernel)
theorem wi_X5_hoursLeft : Cond.instanceMethod yX5_hoursLeft ∈ wsL_law := kW 541 (by decide +kernel)
theorem ws_X5_hoursLeft : Cond.selects RX5 yX5_hoursLeft yX5_hoursLeft ∈ wsL_law := kW 542 (by decide +kernel)
theorem wc_X5_hoursLeft : Cond.code yX5_hoursLeft cX5_hoursLeft 4 (some .int) ∈ wsL_law := kW 543 (by decide +kernel)
theorem wm_L_102 : Cond.methodLink RL 102 yX6_hoursLeft ∈ wsL_law := kW 922 (by decide +kernel)
theorem wi_X6_hoursLeft : Cond.instanceMethod yX6_hoursLeft ∈ wsL_law := kW 923 (by decide +kernel)
theorem ws_X6_hoursLeft : Cond.selects RX6 yX6_hoursLeft yX6_hoursLeft ∈ wsL_law := kW 924 (by decide +kernel)
theorem wc_X6_hoursLeft : Cond.code yX6_hoursLeft cX6_hoursLeft 3 (some .int) ∈ wsL_law := kW 925 (by decide +kernel)
theorem wm_X6_165 : Cond.methodLink RX6 165 yX6_leftOf ∈ wsL_law := kW 926 (by decide +kernel)
theorem wi_X6_leftOf : Cond.instanceMethod yX6_leftOf ∈ wsL_law := kW 928 (by decide +kernel)
theorem ws_X6_leftOf : Cond.selects RX6 yX6_leftOf yX6_leftOf ∈ wsL_law := kW 36 (by decide +kernel)
theorem wc_X6_leftOf : Cond.code yX6_leftOf cX6_leftOf 4 (some .int) ∈ wsL_law := kW 929 (by decide +kernel)
theorem wm_L_103 : Cond.methodLink RL 103 yX5_bestHour ∈ wsL_law := kW 544 (by decide +kernel)
theorem wi_X5_bestHour : Cond.instanceMethod yX5_bestHour ∈ wsL_law := kW 545 (by decide +kernel)
theorem ws_X5_bestHour : Cond.selects RX5 yX5_bestHour yX5_bestHour ∈ wsL_law := kW 546 (by decide +kernel)
theorem wc_X5_bestHour : Cond.code yX5_bestHour cX5_bestHour 7 (some .int) ∈ wsL_law := kW 547 (by decide +kernel)
theorem wm_X5_212 : Cond.methodLink RX5 212 yX4_priceAt ∈ wsL_law := kW 548 (by decide +kernel)
theorem wm_L_106 : Cond.methodLink RL 106 yX6_bestHour ∈ wsL_law := kW 930 (by decide +kernel)
theorem wi_X6_bestHour : Cond.instanceMethod yX6_bestHour ∈ wsL_law := kW 931 (by decide +kernel)
theorem ws_X6_bestHour : Cond.selects RX6 yX6_bestHour yX6_bestHour ∈ wsL_law := kW 932 (by decide +kernel)
theorem wc_X6_bestHour : Cond.code yX6_bestHour cX6_bestHour 3 (some .int) ∈ wsL_law := kW 933 (by decide +kernel)
theorem wm_X6_168 : Cond.methodLink RX6 168 yX6_bestOf ∈ wsL_law := kW 934 (by decide +kernel)
theorem wi_X6_bestOf : Cond.instanceMethod yX6_bestOf ∈ wsL_law := kW 936 (by decide +kernel)
theorem ws_X6_bestOf : Cond.selects RX6 yX6_bestOf yX6_bestOf ∈ wsL_law := kW 37 (by decide +kernel)
theorem wc_X6_bestOf : Cond.code yX6_bestOf cX6_bestOf 6 (some .int) ∈ wsL_law := kW 937 (by decide +kernel)
theorem wm_L_107 : Cond.methodLink RL 107 yX5_ifClosed ∈ wsL_law := kW 549 (by decide +kernel)
theorem wi_X5_ifClosed : Cond.instanceMethod yX5_ifClosed ∈ wsL_law := kW 550 (by decide +kernel)
theorem ws_X5_ifClosed : Cond.selects RX5 yX5_ifClosed yX5_ifClosed ∈ wsL_law := kW 551 (by decide +kernel)
theorem wc_X5_ifClosed : Cond.code yX5_ifClosed cX5_ifClosed 3 (some .int) ∈ wsL_law := kW 552 (by decide +kernel)
theorem wm_X5_216 : Cond.methodLink RX5 216 yX4_copyFrom ∈ wsL_law := kW 553 (by decide +kernel)
theorem wm_L_110 : Cond.methodLink RL 110 yX6_ifClosed ∈ wsL_law := kW 938 (by decide +kernel)
theorem wi_X6_ifClosed : Cond.instanceMethod yX6_ifClosed ∈ wsL_law := kW 939 (by decide +kernel)
theorem ws_X6_ifClosed : Cond.selects RX6 yX6_ifClosed yX6_ifClosed ∈ wsL_law := kW 940 (by decide +kernel)
theorem wc_X6_ifClosed : Cond.code yX6_ifClosed cX6_ifClosed 3 (some .int) ∈ wsL_law := kW 941 (by decide +kernel)
theorem wm_L_111 : Cond.methodLink RL 111 yX5_worth ∈ wsL_law := kW 554 (by decide +kernel)
theorem wi_X5_worth : Cond.instanceMethod yX5_worth ∈ wsL_law := kW 555 (by decide +kernel)
theorem ws_X5_worth : Cond.selects RX5 yX5_worth yX5_worth ∈ wsL_law := kW 556 (by decide +kernel)
theorem wc_X5_worth : Cond.code yX5_worth cX5_worth 5 (some .long) ∈ wsL_law := kW 557 (by decide +kernel)
theorem wf_X5_219 : Cond.fieldLink RX5 219 "FishCounter$Shop" "lots" "[LFishCounter$Lot;" ∈ wsL_law := kW 142 (by decide +kernel)
theorem wm_L_115 : Cond.methodLink RL 115 yX6_worth ∈ wsL_law := kW 942 (by decide +kernel)
theorem wi_X6_worth : Cond.instanceMethod yX6_worth ∈ wsL_law := kW 943 (by decide +kernel)
theorem ws_X6_worth : Cond.selects RX6 yX6_worth yX6_worth ∈ wsL_law := kW 944 (by decide +kernel)
theorem wc_X6_worth : Cond.code yX6_worth cX6_worth 1 (some .long) ∈ wsL_law := kW 945 (by decide +kernel)
theorem wm_X6_171 : Cond.methodLink RX6 171 yX6_allWorth ∈ wsL_law := kW 946 (by decide +kernel)
theorem wi_X6_allWorth : Cond.instanceMethod yX6_allWorth ∈ wsL_law := kW 948 (by decide +kernel)
theorem ws_X6_allWorth : Cond.selects RX6 yX6_allWorth yX6_allWorth ∈ wsL_law := kW 38 (by decide +kernel)
theorem wc_X6_allWorth : Cond.code yX6_allWorth cX6_allWorth 4 (some .long) ∈ wsL_law := kW 949 (by decide +kernel)
theorem wm_L_116 : Cond.methodLink RL 116 yX5_type ∈ wsL_law := kW 558 (by decide +kernel)
theorem wi_X5_type : Cond.instanceMethod yX5_type ∈ wsL_law := kW 559 (by decide +kernel)
theorem ws_X5_type : Cond.selects RX5 yX5_type yX5_type ∈ wsL_law := kW 560 (by decide +kernel)
theorem wc_X5_type : Cond.code yX5_type cX5_type 2 (some .int) ∈ wsL_law := kW 561 (by decide +kernel)
theorem wf_X5_223 : Cond.fieldLink RX5 223 "FishCounter$DeliveryText" "length" "I" ∈ wsL_law := kW 225 (by decide +kernel)
theorem wm_X5_226 : Cond.methodLink RX5 226 yX0_append ∈ wsL_law := kW 562 (by decide +kernel)
theorem wi_X0_append : Cond.instanceMethod yX0_append ∈ wsL_law := kW 563 (by decide +kernel)
theorem ws_X0_append : Cond.selects RX0 yX0_append yX0_append ∈ wsL_law := kW 564 (by decide +kernel)
theorem wc_X0_append : Cond.code yX0_append cX0_append 2 none ∈ wsL_law := kW 565 (by decide +kernel)
theorem wf_X0_15 : Cond.fieldLink RX0 15 "FishCounter$DeliveryText" "length" "I" ∈ wsL_law := kW 224 (by decide +kernel)
theorem wm_L_119 : Cond.methodLink RL 119 yX6_type ∈ wsL_law := kW 950 (by decide +kernel)
theorem wi_X6_type : Cond.instanceMethod yX6_type ∈ wsL_law := kW 951 (by decide +kernel)
theorem ws_X6_type : Cond.selects RX6 yX6_type yX6_type ∈ wsL_law := kW 952 (by decide +kernel)
theorem wc_X6_type : Cond.code yX6_type cX6_type 2 (some .int) ∈ wsL_law := kW 953 (by decide +kernel)
theorem wf_X6_175 : Cond.fieldLink RX6 175 "FishCounterModel" "textLength" "I" ∈ wsL_law := kW 651 (by decide +kernel)
theorem wm_L_120 : Cond.methodLink RL 120 yX5_clearText ∈ wsL_law := kW 566 (by decide +kernel)
theorem wi_X5_clearText : Cond.instanceMethod yX5_clearText ∈ wsL_law := kW 567 (by decide +kernel)
theorem ws_X5_clearText : Cond.selects RX5 yX5_clearText yX5_clearText ∈ wsL_law := kW 568 (by decide +kernel)
theorem wc_X5_clearText : Cond.code yX5_clearText cX5_clearText 2 (some .int) ∈ wsL_law := kW 569 (by decide +kernel)
theorem wm_L_123 : Cond.methodLink RL 123 yX6_clearText ∈ wsL_law := kW 954 (by decide +kernel)
theorem wi_X6_clearText : Cond.instanceMethod yX6_clearText ∈ wsL_law := kW 955 (by decide +kernel)
theorem ws_X6_clearText : Cond.selects RX6 yX6_clearText yX6_clearText ∈ wsL_law := kW 956 (by decide +kernel)
theorem wc_X6_clearText : Cond.code yX6_clearText cX6_clearText 2 (some .int) ∈ wsL_law := kW 957 (by decide +kernel)
theorem wm_L_124 : Cond.methodLink RL 124 yX5_syntaxError ∈ wsL_law := kW 570 (by decide +kernel)
theorem wi_X5_syntaxError : Cond.instanceMethod yX5_syntaxError ∈ wsL_law := kW 571 (by decide +kernel)
theorem ws_X5_syntaxError : Cond.selects RX5 yX5_syntaxError yX5_syntaxError ∈ wsL_law := kW 572 (by decide +kernel)
theorem wc_X5_syntaxError : Cond.code yX5_syntaxError cX5_syntaxError 1 (some .int) ∈ wsL_law := kW 573 (by decide +kernel)
theorem wm_X5_230 : Cond.methodLink RX5 230 yX0_firstError ∈ wsL_law := kW 574 (by decide +kernel)
theorem wi_X0_firstError : Cond.instanceMethod yX0_firstError ∈ wsL_law := kW 575 (by decide +kernel)
theorem ws_X0_firstError : Cond.selects RX0 yX0_firstError yX0_firstError ∈ wsL_law := kW 576 (by decide +kernel)
theorem wc_X0_firstError : Cond.code yX0_firstError cX0_firstError 2 (some .int) ∈ wsL_law := kW 577 (by decide +kernel)
theorem wf_X0_26 : Cond.fieldLink RX0 26 "FishCounter$DeliveryText" "position" "I" ∈ wsL_law := kW 234 (by decide +kernel)
theorem wm_X0_19 : Cond.methodLink RX0 19 yX0_startReading ∈ wsL_law := kW 578 (by decide +kernel)
theorem wi_X0_startReading : Cond.instanceMethod yX0_startReading ∈ wsL_law := kW 579 (by decide +kernel)
theorem ws_X0_startReading : Cond.selects RX0 yX0_startReading yX0_startReading ∈ wsL_law := kW 580 (by decide +kernel)
theorem wc_X0_startReading : Cond.code yX0_startReading cX0_startReading 1 none ∈ wsL_law := kW 581 (by decide +kernel)
theorem wm_X0_22 : Cond.methodLink RX0 22 yX0_readItem ∈ wsL_law := kW 582 (by decide +kernel)
theorem wi_X0_readItem : Cond.instanceMethod yX0_readItem ∈ wsL_law := kW 583 (by decide +kernel)
theorem ws_X0_readItem : Cond.selects RX0 yX0_readItem yX0_readItem ∈ wsL_law := kW 584 (by decide +kernel)
theorem wc_X0_readItem : Cond.code yX0_readItem cX0_readItem 1 (some .boolean) ∈ wsL_law := kW 585 (by decide +kernel)
theorem wf_X0_37 : Cond.fieldLink RX0 37 "FishCounter$DeliveryText" "kind" "I" ∈ wsL_law := kW 226 (by decide +kernel)
theorem wf_X0_40 : Cond.fieldLink RX0 40 "FishCounter$DeliveryText" "grams" "I" ∈ wsL_law := kW 228 (by decide +kernel)
theorem wf_X0_43 : Cond.fieldLink RX0 43 "FishCounter$DeliveryText" "fresh" "I" ∈ wsL_law := kW 230 (by decide +kernel)
theorem wf_X0_46 : Cond.fieldLink RX0 46 "FishCounter$DeliveryText" "box" "I" ∈ wsL_law := kW 232 (by decide +kernel)
theorem wm_X0_33 : Cond.methodLink RX0 33 yX0_readNumber ∈ wsL_law := kW 586 (by decide +kernel)
theorem wi_X0_readNumber : Cond.instanceMethod yX0_readNumber ∈ wsL_law := kW 588 (by decide +kernel)
theorem ws_X0_readNumber : Cond.selects RX0 yX0_readNumber yX0_readNumber ∈ wsL_law := kW 0 (by decide +kernel)
theorem wc_X0_readNumber : Cond.code yX0_readNumber cX0_readNumber 5 (some .int) ∈ wsL_law := kW 589 (by decide +kernel)
theorem wm_X0_49 : Cond.methodLink RX0 49 yX0_digitHere ∈ wsL_law := kW 590 (by decide +kernel)
theorem wi_X0_digitHere : Cond.instanceMethod yX0_digitHere ∈ wsL_law := kW 592 (by decide +kernel)
theorem ws_X0_digitHere : Cond.selects RX0 yX0_digitHere yX0_digitHere ∈ wsL_law := kW 1 (by decide +kernel)
theorem wc_X0_digitHere : Cond.code yX0_digitHere cX0_digitHere 2 (some .int) ∈ wsL_law := kW 593 (by decide +kernel)
theorem wm_X0_29 : Cond.methodLink RX0 29 yX0_skipSign ∈ wsL_law := kW 595 (by decide +kernel)
theorem wi_X0_skipSign : Cond.instanceMethod yX0_skipSign ∈ wsL_law := kW 596 (by decide +kernel)
theorem ws_X0_skipSign : Cond.selects RX0 yX0_skipSign yX0_skipSign ∈ wsL_law := kW 597 (by decide +kernel)
theorem wc_X0_skipSign : Cond.code yX0_skipSign cX0_skipSign 2 (some .boolean) ∈ wsL_law := kW 598 (by decide +kernel)
theorem wm_L_127 : Cond.methodLink RL 127 yX6_syntaxError ∈ wsL_law := kW 958 (by decide +kernel)
theorem wi_X6_syntaxError : Cond.instanceMethod yX6_syntaxError ∈ wsL_law := kW 959 (by decide +kernel)
theorem ws_X6_syntaxError : Cond.selects RX6 yX6_syntaxError yX6_syntaxError ∈ wsL_law := kW 960 (by decide +kernel)
theorem wc_X6_syntaxError : Cond.code yX6_syntaxError cX6_syntaxError 1 (some .int) ∈ wsL_law := kW 961 (by decide +kernel)
theorem wm_X6_213 : Cond.methodLink RX6 213 yX6_findError ∈ wsL_law := kW 962 (by decide +kernel)
theorem wi_X6_findError : Cond.instanceMethod yX6_findError ∈ wsL_law := kW 964 (by decide +kernel)
theorem ws_X6_findError : Cond.selects RX6 yX6_findError yX6_findError ∈ wsL_law := kW 39 (by decide +kernel)
theorem wc_X6_findError : Cond.code yX6_findError cX6_findError 1 (some .int) ∈ wsL_law := kW 965 (by decide +kernel)
theorem wf_X6_178 : Cond.fieldLink RX6 178 "FishCounterModel" "at" "I" ∈ wsL_law := kW 652 (by decide +kernel)
theorem wm_X6_209 : Cond.methodLink RX6 209 yX6_readsItem ∈ wsL_law := kW 966 (by decide +kernel)
theorem wi_X6_readsItem : Cond.instanceMethod yX6_readsItem ∈ wsL_law := kW 968 (by decide +kernel)
theorem ws_X6_readsItem : Cond.selects RX6 yX6_readsItem yX6_readsItem ∈ wsL_law := kW 40 (by decide +kernel)
theorem wc_X6_readsItem : Cond.code yX6_readsItem cX6_readsItem 2 (some .boolean) ∈ wsL_law := kW 969 (by decide +kernel)
theorem wf_X6_184 : Cond.fieldLink RX6 184 "FishCounterModel" "number" "I" ∈ wsL_law := kW 653 (by decide +kernel)
theorem wf_X6_191 : Cond.fieldLink RX6 191 "FishCounterModel" "kindRead" "I" ∈ wsL_law := kW 654 (by decide +kernel)
theorem wf_X6_200 : Cond.fieldLink RX6 200 "FishCounterModel" "gramsRead" "I" ∈ wsL_law := kW 655 (by decide +kernel)
theorem wf_X6_203 : Cond.fieldLink RX6 203 "FishCounterModel" "freshRead" "I" ∈ wsL_law := kW 656 (by decide +kernel)
theorem wf_X6_206 : Cond.fieldLink RX6 206 "FishCounterModel" "boxRead" "I" ∈ wsL_law := kW 657 (by decide +kernel)
theorem wm_X6_187 : Cond.methodLink RX6 187 yX6_readsDigit ∈ wsL_law := kW 970 (by decide +kernel)
theorem wi_X6_readsDigit : Cond.instanceMethod yX6_readsDigit ∈ wsL_law := kW 972 (by decide +kernel)
theorem ws_X6_readsDigit : Cond.selects RX6 yX6_readsDigit yX6_readsDigit ∈ wsL_law := kW 41 (by decide +kernel)
theorem wc_X6_readsDigit : Cond.code yX6_readsDigit cX6_readsDigit 4 (some .boolean) ∈ wsL_law := kW 973 (by decide +kernel)
theorem wm_X6_181 : Cond.methodLink RX6 181 yX6_character ∈ wsL_law := kW 974 (by decide +kernel)
theorem wi_X6_character : Cond.instanceMethod yX6_character ∈ wsL_law := kW 976 (by decide +kernel)
theorem ws_X6_character : Cond.selects RX6 yX6_character yX6_character ∈ wsL_law := kW 42 (by decide +kernel)
theorem wc_X6_character : Cond.code yX6_character cX6_character 2 (some .int) ∈ wsL_law := kW 977 (by decide +kernel)
theorem wm_X6_194 : Cond.methodLink RX6 194 yX6_isNext ∈ wsL_law := kW 978 (by decide +kernel)
theorem wi_X6_isNext : Cond.instanceMethod yX6_isNext ∈ wsL_law := kW 980 (by decide +kernel)
theorem ws_X6_isNext : Cond.selects RX6 yX6_isNext yX6_isNext ∈ wsL_law := kW 43 (by decide +kernel)
theorem wc_X6_isNext : Cond.code yX6_isNext cX6_isNext 3 (some .boolean) ∈ wsL_law := kW 981 (by decide +kernel)
theorem wm_X6_197 : Cond.methodLink RX6 197 yX6_readsNumber ∈ wsL_law := kW 982 (by decide +kernel)
theorem wi_X6_readsNumber : Cond.instanceMethod yX6_readsNumber ∈ wsL_law := kW 984 (by decide +kernel)
theorem ws_X6_readsNumber : Cond.selects RX6 yX6_readsNumber yX6_readsNumber ∈ wsL_law := kW 44 (by decide +kernel)
theorem wc_X6_readsNumber : Cond.code yX6_readsNumber cX6_readsNumber 5 (some .boolean) ∈ wsL_law := kW 985 (by decide +kernel)
theorem wm_L_128 : Cond.methodLink RL 128 yX5_deliverAll ∈ wsL_law := kW 599 (by decide +kernel)
theorem wi_X5_deliverAll : Cond.instanceMethod yX5_deliverAll ∈ wsL_law := kW 600 (by decide +kernel)
theorem ws_X5_deliverAll : Cond.selects RX5 yX5_deliverAll yX5_deliverAll ∈ wsL_law := kW 601 (by decide +kernel)
theorem wc_X5_deliverAll : Cond.code yX5_deliverAll cX5_deliverAll 2 (some .int) ∈ wsL_law := kW 602 (by decide +kernel)
theorem wf_X5_240 : Cond.fieldLink RX5 240 "FishCounter$DeliveryText" "box" "I" ∈ wsL_law := kW 233 (by decide +kernel)
theorem wf_X5_241 : Cond.fieldLink RX5 241 "FishCounter$DeliveryText" "kind" "I" ∈ wsL_law := kW 227 (by decide +kernel)
theorem wf_X5_242 : Cond.fieldLink RX5 242 "FishCounter$DeliveryText" "grams" "I" ∈ wsL_law := kW 229 (by decide +kernel)
theorem wf_X5_243 : Cond.fieldLink RX5 243 "FishCounter$DeliveryText" "fresh" "I" ∈ wsL_law := kW 231 (by decide +kernel)
theorem wm_X5_233 : Cond.methodLink RX5 233 yX0_startReading ∈ wsL_law := kW 603 (by decide +kernel)
theorem wm_X5_236 : Cond.methodLink RX5 236 yX0_readItem ∈ wsL_law := kW 604 (by decide +kernel)
theorem wm_X5_244 : Cond.methodLink RX5 244 yX0_skipSign ∈ wsL_law := kW 605 (by decide +kernel)
theorem wm_L_131 : Cond.methodLink RL 131 yX6_deliverAll ∈ wsL_law := kW 986 (by decide +kernel)
theorem wi_X6_deliverAll : Cond.instanceMethod yX6_deliverAll ∈ wsL_law := kW 987 (by decide +kernel)
theorem ws_X6_deliverAll : Cond.selects RX6 yX6_deliverAll yX6_deliverAll ∈ wsL_law := kW 988 (by decide +kernel)
theorem wc_X6_deliverAll : Cond.code yX6_deliverAll cX6_deliverAll 3 (some .int) ∈ wsL_law := kW 989 (by decide +kernel)
theorem wm_L_132 : Cond.methodLink RL 132 yX5_undo ∈ wsL_law := kW 606 (by decide +kernel)
theorem wi_X5_undo : Cond.instanceMethod yX5_undo ∈ wsL_law := kW 607 (by decide +kernel)
theorem ws_X5_undo : Cond.selects RX5 yX5_undo yX5_undo ∈ wsL_law := kW 608 (by decide +kernel)
theorem wc_X5_undo : Cond.code yX5_undo cX5_undo 1 (some .int) ∈ wsL_law := kW 609 (by decide +kernel)
theorem wf_X5_248 : Cond.fieldLink RX5 248 "FishCounter$History" "count" "I" ∈ wsL_law := kW 208 (by decide +kernel)
theorem wm_X5_251 : Cond.methodLink RX5 251 yX2_restore ∈ wsL_law := kW 610 (by decide +kernel)
theorem wi_X2_restore : Cond.instanceMethod yX2_restore ∈ wsL_law := kW 611 (by decide +kernel)
theorem ws_X2_restore : Cond.selects RX2 yX2_restore yX2_restore ∈ wsL_law := kW 612 (by decide +kernel)
theorem wc_X2_restore : Cond.code yX2_restore cX2_restore 2 none ∈ wsL_law := kW 613 (by decide +kernel)
theorem wm_L_135 : Cond.methodLink RL 135 yX6_undo ∈ wsL_law := kW 990 (by decide +kernel)
theorem wi_X6_undo : Cond.instanceMethod yX6_undo ∈ wsL_law := kW 991 (by decide +kernel)
theorem ws_X6_undo : Cond.selects RX6 yX6_undo yX6_undo ∈ wsL_law := kW 992 (by decide +kernel)
theorem wc_X6_undo : Cond.code yX6_undo cX6_undo 1 (some .int) ∈ wsL_law := kW 993 (by decide +kernel)
theorem wm_L_136 : Cond.methodLink RL 136 yX5_digest ∈ wsL_law := kW 614 (by decide +kernel)
theorem wi_X5_digest : Cond.instanceMethod yX5_digest ∈ wsL_law := kW 615 (by decide +kernel)
theorem ws_X5_digest : Cond.selects RX5 yX5_digest yX5_digest ∈ wsL_law := kW 616 (by decide +kernel)
theorem wc_X5_digest : Cond.code yX5_digest cX5_digest 5 (some .long) ∈ wsL_law := kW 617 (by decide +kernel)
theorem wq_X5_254 : Cond.constantLong RX5 254 (186) ∈ wsL_law := kW 618 (by decide +kernel)
theorem wf_X5_263 : Cond.fieldLink RX5 263 "FishCounter$Lot" "number" "I" ∈ wsL_law := kW 78 (by decide +kernel)
theorem wm_X5_256 : Cond.methodLink RX5 256 yX5_count ∈ wsL_law := kW 619 (by decide +kernel)
theorem wm_X5_259 : Cond.methodLink RX5 259 yX5_mixed ∈ wsL_law := kW 620 (by decide +kernel)
theorem wt_X5_mixed : Cond.static yX5_mixed ∈ wsL_law := kW 621 (by decide +kernel)
theorem wc_X5_mixed : Cond.code yX5_mixed cX5_mixed 4 (some .long) ∈ wsL_law := kW 622 (by decide +kernel)
theorem wq_X5_296 : Cond.constantLong RX5 296 (31) ∈ wsL_law := kW 623 (by decide +kernel)
theorem wm_X5_266 : Cond.methodLink RX5 266 yX5_mixedWithLot ∈ wsL_law := kW 624 (by decide +kernel)
theorem wi_X5_mixedWithLot : Cond.instanceMethod yX5_mixedWithLot ∈ wsL_law := kW 626 (by decide +kernel)
theorem ws_X5_mixedWithLot : Cond.selects RX5 yX5_mixedWithLot yX5_mixedWithLot ∈ wsL_law := kW 2 (by decide +kernel)
theorem wc_X5_mixedWithLot : Cond.code yX5_mixedWithLot cX5_mixedWithLot 7 (some .long) ∈ wsL_law := kW 627 (by decide +kernel)
theorem wm_X5_283 : Cond.methodLink RX5 283 yX5_lot ∈ wsL_law := kW 628 (by decide +kernel)
theorem wm_X5_286 : Cond.methodLink RX5 286 yX5_hoursLeft ∈ wsL_law := kW 629 (by decide +kernel)
theorem wm_X5_289 : Cond.methodLink RX5 289 yX5_bestHour ∈ wsL_law := kW 630 (by decide +kernel)
theorem wm_X5_270 : Cond.methodLink RX5 270 yX5_mixedWithPlaces ∈ wsL_law := kW 631 (by decide +kernel)
theorem wi_X5_mixedWithPlaces : Cond.instanceMethod yX5_mixedWithPlaces ∈ wsL_law := kW 633 (by decide +kernel)
theorem ws_X5_mixedWithPlaces : Cond.selects RX5 yX5_mixedWithPlaces yX5_mixedWithPlaces ∈ wsL_law := kW 3 (by decide +kernel)
theorem wc_X5_mixedWithPlaces : Cond.code yX5_mixedWithPlaces cX5_mixedWithPlaces 7 (some .long) ∈ wsL_law := kW 634 (by decide +kernel)
theorem wm_X5_292 : Cond.methodLink RX5 292 yX5_box ∈ wsL_law := kW 635 (by decide +kernel)
theorem wm_X5_294 : Cond.methodLink RX5 294 yX5_tray ∈ wsL_law := kW 636 (by decide +kernel)
theorem wm_X5_274 : Cond.methodLink RX5 274 yX5_kind ∈ wsL_law := kW 637 (by decide +kernel)
theorem wm_X5_276 : Cond.methodLink RX5 276 yX5_cut ∈ wsL_law := kW 638 (by decide +kernel)
theorem wm_X5_279 : Cond.methodLink RX5 279 yX5_worth ∈ wsL_law := kW 639 (by decide +kernel)
theorem wm_L_139 : Cond.methodLink RL 139 yX6_digest ∈ wsL_law := kW 994 (by decide +kernel)
theorem wi_X6_digest : Cond.instanceMethod yX6_digest ∈ wsL_law := kW 995 (by decide +kernel)
theorem ws_X6_digest : Cond.selects RX6 yX6_digest yX6_digest ∈ wsL_law := kW 996 (by decide +kernel)
theorem wc_X6_digest : Cond.code yX6_digest cX6_digest 5 (some .long) ∈ wsL_law := kW 997 (by decide +kernel)
theorem wq_X6_216 : Cond.constantLong RX6 216 (186) ∈ wsL_law := kW 998 (by decide +kernel)
theorem wq_X6_218 : Cond.constantLong RX6 218 (31) ∈ wsL_law := kW 999 (by decide +kernel)
theorem ilX0 : ∀ w ∈ wsX00, w ∈ wsL_law := kWs [236, 238, 240, 242, 244, 246, 248] (by decide +kernel) (by decide +kernel)
theorem ilX1 : ∀ w ∈ wsX10, w ∈ wsL_law := kWs [189, 191, 193, 195] (by decide +kernel) (by decide +kernel)
theorem ilX2 : ∀ w ∈ wsX20, w ∈ wsL_law := kWs [211, 213, 215] (by decide +kernel) (by decide +kernel)
theorem ilX3 : ∀ w ∈ wsX30, w ∈ wsL_law := kWs [95, 97, 99, 101, 103, 105] (by decide +kernel) (by decide +kernel)
theorem ilX4 : ∀ w ∈ wsX40, w ∈ wsL_law := kWs [143, 145, 147, 149, 151, 153, 155, 157, 159, 161, 163, 165, 167, 169, 171, 173, 175] (by decide +kernel) (by decide +kernel)
theorem ilX5 : ∀ w ∈ wsX50, w ∈ wsL_law := kWs [257, 259, 261, 263, 265] (by decide +kernel) (by decide +kernel)
theorem ilX6 : ∀ w ∈ wsX60, w ∈ wsL_law := kWs [658, 660, 662, 664, 666, 668, 670, 672, 674, 676, 678, 680] (by decide +kernel) (by decide +kernel)
theorem my_X5_init : kMy yX5_init cX5_init 1 none 0 := ⟨wn_X5, wc_X5_init, by decide +kernel, by decide +kernel, by decide +kernel⟩
theorem my_X4_init : kMy yX4_init cX4_init 2 none 0 := ⟨wn_X4, wc_X4_init, by decide +kernel, by decide +kernel, by decide +kernel⟩
theorem my_X3_init : kMy yX3_init cX3_init 1 none 0 := ⟨wn_X3, wc_X3_init, by decide +kernel, by decide +kernel, by decide +kernel⟩
theorem my_X1_init : kMy yX1_init cX1_init 1 none 0 := ⟨wn_X1, wc_X1_init, by decide +kernel, by decide +kernel, by decide +kernel⟩
theorem my_X2_init : kMy yX2_init cX2_init 2 none 0 := ⟨wn_X2, wc_X2_init, by decide +kernel, by decide +kernel, by decide +kernel⟩
theorem my_X0_init : kMy yX0_init cX0_init 1 none 0 := ⟨wn_X0, wc_X0_init, by decide +kernel, by decide +kernel, by decide +kernel⟩
theorem my_X6_init : kMy yX6_init cX6_init 2 none 0 := ⟨wn_X6, wc_X6_init, by decide +kernel, by decide +kernel, by decide +kernel⟩
theorem my_X5_setPrice : kMy yX5_setPrice cX5_setPrice 5 (some .int) 3 := ⟨wn_X5, wc_X5_setPrice, by decide +kernel, by decide +kernel, by decide +kernel⟩
theorem mv_X5_setPrice : Cond.instanceMethod yX5_setPrice ∈ wsL_law ∧ Cond.selects yX5_setPrice.cls yX5_setPrice yX5_setPrice ∈ wsL_law := ⟨wi_X5_setPrice, ws_X5_setPrice⟩
theorem my_X5_isKind : kMy yX5_isKind cX5_isKind 1 (some .boolean) 1 := ⟨wn_X5, wc_X5_isKind, by decide +kernel, by decide +kernel, by decide +kernel⟩
theorem my_X5_within : kMy yX5_within cX5_within 3 (some .boolean) 3 := ⟨wn_X5, wc_X5_within, by decide +kernel, by decide +kernel, by decide +kernel⟩
theorem my_X2_save : kMy yX2_save cX2_save 2 none 1 := ⟨wn_X2, wc_X2_save, by decide +kernel, by decide +kernel, by decide +kernel⟩
theorem mv_X2_save : Cond.instanceMethod yX2_save ∈ wsL_law ∧ Cond.selects yX2_save.cls yX2_save yX2_save ∈ wsL_law := ⟨wi_X2_save, ws_X2_save⟩
theorem my_X4_copyFrom : kMy yX4_copyFrom cX4_copyFrom 3 none 1 := ⟨wn_X4, wc_X4_copyFrom, by decide +kernel, by decide +kernel, by decide +kernel⟩
theorem mv_X4_copyFrom : Cond.instanceMethod yX4_copyFrom ∈ wsL_law ∧ Cond.selects yX4_copyFrom.cls yX4_copyFrom yX4_copyFrom ∈ wsL_law := ⟨wi_X4_copyFrom, ws_X4_copyFrom⟩
theorem my_X3_copyFrom : kMy yX3_copyFrom cX3_copyFrom 2 none 1 := ⟨wn_X3, wc_X3_copyFrom, by decide +kernel, by decide +kernel, by decide +kernel⟩
theorem mv_X3_copyFrom : Cond.instanceMethod yX3_copyFrom ∈ wsL_law ∧ Cond.selects yX3_copyFrom.cls yX3_copyFrom yX3_copyFrom ∈ wsL_law := ⟨wi_X3_copyFrom, ws_X3_copyFrom⟩
theorem my_X6_setPrice : kMy yX6_setPrice cX6_setPrice 5 (some .int) 3 := ⟨wn_X6, wc_X6_setPrice, by decide +kernel, by decide +kernel, by decide +kernel⟩
theorem mv_X6_setPrice : Cond.instanceMethod yX6_setPrice ∈ wsL_law ∧ Cond.selects yX6_setPrice.cls yX6_setPrice yX6_setPrice ∈ wsL_law := ⟨wi_X6_setPrice, ws_X6_setPrice⟩
theorem my_X6_isKind : kMy yX6_isKind cX6_isKind 1 (some .boolean) 1 := ⟨wn_X6, wc_X6_isKind, by decide +kernel, by decide +kernel, by decide +kernel⟩
theorem my_X6_within : kMy yX6_within cX6_within 3 (some .boolean) 3 := ⟨wn_X6, wc_X6_within, by decide +kernel, by decide +kernel, by decide +kernel⟩
theorem my_X6_record : kMy yX6_record cX6_record 2 none 0 := ⟨wn_X6, wc_X6_record, by decide +kernel, by decide +kernel, by decide +kernel⟩
theorem mv_X6_record : Cond.instanceMethod yX6_record ∈ wsL_law ∧ Cond.selects yX6_record.cls yX6_record yX6_record ∈ wsL_law := ⟨wi_X6_record, ws_X6_record⟩
theorem my_X6_copies : kMy yX6_copies cX6_copies 5 none 4 := ⟨wn_X6, wc_X6_copies, by decide +kernel, by decide +kernel, by decide +kernel⟩
theorem my_X5_setCut : kMy yX5_setCut cX5_setCut 4 (some .int) 2 := ⟨wn_X5, wc_X5_setCut, by decide +kernel, by decide +kernel, by decide +kernel⟩
theorem mv_X5_setCut : Cond.instanceMethod yX5_setCut ∈ wsL_law ∧ Cond.selects yX5_setCut.cls yX5_setCut yX5_setCut ∈ wsL_law := ⟨wi_X5_setCut, ws_X5_setCut⟩
theorem my_X5_isHour : kMy yX5_isHour cX5_isHour 1 (some .boolean) 1 := ⟨wn_X5, wc_X5_isHour, by decide +kernel, by decide +kernel, by decide +kernel⟩
theorem my_X6_setCut : kMy yX6_setCut cX6_setCut 4 (some .int) 2 := ⟨wn_X6, wc_X6_setCut, by decide +kernel, by decide +kernel, by decide +kernel⟩
theorem mv_X6_setCut : Cond.instanceMethod yX6_setCut ∈ wsL_law ∧ Cond.selects yX6_setCut.cls yX6_setCut yX6_setCut ∈ wsL_law := ⟨wi_X6_setCut, ws_X6_setCut⟩
theorem my_X6_isHour : kMy yX6_isHour cX6_isHour 1 (some .boolean) 1 := ⟨wn_X6, wc_X6_isHour, by decide +kernel, by decide +kernel, by decide +kernel⟩
theorem my_X5_setMelting : kMy yX5_setMelting cX5_setMelting 4 (some .int) 2 := ⟨wn_X5, wc_X5_setMelting, by decide +kernel, by decide +kernel, by decide +kernel⟩
theorem mv_X5_setMelting : Cond.instanceMethod yX5_setMelting ∈ wsL_law ∧ Cond.selects yX5_setMelting.cls yX5_setMelting yX5_setMelting ∈ wsL_law := ⟨wi_X5_setMelting, ws_X5_setMelting⟩
theorem my_X6_setMelting : kMy yX6_setMelting cX6_setMelting 4 (some .int) 2 := ⟨wn_X6, wc_X6_setMelting, by decide +kernel, by decide +kernel, by decide +kernel⟩
theorem mv_X6_setMelting : Cond.instanceMethod yX6_setMelting ∈ wsL_law ∧ Cond.selects yX6_setMelting.cls yX6_setMelting yX6_setMelting ∈ wsL_law := ⟨wi_X6_setMelting, ws_X6_setMelting⟩
theorem my_X5_deliver : kMy yX5_deliver cX5_deliver 6 (some .int) 4 := ⟨wn_X5, wc_X5_deliver, by decide +kernel, by decide +kernel, by decide +kernel⟩
theorem mv_X5_deliver : Cond.instanceMethod yX5_deliver ∈ wsL_law ∧ Cond.selects yX5_deliver.cls yX5_deliver yX5_deliver ∈ wsL_law := ⟨wi_X5_deliver, ws_X5_deliver⟩
theorem my_X5_isBox : kMy yX5_isBox cX5_isBox 1 (some .boolean) 1 := ⟨wn_X5, wc_X5_isBox, by decide +kernel, by decide +kernel, by decide +kernel⟩
theorem my_X4_refusalOfNewLot : kMy yX4_refusalOfNewLot cX4_refusalOfNewLot 2 (some .int) 1 := ⟨wn_X4, wc_X4_refusalOfNewLot, by decide +kernel, by decide +kernel, by decide +kernel⟩
theorem mv_X4_refusalOfNewLot : Cond.instanceMethod yX4_refusalOfNewLot ∈ wsL_law ∧ Cond.selects yX4_refusalOfNewLot.cls yX4_refusalOfNewLot yX4_refusalOfNewLot ∈ wsL_law := ⟨wi_X4_refusalOfNewLot, ws_X4_refusalOfNewLot⟩
theorem my_X4_isBoxFull : kMy yX4_isBoxFull cX4_isBoxFull 2 (some .boolean) 1 := ⟨wn_X4, wc_X4_isBoxFull, by decide +kernel, by decide +kernel, by decide +kernel⟩
theorem mv_X4_isBoxFull : Cond.instanceMethod yX4_isBoxFull ∈ wsL_law ∧ Cond.selects yX4_isBoxFull.cls yX4_isBoxFull yX4_isBoxFull ∈ wsL_law := ⟨wi_X4_isBoxFull, ws_X4_isBoxFull⟩
theorem my_X4_lotsInBox : kMy yX4_lotsInBox cX4_lotsInBox 4 (some .int) 1 := ⟨wn_X4, wc_X4_lotsInBox, by decide +kernel, by decide +kernel, by decide +kernel⟩
theorem mv_X4_lotsInBox : Cond.instanceMethod yX4_lotsInBox ∈ wsL_law ∧ Cond.selects yX4_lotsInBox.cls yX4_lotsInBox yX4_lotsInBox ∈ wsL_law := ⟨wi_X4_lotsInBox, ws_X4_lotsInBox⟩
theorem my_X4_buyLot : kMy yX4_buyLot cX4_buyLot 5 (some .int) 4 := ⟨wn_X4, wc_X4_buyLot, by decide +kernel, by decide +kernel, by decide +kernel⟩
theorem mv_X4_buyLot : Cond.instanceMethod yX4_buyLot ∈ wsL_law ∧ Cond.selects yX4_buyLot.cls yX4_buyLot yX4_buyLot ∈ wsL_law := ⟨wi_X4_buyLot, ws_X4_buyLot⟩
theorem my_X5_moneyFor : kMy yX5_moneyFor cX5_moneyFor 2 (some .int) 2 := ⟨wn_X5, wc_X5_moneyFor, by decide +kernel, by decide +kernel, by decide +kernel⟩
theorem my_X4_addLot : kMy yX4_addLot cX4_addLot 6 (some .int) 4 := ⟨wn_X4, wc_X4_addLot, by decide +kernel, by decide +kernel, by decide +kernel⟩
theorem mv_X4_addLot : Cond.instanceMethod yX4_addLot ∈ wsL_law ∧ Cond.selects yX4_addLot.cls yX4_addLot yX4_addLot ∈ wsL_law := ⟨wi_X4_addLot, ws_X4_addLot⟩
theorem my_X3_putInBox : kMy yX3_putInBox cX3_putInBox 2 none 1 := ⟨wn_X3, wc_X3_putInBox, by decide +kernel, by decide +kernel, by decide +kernel⟩
theorem mv_X3_putInBox : Cond.instanceMethod yX3_putInBox ∈ wsL_law ∧ Cond.selects yX3_putInBox.cls yX3_putInBox yX3_putInBox ∈ wsL_law := ⟨wi_X3_putInBox, ws_X3_putInBox⟩
theorem my_X6_deliver : kMy yX6_deliver cX6_deliver 6 (some .int) 4 := ⟨wn_X6, wc_X6_deliver, by decide +kernel, by decide +kernel, by decide +kernel⟩
theorem mv_X6_deliver : Cond.instanceMethod yX6_deliver ∈ wsL_law ∧ Cond.selects yX6_deliver.cls yX6_deliver yX6_deliver ∈ wsL_law := ⟨wi_X6_deliver, ws_X6_deliver⟩
theorem my_X6_whyNotDelivered : kMy yX6_whyNotDelivered cX6_whyNotDelivered 5 (some .int) 4 := ⟨wn_X6, wc_X6_whyNotDelivered, by decide +kernel, by decide +kernel, by decide +kernel⟩
theorem mv_X6_whyNotDelivered : Cond.instanceMethod yX6_whyNotDelivered ∈ wsL_law ∧ Cond.selects yX6_whyNotDelivered.cls yX6_whyNotDelivered yX6_whyNotDelivered ∈ wsL_law := ⟨wi_X6_whyNotDelivered, ws_X6_whyNotDelivered⟩
theorem my_X6_isBox : kMy yX6_isBox cX6_isBox 1 (some .boolean) 1 := ⟨wn_X6, wc_X6_isBox, by decide +kernel, by decide +kernel, by decide +kernel⟩
theorem my_X6_whyNotRoom : kMy yX6_whyNotRoom cX6_whyNotRoom 2 (some .int) 1 := ⟨wn_X6, wc_X6_whyNotRoom, by decide +kernel, by decide +kernel, by decide +kernel⟩
theorem mv_X6_whyNotRoom : Cond.instanceMethod yX6_whyNotRoom ∈ wsL_law ∧ Cond.selects yX6_whyNotRoom.cls yX6_whyNotRoom yX6_whyNotRoom ∈ wsL_law := ⟨wi_X6_whyNotRoom, ws_X6_whyNotRoom⟩
theorem my_X6_lotsAt : kMy yX6_lotsAt cX6_lotsAt 4 (some .int) 1 := ⟨wn_X6, wc_X6_lotsAt, by decide +kernel, by decide +kernel, by decide +kernel⟩
theorem mv_X6_lotsAt : Cond.instanceMethod yX6_lotsAt ∈ wsL_law ∧ Cond.selects yX6_lotsAt.cls yX6_lotsAt yX6_lotsAt ∈ wsL_law := ⟨wi_X6_lotsAt, ws_X6_lotsAt⟩
theorem my_X6_part : kMy yX6_part cX6_part 3 (some .int) 2 := ⟨wn_X6, wc_X6_part, by decide +kernel, by decide +kernel, by decide +kernel⟩
theorem mv_X6_part : Cond.instanceMethod yX6_part ∈ wsL_law ∧ Cond.selects yX6_part.cls yX6_part yX6_part ∈ wsL_law := ⟨wi_X6_part, ws_X6_part⟩
theorem my_X6_delivers : kMy yX6_delivers cX6_delivers 5 (some .int) 4 := ⟨wn_X6, wc_X6_delivers, by decide +kernel, by decide +kernel, by decide +kernel⟩
theorem mv_X6_delivers : Cond.instanceMethod yX6_delivers ∈ wsL_law ∧ Cond.selects yX6_delivers.cls yX6_delivers yX6_delivers ∈ wsL_law := ⟨wi_X6_delivers, ws_X6_delivers⟩
theorem my_X6_worthOf : kMy yX6_worthOf cX6_worthOf 2 (some .int) 2 := ⟨wn_X6, wc_X6_worthOf, by decide +kernel, by decide +kernel, by decide +kernel⟩
theorem my_X6_adds : kMy yX6_adds cX6_adds 6 (some .int) 4 := ⟨wn_X6, wc_X6_adds, by decide +kernel, by decide +kernel, by decide +kernel⟩
theorem mv_X6_adds : Cond.instanceMethod yX6_adds ∈ wsL_law ∧ Cond.selects yX6_adds.cls yX6_adds yX6_adds ∈ wsL_law := ⟨wi_X6_adds, ws_X6_adds⟩
theorem my_X6_setPart : kMy yX6_setPart cX6_setPart 4 none 3 := ⟨wn_X6, wc_X6_setPart, by decide +kernel, by decide +kernel, by decide +kernel⟩
theorem mv_X6_setPart : Cond.instanceMethod yX6_setPart ∈ wsL_law ∧ Cond.selects yX6_setPart.cls yX6_setPart yX6_setPart ∈ wsL_law := ⟨wi_X6_setPart, ws_X6_setPart⟩
theorem my_X5_iceBox : kMy yX5_iceBox cX5_iceBox 3 (some .int) 2 := ⟨wn_X5, wc_X5_iceBox, by decide +kernel, by decide +kernel, by decide +kernel⟩
theorem mv_X5_iceBox : Cond.instanceMethod yX5_iceBox ∈ wsL_law ∧ Cond.selects yX5_iceBox.cls yX5_iceBox yX5_iceBox ∈ wsL_law := ⟨wi_X5_iceBox, ws_X5_iceBox⟩
theorem my_X6_iceBox : kMy yX6_iceBox cX6_iceBox 3 (some .int) 2 := ⟨wn_X6, wc_X6_iceBox, by decide +kernel, by decide +kernel, by decide +kernel⟩
theorem mv_X6_iceBox : Cond.instanceMethod yX6_iceBox ∈ wsL_law ∧ Cond.selects yX6_iceBox.cls yX6_iceBox yX6_iceBox ∈ wsL_law := ⟨wi_X6_iceBox, ws_X6_iceBox⟩
theorem my_X6_ices : kMy yX6_ices cX6_ices 4 (some .int) 2 := ⟨wn_X6, wc_X6_ices, by decide +kernel, by decide +kernel, by decide +kernel⟩
theorem mv_X6_ices : Cond.instanceMethod yX6_ices ∈ wsL_law ∧ Cond.selects yX6_ices.cls yX6_ices yX6_ices ∈ wsL_law := ⟨wi_X6_ices, ws_X6_ices⟩
theorem my_X5_iceTray : kMy yX5_iceTray cX5_iceTray 3 (some .int) 2 := ⟨wn_X5, wc_X5_iceTray, by decide +kernel, by decide +kernel, by decide +kernel⟩
theorem mv_X5_iceTray : Cond.instanceMethod yX5_iceTray ∈ wsL_law ∧ Cond.selects yX5_iceTray.cls yX5_iceTray yX5_iceTray ∈ wsL_law := ⟨wi_X5_iceTray, ws_X5_iceTray⟩
theorem my_X5_isTray : kMy yX5_isTray cX5_isTray 1 (some .boolean) 1 := ⟨wn_X5, wc_X5_isTray, by decide +kernel, by decide +kernel, by decide +kernel⟩
theorem my_X6_iceTray : kMy yX6_iceTray cX6_iceTray 3 (some .int) 2 := ⟨wn_X6, wc_X6_iceTray, by decide +kernel, by decide +kernel, by decide +kernel⟩
theorem mv_X6_iceTray : Cond.instanceMethod yX6_iceTray ∈ wsL_law ∧ Cond.selects yX6_iceTray.cls yX6_iceTray yX6_iceTray ∈ wsL_law := ⟨wi_X6_iceTray, ws_X6_iceTray⟩
theorem my_X6_isTray : kMy yX6_isTray cX6_isTray 1 (some .boolean) 1 := ⟨wn_X6, wc_X6_isTray, by decide +kernel, by decide +kernel, by decide +kernel⟩
theorem my_X5_toTray : kMy yX5_toTray cX5_toTray 4 (some .int) 2 := ⟨wn_X5, wc_X5_toTray, by decide +kernel, by decide +kernel, by decide +kernel⟩
theorem mv_X5_toTray : Cond.instanceMethod yX5_toTray ∈ wsL_law ∧ Cond.selects yX5_toTray.cls yX5_toTray yX5_toTray ∈ wsL_law := ⟨wi_X5_toTray, ws_X5_toTray⟩
theorem my_X4_findLot : kMy yX4_findLot cX4_findLot 3 (some (.object "FishCounter$Lot")) 1 := ⟨wn_X4, wc_X4_findLot, by decide +kernel, by decide +kernel, by decide +kernel⟩
theorem mv_X4_findLot : Cond.instanceMethod yX4_findLot ∈ wsL_law ∧ Cond.selects yX4_findLot.cls yX4_findLot yX4_findLot ∈ wsL_law := ⟨wi_X4_findLot, ws_X4_findLot⟩
theorem my_X4_indexOfLot : kMy yX4_indexOfLot cX4_indexOfLot 3 (some .int) 1 := ⟨wn_X4, wc_X4_indexOfLot, by decide +kernel, by decide +kernel, by decide +kernel⟩
theorem mv_X4_indexOfLot : Cond.instanceMethod yX4_indexOfLot ∈ wsL_law ∧ Cond.selects yX4_indexOfLot.cls yX4_indexOfLot yX4_indexOfLot ∈ wsL_law := ⟨wi_X4_indexOfLot, ws_X4_indexOfLot⟩
theorem my_X4_lotOnTray : kMy yX4_lotOnTray cX4_lotOnTray 3 (some (.object "FishCounter$Lot")) 1 := ⟨wn_X4, wc_X4_lotOnTray, by decide +kernel, by decide +kernel, by decide +kernel⟩
theorem mv_X4_lotOnTray : Cond.instanceMethod yX4_lotOnTray ∈ wsL_law ∧ Cond.selects yX4_lotOnTray.cls yX4_lotOnTray yX4_lotOnTray ∈ wsL_law := ⟨wi_X4_lotOnTray, ws_X4_lotOnTray⟩
theorem my_X3_putOnTray : kMy yX3_putOnTray cX3_putOnTray 2 none 1 := ⟨wn_X3, wc_X3_putOnTray, by decide +kernel, by decide +kernel, by decide +kernel⟩
theorem mv_X3_putOnTray : Cond.instanceMethod yX3_putOnTray ∈ wsL_law ∧ Cond.selects yX3_putOnTray.cls yX3_putOnTray yX3_putOnTray ∈ wsL_law := ⟨wi_X3_putOnTray, ws_X3_putOnTray⟩
theorem my_X4_priceOf : kMy yX4_priceOf cX4_priceOf 2 (some .int) 1 := ⟨wn_X4, wc_X4_priceOf, by decide +kernel, by decide +kernel, by decide +kernel⟩
theorem mv_X4_priceOf : Cond.instanceMethod yX4_priceOf ∈ wsL_law ∧ Cond.selects yX4_priceOf.cls yX4_priceOf yX4_priceOf ∈ wsL_law := ⟨wi_X4_priceOf, ws_X4_priceOf⟩
theorem my_X4_priceAt : kMy yX4_priceAt cX4_priceAt 5 (some .int) 3 := ⟨wn_X4, wc_X4_priceAt, by decide +kernel, by decide +kernel, by decide +kernel⟩
theorem mv_X4_priceAt : Cond.instanceMethod yX4_priceAt ∈ wsL_law ∧ Cond.selects yX4_priceAt.cls yX4_priceAt yX4_priceAt ∈ wsL_law := ⟨wi_X4_priceAt, ws_X4_priceAt⟩
theorem my_X6_toTray : kMy yX6_toTray cX6_toTray 4 (some .int) 2 := ⟨wn_X6, wc_X6_toTray, by decide +kernel, by decide +kernel, by decide +kernel⟩
theorem mv_X6_toTray : Cond.instanceMethod yX6_toTray ∈ wsL_law ∧ Cond.selects yX6_toTray.cls yX6_toTray yX6_toTray ∈ wsL_law := ⟨wi_X6_toTray, ws_X6_toTray⟩
theorem my_X6_find : kMy yX6_find cX6_find 4 (some .int) 1 := ⟨wn_X6, wc_X6_find, by decide +kernel, by decide +kernel, by decide +kernel⟩
theorem mv_X6_find : Cond.instanceMethod yX6_find ∈ wsL_law ∧ Cond.selects yX6_find.cls yX6_find yX6_find ∈ wsL_law := ⟨wi_X6_find, ws_X6_find⟩
theorem my_X6_priceOf : kMy yX6_priceOf cX6_priceOf 2 (some .int) 1 := ⟨wn_X6, wc_X6_priceOf, by decide +kernel, by decide +kernel, by decide +kernel⟩
theorem mv_X6_priceOf : Cond.instanceMethod yX6_priceOf ∈ wsL_law ∧ Cond.selects yX6_priceOf.cls yX6_priceOf yX6_priceOf ∈ wsL_law := ⟨wi_X6_priceOf, ws_X6_priceOf⟩
theorem my_X6_priceWith : kMy yX6_priceWith cX6_priceWith 5 (some .int) 3 := ⟨wn_X6, wc_X6_priceWith, by decide +kernel, by decide +kernel, by decide +kernel⟩
theorem mv_X6_priceWith : Cond.instanceMethod yX6_priceWith ∈ wsL_law ∧ Cond.selects yX6_priceWith.cls yX6_priceWith yX6_priceWith ∈ wsL_law := ⟨wi_X6_priceWith, ws_X6_priceWith⟩
theorem my_X5_toBox : kMy yX5_toBox cX5_toBox 4 (some .int) 2 := ⟨wn_X5, wc_X5_toBox, by decide +kernel, by decide +kernel, by decide +kernel⟩
theorem mv_X5_toBox : Cond.instanceMethod yX5_toBox ∈ wsL_law ∧ Cond.selects yX5_toBox.cls yX5_toBox yX5_toBox ∈ wsL_law := ⟨wi_X5_toBox, ws_X5_toBox⟩
theorem my_X6_toBox : kMy yX6_toBox cX6_toBox 4 (some .int) 2 := ⟨wn_X6, wc_X6_toBox, by decide +kernel, by decide +kernel, by decide +kernel⟩
theorem mv_X6_toBox : Cond.instanceMethod yX6_toBox ∈ wsL_law ∧ Cond.selects yX6_toBox.cls yX6_toBox yX6_toBox ∈ wsL_law := ⟨wi_X6_toBox, ws_X6_toBox⟩
theorem my_X5_divide : kMy yX5_divide cX5_divide 6 (some .int) 3 := ⟨wn_X5, wc_X5_divide, by decide +kernel, by decide +kernel, by decide +kernel⟩
theorem mv_X5_divide : Cond.instanceMethod yX5_divide ∈ wsL_law ∧ Cond.selects yX5_divide.cls yX5_divide yX5_divide ∈ wsL_law := ⟨wi_X5_divide, ws_X5_divide⟩
theorem my_X6_divide : kMy yX6_divide cX6_divide 6 (some .int) 3 := ⟨wn_X6, wc_X6_divide, by decide +kernel, by decide +kernel, by decide +kernel⟩
theorem mv_X6_divide : Cond.instanceMethod yX6_divide ∈ wsL_law ∧ Cond.selects yX6_divide.cls yX6_divide yX6_divide ∈ wsL_law := ⟨wi_X6_divide, ws_X6_divide⟩
theorem my_X5_throwAway : kMy yX5_throwAway cX5_throwAway 3 (some .int) 1 := ⟨wn_X5, wc_X5_throwAway, by decide +kernel, by decide +kernel, by decide +kernel⟩
theorem mv_X5_throwAway : Cond.instanceMethod yX5_throwAway ∈ wsL_law ∧ Cond.selects yX5_throwAway.cls yX5_throwAway yX5_throwAway ∈ wsL_law := ⟨wi_X5_throwAway, ws_X5_throwAway⟩
theorem my_X4_discardLotAt : kMy yX4_discardLotAt cX4_discardLotAt 3 (some .int) 1 := ⟨wn_X4, wc_X4_discardLotAt, by decide +kernel, by decide +kernel, by decide +kernel⟩
theorem mv_X4_discardLotAt : Cond.instanceMethod yX4_discardLotAt ∈ wsL_law ∧ Cond.selects yX4_discardLotAt.cls yX4_discardLotAt yX4_discardLotAt ∈ wsL_law := ⟨wi_X4_discardLotAt, ws_X4_discardLotAt⟩
theorem my_X4_removeLotAt : kMy yX4_removeLotAt cX4_removeLotAt 4 none 1 := ⟨wn_X4, wc_X4_removeLotAt, by decide +kernel, by decide +kernel, by decide +kernel⟩
theorem mv_X4_removeLotAt : Cond.instanceMethod yX4_removeLotAt ∈ wsL_law ∧ Cond.selects yX4_removeLotAt.cls yX4_removeLotAt yX4_removeLotAt ∈ wsL_law := ⟨wi_X4_removeLotAt, ws_X4_removeLotAt⟩
theorem my_X6_throwAway : kMy yX6_throwAway cX6_throwAway 4 (some .int) 1 := ⟨wn_X6, wc_X6_throwAway, by decide +kernel, by decide +kernel, by decide +kernel⟩
theorem mv_X6_throwAway : Cond.instanceMethod yX6_throwAway ∈ wsL_law ∧ Cond.selects yX6_throwAway.cls yX6_throwAway yX6_throwAway ∈ wsL_law := ⟨wi_X6_throwAway, ws_X6_throwAway⟩
theorem my_X6_throwsAway : kMy yX6_throwsAway cX6_throwsAway 2 none 1 := ⟨wn_X6, wc_X6_throwsAway, by decide +kernel, by decide +kernel, by decide +kernel⟩
theorem mv_X6_throwsAway : Cond.instanceMethod yX6_throwsAway ∈ wsL_law ∧ Cond.selects yX6_throwsAway.cls yX6_throwsAway yX6_throwsAway ∈ wsL_law := ⟨wi_X6_throwsAway, ws_X6_throwsAway⟩
theorem my_X6_drops : kMy yX6_drops cX6_drops 3 none 1 := ⟨wn_X6, wc_X6_drops, by decide +kernel, by decide +kernel, by decide +kernel⟩
theorem mv_X6_drops : Cond.instanceMethod yX6_drops ∈ wsL_law ∧ Cond.selects yX6_drops.cls yX6_drops yX6_drops ∈ wsL_law := ⟨wi_X6_drops, ws_X6_drops⟩
theorem my_X5_order : kMy yX5_order cX5_order 5 (some .int) 4 := ⟨wn_X5, wc_X5_order, by decide +kernel, by decide +kernel, by decide +kernel⟩
theorem mv_X5_order : Cond.instanceMethod yX5_order ∈ wsL_law ∧ Cond.selects yX5_order.cls yX5_order yX5_order ∈ wsL_law := ⟨wi_X5_order, ws_X5_order⟩
theorem my_X4_sell : kMy yX4_sell cX4_sell 8 (some .int) 4 := ⟨wn_X4, wc_X4_sell, by decide +kernel, by decide +kernel, by decide +kernel⟩
theorem mv_X4_sell : Cond.instanceMethod yX4_sell ∈ wsL_law ∧ Cond.selects yX4_sell.cls yX4_sell yX4_sell ∈ wsL_law := ⟨wi_X4_sell, ws_X4_sell⟩
theorem my_X4_nextLotToSell : kMy yX4_nextLotToSell cX4_nextLotToSell 8 (some .int) 3 := ⟨wn_X4, wc_X4_nextLotToSell, by decide +kernel, by decide +kernel, by decide +kernel⟩
theorem mv_X4_nextLotToSell : Cond.instanceMethod yX4_nextLotToSell ∈ wsL_law ∧ Cond.selects yX4_nextLotToSell.cls yX4_nextLotToSell yX4_nextLotToSell ∈ wsL_law := ⟨wi_X4_nextLotToSell, ws_X4_nextLotToSell⟩
theorem my_X3_isOnTray : kMy yX3_isOnTray cX3_isOnTray 1 (some .boolean) 0 := ⟨wn_X3, wc_X3_isOnTray, by decide +kernel, by decide +kernel, by decide +kernel⟩
theorem mv_X3_isOnTray : Cond.instanceMethod yX3_isOnTray ∈ wsL_law ∧ Cond.selects yX3_isOnTray.cls yX3_isOnTray yX3_isOnTray ∈ wsL_law := ⟨wi_X3_isOnTray, ws_X3_isOnTray⟩
theorem my_X4_sellFromLotAt : kMy yX4_sellFromLotAt cX4_sellFromLotAt 5 (some .int) 2 := ⟨wn_X4, wc_X4_sellFromLotAt, by decide +kernel, by decide +kernel, by decide +kernel⟩
theorem mv_X4_sellFromLotAt : Cond.instanceMethod yX4_sellFromLotAt ∈ wsL_law ∧ Cond.selects yX4_sellFromLotAt.cls yX4_sellFromLotAt yX4_sellFromLotAt ∈ wsL_law := ⟨wi_X4_sellFromLotAt, ws_X4_sellFromLotAt⟩
theorem my_X6_order : kMy yX6_order cX6_order 8 (some .int) 4 := ⟨wn_X6, wc_X6_order, by decide +kernel, by decide +kernel, by decide +kernel⟩
theorem mv_X6_order : Cond.instanceMethod yX6_order ∈ wsL_law ∧ Cond.selects yX6_order.cls yX6_order yX6_order ∈ wsL_law := ⟨wi_X6_order, ws_X6_order⟩
theorem my_X6_nextFor : kMy yX6_nextFor cX6_nextFor 7 (some .int) 3 := ⟨wn_X6, wc_X6_nextFor, by decide +kernel, by decide +kernel, by decide +kernel⟩
theorem mv_X6_nextFor : Cond.instanceMethod yX6_nextFor ∈ wsL_law ∧ Cond.selects yX6_nextFor.cls yX6_nextFor yX6_nextFor ∈ wsL_law := ⟨wi_X6_nextFor, ws_X6_nextFor⟩
theorem my_X6_isTrayPlace : kMy yX6_isTrayPlace cX6_isTrayPlace 1 (some .boolean) 1 := ⟨wn_X6, wc_X6_isTrayPlace, by decide +kernel, by decide +kernel, by decide +kernel⟩
theorem my_X6_isSold : kMy yX6_isSold cX6_isSold 2 (some .boolean) 1 := ⟨wn_X6, wc_X6_isSold, by decide +kernel, by decide +kernel, by decide +kernel⟩
theorem mv_X6_isSold : Cond.instanceMethod yX6_isSold ∈ wsL_law ∧ Cond.selects yX6_isSold.cls yX6_isSold yX6_isSold ∈ wsL_law := ⟨wi_X6_isSold, ws_X6_isSold⟩
theorem my_X5_pass : kMy yX5_pass cX5_pass 1 (some .int) 0 := ⟨wn_X5, wc_X5_pass, by decide +kernel, by decide +kernel, by decide +kernel⟩
theorem mv_X5_pass : Cond.instanceMethod yX5_pass ∈ wsL_law ∧ Cond.selects yX5_pass.cls yX5_pass yX5_pass ∈ wsL_law := ⟨wi_X5_pass, ws_X5_pass⟩
theorem my_X4_passHour : kMy yX4_passHour cX4_passHour 3 none 0 := ⟨wn_X4, wc_X4_passHour, by decide +kernel, by decide +kernel, by decide +kernel⟩
theorem mv_X4_passHour : Cond.instanceMethod yX4_passHour ∈ wsL_law ∧ Cond.selects yX4_passHour.cls yX4_passHour yX4_passHour ∈ wsL_law := ⟨wi_X4_passHour, ws_X4_passHour⟩
theorem my_X4_iceAt : kMy yX4_iceAt cX4_iceAt 2 (some .int) 1 := ⟨wn_X4, wc_X4_iceAt, by decide +kernel, by decide +kernel, by decide +kernel⟩
theorem mv_X4_iceAt : Cond.instanceMethod yX4_iceAt ∈ wsL_law ∧ Cond.selects yX4_iceAt.cls yX4_iceAt yX4_iceAt ∈ wsL_law := ⟨wi_X4_iceAt, ws_X4_iceAt⟩
theorem my_X5_freshAnHourLater : kMy yX5_freshAnHourLater cX5_freshAnHourLater 4 (some .int) 3 := ⟨wn_X5, wc_X5_freshAnHourLater, by decide +kernel, by decide +kernel, by decide +kernel⟩
theorem my_X5_iceAnHourLater : kMy yX5_iceAnHourLater cX5_iceAnHourLater 3 (some .int) 3 := ⟨wn_X5, wc_X5_iceAnHourLater, by decide +kernel, by decide +kernel, by decide +kernel⟩
theorem my_X6_pass : kMy yX6_pass cX6_pass 1 (some .int) 0 := ⟨wn_X6, wc_X6_pass, by decide +kernel, by decide +kernel, by decide +kernel⟩
theorem mv_X6_pass : Cond.instanceMethod yX6_pass ∈ wsL_law ∧ Cond.selects yX6_pass.cls yX6_pass yX6_pass ∈ wsL_law := ⟨wi_X6_pass, ws_X6_pass⟩
theorem my_X6_passesHour : kMy yX6_passesHour cX6_passesHour 2 none 0 := ⟨wn_X6, wc_X6_passesHour, by decide +kernel, by decide +kernel, by decide +kernel⟩
theorem mv_X6_passesHour : Cond.instanceMethod yX6_passesHour ∈ wsL_law ∧ Cond.selects yX6_passesHour.cls yX6_passesHour yX6_passesHour ∈ wsL_law := ⟨wi_X6_passesHour, ws_X6_passesHour⟩
theorem my_X6_loss : kMy yX6_loss cX6_loss 2 (some .int) 2 := ⟨wn_X6, wc_X6_loss, by decide +kernel, by decide +kernel, by decide +kernel⟩
theorem my_X6_freshThen : kMy yX6_freshThen cX6_freshThen 2 (some .int) 2 := ⟨wn_X6, wc_X6_freshThen, by decide +kernel, by decide +kernel, by decide +kernel⟩
theorem my_X6_iceThen : kMy yX6_iceThen cX6_iceThen 4 (some .int) 2 := ⟨wn_X6, wc_X6_iceThen, by decide +kernel, by decide +kernel, by decide +kernel⟩
theorem mv_X6_iceThen : Cond.instanceMethod yX6_iceThen ∈ wsL_law ∧ Cond.selects yX6_iceThen.cls yX6_iceThen yX6_iceThen ∈ wsL_law := ⟨wi_X6_iceThen, ws_X6_iceThen⟩
theorem my_X5_close : kMy yX5_close cX5_close 1 (some .int) 0 := ⟨wn_X5, wc_X5_close, by decide +kernel, by decide +kernel, by decide +kernel⟩
theorem mv_X5_close : Cond.instanceMethod yX5_close ∈ wsL_law ∧ Cond.selects yX5_close.cls yX5_close yX5_close ∈ wsL_law := ⟨wi_X5_close, ws_X5_close⟩
theorem my_X4_closeDay : kMy yX4_closeDay cX4_closeDay 3 (some .int) 0 := ⟨wn_X4, wc_X4_closeDay, by decide +kernel, by decide +kernel, by decide +kernel⟩
theorem mv_X4_closeDay : Cond.instanceMethod yX4_closeDay ∈ wsL_law ∧ Cond.selects yX4_closeDay.cls yX4_closeDay yX4_closeDay ∈ wsL_law := ⟨wi_X4_closeDay, ws_X4_closeDay⟩
theorem my_X4_discardLotsBelowLimit : kMy yX4_discardLotsBelowLimit cX4_discardLotsBelowLimit 3 (some .int) 0 := ⟨wn_X4, wc_X4_discardLotsBelowLimit, by decide +kernel, by decide +kernel, by decide +kernel⟩
theorem mv_X4_discardLotsBelowLimit : Cond.instanceMethod yX4_discardLotsBelowLimit ∈ wsL_law ∧ Cond.selects yX4_discardLotsBelowLimit.cls yX4_discardLotsBelowLimit yX4_discardLotsBelowLimit ∈ wsL_law := ⟨wi_X4_discardLotsBelowLimit, ws_X4_discardLotsBelowLimit⟩
theorem my_X4_clearTray : kMy yX4_clearTray cX4_clearTray 4 (some .int) 1 := ⟨wn_X4, wc_X4_clearTray, by decide +kernel, by decide +kernel, by decide +kernel⟩
theorem mv_X4_clearTray : Cond.instanceMethod yX4_clearTray ∈ wsL_law ∧ Cond.selects yX4_clearTray.cls yX4_clearTray yX4_clearTray ∈ wsL_law := ⟨wi_X4_clearTray, ws_X4_clearTray⟩
theorem my_X4_boxForTheNight : kMy yX4_boxForTheNight cX4_boxForTheNight 4 (some .int) 0 := ⟨wn_X4, wc_X4_boxForTheNight, by decide +kernel, by decide +kernel, by decide +kernel⟩
theorem mv_X4_boxForTheNight : Cond.instanceMethod yX4_boxForTheNight ∈ wsL_law ∧ Cond.selects yX4_boxForTheNight.cls yX4_boxForTheNight yX4_boxForTheNight ∈ wsL_law := ⟨wi_X4_boxForTheNight, ws_X4_boxForTheNight⟩
theorem my_X6_close : kMy yX6_close cX6_close 1 (some .int) 0 := ⟨wn_X6, wc_X6_close, by decide +kernel, by decide +kernel, by decide +kernel⟩
theorem mv_X6_close : Cond.instanceMethod yX6_close ∈ wsL_law ∧ Cond.selects yX6_close.cls yX6_close yX6_close ∈ wsL_law := ⟨wi_X6_close, ws_X6_close⟩
theorem my_X6_closes : kMy yX6_closes cX6_closes 5 (some .int) 0 := ⟨wn_X6, wc_X6_closes, by decide +kernel, by decide +kernel, by decide +kernel⟩
theorem mv_X6_closes : Cond.instanceMethod yX6_closes ∈ wsL_law ∧ Cond.selects yX6_closes.cls yX6_closes yX6_closes ∈ wsL_law := ⟨wi_X6_closes, ws_X6_closes⟩
theorem my_X6_firstAt : kMy yX6_firstAt cX6_firstAt 4 (some .int) 1 := ⟨wn_X6, wc_X6_firstAt, by decide +kernel, by decide +kernel, by decide +kernel⟩
theorem mv_X6_firstAt : Cond.instanceMethod yX6_firstAt ∈ wsL_law ∧ Cond.selects yX6_firstAt.cls yX6_firstAt yX6_firstAt ∈ wsL_law := ⟨wi_X6_firstAt, ws_X6_firstAt⟩
theorem my_X6_coldest : kMy yX6_coldest cX6_coldest 4 (some .int) 0 := ⟨wn_X6, wc_X6_coldest, by decide +kernel, by decide +kernel, by decide +kernel⟩
theorem mv_X6_coldest : Cond.instanceMethod yX6_coldest ∈ wsL_law ∧ Cond.selects yX6_coldest.cls yX6_coldest yX6_coldest ∈ wsL_law := ⟨wi_X6_coldest, ws_X6_coldest⟩
theorem my_X5_count : kMy yX5_count cX5_count 2 (some .long) 1 := ⟨wn_X5, wc_X5_count, by decide +kernel, by decide +kernel, by decide +kernel⟩
theorem mv_X5_count : Cond.instanceMethod yX5_count ∈ wsL_law ∧ Cond.selects yX5_count.cls yX5_count yX5_count ∈ wsL_law := ⟨wi_X5_count, ws_X5_count⟩
theorem my_X4_gramsInShop : kMy yX4_gramsInShop cX4_gramsInShop 3 (some .int) 0 := ⟨wn_X4, wc_X4_gramsInShop, by decide +kernel, by decide +kernel, by decide +kernel⟩
theorem mv_X4_gramsInShop : Cond.instanceMethod yX4_gramsInShop ∈ wsL_law ∧ Cond.selects yX4_gramsInShop.cls yX4_gramsInShop yX4_gramsInShop ∈ wsL_law := ⟨wi_X4_gramsInShop, ws_X4_gramsInShop⟩
theorem my_X6_count : kMy yX6_count cX6_count 2 (some .long) 1 := ⟨wn_X6, wc_X6_count, by decide +kernel, by decide +kernel, by decide +kernel⟩
theorem mv_X6_count : Cond.instanceMethod yX6_count ∈ wsL_law ∧ Cond.selects yX6_count.cls yX6_count yX6_count ∈ wsL_law := ⟨wi_X6_count, ws_X6_count⟩
theorem my_X6_countOf : kMy yX6_countOf cX6_countOf 2 (some .long) 1 := ⟨wn_X6, wc_X6_countOf, by decide +kernel, by decide +kernel, by decide +kernel⟩
theorem mv_X6_countOf : Cond.instanceMethod yX6_countOf ∈ wsL_law ∧ Cond.selects yX6_countOf.cls yX6_countOf yX6_countOf ∈ wsL_law := ⟨wi_X6_countOf, ws_X6_countOf⟩
theorem my_X6_allGrams : kMy yX6_allGrams cX6_allGrams 3 (some .int) 0 := ⟨wn_X6, wc_X6_allGrams, by decide +kernel, by decide +kernel, by decide +kernel⟩
theorem mv_X6_allGrams : Cond.instanceMethod yX6_allGrams ∈ wsL_law ∧ Cond.selects yX6_allGrams.cls yX6_allGrams yX6_allGrams ∈ wsL_law := ⟨wi_X6_allGrams, ws_X6_allGrams⟩
theorem my_X5_lot : kMy yX5_lot cX5_lot 4 (some .int) 2 := ⟨wn_X5, wc_X5_lot, by decide +kernel, by decide +kernel, by decide +kernel⟩
theorem mv_X5_lot : Cond.instanceMethod yX5_lot ∈ wsL_law ∧ Cond.selects yX5_lot.cls yX5_lot yX5_lot ∈ wsL_law := ⟨wi_X5_lot, ws_X5_lot⟩
theorem my_X6_lot : kMy yX6_lot cX6_lot 4 (some .int) 2 := ⟨wn_X6, wc_X6_lot, by decide +kernel, by decide +kernel, by decide +kernel⟩
theorem mv_X6_lot : Cond.instanceMethod yX6_lot ∈ wsL_law ∧ Cond.selects yX6_lot.cls yX6_lot yX6_lot ∈ wsL_law := ⟨wi_X6_lot, ws_X6_lot⟩
theorem my_X6_ofLot : kMy yX6_ofLot cX6_ofLot 4 (some .int) 2 := ⟨wn_X6, wc_X6_ofLot, by decide +kernel, by decide +kernel, by decide +kernel⟩
theorem mv_X6_ofLot : Cond.instanceMethod yX6_ofLot ∈ wsL_law ∧ Cond.selects yX6_ofLot.cls yX6_ofLot yX6_ofLot ∈ wsL_law := ⟨wi_X6_ofLot, ws_X6_ofLot⟩
theorem my_X5_box : kMy yX5_box cX5_box 3 (some .int) 2 := ⟨wn_X5, wc_X5_box, by decide +kernel, by decide +kernel, by decide +kernel⟩
theorem mv_X5_box : Cond.instanceMethod yX5_box ∈ wsL_law ∧ Cond.selects yX5_box.cls yX5_box yX5_box ∈ wsL_law := ⟨wi_X5_box, ws_X5_box⟩
theorem my_X4_gramsInBox : kMy yX4_gramsInBox cX4_gramsInBox 4 (some .int) 1 := ⟨wn_X4, wc_X4_gramsInBox, by decide +kernel, by decide +kernel, by decide +kernel⟩
theorem mv_X4_gramsInBox : Cond.instanceMethod yX4_gramsInBox ∈ wsL_law ∧ Cond.selects yX4_gramsInBox.cls yX4_gramsInBox yX4_gramsInBox ∈ wsL_law := ⟨wi_X4_gramsInBox, ws_X4_gramsInBox⟩
theorem my_X4_firstLotInBox : kMy yX4_firstLotInBox cX4_firstLotInBox 3 (some .int) 1 := ⟨wn_X4, wc_X4_firstLotInBox, by decide +kernel, by decide +kernel, by decide +kernel⟩
theorem mv_X4_firstLotInBox : Cond.instanceMethod yX4_firstLotInBox ∈ wsL_law ∧ Cond.selects yX4_firstLotInBox.cls yX4_firstLotInBox yX4_firstLotInBox ∈ wsL_law := ⟨wi_X4_firstLotInBox, ws_X4_firstLotInBox⟩
theorem my_X6_box : kMy yX6_box cX6_box 3 (some .int) 2 := ⟨wn_X6, wc_X6_box, by decide +kernel, by decide +kernel, by decide +kernel⟩
theorem mv_X6_box : Cond.instanceMethod yX6_box ∈ wsL_law ∧ Cond.selects yX6_box.cls yX6_box yX6_box ∈ wsL_law := ⟨wi_X6_box, ws_X6_box⟩
theorem my_X6_ofBox : kMy yX6_ofBox cX6_ofBox 3 (some .int) 2 := ⟨wn_X6, wc_X6_ofBox, by decide +kernel, by decide +kernel, by decide +kernel⟩
theorem mv_X6_ofBox : Cond.instanceMethod yX6_ofBox ∈ wsL_law ∧ Cond.selects yX6_ofBox.cls yX6_ofBox yX6_ofBox ∈ wsL_law := ⟨wi_X6_ofBox, ws_X6_ofBox⟩
theorem my_X6_gramsAt : kMy yX6_gramsAt cX6_gramsAt 4 (some .int) 1 := ⟨wn_X6, wc_X6_gramsAt, by decide +kernel, by decide +kernel, by decide +kernel⟩
theorem mv_X6_gramsAt : Cond.instanceMethod yX6_gramsAt ∈ wsL_law ∧ Cond.selects yX6_gramsAt.cls yX6_gramsAt yX6_gramsAt ∈ wsL_law := ⟨wi_X6_gramsAt, ws_X6_gramsAt⟩
theorem my_X6_numberAt : kMy yX6_numberAt cX6_numberAt 2 (some .int) 1 := ⟨wn_X6, wc_X6_numberAt, by decide +kernel, by decide +kernel, by decide +kernel⟩
theorem mv_X6_numberAt : Cond.instanceMethod yX6_numberAt ∈ wsL_law ∧ Cond.selects yX6_numberAt.cls yX6_numberAt yX6_numberAt ∈ wsL_law := ⟨wi_X6_numberAt, ws_X6_numberAt⟩
theorem my_X5_tray : kMy yX5_tray cX5_tray 3 (some .int) 2 := ⟨wn_X5, wc_X5_tray, by decide +kernel, by decide +kernel, by decide +kernel⟩
theorem mv_X5_tray : Cond.instanceMethod yX5_tray ∈ wsL_law ∧ Cond.selects yX5_tray.cls yX5_tray yX5_tray ∈ wsL_law := ⟨wi_X5_tray, ws_X5_tray⟩
theorem my_X4_numberOnTray : kMy yX4_numberOnTray cX4_numberOnTray 3 (some .int) 1 := ⟨wn_X4, wc_X4_numberOnTray, by decide +kernel, by decide +kernel, by decide +kernel⟩
theorem mv_X4_numberOnTray : Cond.instanceMethod yX4_numberOnTray ∈ wsL_law ∧ Cond.selects yX4_numberOnTray.cls yX4_numberOnTray yX4_numberOnTray ∈ wsL_law := ⟨wi_X4_numberOnTray, ws_X4_numberOnTray⟩
theorem my_X6_tray : kMy yX6_tray cX6_tray 3 (some .int) 2 := ⟨wn_X6, wc_X6_tray, by decide +kernel, by decide +kernel, by decide +kernel⟩
theorem mv_X6_tray : Cond.instanceMethod yX6_tray ∈ wsL_law ∧ Cond.selects yX6_tray.cls yX6_tray yX6_tray ∈ wsL_law := ⟨wi_X6_tray, ws_X6_tray⟩
theorem my_X6_ofTray : kMy yX6_ofTray cX6_ofTray 3 (some .int) 2 := ⟨wn_X6, wc_X6_ofTray, by decide +kernel, by decide +kernel, by decide +kernel⟩
theorem mv_X6_ofTray : Cond.instanceMethod yX6_ofTray ∈ wsL_law ∧ Cond.selects yX6_ofTray.cls yX6_ofTray yX6_ofTray ∈ wsL_law := ⟨wi_X6_ofTray, ws_X6_ofTray⟩
theorem my_X5_kind : kMy yX5_kind cX5_kind 3 (some .int) 2 := ⟨wn_X5, wc_X5_kind, by decide +kernel, by decide +kernel, by decide +kernel⟩
theorem mv_X5_kind : Cond.instanceMethod yX5_kind ∈ wsL_law ∧ Cond.selects yX5_kind.cls yX5_kind yX5_kind ∈ wsL_law := ⟨wi_X5_kind, ws_X5_kind⟩
theorem my_X4_gramsOfKind : kMy yX4_gramsOfKind cX4_gramsOfKind 4 (some .int) 1 := ⟨wn_X4, wc_X4_gramsOfKind, by decide +kernel, by decide +kernel, by decide +kernel⟩
theorem mv_X4_gramsOfKind : Cond.instanceMethod yX4_gramsOfKind ∈ wsL_law ∧ Cond.selects yX4_gramsOfKind.cls yX4_gramsOfKind yX4_gramsOfKind ∈ wsL_law := ⟨wi_X4_gramsOfKind, ws_X4_gramsOfKind⟩
theorem my_X4_freshestLotOfKind : kMy yX4_freshestLotOfKind cX4_freshestLotOfKind 5 (some .int) 1 := ⟨wn_X4, wc_X4_freshestLotOfKind, by decide +kernel, by decide +kernel, by decide +kernel⟩
theorem mv_X4_freshestLotOfKind : Cond.instanceMethod yX4_freshestLotOfKind ∈ wsL_law ∧ Cond.selects yX4_freshestLotOfKind.cls yX4_freshestLotOfKind yX4_freshestLotOfKind ∈ wsL_law := ⟨wi_X4_freshestLotOfKind, ws_X4_freshestLotOfKind⟩
theorem my_X6_kind : kMy yX6_kind cX6_kind 3 (some .int) 2 := ⟨wn_X6, wc_X6_kind, by decide +kernel, by decide +kernel, by decide +kernel⟩
theorem mv_X6_kind : Cond.instanceMethod yX6_kind ∈ wsL_law ∧ Cond.selects yX6_kind.cls yX6_kind yX6_kind ∈ wsL_law := ⟨wi_X6_kind, ws_X6_kind⟩
theorem my_X6_ofKind : kMy yX6_ofKind cX6_ofKind 3 (some .int) 2 := ⟨wn_X6, wc_X6_ofKind, by decide +kernel, by decide +kernel, by decide +kernel⟩
theorem mv_X6_ofKind : Cond.instanceMethod yX6_ofKind ∈ wsL_law ∧ Cond.selects yX6_ofKind.cls yX6_ofKind yX6_ofKind ∈ wsL_law := ⟨wi_X6_ofKind, ws_X6_ofKind⟩
theorem my_X6_gramsOfKind : kMy yX6_gramsOfKind cX6_gramsOfKind 4 (some .int) 1 := ⟨wn_X6, wc_X6_gramsOfKind, by decide +kernel, by decide +kernel, by decide +kernel⟩
theorem mv_X6_gramsOfKind : Cond.instanceMethod yX6_gramsOfKind ∈ wsL_law ∧ Cond.selects yX6_gramsOfKind.cls yX6_gramsOfKind yX6_gramsOfKind ∈ wsL_law := ⟨wi_X6_gramsOfKind, ws_X6_gramsOfKind⟩
theorem my_X6_freshest : kMy yX6_freshest cX6_freshest 4 (some .int) 1 := ⟨wn_X6, wc_X6_freshest, by decide +kernel, by decide +kernel, by decide +kernel⟩
theorem mv_X6_freshest : Cond.instanceMethod yX6_freshest ∈ wsL_law ∧ Cond.selects yX6_freshest.cls yX6_freshest yX6_freshest ∈ wsL_law := ⟨wi_X6_freshest, ws_X6_freshest⟩
theorem my_X5_cut : kMy yX5_cut cX5_cut 2 (some .int) 1 := ⟨wn_X5, wc_X5_cut, by decide +kernel, by decide +kernel, by decide +kernel⟩
theorem mv_X5_cut : Cond.instanceMethod yX5_cut ∈ wsL_law ∧ Cond.selects yX5_cut.cls yX5_cut yX5_cut ∈ wsL_law := ⟨wi_X5_cut, ws_X5_cut⟩
theorem my_X6_cut : kMy yX6_cut cX6_cut 2 (some .int) 1 := ⟨wn_X6, wc_X6_cut, by decide +kernel, by decide +kernel, by decide +kernel⟩
theorem mv_X6_cut : Cond.instanceMethod yX6_cut ∈ wsL_law ∧ Cond.selects yX6_cut.cls yX6_cut yX6_cut ∈ wsL_law := ⟨wi_X6_cut, ws_X6_cut⟩
theorem my_X5_freshAfter : kMy yX5_freshAfter cX5_freshAfter 5 (some .int) 2 := ⟨wn_X5, wc_X5_freshAfter, by decide +kernel, by decide +kernel, by decide +kernel⟩
theorem mv_X5_freshAfter : Cond.instanceMethod yX5_freshAfter ∈ wsL_law ∧ Cond.selects yX5_freshAfter.cls yX5_freshAfter yX5_freshAfter ∈ wsL_law := ⟨wi_X5_freshAfter, ws_X5_freshAfter⟩
theorem my_X1_start : kMy yX1_start cX1_start 3 none 2 := ⟨wn_X1, wc_X1_start, by decide +kernel, by decide +kernel, by decide +kernel⟩
theorem mv_X1_start : Cond.instanceMethod yX1_start ∈ wsL_law ∧ Cond.selects yX1_start.cls yX1_start yX1_start ∈ wsL_law := ⟨wi_X1_start, ws_X1_start⟩
theorem my_X1_passHour : kMy yX1_passHour cX1_passHour 1 none 0 := ⟨wn_X1, wc_X1_passHour, by decide +kernel, by decide +kernel, by decide +kernel⟩
theorem mv_X1_passHour : Cond.instanceMethod yX1_passHour ∈ wsL_law ∧ Cond.selects yX1_passHour.cls yX1_passHour yX1_passHour ∈ wsL_law := ⟨wi_X1_passHour, ws_X1_passHour⟩
theorem my_X6_freshAfter : kMy yX6_freshAfter cX6_freshAfter 4 (some .int) 2 := ⟨wn_X6, wc_X6_freshAfter, by decide +kernel, by decide +kernel, by decide +kernel⟩
theorem mv_X6_freshAfter : Cond.instanceMethod yX6_freshAfter ∈ wsL_law ∧ Cond.selects yX6_freshAfter.cls yX6_freshAfter yX6_freshAfter ∈ wsL_law := ⟨wi_X6_freshAfter, ws_X6_freshAfter⟩
theorem my_X6_freshIn : kMy yX6_freshIn cX6_freshIn 7 (some .int) 2 := ⟨wn_X6, wc_X6_freshIn, by decide +kernel, by decide +kernel, by decide +kernel⟩
theorem mv_X6_freshIn : Cond.instanceMethod yX6_freshIn ∈ wsL_law ∧ Cond.selects yX6_freshIn.cls yX6_freshIn yX6_freshIn ∈ wsL_law := ⟨wi_X6_freshIn, ws_X6_freshIn⟩
theorem my_X5_hoursLeft : kMy yX5_hoursLeft cX5_hoursLeft 4 (some .int) 1 := ⟨wn_X5, wc_X5_hoursLeft, by decide +kernel, by decide +kernel, by decide +kernel⟩
theorem mv_X5_hoursLeft : Cond.instanceMethod yX5_hoursLeft ∈ wsL_law ∧ Cond.selects yX5_hoursLeft.cls yX5_hoursLeft yX5_hoursLeft ∈ wsL_law := ⟨wi_X5_hoursLeft, ws_X5_hoursLeft⟩
theorem my_X6_hoursLeft : kMy yX6_hoursLeft cX6_hoursLeft 3 (some .int) 1 := ⟨wn_X6, wc_X6_hoursLeft, by decide +kernel, by decide +kernel, by decide +kernel⟩
theorem mv_X6_hoursLeft : Cond.instanceMethod yX6_hoursLeft ∈ wsL_law ∧ Cond.selects yX6_hoursLeft.cls yX6_hoursLeft yX6_hoursLeft ∈ wsL_law := ⟨wi_X6_hoursLeft, ws_X6_hoursLeft⟩
theorem my_X6_leftOf : kMy yX6_leftOf cX6_leftOf 4 (some .int) 1 := ⟨wn_X6, wc_X6_leftOf, by decide +kernel, by decide +kernel, by decide +kernel⟩
theorem mv_X6_leftOf : Cond.instanceMethod yX6_leftOf ∈ wsL_law ∧ Cond.selects yX6_leftOf.cls yX6_leftOf yX6_leftOf ∈ wsL_law := ⟨wi_X6_leftOf, ws_X6_leftOf⟩
theorem my_X5_bestHour : kMy yX5_bestHour cX5_bestHour 7 (some .int) 1 := ⟨wn_X5, wc_X5_bestHour, by decide +kernel, by decide +kernel, by decide +kernel⟩
theorem mv_X5_bestHour : Cond.instanceMethod yX5_bestHour ∈ wsL_law ∧ Cond.selects yX5_bestHour.cls yX5_bestHour yX5_bestHour ∈ wsL_law := ⟨wi_X5_bestHour, ws_X5_bestHour⟩
theorem my_X6_bestHour : kMy yX6_bestHour cX6_bestHour 3 (some .int) 1 := ⟨wn_X6, wc_X6_bestHour, by decide +kernel, by decide +kernel, by decide +kernel⟩
theorem mv_X6_bestHour : Cond.instanceMethod yX6_bestHour ∈ wsL_law ∧ Cond.selects yX6_bestHour.cls yX6_bestHour yX6_bestHour ∈ wsL_law := ⟨wi_X6_bestHour, ws_X6_bestHour⟩
theorem my_X6_bestOf : kMy yX6_bestOf cX6_bestOf 6 (some .int) 1 := ⟨wn_X6, wc_X6_bestOf, by decide +kernel, by decide +kernel, by decide +kernel⟩
theorem mv_X6_bestOf : Cond.instanceMethod yX6_bestOf ∈ wsL_law ∧ Cond.selects yX6_bestOf.cls yX6_bestOf yX6_bestOf ∈ wsL_law := ⟨wi_X6_bestOf, ws_X6_bestOf⟩
theorem my_X5_ifClosed : kMy yX5_ifClosed cX5_ifClosed 3 (some .int) 1 := ⟨wn_X5, wc_X5_ifClosed, by decide +kernel, by decide +kernel, by decide +kernel⟩
theorem mv_X5_ifClosed : Cond.instanceMethod yX5_ifClosed ∈ wsL_law ∧ Cond.selects yX5_ifClosed.cls yX5_ifClosed yX5_ifClosed ∈ wsL_law := ⟨wi_X5_ifClosed, ws_X5_ifClosed⟩
theorem my_X6_ifClosed : kMy yX6_ifClosed cX6_ifClosed 3 (some .int) 1 := ⟨wn_X6, wc_X6_ifClosed, by decide +kernel, by decide +kernel, by decide +kernel⟩
theorem mv_X6_ifClosed : Cond.instanceMethod yX6_ifClosed ∈ wsL_law ∧ Cond.selects yX6_ifClosed.cls yX6_ifClosed yX6_ifClosed ∈ wsL_law := ⟨wi_X6_ifClosed, ws_X6_ifClosed⟩
theorem my_X5_worth : kMy yX5_worth cX5_worth 5 (some .long) 0 := ⟨wn_X5, wc_X5_worth, by decide +kernel, by decide +kernel, by decide +kernel⟩
theorem mv_X5_worth : Cond.instanceMethod yX5_worth ∈ wsL_law ∧ Cond.selects yX5_worth.cls yX5_worth yX5_worth ∈ wsL_law := ⟨wi_X5_worth, ws_X5_worth⟩
theorem my_X6_worth : kMy yX6_worth cX6_worth 1 (some .long) 0 := ⟨wn_X6, wc_X6_worth, by decide +kernel, by decide +kernel, by decide +kernel⟩
theorem mv_X6_worth : Cond.instanceMethod yX6_worth ∈ wsL_law ∧ Cond.selects yX6_worth.cls yX6_worth yX6_worth ∈ wsL_law := ⟨wi_X6_worth, ws_X6_worth⟩
theorem my_X6_allWorth : kMy yX6_allWorth cX6_allWorth 4 (some .long) 0 := ⟨wn_X6, wc_X6_allWorth, by decide +kernel, by decide +kernel, by decide +kernel⟩
theorem mv_X6_allWorth : Cond.instanceMethod yX6_allWorth ∈ wsL_law ∧ Cond.selects yX6_allWorth.cls yX6_allWorth yX6_allWorth ∈ wsL_law := ⟨wi_X6_allWorth, ws_X6_allWorth⟩
theorem my_X5_type : kMy yX5_type cX5_type 2 (some .int) 1 := ⟨wn_X5, wc_X5_type, by decide +kernel, by decide +kernel, by decide +kernel⟩
theorem mv_X5_type : Cond.instanceMethod yX5_type ∈ wsL_law ∧ Cond.selects yX5_type.cls yX5_type yX5_type ∈ wsL_law := ⟨wi_X5_type, ws_X5_type⟩
theorem my_X0_append : kMy yX0_append cX0_append 2 none 1 := ⟨wn_X0, wc_X0_append, by decide +kernel, by decide +kernel, by decide +kernel⟩
theorem mv_X0_append : Cond.instanceMethod yX0_append ∈ wsL_law ∧ Cond.selects yX0_append.cls yX0_append yX0_append ∈ wsL_law := ⟨wi_X0_append, ws_X0_append⟩
theorem my_X6_type : kMy yX6_type cX6_type 2 (some .int) 1 := ⟨wn_X6, wc_X6_type, by decide +kernel, by decide +kernel, by decide +kernel⟩
theorem mv_X6_type : Cond.instanceMethod yX6_type ∈ wsL_law ∧ Cond.selects yX6_type.cls yX6_type yX6_type ∈ wsL_law := ⟨wi_X6_type, ws_X6_type⟩
theorem my_X5_clearText : kMy yX5_clearText cX5_clearText 2 (some .int) 0 := ⟨wn_X5, wc_X5_clearText, by decide +kernel, by decide +kernel, by decide +kernel⟩
theorem mv_X5_clearText : Cond.instanceMethod yX5_clearText ∈ wsL_law ∧ Cond.selects yX5_clearText.cls yX5_clearText yX5_clearText ∈ wsL_law := ⟨wi_X5_clearText, ws_X5_clearText⟩
theorem my_X6_clearText : kMy yX6_clearText cX6_clearText 2 (some .int) 0 := ⟨wn_X6, wc_X6_clearText, by decide +kernel, by decide +kernel, by decide +kernel⟩
theorem mv_X6_clearText : Cond.instanceMethod yX6_clearText ∈ wsL_law ∧ Cond.selects yX6_clearText.cls yX6_clearText yX6_clearText ∈ wsL_law := ⟨wi_X6_clearText, ws_X6_clearText⟩
theorem my_X5_syntaxError : kMy yX5_syntaxError cX5_syntaxError 1 (some .int) 0 := ⟨wn_X5, wc_X5_syntaxError, by decide +kernel, by decide +kernel, by decide +kernel⟩
theorem mv_X5_syntaxError : Cond.instanceMethod yX5_syntaxError ∈ wsL_law ∧ Cond.selects yX5_syntaxError.cls yX5_syntaxError yX5_syntaxError ∈ wsL_law := ⟨wi_X5_syntaxError, ws_X5_syntaxError⟩
theorem my_X0_firstError : kMy yX0_firstError cX0_firstError 2 (some .int) 0 := ⟨wn_X0, wc_X0_firstError, by decide +kernel, by decide +kernel, by decide +kernel⟩
theorem mv_X0_firstError : Cond.instanceMethod yX0_firstError ∈ wsL_law ∧ Cond.selects yX0_firstError.cls yX0_firstError yX0_firstError ∈ wsL_law := ⟨wi_X0_firstError, ws_X0_firstError⟩
theorem my_X0_startReading : kMy yX0_startReading cX0_startReading 1 none 0 := ⟨wn_X0, wc_X0_startReading, by decide +kernel, by decide +kernel, by decide +kernel⟩
theorem mv_X0_startReading : Cond.instanceMethod yX0_startReading ∈ wsL_law ∧ Cond.selects yX0_startReading.cls yX0_startReading yX0_startReading ∈ wsL_law := ⟨wi_X0_startReading, ws_X0_startReading⟩
theorem my_X0_readItem : kMy yX0_readItem cX0_readItem 1 (some .boolean) 0 := ⟨wn_X0, wc_X0_readItem, by decide +kernel, by decide +kernel, by decide +kernel⟩
theorem mv_X0_readItem : Cond.instanceMethod yX0_readItem ∈ wsL_law ∧ Cond.selects yX0_readItem.cls yX0_readItem yX0_readItem ∈ wsL_law := ⟨wi_X0_readItem, ws_X0_readItem⟩
theorem my_X0_readNumber : kMy yX0_readNumber cX0_readNumber 5 (some .int) 2 := ⟨wn_X0, wc_X0_readNumber, by decide +kernel, by decide +kernel, by decide +kernel⟩
theorem mv_X0_readNumber : Cond.instanceMethod yX0_readNumber ∈ wsL_law ∧ Cond.selects yX0_readNumber.cls yX0_readNumber yX0_readNumber ∈ wsL_law := ⟨wi_X0_readNumber, ws_X0_readNumber⟩
theorem my_X0_digitHere : kMy yX0_digitHere cX0_digitHere 2 (some .int) 0 := ⟨wn_X0, wc_X0_digitHere, by decide +kernel, by decide +kernel, by decide +kernel⟩
theorem mv_X0_digitHere : Cond.instanceMethod yX0_digitHere ∈ wsL_law ∧ Cond.selects yX0_digitHere.cls yX0_digitHere yX0_digitHere ∈ wsL_law := ⟨wi_X0_digitHere, ws_X0_digitHere⟩
theorem my_X0_skipSign : kMy yX0_skipSign cX0_skipSign 2 (some .boolean) 1 := ⟨wn_X0, wc_X0_skipSign, by decide +kernel, by decide +kernel, by decide +kernel⟩
theorem mv_X0_skipSign : Cond.instanceMethod yX0_skipSign ∈ wsL_law ∧ Cond.selects yX0_skipSign.cls yX0_skipSign yX0_skipSign ∈ wsL_law := ⟨wi_X0_skipSign, ws_X0_skipSign⟩
theorem my_X6_syntaxError : kMy yX6_syntaxError cX6_syntaxError 1 (some .int) 0 := ⟨wn_X6, wc_X6_syntaxError, by decide +kernel, by decide +kernel, by decide +kernel⟩
theorem mv_X6_syntaxError : Cond.instanceMethod yX6_syntaxError ∈ wsL_law ∧ Cond.selects yX6_syntaxError.cls yX6_syntaxError yX6_syntaxError ∈ wsL_law := ⟨wi_X6_syntaxError, ws_X6_syntaxError⟩
theorem my_X6_findError : kMy yX6_findError cX6_findError 1 (some .int) 0 := ⟨wn_X6, wc_X6_findError, by decide +kernel, by decide +kernel, by decide +kernel⟩
theorem mv_X6_findError : Cond.instanceMethod yX6_findError ∈ wsL_law ∧ Cond.selects yX6_findError.cls yX6_findError yX6_findError ∈ wsL_law := ⟨wi_X6_findError, ws_X6_findError⟩
theorem my_X6_readsItem : kMy yX6_readsItem cX6_readsItem 2 (some .boolean) 0 := ⟨wn_X6, wc_X6_readsItem, by decide +kernel, by decide +kernel, by decide +kernel⟩
theorem mv_X6_readsItem : Cond.instanceMethod yX6_readsItem ∈ wsL_law ∧ Cond.selects yX6_readsItem.cls yX6_readsItem yX6_readsItem ∈ wsL_law := ⟨wi_X6_readsItem, ws_X6_readsItem⟩
theorem my_X6_readsDigit : kMy yX6_readsDigit cX6_readsDigit 4 (some .boolean) 2 := ⟨wn_X6, wc_X6_readsDigit, by decide +kernel, by decide +kernel, by decide +kernel⟩
theorem mv_X6_readsDigit : Cond.instanceMethod yX6_readsDigit ∈ wsL_law ∧ Cond.selects yX6_readsDigit.cls yX6_readsDigit yX6_readsDigit ∈ wsL_law := ⟨wi_X6_readsDigit, ws_X6_readsDigit⟩
theorem my_X6_character : kMy yX6_character cX6_character 2 (some .int) 1 := ⟨wn_X6, wc_X6_character, by decide +kernel, by decide +kernel, by decide +kernel⟩
theorem mv_X6_character : Cond.instanceMethod yX6_character ∈ wsL_law ∧ Cond.selects yX6_character.cls yX6_character yX6_character ∈ wsL_law := ⟨wi_X6_character, ws_X6_character⟩
theorem my_X6_isNext : kMy yX6_isNext cX6_isNext 3 (some .boolean) 1 := ⟨wn_X6, wc_X6_isNext, by decide +kernel, by decide +kernel, by decide +kernel⟩
theorem mv_X6_isNext : Cond.instanceMethod yX6_isNext ∈ wsL_law ∧ Cond.selects yX6_isNext.cls yX6_isNext yX6_isNext ∈ wsL_law := ⟨wi_X6_isNext, ws_X6_isNext⟩
theorem my_X6_readsNumber : kMy yX6_readsNumber cX6_readsNumber 5 (some .boolean) 2 := ⟨wn_X6, wc_X6_readsNumber, by decide +kernel, by decide +kernel, by decide +kernel⟩
theorem mv_X6_readsNumber : Cond.instanceMethod yX6_readsNumber ∈ wsL_law ∧ Cond.selects yX6_readsNumber.cls yX6_readsNumber yX6_readsNumber ∈ wsL_law := ⟨wi_X6_readsNumber, ws_X6_readsNumber⟩
theorem my_X5_deliverAll : kMy yX5_deliverAll cX5_deliverAll 2 (some .int) 0 := ⟨wn_X5, wc_X5_deliverAll, by decide +kernel, by decide +kernel, by decide +kernel⟩
theorem mv_X5_deliverAll : Cond.instanceMethod yX5_deliverAll ∈ wsL_law ∧ Cond.selects yX5_deliverAll.cls yX5_deliverAll yX5_deliverAll ∈ wsL_law := ⟨wi_X5_deliverAll, ws_X5_deliverAll⟩
theorem my_X6_deliverAll : kMy yX6_deliverAll cX6_deliverAll 3 (some .int) 0 := ⟨wn_X6, wc_X6_deliverAll, by decide +kernel, by decide +kernel, by decide +kernel⟩
theorem mv_X6_deliverAll : Cond.instanceMethod yX6_deliverAll ∈ wsL_law ∧ Cond.selects yX6_deliverAll.cls yX6_deliverAll yX6_deliverAll ∈ wsL_law := ⟨wi_X6_deliverAll, ws_X6_deliverAll⟩
theorem my_X5_undo : kMy yX5_undo cX5_undo 1 (some .int) 0 := ⟨wn_X5, wc_X5_undo, by decide +kernel, by decide +kernel, by decide +kernel⟩
theorem mv_X5_undo : Cond.instanceMethod yX5_undo ∈ wsL_law ∧ Cond.selects yX5_undo.cls yX5_undo yX5_undo ∈ wsL_law := ⟨wi_X5_undo, ws_X5_undo⟩
theorem my_X2_restore : kMy yX2_restore cX2_restore 2 none 1 := ⟨wn_X2, wc_X2_restore, by decide +kernel, by decide +kernel, by decide +kernel⟩
theorem mv_X2_restore : Cond.instanceMethod yX2_restore ∈ wsL_law ∧ Cond.selects yX2_restore.cls yX2_restore yX2_restore ∈ wsL_law := ⟨wi_X2_restore, ws_X2_restore⟩
theorem my_X6_undo : kMy yX6_undo cX6_undo 1 (some .int) 0 := ⟨wn_X6, wc_X6_undo, by decide +kernel, by decide +kernel, by decide +kernel⟩
theorem mv_X6_undo : Cond.instanceMethod yX6_undo ∈ wsL_law ∧ Cond.selects yX6_undo.cls yX6_undo yX6_undo ∈ wsL_law := ⟨wi_X6_undo, ws_X6_undo⟩
theorem my_X5_digest : kMy yX5_digest cX5_digest 5 (some .long) 0 := ⟨wn_X5, wc_X5_digest, by decide +kernel, by decide +kernel, by decide +kernel⟩
theorem mv_X5_digest : Cond.instanceMethod yX5_digest ∈ wsL_law ∧ Cond.selects yX5_digest.cls yX5_digest yX5_digest ∈ wsL_law := ⟨wi_X5_digest, ws_X5_digest⟩
theorem my_X5_mixed : kMy yX5_mixed cX5_mixed 4 (some .long) 2 := ⟨wn_X5, wc_X5_mixed, by decide +kernel, by decide +kernel, by decide +kernel⟩
theorem my_X5_mixedWithLot : kMy yX5_mixedWithLot cX5_mixedWithLot 7 (some .long) 2 := ⟨wn_X5, wc_X5_mixedWithLot, by decide +kernel, by decide +kernel, by decide +kernel⟩
theorem mv_X5_mixedWithLot : Cond.instanceMethod yX5_mixedWithLot ∈ wsL_law ∧ Cond.selects yX5_mixedWithLot.cls yX5_mixedWithLot yX5_mixedWithLot ∈ wsL_law := ⟨wi_X5_mixedWithLot, ws_X5_mixedWithLot⟩
theorem my_X5_mixedWithPlaces : kMy yX5_mixedWithPlaces cX5_mixedWithPlaces 7 (some .long) 1 := ⟨wn_X5, wc_X5_mixedWithPlaces, by decide +kernel, by decide +kernel, by decide +kernel⟩
theorem mv_X5_mixedWithPlaces : Cond.instanceMethod yX5_mixedWithPlaces ∈ wsL_law ∧ Cond.selects yX5_mixedWithPlaces.cls yX5_mixedWithPlaces yX5_mixedWithPlaces ∈ wsL_law := ⟨wi_X5_mixedWithPlaces, ws_X5_mixedWithPlaces⟩
theorem my_X6_digest : kMy yX6_digest cX6_digest 5 (some .long) 0 := ⟨wn_X6, wc_X6_digest, by decide +kernel, by decide +kernel, by decide +kernel⟩
theorem mv_X6_digest : Cond.instanceMethod yX6_digest ∈ wsL_law ∧ Cond.selects yX6_digest.cls yX6_digest yX6_digest ∈ wsL_law := ⟨wi_X6_digest, ws_X6_digest⟩
theorem cib_m6 : (Int8.ofInt (-6)).toInt32 = (-6) := by decide +kernel
theorem cib_m5 : (Int8.ofInt (-5)).toInt32 = (-5) := by decide +kernel
theorem cib_m4 : (Int8.ofInt (-4)).toInt32 = (-4) := by decide +kernel
theorem cib_m3 : (Int8.ofInt (-3)).toInt32 = (-3) := by decide +kernel
theorem cib_m2 : (Int8.ofInt (-2)).toInt32 = (-2) := by decide +kernel
theorem cib_6 : (Int8.ofInt (6)).toInt32 = nI 6 := by decide +kernel
theorem cib_7 : (Int8.ofInt (7)).toInt32 = nI 7 := by decide +kernel
theorem cib_8 : (Int8.ofInt (8)).toInt32 = nI 8 := by decide +kernel
theorem cib_9 : (Int8.ofInt (9)).toInt32 = nI 9 := by decide +kernel
theorem cib_10 : (Int8.ofInt (10)).toInt32 = nI 10 := by decide +kernel
theorem cib_11 : (Int8.ofInt (11)).toInt32 = nI 11 := by decide +kernel
theorem cib_16 : (Int8.ofInt (16)).toInt32 = nI 16 := by decide +kernel
theorem cib_17 : (Int8.ofInt (17)).toInt32 = nI 17 := by decide +kernel
theorem cib_23 : (Int8.ofInt (23)).toInt32 = nI 23 := by decide +kernel
theorem cib_30 : (Int8.ofInt (30)).toInt32 = nI 30 := by decide +kernel
theorem cib_31 : (Int8.ofInt (31)).toInt32 = nI 31 := by decide +kernel
theorem cib_33 : (Int8.ofInt (33)).toInt32 = nI 33 := by decide +kernel
theorem cib_34 : (Int8.ofInt (34)).toInt32 = nI 34 := by decide +kernel
theorem cib_40 : (Int8.ofInt (40)).toInt32 = nI 40 := by decide +kernel
theorem cib_45 : (Int8.ofInt (45)).toInt32 = nI 45 := by decide +kernel
theorem cib_47 : (Int8.ofInt (47)).toInt32 = nI 47 := by decide +kernel
theorem cib_48 : (Int8.ofInt (48)).toInt32 = nI 48 := by decide +kernel
theorem cib_50 : (Int8.ofInt (50)).toInt32 = nI 50 := by decide +kernel
theorem cib_57 : (Int8.ofInt (57)).toInt32 = nI 57 := by decide +kernel
theorem cib_58 : (Int8.ofInt (58)).toInt32 = nI 58 := by decide +kernel
theorem cib_59 : (Int8.ofInt (59)).toInt32 = nI 59 := by decide +kernel
theorem cib_64 : (Int8.ofInt (64)).toInt32 = nI 64 := by decide +kernel
theorem cib_80 : (Int8.ofInt (80)).toInt32 = nI 80 := by decide +kernel
theorem cib_90 : (Int8.ofInt (90)).toInt32 = nI 90 := by decide +kernel
theorem cib_100 : (Int8.ofInt (100)).toInt32 = nI 100 := by decide +kernel
theorem cib_125 : (Int8.ofInt (125)).toInt32 = nI 125 := by decide +kernel
theorem cib_126 : (Int8.ofInt (126)).toInt32 = nI 126 := by decide +kernel
theorem cii_m1 : Int32.ofInt (-1) = (-1) := by decide +kernel
theorem cii_0 : Int32.ofInt (0) = nI 0 := by decide +kernel
theorem cii_1 : Int32.ofInt (1) = nI 1 := by decide +kernel
theorem cii_2 : Int32.ofInt (2) = nI 2 := by decide +kernel
theorem cii_3 : Int32.ofInt (3) = nI 3 := by decide +kernel
theorem cii_4 : Int32.ofInt (4) = nI 4 := by decide +kernel
theorem cii_5 : Int32.ofInt (5) = nI 5 := by decide +kernel
theorem cis_200 : (Int16.ofInt (200)).toInt32 = nI 200 := by decide +kernel
theorem cis_400 : (Int16.ofInt (400)).toInt32 = nI 400 := by decide +kernel
theorem cis_500 : (Int16.ofInt (500)).toInt32 = nI 500 := by decide +kernel
theorem cis_625 : (Int16.ofInt (625)).toInt32 = nI 625 := by decide +kernel
theorem cis_750 : (Int16.ofInt (750)).toInt32 = nI 750 := by decide +kernel
theorem cis_999 : (Int16.ofInt (999)).toInt32 = nI 999 := by decide +kernel
theorem cis_1000 : (Int16.ofInt (1000)).toInt32 = nI 1000 := by decide +kernel
theorem cis_5000 : (Int16.ofInt (5000)).toInt32 = nI 5000 := by decide +kernel
theorem cis_9999 : (Int16.ofInt (9999)).toInt32 = nI 9999 := by decide +kernel
theorem cis_19999 : (Int16.ofInt (19999)).toInt32 = nI 19999 := by decide +kernel
theorem cis_20000 : (Int16.ofInt (20000)).toInt32 = nI 20000 := by decide +kernel
theorem inc_m1 (x : Nat) : nI (x + 1) + Int32.ofInt (-1) = nI x := by rw [show Int32.ofInt (-1) = -nI 1 from by decide +kernel, ← nI_add, ← Int32.sub_eq_add_neg]; exact Int32.add_sub_cancel _ _
theorem inc_1 (x : Nat) : nI x + Int32.ofInt (1) = nI (x + 1) := by rw [show Int32.ofInt (1) = nI 1 from by decide +kernel, nI_add]
theorem inc_5 (x : Nat) : nI x + Int32.ofInt (5) = nI (x + 5) := by rw [show Int32.ofInt (5) = nI 5 from by decide +kernel, nI_add]
end
section
/-! THE LAYER: a system's cells lie at b, b+1, ..; a state is three tables of values (ints, longs, references as offsets from b), the cells' kinds are a list sh. K: the machine at a row of code, with the state, the locals, the stack. Ct: a method's contract. -/
abbrev KS : Type := (Nat → Nat → Int32) × (Nat → Nat → Int64) × (Nat → Nat → Option Nat)
abbrev KSh : Type := Nat ⊕ (FieldType × Nat)
abbrev KD : Type := (Nat → ClassId) × (Nat → Nat → Nat) × (FieldType → ClassId)
def rf (b a : Nat) : Value := .ref (b + a)
def kv (b : Nat) (ty : FieldType) (σ : KS) (a k : Nat) : Value := match ty with
  | .long => .long (σ.2.1 a k)
  | .object _ => va_rf ((σ.2.2 a k).map (fun z => b + z))
  | .array _ => va_rf ((σ.2.2 a k).map (fun z => b + z))
  | _ => .int (σ.1 a k)
def kTy (ci : Nat) : Nat → FieldType := match ci with
  | 0 => tyX0
  | 1 => tyX1
  | 2 => tyX2
  | 3 => tyX3
  | 4 => tyX4
  | 5 => tyX5
  | _ => tyX6
def kat (D : KD) (b : Nat) (σ : KS) (a : Nat) (q : KSh) (H : Heap) : Prop := match q with
  | .inl ci => ∃ r : vw_C, vwCl[ci]? = some r ∧ t_OB (b + a) (D.1 ci) r.2.2 (D.2.1 ci) H (fun k => kv b (kTy ci k) σ a k)
  | .inr x => H[b + a]? = some (arrV (D.2.2 x.1) x.2 (fun k => kv b x.1 σ a k))
def KRep (D : KD) (b : Nat) (sh : List KSh) (σ : KS) (H : Heap) : Prop := H.size = b + sh.length ∧ ∀ (a : Nat) (q : KSh), sh[a]? = some q → kat D b σ a q H
def kTys : List FieldType := [.int, .char, .object "FishCounter$Lot", .object "FishCounter$Shop"]
/-- the private members of nest mates that are called: class, entry, method, host -/
def kNest : List (String × Nat × MethodName × String) := [(RX4, 40, yX3_init, RX5), (RX5, 21, yX1_init, RX5), (RX5, 35, yX0_init, RX5), (RX4, 126, yX5_moneyFor, RX5), (RX4, 112, yX5_isTray, RX5), (RX4, 116, yX5_isBox, RX5), (RX4, 162, yX5_freshAnHourLater, RX5), (RX4, 166, yX5_iceAnHourLater, RX5), (RX1, 37, yX5_freshAnHourLater, RX5), (RX1, 43, yX5_iceAnHourLater, RX5), (RX0, 53, yX5_within, RX5)]
def KK (D : KD) (U : State) : Prop := (∀ (ci : Nat) (r : vw_C), vwCl[ci]? = some r → u_Kn U r.1 r.2.1 r.2.2 (D.1 ci) (D.2.1 ci)) ∧ (∀ ty, ty ∈ kTys → ArrOfT U (D.2.2 ty) ty ∧ va_RA U (D.2.2 ty) ty) ∧ (∀ q, q ∈ kNest → va_Nw (.methodLinkNest q.1 q.2.1 q.2.2.1 q.2.2.2) U) ∧ va_AO "FishCounter$Lot" U ∧ va_AO "FishCounter$Shop" U
theorem KK.warm {D : KD} {u U : State} (hW : u.WarmedH U.vm) (h : KK D u) : KK D U := ⟨fun c q hq => u_Kn_moved hW.alike (h.1 c q hq), fun ty hk => ⟨arrOfT_moved hW.alike (h.2.1 ty hk).1, (h.2.1 ty hk).2.moved hW.alike⟩, fun q hq => va_Nw.warmM hW (h.2.2.1 q hq), va_AO.moved hW.alike h.2.2.2.1, va_AO.moved hW.alike h.2.2.2.2⟩
theorem KK.same {D : KD} {u U : State} (hvm : u.vm = U.vm) (h : KK D u) : KK D U := by
  have hA : u.vm.Alike U.vm := by rw [hvm]; exact Vm.Alike.refl _
  exact ⟨fun c q hq => u_Kn_moved hA (h.1 c q hq), fun ty hk => ⟨arrOfT_moved hA (h.2.1 ty hk).1, (h.2.1 ty hk).2.moved hA⟩, fun q hq => va_Nw.same rfl hvm (h.2.2.1 q hq), va_AO.moved hA h.2.2.2.1, va_AO.moved hA h.2.2.2.2⟩
/-- the class table's facts that putfield wants -/
def kFd (ci : Nat) : Prop := ∀ r : vw_C, vwCl[ci]? = some r → (∀ w ∈ u_ws r.1 r.2.1 r.2.2, w ∈ wsL_law) ∧ (∀ k, k < r.2.2 → parseFieldDescriptor (r.2.1 k).2.2.1 = some (kTy ci k)) ∧ (∀ a, a < r.2.2 → ∀ b, b < r.2.2 → a ≠ b → (r.2.1 a).2.1 ≠ (r.2.1 b).2.1)
theorem kFd0 : kFd 0 := by intro r hr; cases hr; exact ⟨ilX0, tyX0_ok, nmX0⟩
theorem kFd1 : kFd 1 := by intro r hr; cases hr; exact ⟨ilX1, tyX1_ok, nmX1⟩
theorem kFd2 : kFd 2 := by intro r hr; cases hr; exact ⟨ilX2, tyX2_ok, nmX2⟩
theorem kFd3 : kFd 3 := by intro r hr; cases hr; exact ⟨ilX3, tyX3_ok, nmX3⟩
theorem kFd4 : kFd 4 := by intro r hr; cases hr; exact ⟨ilX4, tyX4_ok, nmX4⟩
theorem kFd5 : kFd 5 := by intro r hr; cases hr; exact ⟨ilX5, tyX5_ok, nmX5⟩
theorem kFd6 : kFd 6 := by intro r hr; cases hr; exact ⟨ilX6, tyX6_ok, nmX6⟩
/-- a row of the state put anew -/
def wI (σ : KS) (a : Nat) (f : Nat → Int32) : KS := (fun x => if x = a then f else σ.1 x, σ.2.1, σ.2.2)
def wL (σ : KS) (a : Nat) (f : Nat → Int64) : KS := (σ.1, fun x => if x = a then f else σ.2.1 x, σ.2.2)
def wP (σ : KS) (a : Nat) (f : Nat → Option Nat) : KS := (σ.1, σ.2.1, fun x => if x = a then f else σ.2.2 x)
theorem wI_self {σ : KS} {a : Nat} {f : Nat → Int32} : (wI σ a f).1 a = f := if_pos rfl
theorem wI_ne {σ : KS} {a x : Nat} {f : Nat → Int32} (h : x ≠ a) : (wI σ a f).1 x = σ.1 x := if_neg h
theorem wI_L {σ : KS} {a : Nat} {f : Nat → Int32} : (wI σ a f).2.1 = σ.2.1 := rfl
theorem wI_P {σ : KS} {a : Nat} {f : Nat → Int32} : (wI σ a f).2.2 = σ.2.2 := rfl
theorem wL_self {σ : KS} {a : Nat} {f : Nat → Int64} : (wL σ a f).2.1 a = f := if_pos rfl
theorem wL_ne {σ : KS} {a x : Nat} {f : Nat → Int64} (h : x ≠ a) : (wL σ a f).2.1 x = σ.2.1 x := if_neg h
theorem wL_I {σ : KS} {a : Nat} {f : Nat → Int64} : (wL σ a f).1 = σ.1 := rfl
theorem wL_P {σ : KS} {a : Nat} {f : Nat → Int64} : (wL σ a f).2.2 = σ.2.2 := rfl
theorem wP_self {σ : KS} {a : Nat} {f : Nat → Option Nat} : (wP σ a f).2.2 a = f := if_pos rfl
theorem wP_ne {σ : KS} {a x : Nat} {f : Nat → Option Nat} (h : x ≠ a) : (wP σ a f).2.2 x = σ.2.2 x := if_neg h
theorem wP_I {σ : KS} {a : Nat} {f : Nat → Option Nat} : (wP σ a f).1 = σ.1 := rfl
theorem wP_L {σ : KS} {a : Nat} {f : Nat → Option Nat} : (wP σ a f).2.1 = σ.2.1 := rfl
theorem wI_wI {σ : KS} {a : Nat} {f g : Nat → Int32} : wI (wI σ a f) a g = wI σ a g := by
  unfold wI
  simp only [Prod.mk.injEq, and_true]
  funext x
  by_cases h : x = a
  · rw [if_pos h, if_pos h]
  · rw [if_neg h, if_neg h, if_neg h]
theorem wI_id {σ : KS} {a : Nat} {f : Nat → Int32} (h : σ.1 a = f) : wI σ a f = σ := by
  unfold wI
  obtain ⟨i, l, q⟩ := σ
  simp only [Prod.mk.injEq, and_true]
  funext x
  by_cases hx : x = a
  · rw [if_pos hx, hx]; exact h.symm
  · rw [if_neg hx]
theorem wI_comm {σ : KS} {a c : Nat} {f g : Nat → Int32} (h : a ≠ c) : wI (wI σ a f) c g = wI (wI σ c g) a f := by
  unfold wI
  simp only [Prod.mk.injEq, and_true]
  funext x
  by_cases h1 : x = a
  · by_cases h2 : x = c
    · exact absurd (h1.symm.trans h2) h
    · rw [if_neg h2, if_pos h1, if_pos h1]
  · by_cases h2 : x = c
    · rw [if_pos h2, if_neg h1, if_pos h2]
    · rw [if_neg h2, if_neg h1, if_neg h1, if_neg h2]
/-- a state whose other cells are the old ones -/
theorem KRep.put {D : KD} {b : Nat} {sh : List KSh} {σ σ' : KS} {H H' : Heap} {a : Nat} {q : KSh} (h : KRep D b sh σ H) (hq : sh[a]? = some q) (hz : H'.size = H.size) (ho : ∀ x, x ≠ b + a → H'[x]? = H[x]?) (hn : kat D b σ' a q H') (hs : ∀ x, x ≠ a → σ'.1 x = σ.1 x ∧ σ'.2.1 x = σ.2.1 x ∧ σ'.2.2 x = σ.2.2 x) : KRep D b sh σ' H' := by
  refine ⟨hz.trans h.1, fun x qx hx => ?_⟩
  by_cases hxa : x = a
  · subst hxa
    rw [hq] at hx
    cases hx
    exact hn
  · have h1 := h.2 x qx hx
    have hh : H'[b + x]? = H[b + x]? := ho _ (fun z => hxa (by omega))
    obtain ⟨e1, e2, e3⟩ := hs x hxa
    have ev : ∀ ty k, kv b ty σ' x k = kv b ty σ x k := by
      intro ty k
      unfold kv
      rw [e1, e2, e3]
    cases qx with
    | inl ci =>
      obtain ⟨r, h2, h3⟩ := h1
      exact ⟨r, h2, (h3.kept hh).to (fun k _ => (ev _ k).symm)⟩
    | inr z =>
      show H'[b + x]? = _
      rw [hh]
      refine Eq.trans (show H[b + x]? = _ from h1) ?_
      congr 2
      funext k
      exact (ev _ k).symm
/-- a state with one cell more -/
theorem KRep.push {D : KD} {b : Nat} {sh : List KSh} {σ σ' : KS} {H H' : Heap} {q : KSh} (h : KRep D b sh σ H) (hz : H'.size = b + sh.length + 1) (ho : ∀ x, x < b + sh.length → H'[x]? = H[x]?) (hn : kat D b σ' sh.length q H') (hs : ∀ x, x < sh.length → σ'.1 x = σ.1 x ∧ σ'.2.1 x = σ.2.1 x ∧ σ'.2.2 x = σ.2.2 x) : KRep D b (sh ++ [q]) σ' H' := by
  refine ⟨by rw [hz, List.length_append]; rfl, fun x qx hx => ?_⟩
  by_cases hl : x < sh.length
  · rw [List.getElem?_append_left hl] at hx
    have h1 := h.2 x qx hx
    have hh : H'[b + x]? = H[b + x]? := ho _ (by omega)
    obtain ⟨e1, e2, e3⟩ := hs x hl
    have ev : ∀ ty k, kv b ty σ' x k = kv b ty σ x k := by
      intro ty k
      unfold kv
      rw [e1, e2, e3]
    cases qx with
    | inl ci =>
      obtain ⟨r, h2, h3⟩ := h1
      exact ⟨r, h2, (h3.kept hh).to (fun k _ => (ev _ k).symm)⟩
    | inr z =>
      show H'[b + x]? = _
      rw [hh]
      refine Eq.trans (show H[b + x]? = _ from h1) ?_
      congr 2
      funext k
      exact (ev _ k).symm
  · rw [List.getElem?_append_right (by omega)] at hx
    have hz2 : x - sh.length < 1 := (List.getElem?_eq_some_iff.mp hx).1
    have hx0 : x = sh.length := by omega
    subst hx0
    rw [Nat.sub_self] at hx
    cases hx
    exact hn
end
section
/-! THE ROWS of the layer -/
def KX (p : Program) (s : State) (m : MethodId) (meth : Method) (c : Code) (args : Array Value) (D : KD) (b : Nat) (cc : ByteArray) (nL : Nat) (ret : Option FieldType) (own : String) : Prop :=
  p.tables.exec = Jvm.exec ∧ c.code = cc ∧ c.maxLocals = nL ∧ s.vm.findClass own = some m.cls ∧ (∀ w ∈ wsL_law, w.before args s = true) ∧ KK D s ∧ meth.sig.returnType = ret ∧ meth.locks = false ∧ b ≤ s.heap.size
def K (p : Program) (l : Launch) (e : Env) (R : Room) (s : State) (m : MethodId) (args : Array Value) (below : List Frame) (meth : Method) (c : Code) (Q : State → Prop) (D : KD) (b nL ca sl : Nat) (sh : List KSh) (σ : KS) (pc : Nat) (ls : List (Nat × Value)) (st : List Value) : Prop :=
  ∀ (H : Heap) (locs : List Loc) (lsA : Array Slot), KRep D b sh σ H → va_S (fun q => b ≤ q) s.heap H locs → lv_has lsA nL ls → W p l e R s m args below meth c H locs ca sl Q (F0 m pc lsA st)
def KQ (below : List Frame) (Post : Option Value → KS → Prop) (D : KD) (b : Nat) (args : Array Value) (s : State) (sh' : List KSh) (mc ms : Nat) : State → Prop :=
  MQ below (fun _ st o t => (∃ r σ', o = .returned r ∧ Post r σ' ∧ KRep D b sh' σ' t.heap) ∧ va_F (fun q => b ≤ q) st t) args s mc ms (fun q => b ≤ q)
/-- a method's contract: from the state σ (cells sh), with the arguments As, it comes back; Post says of answer and state -/
def Ct (l : Launch) (D : KD) (b : Nat) (y : MethodName) (cc : ByteArray) (nL : Nat) (ret : Option FieldType) (rm : Room) (mc ms : Nat) (As : List Value) (sh : List KSh) (σ : KS) (sh' : List KSh) (Post : Option Value → KS → Prop) : Prop :=
  Met l y (Cond.code y cc nL ret :: wsL_law) rm (va_Pc As (fun U => KRep D b sh σ U.heap ∧ KK D U)) (fun _ st o t => (∃ r σ', o = .returned r ∧ Post r σ' ∧ KRep D b sh' σ' t.heap) ∧ va_F (fun q => b ≤ q) st t) mc ms (fun q => b ≤ q)
/-- an answer and a state that are known -/
def pE (r : Option Value) (σ : KS) : Option Value → KS → Prop := fun r1 σ1 => r1 = r ∧ σ1 = σ
/-- an answer that is known, and what holds of the state -/
def pS (r : Option Value) (φ : KS → Prop) : Option Value → KS → Prop := fun r1 σ1 => r1 = r ∧ φ σ1
theorem pE.mk {r : Option Value} {σ : KS} : pE r σ r σ := ⟨rfl, rfl⟩
theorem Ct.of {l : Launch} {D : KD} {b : Nat} {y : MethodName} {cc : ByteArray} {nL : Nat} {ret : Option FieldType} {rm : Room} {mc ms : Nat} {As : List Value} {sh sh' : List KSh} {σ : KS} {Post : Option Value → KS → Prop} {ls : List (Nat × Value)} (hy : plainName y.cls = true) (hn : (lg_sl As).length ≤ nL) (hls : lv_args 0 As = ls)
    (body : ∀ p e s m args below meth c Q, Q = KQ below Post D b args s sh' mc ms → KX p s m meth c args D b cc nL ret y.cls → meth.name = y.name → K p l e rm s m args below meth c Q D b nL 0 0 sh σ 0 ls []) : Ct l D b y cc nL ret rm mc ms As sh σ sh' Post := by
  refine Met.ofW (cc := cc) (maxL := nL) (ret := ret) hy rfl ?_
  intro p e s m args below meth c s₁ B hml hv
  obtain ⟨rfl, hR, hK⟩ := hv
  have hts := atoms_spec (ws := Cond.code y cc nL ret :: wsL_law) B.pre
  have hown : s.vm.findClass y.cls = some m.cls := findClass_of_methodNamed B.named
  have hl := lv_entry As (n := nL) hn
  rw [hls] at hl
  have h := body p e s m As.toArray below meth c _ rfl ⟨B.exec, B.bytes, hml, hown, fun w h => hts w (List.mem_cons_of_mem _ h), hK, B.returns, B.notSynchronized, by rw [hR.1]; omega⟩ (name_of_methodNamed B.named B.method).1
  rw [lg_entry_eq]
  exact h s.heap [] _ hR va_S.rf hl
section KROWS
variable {p : Program} {l : Launch} {e : Env} {R : Room} {s : State} {m : MethodId} {args : Array Value} {below : List Frame} {meth : Method} {c : Code} {Q : State → Prop} {D : KD} {b nL ca sl : Nat} {sh : List KSh} {σ : KS} {pc : Nat} {ls : List (Nat × Value)} {st : List Value} {cc : ByteArray} {ret : Option FieldType} {own : String}
theorem K_eq {st' : List Value} (h : st = st') (k : K p l e R s m args below meth c Q D b nL ca sl sh σ pc ls st') : K p l e R s m args below meth c Q D b nL ca sl sh σ pc ls st := h ▸ k
theorem K_st {σ' : KS} (h : σ = σ') (k : K p l e R s m args below meth c Q D b nL ca sl sh σ' pc ls st) : K p l e R s m args below meth c Q D b nL ca sl sh σ pc ls st := h ▸ k
theorem K_sub {ls' : List (Nat × Value)} (ks : List Nat) (h : lv_pick ls ks = ls') (k : K p l e R s m args below meth c Q D b nL ca sl sh σ pc ls' st) : K p l e R s m args below meth c Q D b nL ca sl sh σ pc ls st := fun H locs lsA hR hS hl => k H locs lsA hR hS (lv_sub hl ks h)
theorem K_iconst (X : KX p s m meth c args D b cc nL ret own) {n : Int} {v : Int32} (d : decode cc pc = .ok (.iconst n, 1)) (hv : Int32.ofInt n = v) (k : K p l e R s m args below meth c Q D b nL ca sl sh σ (pc + 1) ls (.int v :: st)) : K p l e R s m args below meth c Q D b nL ca sl sh σ pc ls st := fun H locs lsA hR hS hl => lv_iconst X.1 X.2.1 d hv (k H locs lsA hR hS hl)
theorem K_bipush (X : KX p s m meth c args D b cc nL ret own) {n : Int} {v : Int32} (d : decode cc pc = .ok (.bipush n, 2)) (hv : (Int8.ofInt n).toInt32 = v) (k : K p l e R s m args below meth c Q D b nL ca sl sh σ (pc + 2) ls (.int v :: st)) : K p l e R s m args below meth c Q D b nL ca sl sh σ pc ls st := fun H locs lsA hR hS hl => lv_bipush X.1 X.2.1 d hv (k H locs lsA hR hS hl)
theorem K_sipush (X : KX p s m meth c args D b cc nL ret own) {n : Int} {v : Int32} (d : decode cc pc = .ok (.sipush n, 3)) (hv : (Int16.ofInt n).toInt32 = v) (k : K p l e R s m args below meth c Q D b nL ca sl sh σ (pc + 3) ls (.int v :: st)) : K p l e R s m args below meth c Q D b nL ca sl sh σ pc ls st := fun H locs lsA hR hS hl => lv_sipush X.1 X.2.1 d hv (k H locs lsA hR hS hl)
theorem K_lconst (X : KX p s m meth c args D b cc nL ret own) {n : Fin 2} {v : Int64} (d : decode cc pc = .ok (.lconst n, 1)) (hv : Int64.ofNat (n : Nat) = v) (k : K p l e R s m args below meth c Q D b nL ca sl sh σ (pc + 1) ls (.long v :: st)) : K p l e R s m args below meth c Q D b nL ca sl sh σ pc ls st := fun H locs lsA hR hS hl => lv_lconst X.1 X.2.1 d hv (k H locs lsA hR hS hl)
theorem K_ldc2 (X : KX p s m meth c args D b cc nL ret own) {index : Nat} {v : Int64} (hw : Cond.constantLong own index v ∈ wsL_law) (d : decode cc pc = .ok (.ldc2_w index, 3)) (k : K p l e R s m args below meth c Q D b nL ca sl sh σ (pc + 3) ls (.long v :: st)) : K p l e R s m args below meth c Q D b nL ca sl sh σ pc ls st := fun H locs lsA hR hS hl => lv_ldc2 X.1 X.2.1 X.2.2.2.1 (X.2.2.2.2.1 _ hw) d (k H locs lsA hR hS hl)
theorem K_null (X : KX p s m meth c args D b cc nL ret own) (d : decode cc pc = .ok (.aconst_null, 1)) (k : K p l e R s m args below meth c Q D b nL ca sl sh σ (pc + 1) ls (.null :: st)) : K p l e R s m args below meth c Q D b nL ca sl sh σ pc ls st := fun H locs lsA hR hS hl => lv_null X.1 X.2.1 d (k H locs lsA hR hS hl)
theorem K_iload_n (X : KX p s m meth c args D b cc nL ret own) (j : Nat) {q : Fin 4} {i : Nat} {x : Int32} (d : decode cc pc = .ok (.iload_n q, 1)) (hi : (q : Nat) = i) (h : ls[j]? = some (i, .int x)) (k : K p l e R s m args below meth c Q D b nL ca sl sh σ (pc + 1) ls (.int x :: st)) : K p l e R s m args below meth c Q D b nL ca sl sh σ pc ls st := fun H locs lsA hR hS hl => lv_iload_n X.1 X.2.1 d hi (lv_at hl j h) (k H locs lsA hR hS hl)
theorem K_iload (X : KX p s m meth c args D b cc nL ret own) (j : Nat) {i : Nat} {x : Int32} (d : decode cc pc = .ok (.iload i, 2)) (h : ls[j]? = some (i, .int x)) (k : K p l e R s m args below meth c Q D b nL ca sl sh σ (pc + 2) ls (.int x :: st)) : K p l e R s m args below meth c Q D b nL ca sl sh σ pc ls st := fun H locs lsA hR hS hl => lv_iload X.1 X.2.1 d (lv_at hl j h) (k H locs lsA hR hS hl)
theorem K_lload_n (X : KX p s m meth c args D b cc nL ret own) (j : Nat) {q : Fin 4} {i : Nat} {x : Int64} (d : decode cc pc = .ok (.lload_n q, 1)) (hi : (q : Nat) = i) (h : ls[j]? = some (i, .long x)) (k : K p l e R s m args below meth c Q D b nL ca sl sh σ (pc + 1) ls (.long x :: st)) : K p l e R s m args below meth c Q D b nL ca sl sh σ pc ls st := fun H locs lsA hR hS hl => lv_lload_n X.1 X.2.1 d hi (lv_at hl j h) (k H locs lsA hR hS hl)
theorem K_lload (X : KX p s m meth c args D b cc nL ret own) (j : Nat) {i : Nat} {x : Int64} (d : decode cc pc = .ok (.lload i, 2)) (h : ls[j]? = some (i, .long x)) (k : K p l e R s m args below meth c Q D b nL ca sl sh σ (pc + 2) ls (.long x :: st)) : K p l e R s m args below meth c Q D b nL ca sl sh σ pc ls st := fun H locs lsA hR hS hl => lv_lload X.1 X.2.1 d (lv_at hl j h) (k H locs lsA hR hS hl)
theorem K_aload_n (X : KX p s m meth c args D b cc nL ret own) (j : Nat) {q : Fin 4} {i x : Nat} (d : decode cc pc = .ok (.aload_n q, 1)) (hi : (q : Nat) = i) (h : ls[j]? = some (i, rf b x)) (k : K p l e R s m args below meth c Q D b nL ca sl sh σ (pc + 1) ls (rf b x :: st)) : K p l e R s m args below meth c Q D b nL ca sl sh σ pc ls st := fun H locs lsA hR hS hl => lv_aload_n X.1 X.2.1 d hi (lv_at hl j h) (k H locs lsA hR hS hl)
theorem K_aload (X : KX p s m meth c args D b cc nL ret own) (j : Nat) {i x : Nat} (d : decode cc pc = .ok (.aload i, 2)) (h : ls[j]? = some (i, rf b x)) (k : K p l e R s m args below meth c Q D b nL ca sl sh σ (pc + 2) ls (rf b x :: st)) : K p l e R s m args below meth c Q D b nL ca sl sh σ pc ls st := fun H locs lsA hR hS hl => lv_aload X.1 X.2.1 d (lv_at hl j h) (k H locs lsA hR hS hl)
theorem K_aload_nN (X : KX p s m meth c args D b cc nL ret own) (j : Nat) {q : Fin 4} {i : Nat} (d : decode cc pc = .ok (.aload_n q, 1)) (hi : (q : Nat) = i) (h : ls[j]? = some (i, .null)) (k : K p l e R s m args below meth c Q D b nL ca sl sh σ (pc + 1) ls (.null :: st)) : K p l e R s m args below meth c Q D b nL ca sl sh σ pc ls st := fun H locs lsA hR hS hl => lv_aload_nN X.1 X.2.1 d hi (lv_at hl j h) (k H locs lsA hR hS hl)
theorem K_aloadN (X : KX p s m meth c args D b cc nL ret own) (j : Nat) {i : Nat} (d : decode cc pc = .ok (.aload i, 2)) (h : ls[j]? = some (i, .null)) (k : K p l e R s m args below meth c Q D b nL ca sl sh σ (pc + 2) ls (.null :: st)) : K p l e R s m args below meth c Q D b nL ca sl sh σ pc ls st := fun H locs lsA hR hS hl => lv_aloadN X.1 X.2.1 d (lv_at hl j h) (k H locs lsA hR hS hl)
theorem K_istore_n (X : KX p s m meth c args D b cc nL ret own) {ls' : List (Nat × Value)} {q : Fin 4} {i : Nat} {x : Int32} (d : decode cc pc = .ok (.istore_n q, 1)) (hi : (q : Nat) = i) (hn : i < nL) (hl' : (i, Value.int x) :: ls.filter (fun q => !(q.1 == i) && !(q.1 + 1 == i && q.2.category == 2)) = ls') (k : K p l e R s m args below meth c Q D b nL ca sl sh σ (pc + 1) ls' st) : K p l e R s m args below meth c Q D b nL ca sl sh σ pc ls (.int x :: st) := fun H locs _ hR hS hl => lv_istore_n X.1 X.2.1 d hi hl hn hl' (fun lsB hB => k H locs lsB hR hS hB)
theorem K_istore (X : KX p s m meth c args D b cc nL ret own) {ls' : List (Nat × Value)} {i : Nat} {x : Int32} (d : decode cc pc = .ok (.istore i, 2)) (hn : i < nL) (hl' : (i, Value.int x) :: ls.filter (fun q => !(q.1 == i) && !(q.1 + 1 == i && q.2.category == 2)) = ls') (k : K p l e R s m args below meth c Q D b nL ca sl sh σ (pc + 2) ls' st) : K p l e R s m args below meth c Q D b nL ca sl sh σ pc ls (.int x :: st) := fun H locs _ hR hS hl => lv_istore X.1 X.2.1 d hl hn hl' (fun lsB hB => k H locs lsB hR hS hB)
theorem K_lstore_n (X : KX p s m meth c args D b cc nL ret own) {ls' : List (Nat × Value)} {q : Fin 4} {i : Nat} {x : Int64} (d : decode cc pc = .ok (.lstore_n q, 1)) (hi : (q : Nat) = i) (hn : i + 1 < nL) (hl' : (i, Value.long x) :: ls.filter (fun q => !(q.1 == i) && (!(q.1 == i + 1) && !(q.1 + 1 == i && q.2.category == 2))) = ls') (k : K p l e R s m args below meth c Q D b nL ca sl sh σ (pc + 1) ls' st) : K p l e R s m args below meth c Q D b nL ca sl sh σ pc ls (.long x :: st) := fun H locs _ hR hS hl => lv_lstore_n X.1 X.2.1 d hi hl hn hl' (fun lsB hB => k H locs lsB hR hS hB)
theorem K_lstore (X : KX p s m meth c args D b cc nL ret own) {ls' : List (Nat × Value)} {i : Nat} {x : Int64} (d : decode cc pc = .ok (.lstore i, 2)) (hn : i + 1 < nL) (hl' : (i, Value.long x) :: ls.filter (fun q => !(q.1 == i) && (!(q.1 == i + 1) && !(q.1 + 1 == i && q.2.category == 2))) = ls') (k : K p l e R s m args below meth c Q D b nL ca sl sh σ (pc + 2) ls' st) : K p l e R s m args below meth c Q D b nL ca sl sh σ pc ls (.long x :: st) := fun H locs _ hR hS hl => lv_lstore X.1 X.2.1 d hl hn hl' (fun lsB hB => k H locs lsB hR hS hB)
theorem K_astore_n (X : KX p s m meth c args D b cc nL ret own) {ls' : List (Nat × Value)} {q : Fin 4} {i x : Nat} (d : decode cc pc = .ok (.astore_n q, 1)) (hi : (q : Nat) = i) (hn : i < nL) (hl' : (i, rf b x) :: ls.filter (fun q => !(q.1 == i) && !(q.1 + 1 == i && q.2.category == 2)) = ls') (k : K p l e R s m args below meth c Q D b nL ca sl sh σ (pc + 1) ls' st) : K p l e R s m args below meth c Q D b nL ca sl sh σ pc ls (rf b x :: st) := fun H locs _ hR hS hl => lv_astore_n X.1 X.2.1 d hi hl hn hl' (fun lsB hB => k H locs lsB hR hS hB)
theorem K_astore (X : KX p s m meth c args D b cc nL ret own) {ls' : List (Nat × Value)} {i x : Nat} (d : decode cc pc = .ok (.astore i, 2)) (hn : i < nL) (hl' : (i, rf b x) :: ls.filter (fun q => !(q.1 == i) && !(q.1 + 1 == i && q.2.category == 2)) = ls') (k : K p l e R s m args below meth c Q D b nL ca sl sh σ (pc + 2) ls' st) : K p l e R s m args below meth c Q D b nL ca sl sh σ pc ls (rf b x :: st) := fun H locs _ hR hS hl => lv_astore X.1 X.2.1 d hl hn hl' (fun lsB hB => k H locs lsB hR hS hB)
theorem K_astore_nN (X : KX p s m meth c args D b cc nL ret own) {ls' : List (Nat × Value)} {q : Fin 4} {i : Nat} (d : decode cc pc = .ok (.astore_n q, 1)) (hi : (q : Nat) = i) (hn : i < nL) (hl' : (i, Value.null) :: ls.filter (fun q => !(q.1 == i) && !(q.1 + 1 == i && q.2.category == 2)) = ls') (k : K p l e R s m args below meth c Q D b nL ca sl sh σ (pc + 1) ls' st) : K p l e R s m args below meth c Q D b nL ca sl sh σ pc ls (.null :: st) := fun H locs _ hR hS hl => lv_astore_nN X.1 X.2.1 d hi hl hn hl' (fun lsB hB => k H locs lsB hR hS hB)
theorem K_astoreN (X : KX p s m meth c args D b cc nL ret own) {ls' : List (Nat × Value)} {i : Nat} (d : decode cc pc = .ok (.astore i, 2)) (hn : i < nL) (hl' : (i, Value.null) :: ls.filter (fun q => !(q.1 == i) && !(q.1 + 1 == i && q.2.category == 2)) = ls') (k : K p l e R s m args below meth c Q D b nL ca sl sh σ (pc + 2) ls' st) : K p l e R s m args below meth c Q D b nL ca sl sh σ pc ls (.null :: st) := fun H locs _ hR hS hl => lv_astoreN X.1 X.2.1 d hl hn hl' (fun lsB hB => k H locs lsB hR hS hB)
theorem K_iinc (X : KX p s m meth c args D b cc nL ret own) (j : Nat) {ls' : List (Nat × Value)} {i : Nat} {n : Int} {x v : Int32} (d : decode cc pc = .ok (.iinc i n, 3)) (hj : ls[j]? = some (i, .int x)) (hv : x + Int32.ofInt n = v) (hn : i < nL) (hl' : (i, Value.int v) :: ls.filter (fun q => !(q.1 == i) && !(q.1 + 1 == i && q.2.category == 2)) = ls') (k : K p l e R s m args below meth c Q D b nL ca sl sh σ (pc + 3) ls' st) : K p l e R s m args below meth c Q D b nL ca sl sh σ pc ls st := fun H locs _ hR hS hl => lv_iinc X.1 X.2.1 d hl hj hv hn hl' (fun lsB hB => k H locs lsB hR hS hB)
theorem K_iadd (X : KX p s m meth c args D b cc nL ret own) {x y : Int32} (d : decode cc pc = .ok (.iadd, 1)) (k : K p l e R s m args below meth c Q D b nL ca sl sh σ (pc + 1) ls (.int (x + y) :: st)) : K p l e R s m args below meth c Q D b nL ca sl sh σ pc ls (.int y :: .int x :: st) := fun H locs lsA hR hS hl => lv_iadd X.1 X.2.1 d (k H locs lsA hR hS hl)
theorem K_isub (X : KX p s m meth c args D b cc nL ret own) {x y : Int32} (d : decode cc pc = .ok (.isub, 1)) (k : K p l e R s m args below meth c Q D b nL ca sl sh σ (pc + 1) ls (.int (x - y) :: st)) : K p l e R s m args below meth c Q D b nL ca sl sh σ pc ls (.int y :: .int x :: st) := fun H locs lsA hR hS hl => lv_isub X.1 X.2.1 d (k H locs lsA hR hS hl)
theorem K_imul (X : KX p s m meth c args D b cc nL ret own) {x y : Int32} (d : decode cc pc = .ok (.imul, 1)) (k : K p l e R s m args below meth c Q D b nL ca sl sh σ (pc + 1) ls (.int (x * y) :: st)) : K p l e R s m args below meth c Q D b nL ca sl sh σ pc ls (.int y :: .int x :: st) := fun H locs lsA hR hS hl => lv_imul X.1 X.2.1 d (k H locs lsA hR hS hl)
theorem K_iand (X : KX p s m meth c args D b cc nL ret own) {x y : Int32} (d : decode cc pc = .ok (.iand, 1)) (k : K p l e R s m args below meth c Q D b nL ca sl sh σ (pc + 1) ls (.int (x &&& y) :: st)) : K p l e R s m args below meth c Q D b nL ca sl sh σ pc ls (.int y :: .int x :: st) := fun H locs lsA hR hS hl => lv_iand X.1 X.2.1 d (k H locs lsA hR hS hl)
theorem K_idiv (X : KX p s m meth c args D b cc nL ret own) {x y : Int32} (d : decode cc pc = .ok (.idiv, 1)) (hne : ¬ y = 0) (k : K p l e R s m args below meth c Q D b nL ca sl sh σ (pc + 1) ls (.int (x / y) :: st)) : K p l e R s m args below meth c Q D b nL ca sl sh σ pc ls (.int y :: .int x :: st) := fun H locs lsA hR hS hl => lv_idiv X.1 X.2.1 d hne (k H locs lsA hR hS hl)
theorem K_irem (X : KX p s m meth c args D b cc nL ret own) {x y : Int32} (d : decode cc pc = .ok (.irem, 1)) (hne : ¬ y = 0) (k : K p l e R s m args below meth c Q D b nL ca sl sh σ (pc + 1) ls (.int (x - x / y * y) :: st)) : K p l e R s m args below meth c Q D b nL ca sl sh σ pc ls (.int y :: .int x :: st) := fun H locs lsA hR hS hl => lv_irem X.1 X.2.1 d hne (k H locs lsA hR hS hl)
theorem K_ladd (X : KX p s m meth c args D b cc nL ret own) {x y : Int64} (d : decode cc pc = .ok (.ladd, 1)) (k : K p l e R s m args below meth c Q D b nL ca sl sh σ (pc + 1) ls (.long (x + y) :: st)) : K p l e R s m args below meth c Q D b nL ca sl sh σ pc ls (.long y :: .long x :: st) := fun H locs lsA hR hS hl => lv_ladd X.1 X.2.1 d (k H locs lsA hR hS hl)
theorem K_lmul (X : KX p s m meth c args D b cc nL ret own) {x y : Int64} (d : decode cc pc = .ok (.lmul, 1)) (k : K p l e R s m args below meth c Q D b nL ca sl sh σ (pc + 1) ls (.long (x * y) :: st)) : K p l e R s m args below meth c Q D b nL ca sl sh σ pc ls (.long y :: .long x :: st) := fun H locs lsA hR hS hl => lv_lmul X.1 X.2.1 d (k H locs lsA hR hS hl)
theorem K_lcmp (X : KX p s m meth c args D b cc nL ret own) {x y : Int64} (d : decode cc pc = .ok (.lcmp, 1)) (k : K p l e R s m args below meth c Q D b nL ca sl sh σ (pc + 1) ls (.int (lg_cmp x y) :: st)) : K p l e R s m args below meth c Q D b nL ca sl sh σ pc ls (.long y :: .long x :: st) := fun H locs lsA hR hS hl => W.lcmp X.1 X.2.1 d (k H locs lsA hR hS hl)
theorem K_iaddN (X : KX p s m meth c args D b cc nL ret own) {x y : Nat} (d : decode cc pc = .ok (.iadd, 1)) (k : K p l e R s m args below meth c Q D b nL ca sl sh σ (pc + 1) ls (.int (nI (x + y)) :: st)) : K p l e R s m args below meth c Q D b nL ca sl sh σ pc ls (.int (nI y) :: .int (nI x) :: st) := K_iadd X d (by rw [nI_add]; exact k)
theorem K_imulN (X : KX p s m meth c args D b cc nL ret own) {x y : Nat} (d : decode cc pc = .ok (.imul, 1)) (k : K p l e R s m args below meth c Q D b nL ca sl sh σ (pc + 1) ls (.int (nI (x * y)) :: st)) : K p l e R s m args below meth c Q D b nL ca sl sh σ pc ls (.int (nI y) :: .int (nI x) :: st) := K_imul X d (by rw [pk_mul]; exact k)
theorem K_isubN (X : KX p s m meth c args D b cc nL ret own) {x y : Nat} (d : decode cc pc = .ok (.isub, 1)) (h : y ≤ x) (k : K p l e R s m args below meth c Q D b nL ca sl sh σ (pc + 1) ls (.int (nI (x - y)) :: st)) : K p l e R s m args below meth c Q D b nL ca sl sh σ pc ls (.int (nI y) :: .int (nI x) :: st) := K_isub X d (by rw [pk_sub h]; exact k)
theorem K_idivN (X : KX p s m meth c args D b cc nL ret own) {x y : Nat} (d : decode cc pc = .ok (.idiv, 1)) (hx : x < 2 ^ 31) (h0 : 0 < y) (hy : y < 2 ^ 31) (k : K p l e R s m args below meth c Q D b nL ca sl sh σ (pc + 1) ls (.int (nI (x / y)) :: st)) : K p l e R s m args below meth c Q D b nL ca sl sh σ pc ls (.int (nI y) :: .int (nI x) :: st) := K_idiv X d (nI_ne0 h0 hy) (by rw [pk_div hx h0 hy]; exact k)
theorem K_iremN (X : KX p s m meth c args D b cc nL ret own) {x y : Nat} (d : decode cc pc = .ok (.irem, 1)) (hx : x < 2 ^ 31) (h0 : 0 < y) (hy : y < 2 ^ 31) (k : K p l e R s m args below meth c Q D b nL ca sl sh σ (pc + 1) ls (.int (nI (x % y)) :: st)) : K p l e R s m args below meth c Q D b nL ca sl sh σ pc ls (.int (nI y) :: .int (nI x) :: st) := K_irem X d (nI_ne0 h0 hy) (by rw [pk_rem hx h0 hy]; exact k)
theorem K_laddN (X : KX p s m meth c args D b cc nL ret own) {x y : Nat} (d : decode cc pc = .ok (.ladd, 1)) (k : K p l e R s m args below meth c Q D b nL ca sl sh σ (pc + 1) ls (.long (lN (x + y)) :: st)) : K p l e R s m args below meth c Q D b nL ca sl sh σ pc ls (.long (lN y) :: .long (lN x) :: st) := K_ladd X d (by rw [lN_add]; exact k)
theorem K_i2l (X : KX p s m meth c args D b cc nL ret own) {x : Int32} (d : decode cc pc = .ok (.i2l, 1)) (k : K p l e R s m args below meth c Q D b nL ca sl sh σ (pc + 1) ls (.long x.toInt64 :: st)) : K p l e R s m args below meth c Q D b nL ca sl sh σ pc ls (.int x :: st) := fun H locs lsA hR hS hl => lv_i2l X.1 X.2.1 d rfl (k H locs lsA hR hS hl)
theorem K_i2lN (X : KX p s m meth c args D b cc nL ret own) {x : Nat} (d : decode cc pc = .ok (.i2l, 1)) (h : x < 2 ^ 31) (k : K p l e R s m args below meth c Q D b nL ca sl sh σ (pc + 1) ls (.long (lN x) :: st)) : K p l e R s m args below meth c Q D b nL ca sl sh σ pc ls (.int (nI x) :: st) := K_i2l X d (by rw [nI_l h]; exact k)
theorem K_i2c (X : KX p s m meth c args D b cc nL ret own) {x : Int32} (d : decode cc pc = .ok (.i2c, 1)) (k : K p l e R s m args below meth c Q D b nL ca sl sh σ (pc + 1) ls (.int (x.toUInt32 % 65536).toInt32 :: st)) : K p l e R s m args below meth c Q D b nL ca sl sh σ pc ls (.int x :: st) := fun H locs lsA hR hS hl => lv_i2c X.1 X.2.1 d rfl (k H locs lsA hR hS hl)
theorem K_dup (X : KX p s m meth c args D b cc nL ret own) {v : Value} (d : decode cc pc = .ok (.dup, 1)) (hc : v.category = 1) (k : K p l e R s m args below meth c Q D b nL ca sl sh σ (pc + 1) ls (v :: v :: st)) : K p l e R s m args below meth c Q D b nL ca sl sh σ pc ls (v :: st) := fun H locs lsA hR hS hl => lv_dup X.1 X.2.1 d hc (k H locs lsA hR hS hl)
theorem K_dup2 (X : KX p s m meth c args D b cc nL ret own) {v w : Value} (d : decode cc pc = .ok (.dup2, 1)) (hc : v.category = 1) (hd : w.category = 1) (k : K p l e R s m args below meth c Q D b nL ca sl sh σ (pc + 1) ls (v :: w :: v :: w :: st)) : K p l e R s m args below meth c Q D b nL ca sl sh σ pc ls (v :: w :: st) := fun H locs lsA hR hS hl => lv_dup2_11 X.1 X.2.1 d hc hd (k H locs lsA hR hS hl)
theorem K_pop (X : KX p s m meth c args D b cc nL ret own) {v : Value} (d : decode cc pc = .ok (.pop, 1)) (hc : v.category = 1) (k : K p l e R s m args below meth c Q D b nL ca sl sh σ (pc + 1) ls st) : K p l e R s m args below meth c Q D b nL ca sl sh σ pc ls (v :: st) := fun H locs lsA hR hS hl => lv_pop X.1 X.2.1 d hc (k H locs lsA hR hS hl)
theorem K_goto (X : KX p s m meth c args D b cc nL ret own) {off : Int} {tgt : Nat} (d : decode cc pc = .ok (.goto off, 3)) (ht : (pc : Int) + off = (tgt : Int)) (k : K p l e R s m args below meth c Q D b nL ca sl sh σ tgt ls st) : K p l e R s m args below meth c Q D b nL ca sl sh σ pc ls st := fun H locs lsA hR hS hl => lv_goto X.1 X.2.1 d ht (k H locs lsA hR hS hl)
theorem K_icmp_eq (X : KX p s m meth c args D b cc nL ret own) {x y : Int32} {off : Int} {tgt : Nat} (d : decode cc pc = .ok (.if_icmp .eq off, 3)) (ht : (pc : Int) + off = (tgt : Int)) (kt : x = y → K p l e R s m args below meth c Q D b nL ca sl sh σ tgt ls st) (kf : ¬ x = y → K p l e R s m args below meth c Q D b nL ca sl sh σ (pc + 3) ls st) : K p l e R s m args below meth c Q D b nL ca sl sh σ pc ls (.int y :: .int x :: st) := fun H locs lsA hR hS hl => lv_icmp_eq X.1 X.2.1 d ht (fun z => kt z H locs lsA hR hS hl) (fun z => kf z H locs lsA hR hS hl)
theorem K_icmpN_eq (X : KX p s m meth c args D b cc nL ret own) {x y : Nat} {off : Int} {tgt : Nat} (d : decode cc pc = .ok (.if_icmp .eq off, 3)) (ht : (pc : Int) + off = (tgt : Int)) (hx : x < 2 ^ 31) (hy : y < 2 ^ 31) (kt : x = y → K p l e R s m args below meth c Q D b nL ca sl sh σ tgt ls st) (kf : ¬ x = y → K p l e R s m args below meth c Q D b nL ca sl sh σ (pc + 3) ls st) : K p l e R s m args below meth c Q D b nL ca sl sh σ pc ls (.int (nI y) :: .int (nI x) :: st) := K_icmp_eq X d ht (fun z => kt ((nI_eq hx hy).mp z)) (fun z => kf (fun q => z (by rw [q])))
theorem K_if_eq (X : KX p s m meth c args D b cc nL ret own) {x : Int32} {off : Int} {tgt : Nat} (d : decode cc pc = .ok (.ifCond .eq off, 3)) (ht : (pc : Int) + off = (tgt : Int)) (kt : x = 0 → K p l e R s m args below meth c Q D b nL ca sl sh σ tgt ls st) (kf : ¬ x = 0 → K p l e R s m args below meth c Q D b nL ca sl sh σ (pc + 3) ls st) : K p l e R s m args below meth c Q D b nL ca sl sh σ pc ls (.int x :: st) := fun H locs lsA hR hS hl => lv_if_eq X.1 X.2.1 d ht (fun z => kt z H locs lsA hR hS hl) (fun z => kf z H locs lsA hR hS hl)
theorem K_icmp_ne (X : KX p s m meth c args D b cc nL ret own) {x y : Int32} {off : Int} {tgt : Nat} (d : decode cc pc = .ok (.if_icmp .ne off, 3)) (ht : (pc : Int) + off = (tgt : Int)) (kt : ¬ x = y → K p l e R s m args below meth c Q D b nL ca sl sh σ tgt ls st) (kf : x = y → K p l e R s m args below meth c Q D b nL ca sl sh σ (pc + 3) ls st) : K p l e R s m args below meth c Q D b nL ca sl sh σ pc ls (.int y :: .int x :: st) := fun H locs lsA hR hS hl => lv_icmp_ne X.1 X.2.1 d ht (fun z => kt z H locs lsA hR hS hl) (fun z => kf z H locs lsA hR hS hl)
theorem K_icmpN_ne (X : KX p s m meth c args D b cc nL ret own) {x y : Nat} {off : Int} {tgt : Nat} (d : decode cc pc = .ok (.if_icmp .ne off, 3)) (ht : (pc : Int) + off = (tgt : Int)) (hx : x < 2 ^ 31) (hy : y < 2 ^ 31) (kt : ¬ x = y → K p l e R s m args below meth c Q D b nL ca sl sh σ tgt ls st) (kf : x = y → K p l e R s m args below meth c Q D b nL ca sl sh σ (pc + 3) ls st) : K p l e R s m args below meth c Q D b nL ca sl sh σ pc ls (.int (nI y) :: .int (nI x) :: st) := K_icmp_ne X d ht (fun z => kt (fun q => z (by rw [q]))) (fun z => kf ((nI_eq hx hy).mp z))
theorem K_if_ne (X : KX p s m meth c args D b cc nL ret own) {x : Int32} {off : Int} {tgt : Nat} (d : decode cc pc = .ok (.ifCond .ne off, 3)) (ht : (pc : Int) + off = (tgt : Int)) (kt : ¬ x = 0 → K p l e R s m args below meth c Q D b nL ca sl sh σ tgt ls st) (kf : x = 0 → K p l e R s m args below meth c Q D b nL ca sl sh σ (pc + 3) ls st) : K p l e R s m args below meth c Q D b nL ca sl sh σ pc ls (.int x :: st) := fun H locs lsA hR hS hl => lv_if_ne X.1 X.2.1 d ht (fun z => kt z H locs lsA hR hS hl) (fun z => kf z H locs lsA hR hS hl)
theorem K_icmp_lt (X : KX p s m meth c args D b cc nL ret own) {x y : Int32} {off : Int} {tgt : Nat} (d : decode cc pc = .ok (.if_icmp .lt off, 3)) (ht : (pc : Int) + off = (tgt : Int)) (kt : x < y → K p l e R s m args below meth c Q D b nL ca sl sh σ tgt ls st) (kf : ¬ x < y → K p l e R s m args below meth c Q D b nL ca sl sh σ (pc + 3) ls st) : K p l e R s m args below meth c Q D b nL ca sl sh σ pc ls (.int y :: .int x :: st) := fun H locs lsA hR hS hl => lv_icmp_lt X.1 X.2.1 d ht (fun z => kt z H locs lsA hR hS hl) (fun z => kf z H locs lsA hR hS hl)
theorem K_icmpN_lt (X : KX p s m meth c args D b cc nL ret own) {x y : Nat} {off : Int} {tgt : Nat} (d : decode cc pc = .ok (.if_icmp .lt off, 3)) (ht : (pc : Int) + off = (tgt : Int)) (hx : x < 2 ^ 31) (hy : y < 2 ^ 31) (kt : x < y → K p l e R s m args below meth c Q D b nL ca sl sh σ tgt ls st) (kf : ¬ x < y → K p l e R s m args below meth c Q D b nL ca sl sh σ (pc + 3) ls st) : K p l e R s m args below meth c Q D b nL ca sl sh σ pc ls (.int (nI y) :: .int (nI x) :: st) := K_icmp_lt X d ht (fun z => kt ((nI_ltI hx hy).mp z)) (fun z => kf (fun q => z ((nI_ltI hx hy).mpr q)))
theorem K_if_lt (X : KX p s m meth c args D b cc nL ret own) {x : Int32} {off : Int} {tgt : Nat} (d : decode cc pc = .ok (.ifCond .lt off, 3)) (ht : (pc : Int) + off = (tgt : Int)) (kt : x < 0 → K p l e R s m args below meth c Q D b nL ca sl sh σ tgt ls st) (kf : ¬ x < 0 → K p l e R s m args below meth c Q D b nL ca sl sh σ (pc + 3) ls st) : K p l e R s m args below meth c Q D b nL ca sl sh σ pc ls (.int x :: st) := fun H locs lsA hR hS hl => lv_if_lt X.1 X.2.1 d ht (fun z => kt z H locs lsA hR hS hl) (fun z => kf z H locs lsA hR hS hl)
theorem K_icmp_ge (X : KX p s m meth c args D b cc nL ret own) {x y : Int32} {off : Int} {tgt : Nat} (d : decode cc pc = .ok (.if_icmp .ge off, 3)) (ht : (pc : Int) + off = (tgt : Int)) (kt : y ≤ x → K p l e R s m args below meth c Q D b nL ca sl sh σ tgt ls st) (kf : ¬ y ≤ x → K p l e R s m args below meth c Q D b nL ca sl sh σ (pc + 3) ls st) : K p l e R s m args below meth c Q D b nL ca sl sh σ pc ls (.int y :: .int x :: st) := fun H locs lsA hR hS hl => lv_icmp_ge X.1 X.2.1 d ht (fun z => kt z H locs lsA hR hS hl) (fun z => kf z H locs lsA hR hS hl)
theorem K_icmpN_ge (X : KX p s m meth c args D b cc nL ret own) {x y : Nat} {off : Int} {tgt : Nat} (d : decode cc pc = .ok (.if_icmp .ge off, 3)) (ht : (pc : Int) + off = (tgt : Int)) (hx : x < 2 ^ 31) (hy : y < 2 ^ 31) (kt : y ≤ x → K p l e R s m args below meth c Q D b nL ca sl sh σ tgt ls st) (kf : ¬ y ≤ x → K p l e R s m args below meth c Q D b nL ca sl sh σ (pc + 3) ls st) : K p l e R s m args below meth c Q D b nL ca sl sh σ pc ls (.int (nI y) :: .int (nI x) :: st) := K_icmp_ge X d ht (fun z => kt ((nI_leI hy hx).mp z)) (fun z => kf (fun q => z ((nI_leI hy hx).mpr q)))
theorem K_if_ge (X : KX p s m meth c args D b cc nL ret own) {x : Int32} {off : Int} {tgt : Nat} (d : decode cc pc = .ok (.ifCond .ge off, 3)) (ht : (pc : Int) + off = (tgt : Int)) (kt : 0 ≤ x → K p l e R s m args below meth c Q D b nL ca sl sh σ tgt ls st) (kf : ¬ 0 ≤ x → K p l e R s m args below meth c Q D b nL ca sl sh σ (pc + 3) ls st) : K p l e R s m args below meth c Q D b nL ca sl sh σ pc ls (.int x :: st) := fun H locs lsA hR hS hl => lv_if_ge X.1 X.2.1 d ht (fun z => kt z H locs lsA hR hS hl) (fun z => kf z H locs lsA hR hS hl)
theorem K_icmp_gt (X : KX p s m meth c args D b cc nL ret own) {x y : Int32} {off : Int} {tgt : Nat} (d : decode cc pc = .ok (.if_icmp .gt off, 3)) (ht : (pc : Int) + off = (tgt : Int)) (kt : y < x → K p l e R s m args below meth c Q D b nL ca sl sh σ tgt ls st) (kf : ¬ y < x → K p l e R s m args below meth c Q D b nL ca sl sh σ (pc + 3) ls st) : K p l e R s m args below meth c Q D b nL ca sl sh σ pc ls (.int y :: .int x :: st) := fun H locs lsA hR hS hl => lv_icmp_gt X.1 X.2.1 d ht (fun z => kt z H locs lsA hR hS hl) (fun z => kf z H locs lsA hR hS hl)
theorem K_icmpN_gt (X : KX p s m meth c args D b cc nL ret own) {x y : Nat} {off : Int} {tgt : Nat} (d : decode cc pc = .ok (.if_icmp .gt off, 3)) (ht : (pc : Int) + off = (tgt : Int)) (hx : x < 2 ^ 31) (hy : y < 2 ^ 31) (kt : y < x → K p l e R s m args below meth c Q D b nL ca sl sh σ tgt ls st) (kf : ¬ y < x → K p l e R s m args below meth c Q D b nL ca sl sh σ (pc + 3) ls st) : K p l e R s m args below meth c Q D b nL ca sl sh σ pc ls (.int (nI y) :: .int (nI x) :: st) := K_icmp_gt X d ht (fun z => kt ((nI_ltI hy hx).mp z)) (fun z => kf (fun q => z ((nI_ltI hy hx).mpr q)))
theorem K_if_gt (X : KX p s m meth c args D b cc nL ret own) {x : Int32} {off : Int} {tgt : Nat} (d : decode cc pc = .ok (.ifCond .gt off, 3)) (ht : (pc : Int) + off = (tgt : Int)) (kt : 0 < x → K p l e R s m args below meth c Q D b nL ca sl sh σ tgt ls st) (kf : ¬ 0 < x → K p l e R s m args below meth c Q D b nL ca sl sh σ (pc + 3) ls st) : K p l e R s m args below meth c Q D b nL ca sl sh σ pc ls (.int x :: st) := fun H locs lsA hR hS hl => lv_if_gt X.1 X.2.1 d ht (fun z => kt z H locs lsA hR hS hl) (fun z => kf z H locs lsA hR hS hl)
theorem K_icmp_le (X : KX p s m meth c args D b cc nL ret own) {x y : Int32} {off : Int} {tgt : Nat} (d : decode cc pc = .ok (.if_icmp .le off, 3)) (ht : (pc : Int) + off = (tgt : Int)) (kt : x ≤ y → K p l e R s m args below meth c Q D b nL ca sl sh σ tgt ls st) (kf : ¬ x ≤ y → K p l e R s m args below meth c Q D b nL ca sl sh σ (pc + 3) ls st) : K p l e R s m args below meth c Q D b nL ca sl sh σ pc ls (.int y :: .int x :: st) := fun H locs lsA hR hS hl => lv_icmp_le X.1 X.2.1 d ht (fun z => kt z H locs lsA hR hS hl) (fun z => kf z H locs lsA hR hS hl)
theorem K_icmpN_le (X : KX p s m meth c args D b cc nL ret own) {x y : Nat} {off : Int} {tgt : Nat} (d : decode cc pc = .ok (.if_icmp .le off, 3)) (ht : (pc : Int) + off = (tgt : Int)) (hx : x < 2 ^ 31) (hy : y < 2 ^ 31) (kt : x ≤ y → K p l e R s m args below meth c Q D b nL ca sl sh σ tgt ls st) (kf : ¬ x ≤ y → K p l e R s m args below meth c Q D b nL ca sl sh σ (pc + 3) ls st) : K p l e R s m args below meth c Q D b nL ca sl sh σ pc ls (.int (nI y) :: .int (nI x) :: st) := K_icmp_le X d ht (fun z => kt ((nI_leI hx hy).mp z)) (fun z => kf (fun q => z ((nI_leI hx hy).mpr q)))
theorem K_if_le (X : KX p s m meth c args D b cc nL ret own) {x : Int32} {off : Int} {tgt : Nat} (d : decode cc pc = .ok (.ifCond .le off, 3)) (ht : (pc : Int) + off = (tgt : Int)) (kt : x ≤ 0 → K p l e R s m args below meth c Q D b nL ca sl sh σ tgt ls st) (kf : ¬ x ≤ 0 → K p l e R s m args below meth c Q D b nL ca sl sh σ (pc + 3) ls st) : K p l e R s m args below meth c Q D b nL ca sl sh σ pc ls (.int x :: st) := fun H locs lsA hR hS hl => lv_if_le X.1 X.2.1 d ht (fun z => kt z H locs lsA hR hS hl) (fun z => kf z H locs lsA hR hS hl)
def kB (b : Bool) : Int32 := if b = true then 1 else 0
theorem kB_0 {b : Bool} : kB b = 0 ↔ b = false := by cases b <;> decide
theorem K_ifB_eq (X : KX p s m meth c args D b cc nL ret own) {t : Bool} {off : Int} {tgt : Nat} (d : decode cc pc = .ok (.ifCond .eq off, 3)) (ht : (pc : Int) + off = (tgt : Int)) (kt : t = false → K p l e R s m args below meth c Q D b nL ca sl sh σ tgt ls st) (kf : t = true → K p l e R s m args below meth c Q D b nL ca sl sh σ (pc + 3) ls st) : K p l e R s m args below meth c Q D b nL ca sl sh σ pc ls (.int (kB t) :: st) := K_if_eq X d ht (fun z => kt (kB_0.mp z)) (fun z => kf (by cases t; exact absurd rfl z; rfl))
theorem K_ifB_ne (X : KX p s m meth c args D b cc nL ret own) {t : Bool} {off : Int} {tgt : Nat} (d : decode cc pc = .ok (.ifCond .ne off, 3)) (ht : (pc : Int) + off = (tgt : Int)) (kt : t = true → K p l e R s m args below meth c Q D b nL ca sl sh σ tgt ls st) (kf : t = false → K p l e R s m args below meth c Q D b nL ca sl sh σ (pc + 3) ls st) : K p l e R s m args below meth c Q D b nL ca sl sh σ pc ls (.int (kB t) :: st) := K_if_ne X d ht (fun z => kt (by cases t; exact absurd rfl z; rfl)) (fun z => kf (kB_0.mp z))
theorem K_ifnull (X : KX p s m meth c args D b cc nL ret own) {x : Nat} {off : Int} {tgt : Nat} (d : decode cc pc = .ok (.ifnull off, 3)) (ht : (pc : Int) + off = (tgt : Int)) (k : K p l e R s m args below meth c Q D b nL ca sl sh σ (pc + 3) ls st) : K p l e R s m args below meth c Q D b nL ca sl sh σ pc ls (rf b x :: st) := fun H locs lsA hR hS hl => lv_ifnull X.1 X.2.1 d (k H locs lsA hR hS hl)
theorem K_ifnonnull (X : KX p s m meth c args D b cc nL ret own) {x : Nat} {off : Int} {tgt : Nat} (d : decode cc pc = .ok (.ifnonnull off, 3)) (ht : (pc : Int) + off = (tgt : Int)) (k : K p l e R s m args below meth c Q D b nL ca sl sh σ tgt ls st) : K p l e R s m args below meth c Q D b nL ca sl sh σ pc ls (rf b x :: st) := fun H locs lsA hR hS hl => lv_ifnonnull X.1 X.2.1 d ht (k H locs lsA hR hS hl)
theorem K_ifnullN (X : KX p s m meth c args D b cc nL ret own) {off : Int} {tgt : Nat} (d : decode cc pc = .ok (.ifnull off, 3)) (ht : (pc : Int) + off = (tgt : Int)) (k : K p l e R s m args below meth c Q D b nL ca sl sh σ tgt ls st) : K p l e R s m args below meth c Q D b nL ca sl sh σ pc ls (.null :: st) := fun H locs lsA hR hS hl => lv_ifnullN X.1 X.2.1 d ht (k H locs lsA hR hS hl)
theorem K_ifnonnullN (X : KX p s m meth c args D b cc nL ret own) {off : Int} {tgt : Nat} (d : decode cc pc = .ok (.ifnonnull off, 3)) (ht : (pc : Int) + off = (tgt : Int)) (k : K p l e R s m args below meth c Q D b nL ca sl sh σ (pc + 3) ls st) : K p l e R s m args below meth c Q D b nL ca sl sh σ pc ls (.null :: st) := fun H locs lsA hR hS hl => lv_ifnonnullN X.1 X.2.1 d (k H locs lsA hR hS hl)
theorem K_tabIn (X : KX p s m meth c args D b cc nL ret own) {dflt lo hi : Int} {offs : Array Int} {len : Nat} {x : Int32} {off : Int} {tgt : Nat} (d : decode cc pc = .ok (.tableswitch dflt lo hi offs, len)) (h1 : ¬ x.toInt < lo) (h2 : ¬ hi < x.toInt) (ho : offs[(x.toInt - lo).toNat]? = some off) (ht : (pc : Int) + off = (tgt : Int)) (k : K p l e R s m args below meth c Q D b nL ca sl sh σ tgt ls st) : K p l e R s m args below meth c Q D b nL ca sl sh σ pc ls (.int x :: st) := fun H locs lsA hR hS hl => lv_tableIn X.1 X.2.1 d h1 h2 ho ht (k H locs lsA hR hS hl)
theorem K_tabOut (X : KX p s m meth c args D b cc nL ret own) {dflt lo hi : Int} {offs : Array Int} {len : Nat} {x : Int32} {tgt : Nat} (d : decode cc pc = .ok (.tableswitch dflt lo hi offs, len)) (h : x.toInt < lo ∨ hi < x.toInt) (ht : (pc : Int) + dflt = (tgt : Int)) (k : K p l e R s m args below meth c Q D b nL ca sl sh σ tgt ls st) : K p l e R s m args below meth c Q D b nL ca sl sh σ pc ls (.int x :: st) := fun H locs lsA hR hS hl => lv_tableOut X.1 X.2.1 d h ht (k H locs lsA hR hS hl)
theorem K_lookup (X : KX p s m meth c args D b cc nL ret own) {dflt : Int} {ps : Array (Int × Int)} {len : Nat} {x : Int32} {off : Int} {tgt : Nat} (d : decode cc pc = .ok (.lookupswitch dflt ps, len)) (hp : (ps.toList.zip (ps.toList.drop 1)).all (fun (a, next) => a.1 < next.1) = true) (ho : Op.lookupswitch.offset ps.toList dflt x.toInt = off) (ht : (pc : Int) + off = (tgt : Int)) (k : K p l e R s m args below meth c Q D b nL ca sl sh σ tgt ls st) : K p l e R s m args below meth c Q D b nL ca sl sh σ pc ls (.int x :: st) := fun H locs lsA hR hS hl => lv_lookup X.1 X.2.1 d hp ho ht (k H locs lsA hR hS hl)
/-- a field is read -/
theorem K_get (X : KX p s m meth c args D b cc nL ret own) {ci a index : Nat} {C ref : String} {T : u_T} {N : Nat} (k : Nat) (F : kFd ci) (hc : vwCl[ci]? = some (C, T, N)) (hk : k < N) (hs : sh[a]? = some (.inl ci)) (hw : Cond.fieldLink own index ref (T k).2.1 (T k).2.2.1 ∈ wsL_law) (hr : (T k).1 = ref) {v : Value} (hv : kv b (kTy ci k) σ a k = v) (d : decode cc pc = .ok (.getfield index, 3))
    (kk : K p l e R s m args below meth c Q D b nL ca sl sh σ (pc + 3) ls (v :: st)) : K p l e R s m args below meth c Q D b nL ca sl sh σ pc ls (rf b a :: st) := by
  intro H locs lsA hR hS hl
  obtain ⟨r, h1, cell, q1, q2, q3, q4⟩ := hR.2 a _ hs
  have hr2 : r = (C, T, N) := Option.some.inj (h1.symm.trans hc)
  subst hr2
  obtain ⟨F1, F2, F3⟩ := F _ hc
  obtain ⟨hSl, hfc, kC, hkC, hkind⟩ := X.2.2.2.2.2.1.1 ci _ hc
  obtain ⟨cf, kf, fi, f, hi, hsl⟩ := hSl k hk
  subst hr
  refine W.getf X.1 X.2.1 X.2.2.2.1 (X.2.2.2.2.1 _ hw) hi (u_facts hfc hkC (u_lays X.2.2.2.2.1 F1 hk) hi).1 q1 (by rw [q3]; exact fun h => by cases h) (v := v) ?_ rfl rfl d (kk H locs lsA hR hS hl)
  rw [hsl, q4 k hk]
  exact congrArg some hv
theorem kap {s : State} {args : Array Value} {D : KD} (hts : ∀ w ∈ wsL_law, w.before args s = true) (hK : KK D s) {ci : Nat} (F : kFd ci) {r : vw_C} (hc : vwCl[ci]? = some r) : ∀ x y, x < r.2.2 → y < r.2.2 → x ≠ y → (D.2.1 ci) x ≠ (D.2.1 ci) y := by
  intro x y hx hy hne
  obtain ⟨F1, F2, F3⟩ := F _ hc
  obtain ⟨hS, -⟩ := hK.1 ci _ hc
  obtain ⟨_, _, _, fa, hia, ea⟩ := hS x hx
  obtain ⟨_, _, _, fb, hib, eb⟩ := hS y hy
  rw [← ea, ← eb]
  refine u_apart (u_lays hts F1 hx) (u_lays hts F1 hy) hia hib ?_
  rw [(State.fieldFound?_type hia (F2 x hx)).1, (State.fieldFound?_type hib (F2 y hy)).1]
  exact F3 x hx y hy hne
/-- a field is written: the state σ' has the new value there, and all else as σ -/
theorem K_put (X : KX p s m meth c args D b cc nL ret own) {σ' : KS} {ci a index : Nat} {C ref : String} {T : u_T} {N : Nat} (k : Nat) (F : kFd ci) (hc : vwCl[ci]? = some (C, T, N)) (hk : k < N) (hs : sh[a]? = some (.inl ci)) (hw : Cond.fieldLink own index ref (T k).2.1 (T k).2.2.1 ∈ wsL_law) (hr : (T k).1 = ref)
    (hfin : (T k).2.2.2 = false ∨ ((T k).2.2.2 = true ∧ meth.name = "<init>" ∧ (T k).1 = own)) {v : Value} (hn : narrow (kTy ci k) v = v) (hfit : fits (kTy ci k) v = true) (hv : kv b (kTy ci k) σ' a k = v) (hsame : ∀ j, j < N → j ≠ k → kv b (kTy ci j) σ' a j = kv b (kTy ci j) σ a j) (hoth : ∀ x, x ≠ a → σ'.1 x = σ.1 x ∧ σ'.2.1 x = σ.2.1 x ∧ σ'.2.2 x = σ.2.2 x) (d : decode cc pc = .ok (.putfield index, 3))
    (kk : K p l e R s m args below meth c Q D b nL ca sl sh σ' (pc + 3) ls st) : K p l e R s m args below meth c Q D b nL ca sl sh σ pc ls (v :: rf b a :: st) := by
  intro H locs lsA hR hS hl
  have hap := kap X.2.2.2.2.1 X.2.2.2.2.2.1 F hc
  obtain ⟨r, h1, cell, q1, q2, q3, q4⟩ := hR.2 a _ hs
  have hr2 : r = (C, T, N) := Option.some.inj (h1.symm.trans hc)
  subst hr2
  obtain ⟨F1, F2, F3⟩ := F _ hc
  obtain ⟨hSl, hfc, kC, hkC, hkind⟩ := X.2.2.2.2.2.1.1 ci _ hc
  obtain ⟨cf, kf, fi, f, hi, hsl⟩ := hSl k hk
  subst hr
  have hst := (u_facts hfc hkC (u_lays X.2.2.2.2.1 F1 hk) hi).1
  have fin : ∀ H' : Heap, H'[b + a]? = some (cell.setSlot f.slot v) → H'.size = H.size → (∀ q, q ≠ b + a → H'[q]? = H[q]?) → W p l e R s m args below meth c H' (locs ++ [⟨b + a, f.slot⟩]) ca sl Q { (F0 m pc lsA (v :: rf b a :: st)) with pc := pc + 3, stack := st } := by
    intro H' e1 e2 e3
    refine kk H' _ lsA (hR.put hs e2 e3 ⟨_, hc, ?_⟩ hoth) (hS.put e2 e3 (Nat.le_add_right b a)) hl
    rw [hsl] at e1
    refine t_OB.to (V := updV (fun j => kv b (kTy ci j) σ a j) k v) ⟨_, e1, q2, q3, t_set q4 hap hk v⟩ (fun j hj => ?_)
    by_cases hjk : j = k
    · subst hjk
      simp only [updV, if_true]
      exact hv.symm
    · simp only [updV, if_neg hjk]
      exact (hsame j hj hjk).symm
  rcases hfin with hfin | ⟨hfin, hini, hdecl⟩
  · have hlay := X.2.2.2.2.1 _ (F1 _ (u_in_lay hk))
    unfold u_lay at hlay
    rw [if_neg (by rw [hfin]; decide)] at hlay
    have h6 := u_store hfc hkC hkind hlay hi (F2 k hk) hn hfit
    exact W.putK X.1 X.2.1 (f := f) ⟨X.2.2.2.1, X.2.2.2.2.1 _ hw, ⟨_, _, _, hi⟩, hst⟩ (by rw [q2]; exact h6) q1 q3 (by rw [hsl]; exact k2_hasslot (q4 k hk)) rfl rfl d fin
  · have hlay := X.2.2.2.2.1 _ (F1 _ (u_in_lay hk))
    unfold u_lay at hlay
    rw [if_pos hfin] at hlay
    have hcf : m.cls = cf := by
      obtain ⟨_, _, c', _, _, _, -, -, hf', -, -, -, hown2, -⟩ := Cond.laysFinal_spec hlay
      have e1 : c' = cf := by have := hi.symm.trans hf'; simp at this; exact this.1.symm
      rw [hdecl] at hown2
      rw [← e1]; exact Option.some.inj (X.2.2.2.1.symm.trans hown2)
    have h6 := u_fits hfc hkC hkind (Or.inr hlay) hi (F2 k hk) hn hfit
    exact W.putFinK X.1 X.2.1 X.2.2.2.1 (X.2.2.2.2.1 _ hw) hi hst hcf hini (by rw [q2]; exact h6) q1 q3 (by rw [hsl]; exact k2_hasslot (q4 k hk)) rfl rfl d fin
/-- an int field (int, boolean with 0 or 1) is written -/
theorem K_putI (X : KX p s m meth c args D b cc nL ret own) {ci a index : Nat} {C ref : String} {T : u_T} {N : Nat} (k : Nat) (F : kFd ci) (hc : vwCl[ci]? = some (C, T, N)) (hk : k < N) (hs : sh[a]? = some (.inl ci)) (hw : Cond.fieldLink own index ref (T k).2.1 (T k).2.2.1 ∈ wsL_law) (hr : (T k).1 = ref) (hfin : (T k).2.2.2 = false) (hty : kTy ci k = .int) {x : Int32} (d : decode cc pc = .ok (.putfield index, 3))
    (kk : K p l e R s m args below meth c Q D b nL ca sl sh (wI σ a (upd (σ.1 a) k x)) (pc + 3) ls st) : K p l e R s m args below meth c Q D b nL ca sl sh σ pc ls (.int x :: rf b a :: st) := by
  refine K_put X k F hc hk hs hw hr (Or.inl hfin) (by rw [hty]; rfl) (by rw [hty]; rfl) ?_ ?_ ?_ d kk
  · rw [hty]
    show Value.int ((wI σ a (upd (σ.1 a) k x)).1 a k) = _
    rw [wI_self]
    simp [upd]
  · intro j hj hjk
    unfold kv
    rw [wI_self, wI_L, wI_P]
    simp only [upd, if_neg hjk]
  · intro y hy
    exact ⟨wI_ne hy, rfl, rfl⟩
theorem K_putL (X : KX p s m meth c args D b cc nL ret own) {ci a index : Nat} {C ref : String} {T : u_T} {N : Nat} (k : Nat) (F : kFd ci) (hc : vwCl[ci]? = some (C, T, N)) (hk : k < N) (hs : sh[a]? = some (.inl ci)) (hw : Cond.fieldLink own index ref (T k).2.1 (T k).2.2.1 ∈ wsL_law) (hr : (T k).1 = ref) (hfin : (T k).2.2.2 = false) (hty : kTy ci k = .long) {x : Int64} (d : decode cc pc = .ok (.putfield index, 3))
    (kk : K p l e R s m args below meth c Q D b nL ca sl sh (wL σ a (vp_updL (σ.2.1 a) k x)) (pc + 3) ls st) : K p l e R s m args below meth c Q D b nL ca sl sh σ pc ls (.long x :: rf b a :: st) := by
  refine K_put X k F hc hk hs hw hr (Or.inl hfin) (by rw [hty]; rfl) (by rw [hty]; rfl) ?_ ?_ ?_ d kk
  · rw [hty]
    show Value.long ((wL σ a (vp_updL (σ.2.1 a) k x)).2.1 a k) = _
    rw [wL_self]
    simp [vp_updL]
  · intro j hj hjk
    unfold kv
    rw [wL_self, wL_I, wL_P]
    simp only [vp_updL, if_neg hjk]
  · intro y hy
    exact ⟨rfl, wL_ne hy, rfl⟩
/-- int arrays -/
theorem K_iald (X : KX p s m meth c args D b cc nL ret own) {a n : Nat} {i : Int32} (j : Nat) (hs : sh[a]? = some (.inr (.int, n))) (hi : i = nI j) (hj : j < n) (hn : n < 2 ^ 31) {x : Int32} (hx : σ.1 a j = x) (d : decode cc pc = .ok (.iaload, 1))
    (kk : K p l e R s m args below meth c Q D b nL ca sl sh σ (pc + 1) ls (.int x :: st)) : K p l e R s m args below meth c Q D b nL ca sl sh σ pc ls (.int i :: rf b a :: st) := by
  intro H locs lsA hR hS hl
  subst hi
  have hcell : H[b + a]? = some (arrV (D.2.2 .int) n (fun k => kv b .int σ a k)) := hR.2 a _ hs
  refine W.iald (v := .int x) X.1 X.2.1 hcell ((X.2.2.2.2.2.1.2.1 .int (by decide)).1 n _) (fun q => by cases q) (by rw [arrV_size, nI_clamp (by omega)]; intro h; rcases h with h | h; exact nI_pos (by omega) h; omega) (by rw [nI_clamp (by omega), arrV_read _ _ hj, ← hx]; rfl) rfl rfl d (kk H locs lsA hR hS hl)
theorem K_iast (X : KX p s m meth c args D b cc nL ret own) {a n : Nat} {i x : Int32} (j : Nat) (hs : sh[a]? = some (.inr (.int, n))) (hi : i = nI j) (hj : j < n) (hn : n < 2 ^ 31) (d : decode cc pc = .ok (.iastore, 1))
    (kk : K p l e R s m args below meth c Q D b nL ca sl sh (wI σ a (upd (σ.1 a) j x)) (pc + 1) ls st) : K p l e R s m args below meth c Q D b nL ca sl sh σ pc ls (.int x :: .int i :: rf b a :: st) := by
  intro H locs lsA hR hS hl
  subst hi
  have hcell : H[b + a]? = some (arrV (D.2.2 .int) n (fun k => kv b .int σ a k)) := hR.2 a _ hs
  refine W.iast X.1 X.2.1 hcell ((X.2.2.2.2.2.1.2.1 .int (by decide)).1 n _) (fun q => by cases q) (by rw [arrV_size, nI_clamp (by omega)]; intro h; rcases h with h | h; exact nI_pos (by omega) h; omega) rfl rfl d fun H' e1 e2 e3 => ?_
  refine kk H' _ lsA (hR.put hs e2 e3 ?_ (fun y hy => ⟨wI_ne hy, rfl, rfl⟩)) (hS.put e2 e3 (Nat.le_add_right b a)) hl
  show H'[b + a]? = some (arrV _ _ _)
  rw [e1, nI_clamp (by omega), arrV_store]
  congr 2
  funext q
  show updV (fun k => Value.int (σ.1 a k)) j (.int x) q = Value.int ((wI σ a (upd (σ.1 a) j x)).1 a q)
  rw [wI_self]
  by_cases hq : q = j
  · subst hq
    simp [updV, upd]
  · simp [updV, upd, hq]
/-- char arrays -/
theorem K_cald (X : KX p s m meth c args D b cc nL ret own) {a n : Nat} {i : Int32} (j : Nat) (hs : sh[a]? = some (.inr (.char, n))) (hi : i = nI j) (hj : j < n) (hn : n < 2 ^ 31) {x : Int32} (hx : σ.1 a j = x) (d : decode cc pc = .ok (.caload, 1))
    (kk : K p l e R s m args below meth c Q D b nL ca sl sh σ (pc + 1) ls (.int x :: st)) : K p l e R s m args below meth c Q D b nL ca sl sh σ pc ls (.int i :: rf b a :: st) := by
  intro H locs lsA hR hS hl
  subst hi
  have hcell : H[b + a]? = some (arrV (D.2.2 .char) n (fun k => kv b .char σ a k)) := hR.2 a _ hs
  refine W.cald (v := .int x) X.1 X.2.1 hcell ((X.2.2.2.2.2.1.2.1 .char (by decide)).1 n _) (fun q => by cases q) (by rw [arrV_size, nI_clamp (by omega)]; intro h; rcases h with h | h; exact nI_pos (by omega) h; omega) (by rw [nI_clamp (by omega), arrV_read _ _ hj, ← hx]; rfl) rfl rfl d (kk H locs lsA hR hS hl)
theorem K_cast (X : KX p s m meth c args D b cc nL ret own) {a n : Nat} {i x y : Int32} (j : Nat) (hs : sh[a]? = some (.inr (.char, n))) (hi : i = nI j) (hj : j < n) (hn : n < 2 ^ 31) (hx : narrow .char (.int x) = .int y) (d : decode cc pc = .ok (.castore, 1))
    (kk : K p l e R s m args below meth c Q D b nL ca sl sh (wI σ a (upd (σ.1 a) j y)) (pc + 1) ls st) : K p l e R s m args below meth c Q D b nL ca sl sh σ pc ls (.int x :: .int i :: rf b a :: st) := by
  intro H locs lsA hR hS hl
  subst hi
  have hcell : H[b + a]? = some (arrV (D.2.2 .char) n (fun k => kv b .char σ a k)) := hR.2 a _ hs
  refine W.cast X.1 X.2.1 hcell ((X.2.2.2.2.2.1.2.1 .char (by decide)).1 n _) (fun q => by cases q) (by rw [arrV_size, nI_clamp (by omega)]; intro h; rcases h with h | h; exact nI_pos (by omega) h; omega) rfl rfl d fun H' e1 e2 e3 => ?_
  refine kk H' _ lsA (hR.put hs e2 e3 ?_ (fun y hy => ⟨wI_ne hy, rfl, rfl⟩)) (hS.put e2 e3 (Nat.le_add_right b a)) hl
  show H'[b + a]? = some (arrV _ _ _)
  rw [e1, nI_clamp (by omega), arrV_store]
  congr 2
  funext q
  show updV (fun k => Value.int (σ.1 a k)) j (narrow .char (.int x)) q = Value.int ((wI σ a (upd (σ.1 a) j y)).1 a q)
  rw [wI_self, hx]
  by_cases hq : q = j
  · subst hq
    simp [updV, upd]
  · simp [updV, upd, hq]
/-- arrays of references -/
theorem K_aald (X : KX p s m meth c args D b cc nL ret own) {a n z : Nat} {C : String} {i : Int32} (j : Nat) (hs : sh[a]? = some (.inr (.object C, n))) (hty : FieldType.object C ∈ kTys) (hi : i = nI j) (hj : j < n) (hn : n < 2 ^ 31) (hx : σ.2.2 a j = some z) (d : decode cc pc = .ok (.aaload, 1))
    (kk : K p l e R s m args below meth c Q D b nL ca sl sh σ (pc + 1) ls (rf b z :: st)) : K p l e R s m args below meth c Q D b nL ca sl sh σ pc ls (.int i :: rf b a :: st) := by
  intro H locs lsA hR hS hl
  subst hi
  have hcell : H[b + a]? = some (arrV (D.2.2 (.object C)) n (fun k => kv b (.object C) σ a k)) := hR.2 a _ hs
  refine W.aald (v := rf b z) (ty := .object C) X.1 X.2.1 hcell ((X.2.2.2.2.2.1.2.1 _ hty).1 n _) rfl (fun q => by cases q) (by rw [arrV_size, nI_clamp (by omega)]; intro h; rcases h with h | h; exact nI_pos (by omega) h; omega) (by rw [nI_clamp (by omega), arrV_read _ _ hj]; show some (va_rf ((σ.2.2 a j).map _)) = _; rw [hx]; rfl) rfl rfl d (kk H locs lsA hR hS hl)
theorem K_aast (X : KX p s m meth c args D b cc nL ret own) {a n z ci N : Nat} {C : String} {T : u_T} {i : Int32} (j : Nat) (hs : sh[a]? = some (.inr (.object C, n))) (hty : FieldType.object C ∈ kTys) (hz : sh[z]? = some (.inl ci)) (hc : vwCl[ci]? = some (C, T, N)) (hi : i = nI j) (hj : j < n) (hn : n < 2 ^ 31) (d : decode cc pc = .ok (.aastore, 1))
    (kk : K p l e R s m args below meth c Q D b nL ca sl sh (wP σ a (va_up (σ.2.2 a) j (some z))) (pc + 1) ls st) : K p l e R s m args below meth c Q D b nL ca sl sh σ pc ls (rf b z :: .int i :: rf b a :: st) := by
  intro H locs lsA hR hS hl
  subst hi
  have hcell : H[b + a]? = some (arrV (D.2.2 (.object C)) n (fun k => kv b (.object C) σ a k)) := hR.2 a _ hs
  obtain ⟨r, hr, cellV, g1, g2, g3, -⟩ := hR.2 z _ hz
  have hcls : ClassAt s C (D.1 ci) := (X.2.2.2.2.2.1.1 ci _ hc).2
  obtain ⟨kA, comp, k1, k2, k3, -⟩ := (X.2.2.2.2.2.1.2.1 _ hty).2
  have hcomp : comp = D.1 ci := Option.some.inj (k3.symm.trans hcls.1)
  subst hcomp
  obtain ⟨kC, hkC, hkd⟩ := hcls.2
  refine W.aast X.1 X.2.1 hcell (fun q h => by cases h) (fun h => by cases h) k1 k2 rfl hkC (by rw [nI_clamp (by omega)]; exact ⟨nI_pos (by omega), by rw [arrV_size]; exact hj⟩) g1 (fun q h => by rw [g3] at h; cases h) (by rw [g2]; exact hkC) (by rw [g2]; exact va_assign hcls) rfl rfl d fun H' e1 e2 e3 => ?_
  refine kk H' _ lsA (hR.put hs e2 e3 ?_ (fun y hy => ⟨rfl, rfl, wP_ne hy⟩)) (hS.put e2 e3 (Nat.le_add_right b a)) hl
  show H'[b + a]? = some (arrV _ _ _)
  rw [e1, nI_clamp (by omega), arrV_store]
  congr 2
  funext q
  show updV (fun k => va_rf ((σ.2.2 a k).map (fun z => b + z))) j (.ref (b + z)) q = va_rf (((wP σ a (va_up (σ.2.2 a) j (some z))).2.2 a q).map (fun z => b + z))
  rw [wP_self]
  by_cases hq : q = j
  · subst hq
    simp [updV, va_up, va_rf]
  · simp [updV, va_up, hq]
/-- the JDK's max and min, arraycopy -/
theorem K_max (X : KX p s m meth c args D b cc nL ret own) {index : Nat} (h1 : Cond.methodLink own index Lib.Math.max.name ∈ wsL_law) (h2 : Cond.static Lib.Math.max.name ∈ wsL_law) (h3 : Cond.initialized "java/lang/Math" ∈ wsL_law) (h4 : Cond.code Lib.Math.max.name Lib.Math.max.code 2 (some .int) ∈ wsL_law) (hR : 1 ≤ R.frames ∧ (st.map fun v => v.category).sum + 13 ≤ R.locals ∧ ca ≤ R.cells ∧ sl ≤ R.slots) {x y : Int32} (d : decode cc pc = .ok (.invokestatic index, 3))
    (kk : K p l e R s m args below meth c Q D b nL ca sl sh σ (pc + 3) ls (.int (if x < y then y else x) :: st)) : K p l e R s m args below meth c Q D b nL ca sl sh σ pc ls (.int y :: .int x :: st) := fun H locs lsA hRp hS hl =>
  va_mmax X.1 X.2.1 (X.2.2.1.trans hl.1.symm) X.2.2.2.1 (X.2.2.2.2.1 _ h1) (X.2.2.2.2.1 _ h2) (X.2.2.2.2.1 _ h3) (X.2.2.2.2.1 _ h4) hR.1 hR.2.1 hR.2.2.1 hR.2.2.2 d (kk H locs lsA hRp hS hl)
theorem K_min (X : KX p s m meth c args D b cc nL ret own) {index : Nat} (h1 : Cond.methodLink own index Lib.Math.min.name ∈ wsL_law) (h2 : Cond.static Lib.Math.min.name ∈ wsL_law) (h3 : Cond.initialized "java/lang/Math" ∈ wsL_law) (h4 : Cond.code Lib.Math.min.name Lib.Math.min.code 2 (some .int) ∈ wsL_law) (hR : 1 ≤ R.frames ∧ (st.map fun v => v.category).sum + 13 ≤ R.locals ∧ ca ≤ R.cells ∧ sl ≤ R.slots) {x y : Int32} (d : decode cc pc = .ok (.invokestatic index, 3))
    (kk : K p l e R s m args below meth c Q D b nL ca sl sh σ (pc + 3) ls (.int (if y < x then y else x) :: st)) : K p l e R s m args below meth c Q D b nL ca sl sh σ pc ls (.int y :: .int x :: st) := fun H locs lsA hRp hS hl =>
  va_mmin X.1 X.2.1 (X.2.2.1.trans hl.1.symm) X.2.2.2.1 (X.2.2.2.2.1 _ h1) (X.2.2.2.2.1 _ h2) (X.2.2.2.2.1 _ h3) (X.2.2.2.2.1 _ h4) hR.1 hR.2.1 hR.2.2.1 hR.2.2.2 d (kk H locs lsA hRp hS hl)
theorem K_copy (X : KX p s m meth c args D b cc nL ret own) {index a0 a n0 n1 : Nat} (h1 : Cond.methodLink own index arraycopyName ∈ wsL_law) (h2 : Cond.native arraycopyName ∈ wsL_law) (h3 : Cond.static arraycopyName ∈ wsL_law) (h4 : Cond.initialized "java/lang/System" ∈ wsL_law) (hs0 : sh[a0]? = some (.inr (.int, n0))) (hs1 : sh[a]? = some (.inr (.int, n1))) {sp dp n : Int32} (jn : Nat) (hsp : sp = 0) (hdp : dp = 0) (hn : n = nI jn) (hj : jn < 2 ^ 31) (hj0 : jn ≤ n0) (hj1 : jn ≤ n1)
    (hR : 1 ≤ R.frames ∧ (st.map fun v => v.category).sum + (nativeFrameWords "java/lang/System" "arraycopy" 5 + 11) ≤ R.locals) (d : decode cc pc = .ok (.invokestatic index, 3))
    (kk : K p l e R s m args below meth c Q D b nL ca sl sh (wI σ a (fun k => if k < jn then σ.1 a0 k else σ.1 a k)) (pc + 3) ls st) : K p l e R s m args below meth c Q D b nL ca sl sh σ pc ls (.int n :: .int dp :: rf b a :: .int sp :: rf b a0 :: st) := by
  intro H locs lsA hRp hS hl T hT Xs
  subst hsp
  subst hdp
  subst hn
  have hK := X.2.2.2.2.2.1.2.1 .int (by decide)
  have hc0 : H[b + a0]? = some (arrV (D.2.2 .int) n0 (fun k => .int (σ.1 a0 k))) := hRp.2 a0 _ hs0
  have hc1 : H[b + a]? = some (arrV (D.2.2 .int) n1 (fun k => .int (σ.1 a k))) := hRp.2 a _ hs1
  obtain ⟨-, k0, hk0, cm0, hkk0⟩ := hK.1 n0 (fun j => .int (σ.1 a0 j))
  obtain ⟨-, k1, hk1, cm1, hkk1⟩ := hK.1 n1 (fun j => .int (σ.1 a j))
  have z0 : (0 : Int32).toNatClampNeg = 0 := by decide
  have zi : (0 : Int32).toInt = 0 := by decide
  have zn : (nI jn).toNatClampNeg = jn := nI_clamp hj
  have zni : (nI jn).toInt = (jn : Int) := nI_toInt hj
  obtain ⟨vm', X', step⟩ := Xs.arraycopy X.1 X.2.2.2.1 (X.2.2.2.2.1 _ h1) (X.2.2.2.2.1 _ h2) (X.2.2.2.2.1 _ h3) (X.2.2.2.2.1 _ h4) (src := b + a0) (dst := b + a) (cs := arrV (D.2.2 .int) n0 (fun k => .int (σ.1 a0 k))) (cd := arrV (D.2.2 .int) n1 (fun k => .int (σ.1 a k))) (srcPos := 0) (destPos := 0) (n := nI jn) (by rw [hT]; exact hc0) (by rw [hT]; exact hc1)
    (fun _ h => by cases h) (fun _ h => by cases h) (fun h => by cases h) (fun h => by cases h) hk0 hk1 hkk0 hkk1 (by simp [refKind]) (by decide) (by decide) (nI_pos hj)
    (by rw [zi, zni, arrV_size]; omega)
    (by rw [zi, zni, arrV_size]; omega)
    (fun vm₁ _ i hi => by
      rw [zn] at hi
      have e : (arrV (D.2.2 .int) n0 (fun k => Value.int (σ.1 a0 k))).slots.getD ((0 : Int32).toNatClampNeg + i) .null = .int (σ.1 a0 i) := by
        rw [z0, Nat.zero_add, Array.getD_eq_getD_getElem?, arrV_read _ _ (by omega)]
        rfl
      refine ⟨?_, ?_⟩
      · rw [e]
        rfl
      · rw [e]
        exact trivial)
    (g := F0 m pc lsA (.int (nI jn) :: .int 0 :: .ref (b + a) :: .int 0 :: .ref (b + a0) :: st)) rfl (by show lsA.size = _; rw [hl.1, X.2.2.1]) (rest := st) rfl (by rw [X.2.1]; exact d) hR.1 (by show 2 * 0 + _ + _ ≤ _; omega)
  have e1 : copied (arrV (D.2.2 .int) n0 (fun k => Value.int (σ.1 a0 k))) (arrV (D.2.2 .int) n1 (fun k => Value.int (σ.1 a k))) 0 0 (nI jn) = arrV (D.2.2 .int) n1 (fun k => .int (if k < jn then σ.1 a0 k else σ.1 a k)) := by
    have e2 := va_copied (fun z => Value.int z) (D.2.2 .int) (D.2.2 .int) (n0 := n0) (n1 := n1) (sp := 0) (dp := 0) (n := jn) (fun k => σ.1 a0 k) (fun k => σ.1 a k) (by omega)
    have e3 : copied (arrV (D.2.2 .int) n0 (fun k => Value.int (σ.1 a0 k))) (arrV (D.2.2 .int) n1 (fun k => Value.int (σ.1 a k))) 0 0 (nI jn) = (arrV (D.2.2 .int) n1 (fun j => Value.int (σ.1 a j))).storeRun 0 ((arrV (D.2.2 .int) n0 (fun j => Value.int (σ.1 a0 j))).stretch 0 jn) := by
      unfold copied
      rw [z0, zn]
    rw [e3, e2]
    congr 1
    funext k
    simp [va_cpy]
  rw [e1] at X' step
  have hlt : b + a < H.size := (Array.getElem?_eq_some_iff.mp hc1).1
  generalize hnew : arrV (D.2.2 .int) n1 (fun k => Value.int (if k < jn then σ.1 a0 k else σ.1 a k)) = nw at X' step
  have hheap : ((T.setVm vm').setCell (b + a) nw).heap = H.setIfInBounds (b + a) nw := by rw [← hT]; rfl
  have oq : ∀ q : Nat, q ≠ b + a → (H.setIfInBounds (b + a) nw)[q]? = H[q]? := fun q hq => by simp [Array.getElem?_setIfInBounds, Ne.symm hq]
  have on : (H.setIfInBounds (b + a) nw)[b + a]? = some nw := by simp [Array.getElem?_setIfInBounds, hlt]
  obtain ⟨t, a1, b1⟩ := kk (H.setIfInBounds (b + a) nw) _ lsA (hRp.put hs1 (by simp) oq (by
      show _ = some (arrV _ _ _)
      rw [on, ← hnew]
      congr 2
      funext k
      show _ = Value.int ((wI σ a _).1 a k)
      rw [wI_self]) (fun y hy => ⟨wI_ne hy, rfl, rfl⟩)) ⟨by simp; exact hS.1, fun q g1 g2 => by
      rw [oq q (fun e => g2 (by rw [e]; exact Nat.le_add_right b a))]
      exact hS.2.1 q g1 g2, fun q hq => by
      rcases List.mem_append.mp hq with h | h
      · exact hS.2.2 q h
      · obtain ⟨z, -, hz⟩ := List.mem_map.mp h
        rw [← hz]
        exact Nat.le_add_right b a⟩ hl _ hheap X'
  exact ⟨t, step t a1, b1⟩
/-- the ends -/
theorem K_iret {Post : Option Value → KS → Prop} (X : KX p s m meth c args D b cc nL (some .int) own) {v : Int32} (hQ : Q = KQ below Post D b args s sh ca sl) (d : decode cc pc = .ok (.ireturn, 1)) (h : Post (some (.int v)) σ) : K p l e R s m args below meth c Q D b nL ca sl sh σ pc ls [.int v] := fun H locs lsA hR hS hl => by
  subst hQ
  exact W.iret X.1 X.2.1 X.2.2.2.2.2.2.1 (fun t ht hW => ⟨⟨_, _, rfl, h, by rw [ht]; exact hR⟩, hS.F ht⟩) hS.2.2 d X.2.2.2.2.2.2.2.1
theorem kB_nar (t : Bool) : narrow .boolean (.int (kB t)) = .int (kB t) := by cases t <;> rfl
theorem K_zret {Post : Option Value → KS → Prop} (X : KX p s m meth c args D b cc nL (some .boolean) own) {v : Int32} (t : Bool) (hv : v = kB t) (hQ : Q = KQ below Post D b args s sh ca sl) (d : decode cc pc = .ok (.ireturn, 1)) (h : Post (some (.int (kB t))) σ) : K p l e R s m args below meth c Q D b nL ca sl sh σ pc ls [.int v] := fun H locs lsA hR hS hl => by
  subst hv
  subst hQ
  exact W.zret X.1 X.2.1 X.2.2.2.2.2.2.1 (kB_nar t) (fun t ht hW => ⟨⟨_, _, rfl, h, by rw [ht]; exact hR⟩, hS.F ht⟩) hS.2.2 d X.2.2.2.2.2.2.2.1
theorem K_lret {Post : Option Value → KS → Prop} (X : KX p s m meth c args D b cc nL (some .long) own) {v : Int64} (hQ : Q = KQ below Post D b args s sh ca sl) (d : decode cc pc = .ok (.lreturn, 1)) (h : Post (some (.long v)) σ) : K p l e R s m args below meth c Q D b nL ca sl sh σ pc ls [.long v] := fun H locs lsA hR hS hl => by
  subst hQ
  exact W.lret X.1 X.2.1 X.2.2.2.2.2.2.1 (fun t ht hW => ⟨⟨_, _, rfl, h, by rw [ht]; exact hR⟩, hS.F ht⟩) hS.2.2 d X.2.2.2.2.2.2.2.1
theorem K_aret {Post : Option Value → KS → Prop} {C : String} (X : KX p s m meth c args D b cc nL (some (.object C)) own) {z : Nat} (hQ : Q = KQ below Post D b args s sh ca sl) (d : decode cc pc = .ok (.areturn, 1)) (h : Post (some (rf b z)) σ) : K p l e R s m args below meth c Q D b nL ca sl sh σ pc ls [rf b z] := fun H locs lsA hR hS hl => by
  subst hQ
  exact W.aret X.1 X.2.1 X.2.2.2.2.2.2.1 (Or.inl ⟨C, rfl⟩) (Or.inr ⟨b + z, rfl⟩) (fun t ht hW => ⟨⟨_, _, rfl, h, by rw [ht]; exact hR⟩, hS.F ht⟩) hS.2.2 d X.2.2.2.2.2.2.2.1
theorem K_aretN {Post : Option Value → KS → Prop} {C : String} (X : KX p s m meth c args D b cc nL (some (.object C)) own) (hQ : Q = KQ below Post D b args s sh ca sl) (d : decode cc pc = .ok (.areturn, 1)) (h : Post (some .null) σ) : K p l e R s m args below meth c Q D b nL ca sl sh σ pc ls [.null] := fun H locs lsA hR hS hl => by
  subst hQ
  exact W.aret X.1 X.2.1 X.2.2.2.2.2.2.1 (Or.inl ⟨C, rfl⟩) (Or.inl rfl) (fun t ht hW => ⟨⟨_, _, rfl, h, by rw [ht]; exact hR⟩, hS.F ht⟩) hS.2.2 d X.2.2.2.2.2.2.2.1
theorem K_vret {Post : Option Value → KS → Prop} (X : KX p s m meth c args D b cc nL none own) (hQ : Q = KQ below Post D b args s sh ca sl) (d : decode cc pc = .ok (.return_, 1)) (h : Post none σ) : K p l e R s m args below meth c Q D b nL ca sl sh σ pc ls [] := fun H locs lsA hR hS hl => by
  subst hQ
  exact W.vret X.1 X.2.1 X.2.2.2.2.2.2.1 (fun t ht hW => ⟨⟨_, _, rfl, h, by rw [ht]; exact hR⟩, hS.F ht⟩) hS.2.2 d X.2.2.2.2.2.2.2.1
/-- calls -/
theorem kGoodIn {y : MethodName} {bytes : ByteArray} {maxL : Nat} {ret : Option FieldType} (h : Cond.code y bytes maxL ret ∈ wsL_law) : GoodIn wsL_law (Cond.code y bytes maxL ret :: wsL_law) := by
  have hg : ∀ w ∈ wsL_law, w ∈ wsL_law ∧ ((w.onTables && w.keeps) = true ∨ ∃ ty, w = .arrayClass ty) := fun w hw => ⟨hw, good_of_word (List.all_eq_true.mp kGood w hw)⟩
  intro w hw
  rcases List.mem_cons.mp hw with rfl | hw
  · exact hg _ h
  · exact hg _ hw
theorem kBlind {D : KD} {b : Nat} {sh : List KSh} {σ : KS} {As : List Value} : FrameBlind (va_Pc As (fun U => KRep D b sh σ U.heap ∧ KK D U)) := fun a U g mk q => ⟨q.1, q.2.1, KK.same (u := U) (U := U.calling g mk a) rfl q.2.2⟩
theorem K_after {y : MethodName} {sh' : List KSh} {Post : Option Value → KS → Prop} {mc ms : Nat} {a : Array Value} {H : Heap} {locs : List Loc} {lsA : Array Slot} {stk : List Value} (hl : lv_has lsA nL ls) (hS : va_S (fun q => b ≤ q) s.heap H locs)
    (hr : va_Run p l e R s m args below meth c H locs ca sl mc ms (F0 m pc lsA stk) st ((fun (_ : Array Value) (st : State) (o : Outcome) (t : State) => (∃ r σ', o = .returned r ∧ Post r σ' ∧ KRep D b sh' σ' t.heap) ∧ va_F (fun q => b ≤ q) st t) a) (fun q => b ≤ q))
    (kk : ∀ r σ', Post r σ' → K p l e R s m args below meth c Q D b nL (ca + mc) (sl + ms) sh' σ' (pc + 3) ls (r.toList ++ st)) : W p l e R s m args below meth c H locs ca sl Q (F0 m pc lsA stk) := by
  intro T hT Xs
  obtain ⟨v, st₀, t, T', L, h0, X', hL, e1, e2, ⟨⟨r, σ', hv, hp, hRp⟩, hF⟩, st1⟩ := hr T hT Xs
  cases hv
  obtain ⟨hz, hk⟩ := hF
  rw [h0] at hz hk
  obtain ⟨t2, a1, b1⟩ := kk _ σ' hp T'.heap (locs ++ L) lsA (by rw [e1]; exact hRp) ⟨Nat.le_trans hS.1 (by rw [e1]; exact hz), fun q h1 h2 => by rw [e1, hk q (Nat.lt_of_lt_of_le h1 hS.1) h2]; exact hS.2.1 q h1 h2, fun q hq => by
      rcases List.mem_append.mp hq with h | h
      · exact hS.2.2 q h
      · exact hL q h⟩ hl T' rfl X'
  exact ⟨t2, st1 t2 a1, b1⟩
theorem K_callV (X : KX p s m meth c args D b cc nL ret own) {y : MethodName} {bytes : ByteArray} {maxL n index a ci mc ms : Nat} {rt : Option FieldType} {rm : Room} {As stk : List Value} {sh' : List KSh} {Post : Option Value → KS → Prop} {T : u_T} {N : Nat} (hc : Ct l D b y bytes maxL rt rm mc ms (rf b a :: As) sh σ sh' Post) (hy : kMy y bytes maxL rt n) (hi : Cond.instanceMethod y ∈ wsL_law ∧ Cond.selects y.cls y y ∈ wsL_law) (hlk : Cond.methodLink own index y ∈ wsL_law) (hsa : sh[a]? = some (.inl ci)) (hci : vwCl[ci]? = some (y.cls, T, N))
    (hroom : rm.cells = mc ∧ rm.slots = ms ∧ rm.frames + 1 ≤ R.frames ∧ 8 + (maxL + 11) + rm.locals ≤ R.locals ∧ ca + mc ≤ R.cells ∧ sl + ms ≤ R.slots) (hst : stk = As.reverse ++ rf b a :: st) (hn : As.length = n) (hcat : (st.map fun v => v.category).sum ≤ 8) (d : decode cc pc = .ok (.invokevirtual index, 3))
    (kk : ∀ r σ', Post r σ' → K p l e R s m args below meth c Q D b nL (ca + mc) (sl + ms) sh' σ' (pc + 3) ls (r.toList ++ st)) : K p l e R s m args below meth c Q D b nL ca sl sh σ pc ls stk := by
  intro H locs lsA hR hS hl
  subst hst
  obtain ⟨r, hr, cellV, g1, g2, g3, -⟩ := hR.2 a _ hsa
  have hcls : ClassAt s y.cls (D.1 ci) := (X.2.2.2.2.2.1.1 ci _ hci).2
  refine K_after (y := y) (a := (Value.ref (b + a) :: As).toArray) hl hS (va_runV (As := As) (rest := st) (n := n) ⟨X.1, X.2.1, X.2.2.1, X.2.2.2.1, X.2.2.2.2.1⟩ hc
    ⟨callB_of n X.2.2.2.2.1 (kGoodIn hy.2.1) rfl hroom.1 hroom.2.1 (X.2.2.2.2.1 _ hy.1) (X.2.2.2.2.1 _ hlk) ⟨hy.2.2.1, hy.2.2.2.1, hy.2.2.2.2⟩ ⟨hroom.2.2.1, hroom.2.2.2.1⟩, X.2.2.2.2.1 _ hi.1, X.2.2.2.2.1 _ hi.2⟩
    ⟨kBlind, ⟨cellV, g1, by rw [g3]; rfl, by rw [g2]; exact hcls.1⟩, fun U hU hW => ⟨rfl, by rw [hU]; exact hR, X.2.2.2.2.2.1.warm hW⟩⟩ rfl hn hl.1 rfl (lv_room hcat) d hroom.2.2.2.2) kk
theorem K_callS (X : KX p s m meth c args D b cc nL ret own) {y : MethodName} {bytes : ByteArray} {maxL n index mc ms : Nat} {rt : Option FieldType} {rm : Room} {As stk : List Value} {sh' : List KSh} {Post : Option Value → KS → Prop} (hc : Ct l D b y bytes maxL rt rm mc ms As sh σ sh' Post) (hy : kMy y bytes maxL rt n) (hi : Cond.static y ∈ wsL_law) (hlk : Cond.methodLink own index y ∈ wsL_law)
    (hroom : rm.cells = mc ∧ rm.slots = ms ∧ rm.frames + 1 ≤ R.frames ∧ 8 + (maxL + 11) + rm.locals ≤ R.locals ∧ ca + mc ≤ R.cells ∧ sl + ms ≤ R.slots) (hst : stk = As.reverse ++ st) (hn : As.length = n) (hcat : (st.map fun v => v.category).sum ≤ 8) (d : decode cc pc = .ok (.invokestatic index, 3))
    (kk : ∀ r σ', Post r σ' → K p l e R s m args below meth c Q D b nL (ca + mc) (sl + ms) sh' σ' (pc + 3) ls (r.toList ++ st)) : K p l e R s m args below meth c Q D b nL ca sl sh σ pc ls stk := by
  intro H locs lsA hR hS hl
  subst hst
  refine K_after (y := y) (a := As.toArray) hl hS (va_runS (As := As) (rest := st) (n := n) ⟨X.1, X.2.1, X.2.2.1, X.2.2.2.1, X.2.2.2.2.1⟩ hc
    ⟨callB_of n X.2.2.2.2.1 (kGoodIn hy.2.1) rfl hroom.1 hroom.2.1 (X.2.2.2.2.1 _ hy.1) (X.2.2.2.2.1 _ hlk) ⟨hy.2.2.1, hy.2.2.2.1, hy.2.2.2.2⟩ ⟨hroom.2.2.1, hroom.2.2.2.1⟩, X.2.2.2.2.1 _ hi⟩
    ⟨kBlind, fun U hU hW => ⟨rfl, by rw [hU]; exact hR, X.2.2.2.2.2.1.warm hW⟩⟩ rfl hn hl.1 rfl (lv_room hcat) d hroom.2.2.2.2) kk
/-- a private static method of another class of the nest -/
theorem kCN (X : KX p s m meth c args D b cc nL ret own) {y : MethodName} {bytes : ByteArray} {maxL n index mc ms : Nat} {host : String} {rt : Option FieldType} {rm : Room} (hy : kMy y bytes maxL rt n) (hlk : (own, index, y, host) ∈ kNest) (hroom : rm.cells = mc ∧ rm.slots = ms ∧ rm.frames + 1 ≤ R.frames ∧ 8 + (maxL + 11) + rm.locals ≤ R.locals) : va_CN R s args own index y host bytes maxL rt (Cond.code y bytes maxL rt :: wsL_law) rm mc ms n :=
  va_cnB n X.2.2.2.2.1 (kGoodIn hy.2.1) rfl hroom.1 hroom.2.1 (X.2.2.2.2.2.1.2.2.1 _ hlk) (X.2.2.2.2.1 _ hy.1) ⟨hy.2.2.1, hy.2.2.2.1, hy.2.2.2.2⟩ ⟨hroom.2.2.1, hroom.2.2.2⟩
theorem K_callSN (X : KX p s m meth c args D b cc nL ret own) {y : MethodName} {bytes : ByteArray} {maxL n index mc ms : Nat} {host : String} {rt : Option FieldType} {rm : Room} {As stk : List Value} {sh' : List KSh} {Post : Option Value → KS → Prop} (hc : Ct l D b y bytes maxL rt rm mc ms As sh σ sh' Post) (hy : kMy y bytes maxL rt n) (hi : Cond.static y ∈ wsL_law) (hlk : (own, index, y, host) ∈ kNest)
    (hroom : rm.cells = mc ∧ rm.slots = ms ∧ rm.frames + 1 ≤ R.frames ∧ 8 + (maxL + 11) + rm.locals ≤ R.locals ∧ ca + mc ≤ R.cells ∧ sl + ms ≤ R.slots) (hst : stk = As.reverse ++ st) (hn : As.length = n) (hcat : (st.map fun v => v.category).sum ≤ 8) (d : decode cc pc = .ok (.invokestatic index, 3))
    (kk : ∀ r σ', Post r σ' → K p l e R s m args below meth c Q D b nL (ca + mc) (sl + ms) sh' σ' (pc + 3) ls (r.toList ++ st)) : K p l e R s m args below meth c Q D b nL ca sl sh σ pc ls stk := by
  intro H locs lsA hR hS hl
  subst hst
  exact K_after (y := y) (a := As.toArray) hl hS (va_runSN (As := As) (rest := st) (n := n) ⟨X.1, X.2.1, X.2.2.1, X.2.2.2.1, X.2.2.2.2.1⟩ hc ⟨kCN X hy hlk ⟨hroom.1, hroom.2.1, hroom.2.2.1, hroom.2.2.2.1⟩, X.2.2.2.2.1 _ hi, trivial⟩
    ⟨kBlind, fun U hU hW => ⟨rfl, by rw [hU]; exact hR, X.2.2.2.2.2.1.warm hW⟩⟩ rfl hn hl.1 rfl (lv_room hcat) d hroom.2.2.2.2) kk
/-- constructors -/
theorem K_callI (X : KX p s m meth c args D b cc nL ret own) {y : MethodName} {bytes : ByteArray} {maxL n index a mc ms : Nat} {rm : Room} {As stk : List Value} {sh' : List KSh} {Post : Option Value → KS → Prop} (hc : Ct l D b y bytes maxL none rm mc ms (rf b a :: As) sh σ sh' Post) (hy : kMy y bytes maxL none n) (hi : Cond.instanceMethod y ∈ wsL_law) (hnm : y.name = "<init>") (hlk : Cond.methodLink own index y ∈ wsL_law)
    (hroom : rm.cells = mc ∧ rm.slots = ms ∧ rm.frames + 1 ≤ R.frames ∧ 8 + (maxL + 11) + rm.locals ≤ R.locals ∧ ca + mc ≤ R.cells ∧ sl + ms ≤ R.slots) (hst : stk = As.reverse ++ rf b a :: st) (hn : As.length = n) (hcat : (st.map fun v => v.category).sum ≤ 8) (d : decode cc pc = .ok (.invokespecial index, 3))
    (kk : ∀ r σ', Post r σ' → K p l e R s m args below meth c Q D b nL (ca + mc) (sl + ms) sh' σ' (pc + 3) ls (r.toList ++ st)) : K p l e R s m args below meth c Q D b nL ca sl sh σ pc ls stk := by
  intro H locs lsA hR hS hl
  subst hst
  exact K_after (y := y) (a := (Value.ref (b + a) :: As).toArray) hl hS (va_runI (As := As) (rest := st) (n := n) ⟨X.1, X.2.1, X.2.2.1, X.2.2.2.1, X.2.2.2.2.1⟩ hc
    ⟨callB_of n X.2.2.2.2.1 (kGoodIn hy.2.1) rfl hroom.1 hroom.2.1 (X.2.2.2.2.1 _ hy.1) (X.2.2.2.2.1 _ hlk) ⟨hy.2.2.1, hy.2.2.2.1, hy.2.2.2.2⟩ ⟨hroom.2.2.1, hroom.2.2.2.1⟩, hnm, X.2.2.2.2.1 _ hi⟩
    ⟨kBlind, fun U hU hW => ⟨rfl, by rw [hU]; exact hR, X.2.2.2.2.2.1.warm hW⟩⟩ rfl hn hl.1 rfl (lv_room hcat) d hroom.2.2.2.2) kk
theorem K_callIN (X : KX p s m meth c args D b cc nL ret own) {y : MethodName} {bytes : ByteArray} {maxL n index a mc ms : Nat} {host : String} {rm : Room} {As stk : List Value} {sh' : List KSh} {Post : Option Value → KS → Prop} (hc : Ct l D b y bytes maxL none rm mc ms (rf b a :: As) sh σ sh' Post) (hy : kMy y bytes maxL none n) (hi : Cond.instanceMethod y ∈ wsL_law) (hnm : y.name = "<init>") (hlk : (own, index, y, host) ∈ kNest)
    (hroom : rm.cells = mc ∧ rm.slots = ms ∧ rm.frames + 1 ≤ R.frames ∧ 8 + (maxL + 11) + rm.locals ≤ R.locals ∧ ca + mc ≤ R.cells ∧ sl + ms ≤ R.slots) (hst : stk = As.reverse ++ rf b a :: st) (hn : As.length = n) (hcat : (st.map fun v => v.category).sum ≤ 8) (d : decode cc pc = .ok (.invokespecial index, 3))
    (kk : ∀ r σ', Post r σ' → K p l e R s m args below meth c Q D b nL (ca + mc) (sl + ms) sh' σ' (pc + 3) ls (r.toList ++ st)) : K p l e R s m args below meth c Q D b nL ca sl sh σ pc ls stk := by
  intro H locs lsA hR hS hl
  subst hst
  exact K_after (y := y) (a := (Value.ref (b + a) :: As).toArray) hl hS (va_runIN (As := As) (rest := st) (n := n) ⟨X.1, X.2.1, X.2.2.1, X.2.2.2.1, X.2.2.2.2.1⟩ hc ⟨kCN X hy hlk ⟨hroom.1, hroom.2.1, hroom.2.2.1, hroom.2.2.2.1⟩, hnm, X.2.2.2.2.1 _ hi⟩
    ⟨kBlind, fun U hU hW => ⟨rfl, by rw [hU]; exact hR, X.2.2.2.2.2.1.warm hW⟩⟩ rfl hn hl.1 rfl (lv_room hcat) d hroom.2.2.2.2) kk
theorem K_objInit (X : KX p s m meth c args D b cc nL ret own) {index a : Nat} (h1 : Cond.methodLink own index Lib.objectInit ∈ wsL_law) (h2 : Cond.instanceMethod Lib.objectInit ∈ wsL_law) (h3 : Cond.code Lib.objectInit ⟨#[0xb1]⟩ 1 none ∈ wsL_law) (hR : 1 ≤ R.frames ∧ (st.map fun v => v.category).sum + 12 ≤ R.locals) (d : decode cc pc = .ok (.invokespecial index, 3))
    (kk : K p l e R s m args below meth c Q D b nL ca sl sh σ (pc + 3) ls st) : K p l e R s m args below meth c Q D b nL ca sl sh σ pc ls (rf b a :: st) := fun H locs lsA hRp hS hl =>
  W.objInit X.1 X.2.1 X.2.2.2.1 (X.2.2.2.2.1 _ h1) (X.2.2.2.2.1 _ h2) (X.2.2.2.2.1 _ h3) rfl (hl.1.trans X.2.2.1.symm) rfl d hR.1 (by show 2 * 0 + _ + 12 ≤ _; omega) (kk H locs lsA hRp hS hl)
theorem K_callVE (X : KX p s m meth c args D b cc nL ret own) {y : MethodName} {bytes : ByteArray} {maxL n index a ci mc ms : Nat} {rt : Option FieldType} {rm : Room} {As stk : List Value} {sh' : List KSh} {σ' : KS} {v : Value} {T : u_T} {N : Nat} (hc : Ct l D b y bytes maxL rt rm mc ms (rf b a :: As) sh σ sh' (pE (some v) σ')) (hy : kMy y bytes maxL rt n) (hi : Cond.instanceMethod y ∈ wsL_law ∧ Cond.selects y.cls y y ∈ wsL_law) (hlk : Cond.methodLink own index y ∈ wsL_law) (hsa : sh[a]? = some (.inl ci)) (hci : vwCl[ci]? = some (y.cls, T, N))
    (hroom : rm.cells = mc ∧ rm.slots = ms ∧ rm.frames + 1 ≤ R.frames ∧ 8 + (maxL + 11) + rm.locals ≤ R.locals ∧ ca + mc ≤ R.cells ∧ sl + ms ≤ R.slots) (hst : stk = As.reverse ++ rf b a :: st) (hn : As.length = n) (hcat : (st.map fun v => v.category).sum ≤ 8) (d : decode cc pc = .ok (.invokevirtual index, 3))
    (kk : K p l e R s m args below meth c Q D b nL (ca + mc) (sl + ms) sh' σ' (pc + 3) ls (v :: st)) : K p l e R s m args below meth c Q D b nL ca sl sh σ pc ls stk := K_callV X hc hy hi hlk hsa hci hroom hst hn hcat d (by rintro _ _ ⟨rfl, rfl⟩; exact kk)
theorem K_callVE0 (X : KX p s m meth c args D b cc nL ret own) {y : MethodName} {bytes : ByteArray} {maxL n index a ci mc ms : Nat} {rt : Option FieldType} {rm : Room} {As stk : List Value} {sh' : List KSh} {σ' : KS} {T : u_T} {N : Nat} (hc : Ct l D b y bytes maxL rt rm mc ms (rf b a :: As) sh σ sh' (pE (none) σ')) (hy : kMy y bytes maxL rt n) (hi : Cond.instanceMethod y ∈ wsL_law ∧ Cond.selects y.cls y y ∈ wsL_law) (hlk : Cond.methodLink own index y ∈ wsL_law) (hsa : sh[a]? = some (.inl ci)) (hci : vwCl[ci]? = some (y.cls, T, N))
    (hroom : rm.cells = mc ∧ rm.slots = ms ∧ rm.frames + 1 ≤ R.frames ∧ 8 + (maxL + 11) + rm.locals ≤ R.locals ∧ ca + mc ≤ R.cells ∧ sl + ms ≤ R.slots) (hst : stk = As.reverse ++ rf b a :: st) (hn : As.length = n) (hcat : (st.map fun v => v.category).sum ≤ 8) (d : decode cc pc = .ok (.invokevirtual index, 3))
    (kk : K p l e R s m args below meth c Q D b nL (ca + mc) (sl + ms) sh' σ' (pc + 3) ls st) : K p l e R s m args below meth c Q D b nL ca sl sh σ pc ls stk := K_callV X hc hy hi hlk hsa hci hroom hst hn hcat d (by rintro _ _ ⟨rfl, rfl⟩; exact kk)
theorem K_callVP (X : KX p s m meth c args D b cc nL ret own) {y : MethodName} {bytes : ByteArray} {maxL n index a ci mc ms : Nat} {rt : Option FieldType} {rm : Room} {As stk : List Value} {sh' : List KSh} {φ : KS → Prop} {v : Value} {T : u_T} {N : Nat} (hc : Ct l D b y bytes maxL rt rm mc ms (rf b a :: As) sh σ sh' (pS (some v) φ)) (hy : kMy y bytes maxL rt n) (hi : Cond.instanceMethod y ∈ wsL_law ∧ Cond.selects y.cls y y ∈ wsL_law) (hlk : Cond.methodLink own index y ∈ wsL_law) (hsa : sh[a]? = some (.inl ci)) (hci : vwCl[ci]? = some (y.cls, T, N))
    (hroom : rm.cells = mc ∧ rm.slots = ms ∧ rm.frames + 1 ≤ R.frames ∧ 8 + (maxL + 11) + rm.locals ≤ R.locals ∧ ca + mc ≤ R.cells ∧ sl + ms ≤ R.slots) (hst : stk = As.reverse ++ rf b a :: st) (hn : As.length = n) (hcat : (st.map fun v => v.category).sum ≤ 8) (d : decode cc pc = .ok (.invokevirtual index, 3))
    (kk : ∀ σ', φ σ' → K p l e R s m args below meth c Q D b nL (ca + mc) (sl + ms) sh' σ' (pc + 3) ls (v :: st)) : K p l e R s m args below meth c Q D b nL ca sl sh σ pc ls stk := K_callV X hc hy hi hlk hsa hci hroom hst hn hcat d (by rintro _ σ' ⟨rfl, h⟩; exact kk σ' h)
theorem K_callVP0 (X : KX p s m meth c args D b cc nL ret own) {y : MethodName} {bytes : ByteArray} {maxL n index a ci mc ms : Nat} {rt : Option FieldType} {rm : Room} {As stk : List Value} {sh' : List KSh} {φ : KS → Prop} {T : u_T} {N : Nat} (hc : Ct l D b y bytes maxL rt rm mc ms (rf b a :: As) sh σ sh' (pS (none) φ)) (hy : kMy y bytes maxL rt n) (hi : Cond.instanceMethod y ∈ wsL_law ∧ Cond.selects y.cls y y ∈ wsL_law) (hlk : Cond.methodLink own index y ∈ wsL_law) (hsa : sh[a]? = some (.inl ci)) (hci : vwCl[ci]? = some (y.cls, T, N))
    (hroom : rm.cells = mc ∧ rm.slots = ms ∧ rm.frames + 1 ≤ R.frames ∧ 8 + (maxL + 11) + rm.locals ≤ R.locals ∧ ca + mc ≤ R.cells ∧ sl + ms ≤ R.slots) (hst : stk = As.reverse ++ rf b a :: st) (hn : As.length = n) (hcat : (st.map fun v => v.category).sum ≤ 8) (d : decode cc pc = .ok (.invokevirtual index, 3))
    (kk : ∀ σ', φ σ' → K p l e R s m args below meth c Q D b nL (ca + mc) (sl + ms) sh' σ' (pc + 3) ls st) : K p l e R s m args below meth c Q D b nL ca sl sh σ pc ls stk := K_callV X hc hy hi hlk hsa hci hroom hst hn hcat d (by rintro _ σ' ⟨rfl, h⟩; exact kk σ' h)
theorem K_callSE (X : KX p s m meth c args D b cc nL ret own) {y : MethodName} {bytes : ByteArray} {maxL n index mc ms : Nat} {rt : Option FieldType} {rm : Room} {As stk : List Value} {sh' : List KSh} {σ' : KS} {v : Value} (hc : Ct l D b y bytes maxL rt rm mc ms As sh σ sh' (pE (some v) σ')) (hy : kMy y bytes maxL rt n) (hi : Cond.static y ∈ wsL_law) (hlk : Cond.methodLink own index y ∈ wsL_law)
    (hroom : rm.cells = mc ∧ rm.slots = ms ∧ rm.frames + 1 ≤ R.frames ∧ 8 + (maxL + 11) + rm.locals ≤ R.locals ∧ ca + mc ≤ R.cells ∧ sl + ms ≤ R.slots) (hst : stk = As.reverse ++ st) (hn : As.length = n) (hcat : (st.map fun v => v.category).sum ≤ 8) (d : decode cc pc = .ok (.invokestatic index, 3))
    (kk : K p l e R s m args below meth c Q D b nL (ca + mc) (sl + ms) sh' σ' (pc + 3) ls (v :: st)) : K p l e R s m args below meth c Q D b nL ca sl sh σ pc ls stk := K_callS X hc hy hi hlk hroom hst hn hcat d (by rintro _ _ ⟨rfl, rfl⟩; exact kk)
theorem K_callSE0 (X : KX p s m meth c args D b cc nL ret own) {y : MethodName} {bytes : ByteArray} {maxL n index mc ms : Nat} {rt : Option FieldType} {rm : Room} {As stk : List Value} {sh' : List KSh} {σ' : KS} (hc : Ct l D b y bytes maxL rt rm mc ms As sh σ sh' (pE (none) σ')) (hy : kMy y bytes maxL rt n) (hi : Cond.static y ∈ wsL_law) (hlk : Cond.methodLink own index y ∈ wsL_law)
    (hroom : rm.cells = mc ∧ rm.slots = ms ∧ rm.frames + 1 ≤ R.frames ∧ 8 + (maxL + 11) + rm.locals ≤ R.locals ∧ ca + mc ≤ R.cells ∧ sl + ms ≤ R.slots) (hst : stk = As.reverse ++ st) (hn : As.length = n) (hcat : (st.map fun v => v.category).sum ≤ 8) (d : decode cc pc = .ok (.invokestatic index, 3))
    (kk : K p l e R s m args below meth c Q D b nL (ca + mc) (sl + ms) sh' σ' (pc + 3) ls st) : K p l e R s m args below meth c Q D b nL ca sl sh σ pc ls stk := K_callS X hc hy hi hlk hroom hst hn hcat d (by rintro _ _ ⟨rfl, rfl⟩; exact kk)
theorem K_callSP (X : KX p s m meth c args D b cc nL ret own) {y : MethodName} {bytes : ByteArray} {maxL n index mc ms : Nat} {rt : Option FieldType} {rm : Room} {As stk : List Value} {sh' : List KSh} {φ : KS → Prop} {v : Value} (hc : Ct l D b y bytes maxL rt rm mc ms As sh σ sh' (pS (some v) φ)) (hy : kMy y bytes maxL rt n) (hi : Cond.static y ∈ wsL_law) (hlk : Cond.methodLink own index y ∈ wsL_law)
    (hroom : rm.cells = mc ∧ rm.slots = ms ∧ rm.frames + 1 ≤ R.frames ∧ 8 + (maxL + 11) + rm.locals ≤ R.locals ∧ ca + mc ≤ R.cells ∧ sl + ms ≤ R.slots) (hst : stk = As.reverse ++ st) (hn : As.length = n) (hcat : (st.map fun v => v.category).sum ≤ 8) (d : decode cc pc = .ok (.invokestatic index, 3))
    (kk : ∀ σ', φ σ' → K p l e R s m args below meth c Q D b nL (ca + mc) (sl + ms) sh' σ' (pc + 3) ls (v :: st)) : K p l e R s m args below meth c Q D b nL ca sl sh σ pc ls stk := K_callS X hc hy hi hlk hroom hst hn hcat d (by rintro _ σ' ⟨rfl, h⟩; exact kk σ' h)
theorem K_callSP0 (X : KX p s m meth c args D b cc nL ret own) {y : MethodName} {bytes : ByteArray} {maxL n index mc ms : Nat} {rt : Option FieldType} {rm : Room} {As stk : List Value} {sh' : List KSh} {φ : KS → Prop} (hc : Ct l D b y bytes maxL rt rm mc ms As sh σ sh' (pS (none) φ)) (hy : kMy y bytes maxL rt n) (hi : Cond.static y ∈ wsL_law) (hlk : Cond.methodLink own index y ∈ wsL_law)
    (hroom : rm.cells = mc ∧ rm.slots = ms ∧ rm.frames + 1 ≤ R.frames ∧ 8 + (maxL + 11) + rm.locals ≤ R.locals ∧ ca + mc ≤ R.cells ∧ sl + ms ≤ R.slots) (hst : stk = As.reverse ++ st) (hn : As.length = n) (hcat : (st.map fun v => v.category).sum ≤ 8) (d : decode cc pc = .ok (.invokestatic index, 3))
    (kk : ∀ σ', φ σ' → K p l e R s m args below meth c Q D b nL (ca + mc) (sl + ms) sh' σ' (pc + 3) ls st) : K p l e R s m args below meth c Q D b nL ca sl sh σ pc ls stk := K_callS X hc hy hi hlk hroom hst hn hcat d (by rintro _ σ' ⟨rfl, h⟩; exact kk σ' h)
theorem K_callSNE (X : KX p s m meth c args D b cc nL ret own) {y : MethodName} {bytes : ByteArray} {maxL n index mc ms : Nat} {host : String} {rt : Option FieldType} {rm : Room} {As stk : List Value} {sh' : List KSh} {σ' : KS} {v : Value} (hc : Ct l D b y bytes maxL rt rm mc ms As sh σ sh' (pE (some v) σ')) (hy : kMy y bytes maxL rt n) (hi : Cond.static y ∈ wsL_law) (hlk : (own, index, y, host) ∈ kNest)
    (hroom : rm.cells = mc ∧ rm.slots = ms ∧ rm.frames + 1 ≤ R.frames ∧ 8 + (maxL + 11) + rm.locals ≤ R.locals ∧ ca + mc ≤ R.cells ∧ sl + ms ≤ R.slots) (hst : stk = As.reverse ++ st) (hn : As.length = n) (hcat : (st.map fun v => v.category).sum ≤ 8) (d : decode cc pc = .ok (.invokestatic index, 3))
    (kk : K p l e R s m args below meth c Q D b nL (ca + mc) (sl + ms) sh' σ' (pc + 3) ls (v :: st)) : K p l e R s m args below meth c Q D b nL ca sl sh σ pc ls stk := K_callSN X hc hy hi hlk hroom hst hn hcat d (by rintro _ _ ⟨rfl, rfl⟩; exact kk)
theorem K_callSNE0 (X : KX p s m meth c args D b cc nL ret own) {y : MethodName} {bytes : ByteArray} {maxL n index mc ms : Nat} {host : String} {rt : Option FieldType} {rm : Room} {As stk : List Value} {sh' : List KSh} {σ' : KS} (hc : Ct l D b y bytes maxL rt rm mc ms As sh σ sh' (pE (none) σ')) (hy : kMy y bytes maxL rt n) (hi : Cond.static y ∈ wsL_law) (hlk : (own, index, y, host) ∈ kNest)
    (hroom : rm.cells = mc ∧ rm.slots = ms ∧ rm.frames + 1 ≤ R.frames ∧ 8 + (maxL + 11) + rm.locals ≤ R.locals ∧ ca + mc ≤ R.cells ∧ sl + ms ≤ R.slots) (hst : stk = As.reverse ++ st) (hn : As.length = n) (hcat : (st.map fun v => v.category).sum ≤ 8) (d : decode cc pc = .ok (.invokestatic index, 3))
    (kk : K p l e R s m args below meth c Q D b nL (ca + mc) (sl + ms) sh' σ' (pc + 3) ls st) : K p l e R s m args below meth c Q D b nL ca sl sh σ pc ls stk := K_callSN X hc hy hi hlk hroom hst hn hcat d (by rintro _ _ ⟨rfl, rfl⟩; exact kk)
theorem K_callSNP (X : KX p s m meth c args D b cc nL ret own) {y : MethodName} {bytes : ByteArray} {maxL n index mc ms : Nat} {host : String} {rt : Option FieldType} {rm : Room} {As stk : List Value} {sh' : List KSh} {φ : KS → Prop} {v : Value} (hc : Ct l D b y bytes maxL rt rm mc ms As sh σ sh' (pS (some v) φ)) (hy : kMy y bytes maxL rt n) (hi : Cond.static y ∈ wsL_law) (hlk : (own, index, y, host) ∈ kNest)
    (hroom : rm.cells = mc ∧ rm.slots = ms ∧ rm.frames + 1 ≤ R.frames ∧ 8 + (maxL + 11) + rm.locals ≤ R.locals ∧ ca + mc ≤ R.cells ∧ sl + ms ≤ R.slots) (hst : stk = As.reverse ++ st) (hn : As.length = n) (hcat : (st.map fun v => v.category).sum ≤ 8) (d : decode cc pc = .ok (.invokestatic index, 3))
    (kk : ∀ σ', φ σ' → K p l e R s m args below meth c Q D b nL (ca + mc) (sl + ms) sh' σ' (pc + 3) ls (v :: st)) : K p l e R s m args below meth c Q D b nL ca sl sh σ pc ls stk := K_callSN X hc hy hi hlk hroom hst hn hcat d (by rintro _ σ' ⟨rfl, h⟩; exact kk σ' h)
theorem K_callSNP0 (X : KX p s m meth c args D b cc nL ret own) {y : MethodName} {bytes : ByteArray} {maxL n index mc ms : Nat} {host : String} {rt : Option FieldType} {rm : Room} {As stk : List Value} {sh' : List KSh} {φ : KS → Prop} (hc : Ct l D b y bytes maxL rt rm mc ms As sh σ sh' (pS (none) φ)) (hy : kMy y bytes maxL rt n) (hi : Cond.static y ∈ wsL_law) (hlk : (own, index, y, host) ∈ kNest)
    (hroom : rm.cells = mc ∧ rm.slots = ms ∧ rm.frames + 1 ≤ R.frames ∧ 8 + (maxL + 11) + rm.locals ≤ R.locals ∧ ca + mc ≤ R.cells ∧ sl + ms ≤ R.slots) (hst : stk = As.reverse ++ st) (hn : As.length = n) (hcat : (st.map fun v => v.category).sum ≤ 8) (d : decode cc pc = .ok (.invokestatic index, 3))
    (kk : ∀ σ', φ σ' → K p l e R s m args below meth c Q D b nL (ca + mc) (sl + ms) sh' σ' (pc + 3) ls st) : K p l e R s m args below meth c Q D b nL ca sl sh σ pc ls stk := K_callSN X hc hy hi hlk hroom hst hn hcat d (by rintro _ σ' ⟨rfl, h⟩; exact kk σ' h)
theorem K_callIE0 (X : KX p s m meth c args D b cc nL ret own) {y : MethodName} {bytes : ByteArray} {maxL n index a mc ms : Nat} {rm : Room} {As stk : List Value} {sh' : List KSh} {σ' : KS} (hc : Ct l D b y bytes maxL none rm mc ms (rf b a :: As) sh σ sh' (pE (none) σ')) (hy : kMy y bytes maxL none n) (hi : Cond.instanceMethod y ∈ wsL_law) (hnm : y.name = "<init>") (hlk : Cond.methodLink own index y ∈ wsL_law)
    (hroom : rm.cells = mc ∧ rm.slots = ms ∧ rm.frames + 1 ≤ R.frames ∧ 8 + (maxL + 11) + rm.locals ≤ R.locals ∧ ca + mc ≤ R.cells ∧ sl + ms ≤ R.slots) (hst : stk = As.reverse ++ rf b a :: st) (hn : As.length = n) (hcat : (st.map fun v => v.category).sum ≤ 8) (d : decode cc pc = .ok (.invokespecial index, 3))
    (kk : K p l e R s m args below meth c Q D b nL (ca + mc) (sl + ms) sh' σ' (pc + 3) ls st) : K p l e R s m args below meth c Q D b nL ca sl sh σ pc ls stk := K_callI X hc hy hi hnm hlk hroom hst hn hcat d (by rintro _ _ ⟨rfl, rfl⟩; exact kk)
theorem K_callIP0 (X : KX p s m meth c args D b cc nL ret own) {y : MethodName} {bytes : ByteArray} {maxL n index a mc ms : Nat} {rm : Room} {As stk : List Value} {sh' : List KSh} {φ : KS → Prop} (hc : Ct l D b y bytes maxL none rm mc ms (rf b a :: As) sh σ sh' (pS (none) φ)) (hy : kMy y bytes maxL none n) (hi : Cond.instanceMethod y ∈ wsL_law) (hnm : y.name = "<init>") (hlk : Cond.methodLink own index y ∈ wsL_law)
    (hroom : rm.cells = mc ∧ rm.slots = ms ∧ rm.frames + 1 ≤ R.frames ∧ 8 + (maxL + 11) + rm.locals ≤ R.locals ∧ ca + mc ≤ R.cells ∧ sl + ms ≤ R.slots) (hst : stk = As.reverse ++ rf b a :: st) (hn : As.length = n) (hcat : (st.map fun v => v.category).sum ≤ 8) (d : decode cc pc = .ok (.invokespecial index, 3))
    (kk : ∀ σ', φ σ' → K p l e R s m args below meth c Q D b nL (ca + mc) (sl + ms) sh' σ' (pc + 3) ls st) : K p l e R s m args below meth c Q D b nL ca sl sh σ pc ls stk := K_callI X hc hy hi hnm hlk hroom hst hn hcat d (by rintro _ σ' ⟨rfl, h⟩; exact kk σ' h)
theorem K_callINE0 (X : KX p s m meth c args D b cc nL ret own) {y : MethodName} {bytes : ByteArray} {maxL n index a mc ms : Nat} {host : String} {rm : Room} {As stk : List Value} {sh' : List KSh} {σ' : KS} (hc : Ct l D b y bytes maxL none rm mc ms (rf b a :: As) sh σ sh' (pE (none) σ')) (hy : kMy y bytes maxL none n) (hi : Cond.instanceMethod y ∈ wsL_law) (hnm : y.name = "<init>") (hlk : (own, index, y, host) ∈ kNest)
    (hroom : rm.cells = mc ∧ rm.slots = ms ∧ rm.frames + 1 ≤ R.frames ∧ 8 + (maxL + 11) + rm.locals ≤ R.locals ∧ ca + mc ≤ R.cells ∧ sl + ms ≤ R.slots) (hst : stk = As.reverse ++ rf b a :: st) (hn : As.length = n) (hcat : (st.map fun v => v.category).sum ≤ 8) (d : decode cc pc = .ok (.invokespecial index, 3))
    (kk : K p l e R s m args below meth c Q D b nL (ca + mc) (sl + ms) sh' σ' (pc + 3) ls st) : K p l e R s m args below meth c Q D b nL ca sl sh σ pc ls stk := K_callIN X hc hy hi hnm hlk hroom hst hn hcat d (by rintro _ _ ⟨rfl, rfl⟩; exact kk)
theorem K_callINP0 (X : KX p s m meth c args D b cc nL ret own) {y : MethodName} {bytes : ByteArray} {maxL n index a mc ms : Nat} {host : String} {rm : Room} {As stk : List Value} {sh' : List KSh} {φ : KS → Prop} (hc : Ct l D b y bytes maxL none rm mc ms (rf b a :: As) sh σ sh' (pS (none) φ)) (hy : kMy y bytes maxL none n) (hi : Cond.instanceMethod y ∈ wsL_law) (hnm : y.name = "<init>") (hlk : (own, index, y, host) ∈ kNest)
    (hroom : rm.cells = mc ∧ rm.slots = ms ∧ rm.frames + 1 ≤ R.frames ∧ 8 + (maxL + 11) + rm.locals ≤ R.locals ∧ ca + mc ≤ R.cells ∧ sl + ms ≤ R.slots) (hst : stk = As.reverse ++ rf b a :: st) (hn : As.length = n) (hcat : (st.map fun v => v.category).sum ≤ 8) (d : decode cc pc = .ok (.invokespecial index, 3))
    (kk : ∀ σ', φ σ' → K p l e R s m args below meth c Q D b nL (ca + mc) (sl + ms) sh' σ' (pc + 3) ls st) : K p l e R s m args below meth c Q D b nL ca sl sh σ pc ls stk := K_callIN X hc hy hi hnm hlk hroom hst hn hcat d (by rintro _ σ' ⟨rfl, h⟩; exact kk σ' h)
/-- new cells: the state σ' has the blank cell's values in the new row -/
theorem K_new (X : KX p s m meth c args D b cc nL ret own) {σ' : KS} {ci index N : Nat} {C : String} {T : u_T} (F : kFd ci) (hc : vwCl[ci]? = some (C, T, N)) (h1 : Cond.classLink own index C ∈ wsL_law) (h2 : Cond.instantiable C N ∈ wsL_law) (h3 : Cond.initialized C ∈ wsL_law) (hv : ∀ j, j < N → kv b (kTy ci j) σ' sh.length j = defaultValue (kTy ci j)) (hoth : ∀ x, x < sh.length → σ'.1 x = σ.1 x ∧ σ'.2.1 x = σ.2.1 x ∧ σ'.2.2 x = σ.2.2 x) (hroom : ca + 1 ≤ R.cells ∧ sl + N ≤ R.slots) (d : decode cc pc = .ok (.new index, 3))
    (kk : K p l e R s m args below meth c Q D b nL (ca + 1) (sl + N) (sh ++ [.inl ci]) σ' (pc + 3) ls (rf b sh.length :: st)) : K p l e R s m args below meth c Q D b nL ca sl sh σ pc ls st := by
  intro H locs lsA hR hS hl
  obtain ⟨F1, F2, F3⟩ := F _ hc
  have hKn := X.2.2.2.2.2.1.1 ci _ hc
  refine W.newcK X.1 X.2.1 X.2.2.2.1 (X.2.2.2.2.1 _ h1) (X.2.2.2.2.1 _ h2) (X.2.2.2.2.1 _ h3) rfl d hroom.1 hroom.2 hKn.2.1 hR.1 fun H1 kC hkC e1 z1 o1 => ?_
  refine kk H1 locs lsA (hR.push z1 o1 ⟨_, hc, (u_born (kTy ci) X.2.2.2.2.1 F1 hKn hkC e1 F2).to (fun j hj => (hv j hj).symm)⟩ hoth) ⟨by rw [z1]; have := hS.1; rw [hR.1] at this; omega, fun q g1 g2 => ?_, hS.2.2⟩ hl
  rw [o1 q (by have : ¬ b ≤ q := g2; omega)]
  exact hS.2.1 q g1 g2
theorem kNm {D : KD} (hK : KK D s) {ty : FieldType} (hty : ty = .int ∨ ty = .char) {cA : ClassId} (h : s.vm.findClass ("[" ++ ty.toString) = some cA) : cA = D.2.2 ty := by
  rcases hty with rfl | rfl
  · have h2 : s.vm.findClass ("[" ++ FieldType.int.toString) = some (D.2.2 .int) := (hK.2.1 .int (by decide)).2
    exact Option.some.inj (h.symm.trans h2)
  · have h2 : s.vm.findClass ("[" ++ FieldType.char.toString) = some (D.2.2 .char) := (hK.2.1 .char (by decide)).2
    exact Option.some.inj (h.symm.trans h2)
theorem K_newa (X : KX p s m meth c args D b cc nL ret own) {σ' : KS} {atype : ArrayType} {ty : FieldType} (hat : newarray.typeOf atype = ty) (hty : ty = .int ∨ ty = .char) (h1 : Cond.arrayClass ty ∈ wsL_law) {n : Int32} (jn : Nat) (hn : n = nI jn) (hj : jn < 65536) (hv : ∀ j, j < jn → σ'.1 sh.length j = 0) (hoth : ∀ x, x < sh.length → σ'.1 x = σ.1 x ∧ σ'.2.1 x = σ.2.1 x ∧ σ'.2.2 x = σ.2.2 x) (hroom : ca + 1 ≤ R.cells ∧ sl + jn ≤ R.slots) (d : decode cc pc = .ok (.newarray atype, 2))
    (kk : K p l e R s m args below meth c Q D b nL (ca + 1) (sl + jn) (sh ++ [.inr (ty, jn)]) σ' (pc + 2) ls (rf b sh.length :: st)) : K p l e R s m args below meth c Q D b nL ca sl sh σ pc ls (.int n :: st) := by
  intro H locs lsA hR hS hl
  subst hn
  subst hat
  have hcb : jn * componentBytes (newarray.typeOf atype) ≤ 536870912 := by
    rcases hty with h | h <;> rw [h] <;> simp only [componentBytes] <;> omega
  refine va_newaK X.1 X.2.1 (X.2.2.2.2.1 _ h1) rfl d rfl (nI_pos (by omega)) (nI_clamp (by omega)) hcb hroom.1 hroom.2 hR.1 fun H1 cA e1 z1 o1 hAr hNm => ?_
  have hcA := kNm X.2.2.2.2.2.1 hty hNm
  subst hcA
  refine kk H1 locs lsA (hR.push z1 o1 ?_ hoth) ⟨by rw [z1]; have := hS.1; rw [hR.1] at this; omega, fun q g1 g2 => ?_, hS.2.2⟩ hl
  · show H1[b + sh.length]? = some (arrV _ _ _)
    rw [e1]
    refine congrArg some ?_
    unfold arrV
    congr 1
    apply Array.ext
    · simp
    · intro i hi1 hi2
      simp only [Array.getElem_ofFn]
      have hi3 : i < jn := by simpa using hi1
      rcases hty with h | h <;> rw [h] <;> show Value.int 0 = Value.int (σ'.1 sh.length i) <;> rw [hv i hi3]
  · rw [o1 q (by have : ¬ b ≤ q := g2; omega)]
    exact hS.2.1 q g1 g2
theorem K_newq (X : KX p s m meth c args D b cc nL ret own) {σ' : KS} {index : Nat} {C : String} (hC : C = "FishCounter$Lot" ∨ C = "FishCounter$Shop") (h1 : Cond.classLink own index C ∈ wsL_law) {n : Int32} (jn : Nat) (hn : n = nI jn) (hj : jn < 65536) (hv : ∀ j, j < jn → σ'.2.2 sh.length j = none) (hoth : ∀ x, x < sh.length → σ'.1 x = σ.1 x ∧ σ'.2.1 x = σ.2.1 x ∧ σ'.2.2 x = σ.2.2 x) (hroom : ca + 1 ≤ R.cells ∧ sl + jn ≤ R.slots) (d : decode cc pc = .ok (.anewarray index, 3))
    (kk : K p l e R s m args below meth c Q D b nL (ca + 1) (sl + jn) (sh ++ [.inr (.object C, jn)]) σ' (pc + 3) ls (rf b sh.length :: st)) : K p l e R s m args below meth c Q D b nL ca sl sh σ pc ls (.int n :: st) := by
  intro H locs lsA hR hS hl
  subst hn
  have hao : va_AO C s := by rcases hC with rfl | rfl; exact X.2.2.2.2.2.1.2.2.2.1; exact X.2.2.2.2.2.1.2.2.2.2
  have hty : FieldType.object C ∈ kTys := by rcases hC with rfl | rfl <;> decide
  obtain ⟨kA, comp, k1, k2, k3, k4⟩ := (X.2.2.2.2.2.1.2.1 _ hty).2
  have hz : (nI jn).toNatClampNeg = jn := nI_clamp (by omega)
  refine W.anew X.1 X.2.1 X.2.2.2.1 (X.2.2.2.2.1 _ h1) (va_AO.use hao) rfl d rfl (nI_pos (by omega)) (by rw [hz]; omega) hroom.1 (by rw [hz]; exact hroom.2) fun cA kA' comp' f1 f2 f3 f4 => ?_
  have hcA : cA = D.2.2 (.object C) := Option.some.inj (f1.symm.trans k4)
  subst hcA
  rw [hz, hR.1]
  generalize hH1 : H.push ({ cls := D.2.2 (.object C), slots := Array.replicate jn .null, vm := .none } : Cell) = H1
  have z1 : H1.size = b + sh.length + 1 := by rw [← hH1, Array.size_push, hR.1]
  have e1 : H1[b + sh.length]? = some (arrV (D.2.2 (.object C)) jn (fun _ => .null)) := by rw [← hH1, ← hR.1, Array.getElem?_push_size, ← arrV_new]
  have o1 : ∀ q : Nat, q < b + sh.length → H1[q]? = H[q]? := fun q hq => by rw [← hH1, Array.getElem?_push, if_neg (by rw [hR.1]; omega)]
  refine kk H1 locs lsA (hR.push z1 o1 ?_ hoth) ⟨by rw [z1]; have := hS.1; rw [hR.1] at this; omega, fun q g1 g2 => ?_, hS.2.2⟩ hl
  · show H1[b + sh.length]? = some (arrV _ _ _)
    rw [e1]
    refine congrArg some ?_
    unfold arrV
    congr 1
    apply Array.ext
    · simp
    · intro i hi1 hi2
      simp only [Array.getElem_ofFn]
      have hi3 : i < jn := by simpa using hi1
      show Value.null = va_rf ((σ'.2.2 sh.length i).map _)
      rw [hv i hi3]
      rfl
  · rw [o1 q (by have : ¬ b ≤ q := g2; omega)]
    exact hS.2.1 q g1 g2
theorem K_widen {ca' sl' : Nat} (h1 : ca ≤ ca') (h2 : sl ≤ sl') (kk : K p l e R s m args below meth c Q D b nL ca' sl' sh σ pc ls st) : K p l e R s m args below meth c Q D b nL ca sl sh σ pc ls st := fun H locs lsA hR hS hl => W.widen h1 h2 (kk H locs lsA hR hS hl)
theorem K_ifN_eq (X : KX p s m meth c args D b cc nL ret own) {x : Nat} {off : Int} {tgt : Nat} (d : decode cc pc = .ok (.ifCond .eq off, 3)) (ht : (pc : Int) + off = (tgt : Int)) (hx : x < 2 ^ 31) (kt : x = 0 → K p l e R s m args below meth c Q D b nL ca sl sh σ tgt ls st) (kf : ¬ x = 0 → K p l e R s m args below meth c Q D b nL ca sl sh σ (pc + 3) ls st) : K p l e R s m args below meth c Q D b nL ca sl sh σ pc ls (.int (nI x) :: st) := K_if_eq X d ht (fun z => kt ((nI_eq hx (by decide)).mp z)) (fun z => kf (fun q => z (by rw [q]; rfl)))
theorem K_ifN_ne (X : KX p s m meth c args D b cc nL ret own) {x : Nat} {off : Int} {tgt : Nat} (d : decode cc pc = .ok (.ifCond .ne off, 3)) (ht : (pc : Int) + off = (tgt : Int)) (hx : x < 2 ^ 31) (kt : ¬ x = 0 → K p l e R s m args below meth c Q D b nL ca sl sh σ tgt ls st) (kf : x = 0 → K p l e R s m args below meth c Q D b nL ca sl sh σ (pc + 3) ls st) : K p l e R s m args below meth c Q D b nL ca sl sh σ pc ls (.int (nI x) :: st) := K_if_ne X d ht (fun z => kt (fun q => z (by rw [q]; rfl))) (fun z => kf ((nI_eq hx (by decide)).mp z))
theorem K_ifN_le (X : KX p s m meth c args D b cc nL ret own) {x : Nat} {off : Int} {tgt : Nat} (d : decode cc pc = .ok (.ifCond .le off, 3)) (ht : (pc : Int) + off = (tgt : Int)) (hx : x < 2 ^ 31) (kt : x = 0 → K p l e R s m args below meth c Q D b nL ca sl sh σ tgt ls st) (kf : ¬ x = 0 → K p l e R s m args below meth c Q D b nL ca sl sh σ (pc + 3) ls st) : K p l e R s m args below meth c Q D b nL ca sl sh σ pc ls (.int (nI x) :: st) := K_if_le X d ht (fun z => kt (by have := (nI_leI hx (by decide)).mp (show nI x ≤ nI 0 from z); omega)) (fun z => kf (fun q => z (by rw [q]; exact (nI_leI (by decide) (by decide)).mpr (Nat.le_refl 0))))
theorem kup {P : Nat → Prop} {n : Nat} (h : ∀ i, i ≤ n → (i < n → P (i + 1)) → P i) : ∀ i, i ≤ n → P i := by
  have key : ∀ k i, i + k = n → P i := by
    intro k
    induction k with
    | zero => intro i hi; exact h i (by omega) (fun z => absurd z (by omega))
    | succ k ih => intro i hi; exact h i (by omega) (fun _ => ih (i + 1) (by omega))
  intro i hi
  exact key (n - i) i (by omega)
theorem kv_o {σ : KS} {C : String} {a k z : Nat} (h : σ.2.2 a k = some z) : kv b (.object C) σ a k = rf b z := by
  show va_rf ((σ.2.2 a k).map _) = _
  rw [h]
  rfl
theorem kv_a {σ : KS} {t : FieldType} {a k z : Nat} (h : σ.2.2 a k = some z) : kv b (.array t) σ a k = rf b z := by
  show va_rf ((σ.2.2 a k).map _) = _
  rw [h]
  rfl
end KROWS
abbrev rM (f L : Nat) : Room := { frames := f, cells := 0, slots := 0, locals := L }
end
section
theorem i_vc : Claimed_1_1 ∧ Claimed_1_2 := sorry
end
