section
-- ===== PART A: goes FIRST, ahead of the names: the tables' words, and 'selects' of the private methods out of them =====
/-- a private method of a class that the tables say can be made, by its rows of tables_1 -/
def lw_okq (q : MethodName × Nat) : Prop := (q.1.cls ≠ "java/lang/invoke/MethodHandle" ∧ q.1.cls ≠ "java/lang/invoke/VarHandle") ∧ Cond.instantiable q.1.cls q.2 ∈ tables_1 ∧ Cond.privateMethod q.1 ∈ tables_1 ∧ Cond.instanceMethod q.1 ∈ tables_1
theorem lw_p0 : lw_okq (⟨"FishCounter$DeliveryText", "readNumber", "(II)I"⟩, 7) := ⟨⟨by decide +kernel, by decide +kernel⟩, List.mem_of_getElem? (i := 174) (by decide +kernel), List.mem_of_getElem? (i := 542) (by decide +kernel), List.mem_of_getElem? (i := 543) (by decide +kernel)⟩
theorem lw_p1 : lw_okq (⟨"FishCounter$DeliveryText", "digitHere", "()I"⟩, 7) := ⟨⟨by decide +kernel, by decide +kernel⟩, List.mem_of_getElem? (i := 174) (by decide +kernel), List.mem_of_getElem? (i := 546) (by decide +kernel), List.mem_of_getElem? (i := 547) (by decide +kernel)⟩
theorem lw_p2 : lw_okq (⟨"FishCounter", "mixedWithLot", "(JI)J"⟩, 5) := ⟨⟨by decide +kernel, by decide +kernel⟩, List.mem_of_getElem? (i := 11) (by decide +kernel), List.mem_of_getElem? (i := 580) (by decide +kernel), List.mem_of_getElem? (i := 581) (by decide +kernel)⟩
theorem lw_p3 : lw_okq (⟨"FishCounter", "mixedWithPlaces", "(J)J"⟩, 5) := ⟨⟨by decide +kernel, by decide +kernel⟩, List.mem_of_getElem? (i := 11) (by decide +kernel), List.mem_of_getElem? (i := 587) (by decide +kernel), List.mem_of_getElem? (i := 588) (by decide +kernel)⟩
theorem lw_p4 : lw_okq (⟨"FishCounterModel", "record", "()V"⟩, 12) := ⟨⟨by decide +kernel, by decide +kernel⟩, List.mem_of_getElem? (i := 596) (by decide +kernel), List.mem_of_getElem? (i := 649) (by decide +kernel), List.mem_of_getElem? (i := 650) (by decide +kernel)⟩
theorem lw_p5 : lw_okq (⟨"FishCounterModel", "whyNotDelivered", "(IIII)I"⟩, 12) := ⟨⟨by decide +kernel, by decide +kernel⟩, List.mem_of_getElem? (i := 596) (by decide +kernel), List.mem_of_getElem? (i := 671) (by decide +kernel), List.mem_of_getElem? (i := 672) (by decide +kernel)⟩
theorem lw_p6 : lw_okq (⟨"FishCounterModel", "whyNotRoom", "(I)I"⟩, 12) := ⟨⟨by decide +kernel, by decide +kernel⟩, List.mem_of_getElem? (i := 596) (by decide +kernel), List.mem_of_getElem? (i := 678) (by decide +kernel), List.mem_of_getElem? (i := 679) (by decide +kernel)⟩
theorem lw_p7 : lw_okq (⟨"FishCounterModel", "lotsAt", "(I)I"⟩, 12) := ⟨⟨by decide +kernel, by decide +kernel⟩, List.mem_of_getElem? (i := 596) (by decide +kernel), List.mem_of_getElem? (i := 682) (by decide +kernel), List.mem_of_getElem? (i := 683) (by decide +kernel)⟩
theorem lw_p8 : lw_okq (⟨"FishCounterModel", "part", "(II)I"⟩, 12) := ⟨⟨by decide +kernel, by decide +kernel⟩, List.mem_of_getElem? (i := 596) (by decide +kernel), List.mem_of_getElem? (i := 686) (by decide +kernel), List.mem_of_getElem? (i := 687) (by decide +kernel)⟩
theorem lw_p9 : lw_okq (⟨"FishCounterModel", "delivers", "(IIII)I"⟩, 12) := ⟨⟨by decide +kernel, by decide +kernel⟩, List.mem_of_getElem? (i := 596) (by decide +kernel), List.mem_of_getElem? (i := 690) (by decide +kernel), List.mem_of_getElem? (i := 691) (by decide +kernel)⟩
theorem lw_p10 : lw_okq (⟨"FishCounterModel", "adds", "(IIII)I"⟩, 12) := ⟨⟨by decide +kernel, by decide +kernel⟩, List.mem_of_getElem? (i := 596) (by decide +kernel), List.mem_of_getElem? (i := 697) (by decide +kernel), List.mem_of_getElem? (i := 698) (by decide +kernel)⟩
theorem lw_p11 : lw_okq (⟨"FishCounterModel", "setPart", "(III)V"⟩, 12) := ⟨⟨by decide +kernel, by decide +kernel⟩, List.mem_of_getElem? (i := 596) (by decide +kernel), List.mem_of_getElem? (i := 701) (by decide +kernel), List.mem_of_getElem? (i := 702) (by decide +kernel)⟩
theorem lw_p12 : lw_okq (⟨"FishCounterModel", "ices", "(II)I"⟩, 12) := ⟨⟨by decide +kernel, by decide +kernel⟩, List.mem_of_getElem? (i := 596) (by decide +kernel), List.mem_of_getElem? (i := 709) (by decide +kernel), List.mem_of_getElem? (i := 710) (by decide +kernel)⟩
theorem lw_p13 : lw_okq (⟨"FishCounterModel", "find", "(I)I"⟩, 12) := ⟨⟨by decide +kernel, by decide +kernel⟩, List.mem_of_getElem? (i := 596) (by decide +kernel), List.mem_of_getElem? (i := 724) (by decide +kernel), List.mem_of_getElem? (i := 725) (by decide +kernel)⟩
theorem lw_p14 : lw_okq (⟨"FishCounterModel", "priceOf", "(I)I"⟩, 12) := ⟨⟨by decide +kernel, by decide +kernel⟩, List.mem_of_getElem? (i := 596) (by decide +kernel), List.mem_of_getElem? (i := 728) (by decide +kernel), List.mem_of_getElem? (i := 729) (by decide +kernel)⟩
theorem lw_p15 : lw_okq (⟨"FishCounterModel", "priceWith", "(III)I"⟩, 12) := ⟨⟨by decide +kernel, by decide +kernel⟩, List.mem_of_getElem? (i := 596) (by decide +kernel), List.mem_of_getElem? (i := 732) (by decide +kernel), List.mem_of_getElem? (i := 733) (by decide +kernel)⟩
def lw_privs_1 : List (MethodName × Nat) := [(⟨"FishCounter$DeliveryText", "readNumber", "(II)I"⟩, 7), (⟨"FishCounter$DeliveryText", "digitHere", "()I"⟩, 7), (⟨"FishCounter", "mixedWithLot", "(JI)J"⟩, 5), (⟨"FishCounter", "mixedWithPlaces", "(J)J"⟩, 5), (⟨"FishCounterModel", "record", "()V"⟩, 12), (⟨"FishCounterModel", "whyNotDelivered", "(IIII)I"⟩, 12), (⟨"FishCounterModel", "whyNotRoom", "(I)I"⟩, 12), (⟨"FishCounterModel", "lotsAt", "(I)I"⟩, 12), (⟨"FishCounterModel", "part", "(II)I"⟩, 12), (⟨"FishCounterModel", "delivers", "(IIII)I"⟩, 12), (⟨"FishCounterModel", "adds", "(IIII)I"⟩, 12), (⟨"FishCounterModel", "setPart", "(III)V"⟩, 12), (⟨"FishCounterModel", "ices", "(II)I"⟩, 12), (⟨"FishCounterModel", "find", "(I)I"⟩, 12), (⟨"FishCounterModel", "priceOf", "(I)I"⟩, 12), (⟨"FishCounterModel", "priceWith", "(III)I"⟩, 12)]
theorem lw_r1 : ∀ q ∈ lw_privs_1, lw_okq q := List.forall_mem_cons.mpr ⟨lw_p0, List.forall_mem_cons.mpr ⟨lw_p1, List.forall_mem_cons.mpr ⟨lw_p2, List.forall_mem_cons.mpr ⟨lw_p3, List.forall_mem_cons.mpr ⟨lw_p4, List.forall_mem_cons.mpr ⟨lw_p5, List.forall_mem_cons.mpr ⟨lw_p6, List.forall_mem_cons.mpr ⟨lw_p7, List.forall_mem_cons.mpr ⟨lw_p8, List.forall_mem_cons.mpr ⟨lw_p9, List.forall_mem_cons.mpr ⟨lw_p10, List.forall_mem_cons.mpr ⟨lw_p11, List.forall_mem_cons.mpr ⟨lw_p12, List.forall_mem_cons.mpr ⟨lw_p13, List.forall_mem_cons.mpr ⟨lw_p14, List.forall_mem_cons.mpr ⟨lw_p15, fun _ h => absurd h List.not_mem_nil⟩⟩⟩⟩⟩⟩⟩⟩⟩⟩⟩⟩⟩⟩⟩⟩
theorem lw_p16 : lw_okq (⟨"FishCounterModel", "throwsAway", "(I)V"⟩, 12) := ⟨⟨by decide +kernel, by decide +kernel⟩, List.mem_of_getElem? (i := 596) (by decide +kernel), List.mem_of_getElem? (i := 748) (by decide +kernel), List.mem_of_getElem? (i := 749) (by decide +kernel)⟩
theorem lw_p17 : lw_okq (⟨"FishCounterModel", "drops", "(I)V"⟩, 12) := ⟨⟨by decide +kernel, by decide +kernel⟩, List.mem_of_getElem? (i := 596) (by decide +kernel), List.mem_of_getElem? (i := 752) (by decide +kernel), List.mem_of_getElem? (i := 753) (by decide +kernel)⟩
theorem lw_p18 : lw_okq (⟨"FishCounterModel", "nextFor", "(III)I"⟩, 12) := ⟨⟨by decide +kernel, by decide +kernel⟩, List.mem_of_getElem? (i := 596) (by decide +kernel), List.mem_of_getElem? (i := 760) (by decide +kernel), List.mem_of_getElem? (i := 761) (by decide +kernel)⟩
theorem lw_p19 : lw_okq (⟨"FishCounterModel", "isSold", "(I)Z"⟩, 12) := ⟨⟨by decide +kernel, by decide +kernel⟩, List.mem_of_getElem? (i := 596) (by decide +kernel), List.mem_of_getElem? (i := 767) (by decide +kernel), List.mem_of_getElem? (i := 768) (by decide +kernel)⟩
theorem lw_p20 : lw_okq (⟨"FishCounterModel", "passesHour", "()V"⟩, 12) := ⟨⟨by decide +kernel, by decide +kernel⟩, List.mem_of_getElem? (i := 596) (by decide +kernel), List.mem_of_getElem? (i := 775) (by decide +kernel), List.mem_of_getElem? (i := 776) (by decide +kernel)⟩
theorem lw_p21 : lw_okq (⟨"FishCounterModel", "iceThen", "(II)I"⟩, 12) := ⟨⟨by decide +kernel, by decide +kernel⟩, List.mem_of_getElem? (i := 596) (by decide +kernel), List.mem_of_getElem? (i := 785) (by decide +kernel), List.mem_of_getElem? (i := 786) (by decide +kernel)⟩
theorem lw_p22 : lw_okq (⟨"FishCounterModel", "closes", "()I"⟩, 12) := ⟨⟨by decide +kernel, by decide +kernel⟩, List.mem_of_getElem? (i := 596) (by decide +kernel), List.mem_of_getElem? (i := 793) (by decide +kernel), List.mem_of_getElem? (i := 794) (by decide +kernel)⟩
theorem lw_p23 : lw_okq (⟨"FishCounterModel", "firstAt", "(I)I"⟩, 12) := ⟨⟨by decide +kernel, by decide +kernel⟩, List.mem_of_getElem? (i := 596) (by decide +kernel), List.mem_of_getElem? (i := 797) (by decide +kernel), List.mem_of_getElem? (i := 798) (by decide +kernel)⟩
theorem lw_p24 : lw_okq (⟨"FishCounterModel", "coldest", "()I"⟩, 12) := ⟨⟨by decide +kernel, by decide +kernel⟩, List.mem_of_getElem? (i := 596) (by decide +kernel), List.mem_of_getElem? (i := 801) (by decide +kernel), List.mem_of_getElem? (i := 802) (by decide +kernel)⟩
theorem lw_p25 : lw_okq (⟨"FishCounterModel", "countOf", "(I)J"⟩, 12) := ⟨⟨by decide +kernel, by decide +kernel⟩, List.mem_of_getElem? (i := 596) (by decide +kernel), List.mem_of_getElem? (i := 809) (by decide +kernel), List.mem_of_getElem? (i := 810) (by decide +kernel)⟩
theorem lw_p26 : lw_okq (⟨"FishCounterModel", "allGrams", "()I"⟩, 12) := ⟨⟨by decide +kernel, by decide +kernel⟩, List.mem_of_getElem? (i := 596) (by decide +kernel), List.mem_of_getElem? (i := 813) (by decide +kernel), List.mem_of_getElem? (i := 814) (by decide +kernel)⟩
theorem lw_p27 : lw_okq (⟨"FishCounterModel", "ofLot", "(II)I"⟩, 12) := ⟨⟨by decide +kernel, by decide +kernel⟩, List.mem_of_getElem? (i := 596) (by decide +kernel), List.mem_of_getElem? (i := 822) (by decide +kernel), List.mem_of_getElem? (i := 823) (by decide +kernel)⟩
theorem lw_p28 : lw_okq (⟨"FishCounterModel", "ofBox", "(II)I"⟩, 12) := ⟨⟨by decide +kernel, by decide +kernel⟩, List.mem_of_getElem? (i := 596) (by decide +kernel), List.mem_of_getElem? (i := 830) (by decide +kernel), List.mem_of_getElem? (i := 831) (by decide +kernel)⟩
theorem lw_p29 : lw_okq (⟨"FishCounterModel", "gramsAt", "(I)I"⟩, 12) := ⟨⟨by decide +kernel, by decide +kernel⟩, List.mem_of_getElem? (i := 596) (by decide +kernel), List.mem_of_getElem? (i := 834) (by decide +kernel), List.mem_of_getElem? (i := 835) (by decide +kernel)⟩
theorem lw_p30 : lw_okq (⟨"FishCounterModel", "numberAt", "(I)I"⟩, 12) := ⟨⟨by decide +kernel, by decide +kernel⟩, List.mem_of_getElem? (i := 596) (by decide +kernel), List.mem_of_getElem? (i := 838) (by decide +kernel), List.mem_of_getElem? (i := 839) (by decide +kernel)⟩
theorem lw_p31 : lw_okq (⟨"FishCounterModel", "ofTray", "(II)I"⟩, 12) := ⟨⟨by decide +kernel, by decide +kernel⟩, List.mem_of_getElem? (i := 596) (by decide +kernel), List.mem_of_getElem? (i := 846) (by decide +kernel), List.mem_of_getElem? (i := 847) (by decide +kernel)⟩
def lw_privs_2 : List (MethodName × Nat) := [(⟨"FishCounterModel", "throwsAway", "(I)V"⟩, 12), (⟨"FishCounterModel", "drops", "(I)V"⟩, 12), (⟨"FishCounterModel", "nextFor", "(III)I"⟩, 12), (⟨"FishCounterModel", "isSold", "(I)Z"⟩, 12), (⟨"FishCounterModel", "passesHour", "()V"⟩, 12), (⟨"FishCounterModel", "iceThen", "(II)I"⟩, 12), (⟨"FishCounterModel", "closes", "()I"⟩, 12), (⟨"FishCounterModel", "firstAt", "(I)I"⟩, 12), (⟨"FishCounterModel", "coldest", "()I"⟩, 12), (⟨"FishCounterModel", "countOf", "(I)J"⟩, 12), (⟨"FishCounterModel", "allGrams", "()I"⟩, 12), (⟨"FishCounterModel", "ofLot", "(II)I"⟩, 12), (⟨"FishCounterModel", "ofBox", "(II)I"⟩, 12), (⟨"FishCounterModel", "gramsAt", "(I)I"⟩, 12), (⟨"FishCounterModel", "numberAt", "(I)I"⟩, 12), (⟨"FishCounterModel", "ofTray", "(II)I"⟩, 12)]
theorem lw_r2 : ∀ q ∈ lw_privs_2, lw_okq q := List.forall_mem_cons.mpr ⟨lw_p16, List.forall_mem_cons.mpr ⟨lw_p17, List.forall_mem_cons.mpr ⟨lw_p18, List.forall_mem_cons.mpr ⟨lw_p19, List.forall_mem_cons.mpr ⟨lw_p20, List.forall_mem_cons.mpr ⟨lw_p21, List.forall_mem_cons.mpr ⟨lw_p22, List.forall_mem_cons.mpr ⟨lw_p23, List.forall_mem_cons.mpr ⟨lw_p24, List.forall_mem_cons.mpr ⟨lw_p25, List.forall_mem_cons.mpr ⟨lw_p26, List.forall_mem_cons.mpr ⟨lw_p27, List.forall_mem_cons.mpr ⟨lw_p28, List.forall_mem_cons.mpr ⟨lw_p29, List.forall_mem_cons.mpr ⟨lw_p30, List.forall_mem_cons.mpr ⟨lw_p31, fun _ h => absurd h List.not_mem_nil⟩⟩⟩⟩⟩⟩⟩⟩⟩⟩⟩⟩⟩⟩⟩⟩
theorem lw_p32 : lw_okq (⟨"FishCounterModel", "ofKind", "(II)I"⟩, 12) := ⟨⟨by decide +kernel, by decide +kernel⟩, List.mem_of_getElem? (i := 596) (by decide +kernel), List.mem_of_getElem? (i := 854) (by decide +kernel), List.mem_of_getElem? (i := 855) (by decide +kernel)⟩
theorem lw_p33 : lw_okq (⟨"FishCounterModel", "gramsOfKind", "(I)I"⟩, 12) := ⟨⟨by decide +kernel, by decide +kernel⟩, List.mem_of_getElem? (i := 596) (by decide +kernel), List.mem_of_getElem? (i := 858) (by decide +kernel), List.mem_of_getElem? (i := 859) (by decide +kernel)⟩
theorem lw_p34 : lw_okq (⟨"FishCounterModel", "freshest", "(I)I"⟩, 12) := ⟨⟨by decide +kernel, by decide +kernel⟩, List.mem_of_getElem? (i := 596) (by decide +kernel), List.mem_of_getElem? (i := 862) (by decide +kernel), List.mem_of_getElem? (i := 863) (by decide +kernel)⟩
theorem lw_p35 : lw_okq (⟨"FishCounterModel", "freshIn", "(II)I"⟩, 12) := ⟨⟨by decide +kernel, by decide +kernel⟩, List.mem_of_getElem? (i := 596) (by decide +kernel), List.mem_of_getElem? (i := 874) (by decide +kernel), List.mem_of_getElem? (i := 875) (by decide +kernel)⟩
theorem lw_p36 : lw_okq (⟨"FishCounterModel", "leftOf", "(I)I"⟩, 12) := ⟨⟨by decide +kernel, by decide +kernel⟩, List.mem_of_getElem? (i := 596) (by decide +kernel), List.mem_of_getElem? (i := 882) (by decide +kernel), List.mem_of_getElem? (i := 883) (by decide +kernel)⟩
theorem lw_p37 : lw_okq (⟨"FishCounterModel", "bestOf", "(I)I"⟩, 12) := ⟨⟨by decide +kernel, by decide +kernel⟩, List.mem_of_getElem? (i := 596) (by decide +kernel), List.mem_of_getElem? (i := 890) (by decide +kernel), List.mem_of_getElem? (i := 891) (by decide +kernel)⟩
theorem lw_p38 : lw_okq (⟨"FishCounterModel", "allWorth", "()J"⟩, 12) := ⟨⟨by decide +kernel, by decide +kernel⟩, List.mem_of_getElem? (i := 596) (by decide +kernel), List.mem_of_getElem? (i := 902) (by decide +kernel), List.mem_of_getElem? (i := 903) (by decide +kernel)⟩
theorem lw_p39 : lw_okq (⟨"FishCounterModel", "findError", "()I"⟩, 12) := ⟨⟨by decide +kernel, by decide +kernel⟩, List.mem_of_getElem? (i := 596) (by decide +kernel), List.mem_of_getElem? (i := 918) (by decide +kernel), List.mem_of_getElem? (i := 919) (by decide +kernel)⟩
theorem lw_p40 : lw_okq (⟨"FishCounterModel", "readsItem", "()Z"⟩, 12) := ⟨⟨by decide +kernel, by decide +kernel⟩, List.mem_of_getElem? (i := 596) (by decide +kernel), List.mem_of_getElem? (i := 922) (by decide +kernel), List.mem_of_getElem? (i := 923) (by decide +kernel)⟩
theorem lw_p41 : lw_okq (⟨"FishCounterModel", "readsDigit", "(II)Z"⟩, 12) := ⟨⟨by decide +kernel, by decide +kernel⟩, List.mem_of_getElem? (i := 596) (by decide +kernel), List.mem_of_getElem? (i := 926) (by decide +kernel), List.mem_of_getElem? (i := 927) (by decide +kernel)⟩
theorem lw_p42 : lw_okq (⟨"FishCounterModel", "character", "(I)I"⟩, 12) := ⟨⟨by decide +kernel, by decide +kernel⟩, List.mem_of_getElem? (i := 596) (by decide +kernel), List.mem_of_getElem? (i := 930) (by decide +kernel), List.mem_of_getElem? (i := 931) (by decide +kernel)⟩
theorem lw_p43 : lw_okq (⟨"FishCounterModel", "isNext", "(I)Z"⟩, 12) := ⟨⟨by decide +kernel, by decide +kernel⟩, List.mem_of_getElem? (i := 596) (by decide +kernel), List.mem_of_getElem? (i := 934) (by decide +kernel), List.mem_of_getElem? (i := 935) (by decide +kernel)⟩
theorem lw_p44 : lw_okq (⟨"FishCounterModel", "readsNumber", "(II)Z"⟩, 12) := ⟨⟨by decide +kernel, by decide +kernel⟩, List.mem_of_getElem? (i := 596) (by decide +kernel), List.mem_of_getElem? (i := 938) (by decide +kernel), List.mem_of_getElem? (i := 939) (by decide +kernel)⟩
def lw_privs_3 : List (MethodName × Nat) := [(⟨"FishCounterModel", "ofKind", "(II)I"⟩, 12), (⟨"FishCounterModel", "gramsOfKind", "(I)I"⟩, 12), (⟨"FishCounterModel", "freshest", "(I)I"⟩, 12), (⟨"FishCounterModel", "freshIn", "(II)I"⟩, 12), (⟨"FishCounterModel", "leftOf", "(I)I"⟩, 12), (⟨"FishCounterModel", "bestOf", "(I)I"⟩, 12), (⟨"FishCounterModel", "allWorth", "()J"⟩, 12), (⟨"FishCounterModel", "findError", "()I"⟩, 12), (⟨"FishCounterModel", "readsItem", "()Z"⟩, 12), (⟨"FishCounterModel", "readsDigit", "(II)Z"⟩, 12), (⟨"FishCounterModel", "character", "(I)I"⟩, 12), (⟨"FishCounterModel", "isNext", "(I)Z"⟩, 12), (⟨"FishCounterModel", "readsNumber", "(II)Z"⟩, 12)]
theorem lw_r3 : ∀ q ∈ lw_privs_3, lw_okq q := List.forall_mem_cons.mpr ⟨lw_p32, List.forall_mem_cons.mpr ⟨lw_p33, List.forall_mem_cons.mpr ⟨lw_p34, List.forall_mem_cons.mpr ⟨lw_p35, List.forall_mem_cons.mpr ⟨lw_p36, List.forall_mem_cons.mpr ⟨lw_p37, List.forall_mem_cons.mpr ⟨lw_p38, List.forall_mem_cons.mpr ⟨lw_p39, List.forall_mem_cons.mpr ⟨lw_p40, List.forall_mem_cons.mpr ⟨lw_p41, List.forall_mem_cons.mpr ⟨lw_p42, List.forall_mem_cons.mpr ⟨lw_p43, List.forall_mem_cons.mpr ⟨lw_p44, fun _ h => absurd h List.not_mem_nil⟩⟩⟩⟩⟩⟩⟩⟩⟩⟩⟩⟩⟩
def lw_privs : List (MethodName × Nat) := lw_privs_1 ++ (lw_privs_2 ++ (lw_privs_3))
def lw_tbl : List Cond := k2_sels lw_privs ++ tables_1
theorem lw_privs_ok : ∀ q ∈ lw_privs, lw_okq q := by
  show ∀ q ∈ lw_privs_1 ++ (lw_privs_2 ++ (lw_privs_3)), lw_okq q
  exact List.forall_mem_append.mpr ⟨lw_r1, List.forall_mem_append.mpr ⟨lw_r2, lw_r3⟩⟩
/-! ===== BEGIN words of one list among another's, by their places ===== -/
theorem goodIn_r {big : List Cond} (ws : List Cond) (ps : List Nat) (hp : ws = ps.filterMap (fun i => big[i]?)) (h : ws.all goodWord = true) : GoodIn big ws := by
  intro w hw
  have h1 := List.all_eq_true.mp h w hw
  rw [hp] at hw
  obtain ⟨i, -, hi⟩ := List.mem_filterMap.mp hw
  have hm : w ∈ big := by first | exact List.mem_of_getElem? hi | exact List.getElem?_mem hi
  exact ⟨hm, good_of_word h1⟩
theorem goodIn_app {big a b : List Cond} (ha : GoodIn big a) (hb : GoodIn big b) : GoodIn big (a ++ b) := fun w h => (List.mem_append.mp h).elim (ha w) (hb w)
theorem goodIn_ca {big a b : List Cond} {c : Cond} (ha : GoodIn big (c :: a)) (hb : GoodIn big b) : GoodIn big (c :: (a ++ b)) := fun w h => (List.mem_cons.mp h).elim (fun e => ha w (List.mem_cons.mpr (Or.inl e))) (fun h => (List.mem_append.mp h).elim (fun h => ha w (List.mem_cons.mpr (Or.inr h))) (hb w))
theorem goodIn_sub {big ws : List Cond} (hm : ∀ w ∈ ws, w ∈ big) (h : ws.all goodWord = true) : GoodIn big ws := fun w hw => ⟨hm w hw, good_of_word (List.all_eq_true.mp h w hw)⟩
/-! ===== END ===== -/

/-! ===== BEGIN printed: names, fields, word lists, decode rows ===== -/
def RX0 : String := "FishCounter$DeliveryText"
def TX0 : u_T := fun k => match k with
  | 0 => ("FishCounter$DeliveryText", "length", "I", false)
  | 1 => ("FishCounter$DeliveryText", "kind", "I", false)
  | 2 => ("FishCounter$DeliveryText", "grams", "I", false)
  | 3 => ("FishCounter$DeliveryText", "fresh", "I", false)
  | 4 => ("FishCounter$DeliveryText", "box", "I", false)
  | 5 => ("FishCounter$DeliveryText", "position", "I", false)
  | _ => ("FishCounter$DeliveryText", "signs", "[C", true)
def tyX0 : Nat → FieldType := fun k => match k with
  | 0 => .int
  | 1 => .int
  | 2 => .int
  | 3 => .int
  | 4 => .int
  | 5 => .int
  | _ => .array .char
abbrev wsX00 : List Cond := u_ws RX0 TX0 7
theorem nmX0 : ∀ a, a < 7 → ∀ b, b < 7 → a ≠ b → (TX0 a).2.1 ≠ (TX0 b).2.1 := by decide +kernel
theorem tyX0_ok : ∀ k, k < 7 → parseFieldDescriptor (TX0 k).2.2.1 = some (tyX0 k) := by decide +kernel
abbrev cX0_init : ByteArray := prog_2_method_1_code
def yX0_init : MethodName := ⟨RX0, "<init>", "()V"⟩
abbrev cX0_append : ByteArray := prog_2_method_2_code
def yX0_append : MethodName := ⟨RX0, "append", "(C)V"⟩
abbrev cX0_firstError : ByteArray := prog_2_method_3_code
def yX0_firstError : MethodName := ⟨RX0, "firstError", "()I"⟩
abbrev cX0_startReading : ByteArray := prog_2_method_4_code
def yX0_startReading : MethodName := ⟨RX0, "startReading", "()V"⟩
abbrev cX0_readItem : ByteArray := prog_2_method_5_code
def yX0_readItem : MethodName := ⟨RX0, "readItem", "()Z"⟩
abbrev cX0_skipSign : ByteArray := prog_2_method_6_code
def yX0_skipSign : MethodName := ⟨RX0, "skipSign", "(C)Z"⟩
abbrev cX0_readNumber : ByteArray := prog_2_method_7_code
def yX0_readNumber : MethodName := ⟨RX0, "readNumber", "(II)I"⟩
abbrev cX0_digitHere : ByteArray := prog_2_method_8_code
def yX0_digitHere : MethodName := ⟨RX0, "digitHere", "()I"⟩
def RX1 : String := "FishCounter$Forecast"
def TX1 : u_T := fun k => match k with
  | 0 => ("FishCounter$Forecast", "fresh", "I", false)
  | 1 => ("FishCounter$Forecast", "ice", "I", false)
  | 2 => ("FishCounter$Forecast", "melting", "I", false)
  | _ => ("FishCounter$Forecast", "onTray", "Z", false)
def tyX1 : Nat → FieldType := fun k => match k with
  | 0 => .int
  | 1 => .int
  | 2 => .int
  | _ => .boolean
abbrev wsX10 : List Cond := u_ws RX1 TX1 4
theorem nmX1 : ∀ a, a < 4 → ∀ b, b < 4 → a ≠ b → (TX1 a).2.1 ≠ (TX1 b).2.1 := by decide +kernel
theorem tyX1_ok : ∀ k, k < 4 → parseFieldDescriptor (TX1 k).2.2.1 = some (tyX1 k) := by decide +kernel
abbrev cX1_init : ByteArray := prog_3_method_1_code
def yX1_init : MethodName := ⟨RX1, "<init>", "()V"⟩
abbrev cX1_start : ByteArray := prog_3_method_2_code
def yX1_start : MethodName := ⟨RX1, "start", "(LFishCounter$Shop;LFishCounter$Lot;)V"⟩
abbrev cX1_passHour : ByteArray := prog_3_method_3_code
def yX1_passHour : MethodName := ⟨RX1, "passHour", "()V"⟩
def RX2 : String := "FishCounter$History"
def TX2 : u_T := fun k => match k with
  | 0 => ("FishCounter$History", "count", "I", false)
  | 1 => ("FishCounter$History", "next", "I", false)
  | _ => ("FishCounter$History", "saved", "[LFishCounter$Shop;", true)
def tyX2 : Nat → FieldType := fun k => match k with
  | 0 => .int
  | 1 => .int
  | _ => .array (.object "FishCounter$Shop")
abbrev wsX20 : List Cond := u_ws RX2 TX2 3
theorem nmX2 : ∀ a, a < 3 → ∀ b, b < 3 → a ≠ b → (TX2 a).2.1 ≠ (TX2 b).2.1 := by decide +kernel
theorem tyX2_ok : ∀ k, k < 3 → parseFieldDescriptor (TX2 k).2.2.1 = some (tyX2 k) := by decide +kernel
abbrev cX2_init : ByteArray := prog_4_method_1_code
def yX2_init : MethodName := ⟨RX2, "<init>", "()V"⟩
abbrev cX2_save : ByteArray := prog_4_method_2_code
def yX2_save : MethodName := ⟨RX2, "save", "(LFishCounter$Shop;)V"⟩
abbrev cX2_restore : ByteArray := prog_4_method_3_code
def yX2_restore : MethodName := ⟨RX2, "restore", "(LFishCounter$Shop;)V"⟩
def RX3 : String := "FishCounter$Lot"
def TX3 : u_T := fun k => match k with
  | 0 => ("FishCounter$Lot", "number", "I", false)
  | 1 => ("FishCounter$Lot", "kind", "I", false)
  | 2 => ("FishCounter$Lot", "grams", "I", false)
  | 3 => ("FishCounter$Lot", "fresh", "I", false)
  | 4 => ("FishCounter$Lot", "box", "I", false)
  | _ => ("FishCounter$Lot", "tray", "I", false)
def tyX3 : Nat → FieldType := fun k => match k with
  | 0 => .int
  | 1 => .int
  | 2 => .int
  | 3 => .int
  | 4 => .int
  | _ => .int
abbrev wsX30 : List Cond := u_ws RX3 TX3 6
theorem nmX3 : ∀ a, a < 6 → ∀ b, b < 6 → a ≠ b → (TX3 a).2.1 ≠ (TX3 b).2.1 := by decide +kernel
theorem tyX3_ok : ∀ k, k < 6 → parseFieldDescriptor (TX3 k).2.2.1 = some (tyX3 k) := by decide +kernel
abbrev cX3_init : ByteArray := prog_5_method_1_code
def yX3_init : MethodName := ⟨RX3, "<init>", "()V"⟩
abbrev cX3_isOnTray : ByteArray := prog_5_method_2_code
def yX3_isOnTray : MethodName := ⟨RX3, "isOnTray", "()Z"⟩
abbrev cX3_putInBox : ByteArray := prog_5_method_3_code
def yX3_putInBox : MethodName := ⟨RX3, "putInBox", "(I)V"⟩
abbrev cX3_putOnTray : ByteArray := prog_5_method_4_code
def yX3_putOnTray : MethodName := ⟨RX3, "putOnTray", "(I)V"⟩
abbrev cX3_copyFrom : ByteArray := prog_5_method_5_code
def yX3_copyFrom : MethodName := ⟨RX3, "copyFrom", "(LFishCounter$Lot;)V"⟩
def RX4 : String := "FishCounter$Shop"
def TX4 : u_T := fun k => match k with
  | 0 => ("FishCounter$Shop", "day", "I", false)
  | 1 => ("FishCounter$Shop", "hour", "I", false)
  | 2 => ("FishCounter$Shop", "melting", "I", false)
  | 3 => ("FishCounter$Shop", "limit", "I", false)
  | 4 => ("FishCounter$Shop", "lastNumber", "I", false)
  | 5 => ("FishCounter$Shop", "lotCount", "I", false)
  | 6 => ("FishCounter$Shop", "gramsCame", "J", false)
  | 7 => ("FishCounter$Shop", "gramsSold", "J", false)
  | 8 => ("FishCounter$Shop", "gramsThrownAway", "J", false)
  | 9 => ("FishCounter$Shop", "moneyPaid", "J", false)
  | 10 => ("FishCounter$Shop", "moneyTaken", "J", false)
  | 11 => ("FishCounter$Shop", "prices", "[I", true)
  | 12 => ("FishCounter$Shop", "costs", "[I", true)
  | 13 => ("FishCounter$Shop", "cuts", "[I", true)
  | 14 => ("FishCounter$Shop", "boxIce", "[I", true)
  | 15 => ("FishCounter$Shop", "trayIce", "[I", true)
  | _ => ("FishCounter$Shop", "lots", "[LFishCounter$Lot;", true)
def tyX4 : Nat → FieldType := fun k => match k with
  | 0 => .int
  | 1 => .int
  | 2 => .int
  | 3 => .int
  | 4 => .int
  | 5 => .int
  | 6 => .long
  | 7 => .long
  | 8 => .long
  | 9 => .long
  | 10 => .long
  | 11 => .array .int
  | 12 => .array .int
  | 13 => .array .int
  | 14 => .array .int
  | 15 => .array .int
  | _ => .array (.object "FishCounter$Lot")
abbrev wsX40 : List Cond := u_ws RX4 TX4 17
theorem nmX4 : ∀ a, a < 17 → ∀ b, b < 17 → a ≠ b → (TX4 a).2.1 ≠ (TX4 b).2.1 := by decide +kernel
theorem tyX4_ok : ∀ k, k < 17 → parseFieldDescriptor (TX4 k).2.2.1 = some (tyX4 k) := by decide +kernel
abbrev cX4_init : ByteArray := prog_6_method_1_code
def yX4_init : MethodName := ⟨RX4, "<init>", "()V"⟩
abbrev cX4_copyFrom : ByteArray := prog_6_method_2_code
def yX4_copyFrom : MethodName := ⟨RX4, "copyFrom", "(LFishCounter$Shop;)V"⟩
abbrev cX4_indexOfLot : ByteArray := prog_6_method_3_code
def yX4_indexOfLot : MethodName := ⟨RX4, "indexOfLot", "(I)I"⟩
abbrev cX4_findLot : ByteArray := prog_6_method_4_code
def yX4_findLot : MethodName := ⟨RX4, "findLot", "(I)LFishCounter$Lot;"⟩
abbrev cX4_lotOnTray : ByteArray := prog_6_method_5_code
def yX4_lotOnTray : MethodName := ⟨RX4, "lotOnTray", "(I)LFishCounter$Lot;"⟩
abbrev cX4_numberOnTray : ByteArray := prog_6_method_6_code
def yX4_numberOnTray : MethodName := ⟨RX4, "numberOnTray", "(I)I"⟩
abbrev cX4_lotsInBox : ByteArray := prog_6_method_7_code
def yX4_lotsInBox : MethodName := ⟨RX4, "lotsInBox", "(I)I"⟩
abbrev cX4_isBoxFull : ByteArray := prog_6_method_8_code
def yX4_isBoxFull : MethodName := ⟨RX4, "isBoxFull", "(I)Z"⟩
abbrev cX4_gramsInBox : ByteArray := prog_6_method_9_code
def yX4_gramsInBox : MethodName := ⟨RX4, "gramsInBox", "(I)I"⟩
abbrev cX4_firstLotInBox : ByteArray := prog_6_method_10_code
def yX4_firstLotInBox : MethodName := ⟨RX4, "firstLotInBox", "(I)I"⟩
abbrev cX4_gramsInShop : ByteArray := prog_6_method_11_code
def yX4_gramsInShop : MethodName := ⟨RX4, "gramsInShop", "()I"⟩
abbrev cX4_gramsOfKind : ByteArray := prog_6_method_12_code
def yX4_gramsOfKind : MethodName := ⟨RX4, "gramsOfKind", "(I)I"⟩
abbrev cX4_freshestLotOfKind : ByteArray := prog_6_method_13_code
def yX4_freshestLotOfKind : MethodName := ⟨RX4, "freshestLotOfKind", "(I)I"⟩
abbrev cX4_priceAt : ByteArray := prog_6_method_14_code
def yX4_priceAt : MethodName := ⟨RX4, "priceAt", "(III)I"⟩
abbrev cX4_priceOf : ByteArray := prog_6_method_15_code
def yX4_priceOf : MethodName := ⟨RX4, "priceOf", "(LFishCounter$Lot;)I"⟩
abbrev cX4_iceAt : ByteArray := prog_6_method_16_code
def yX4_iceAt : MethodName := ⟨RX4, "iceAt", "(LFishCounter$Lot;)I"⟩
abbrev cX4_refusalOfNewLot : ByteArray := prog_6_method_17_code
def yX4_refusalOfNewLot : MethodName := ⟨RX4, "refusalOfNewLot", "(I)I"⟩
abbrev cX4_addLot : ByteArray := prog_6_method_18_code
def yX4_addLot : MethodName := ⟨RX4, "addLot", "(IIII)I"⟩
abbrev cX4_buyLot : ByteArray := prog_6_method_19_code
def yX4_buyLot : MethodName := ⟨RX4, "buyLot", "(IIII)I"⟩
abbrev cX4_removeLotAt : ByteArray := prog_6_method_20_code
def yX4_removeLotAt : MethodName := ⟨RX4, "removeLotAt", "(I)V"⟩
abbrev cX4_discardLotAt : ByteArray := prog_6_method_21_code
def yX4_discardLotAt : MethodName := ⟨RX4, "discardLotAt", "(I)I"⟩
abbrev cX4_sell : ByteArray := prog_6_method_22_code
def yX4_sell : MethodName := ⟨RX4, "sell", "(IIII)I"⟩
abbrev cX4_nextLotToSell : ByteArray := prog_6_method_23_code
def yX4_nextLotToSell : MethodName := ⟨RX4, "nextLotToSell", "(III)I"⟩
abbrev cX4_sellFromLotAt : ByteArray := prog_6_method_24_code
def yX4_sellFromLotAt : MethodName := ⟨RX4, "sellFromLotAt", "(II)I"⟩
abbrev cX4_passHour : ByteArray := prog_6_method_25_code
def yX4_passHour : MethodName := ⟨RX4, "passHour", "()V"⟩
abbrev cX4_closeDay : ByteArray := prog_6_method_26_code
def yX4_closeDay : MethodName := ⟨RX4, "closeDay", "()I"⟩
abbrev cX4_discardLotsBelowLimit : ByteArray := prog_6_method_27_code
def yX4_discardLotsBelowLimit : MethodName := ⟨RX4, "discardLotsBelowLimit", "()I"⟩
abbrev cX4_clearTray : ByteArray := prog_6_method_28_code
def yX4_clearTray : MethodName := ⟨RX4, "clearTray", "(I)I"⟩
abbrev cX4_boxForTheNight : ByteArray := prog_6_method_29_code
def yX4_boxForTheNight : MethodName := ⟨RX4, "boxForTheNight", "()I"⟩
def RX5 : String := "FishCounter"
def TX5 : u_T := fun k => match k with
  | 0 => ("FishCounter", "now", "LFishCounter$Shop;", true)
  | 1 => ("FishCounter", "trial", "LFishCounter$Shop;", true)
  | 2 => ("FishCounter", "forecast", "LFishCounter$Forecast;", true)
  | 3 => ("FishCounter", "history", "LFishCounter$History;", true)
  | _ => ("FishCounter", "text", "LFishCounter$DeliveryText;", true)
def tyX5 : Nat → FieldType := fun k => match k with
  | 0 => .object "FishCounter$Shop"
  | 1 => .object "FishCounter$Shop"
  | 2 => .object "FishCounter$Forecast"
  | 3 => .object "FishCounter$History"
  | _ => .object "FishCounter$DeliveryText"
abbrev wsX50 : List Cond := u_ws RX5 TX5 5
theorem nmX5 : ∀ a, a < 5 → ∀ b, b < 5 → a ≠ b → (TX5 a).2.1 ≠ (TX5 b).2.1 := by decide +kernel
theorem tyX5_ok : ∀ k, k < 5 → parseFieldDescriptor (TX5 k).2.2.1 = some (tyX5 k) := by decide +kernel
abbrev cX5_init : ByteArray := prog_1_method_1_code
def yX5_init : MethodName := ⟨RX5, "<init>", "()V"⟩
abbrev cX5_setPrice : ByteArray := prog_1_method_2_code
def yX5_setPrice : MethodName := ⟨RX5, "setPrice", "(III)I"⟩
abbrev cX5_setCut : ByteArray := prog_1_method_3_code
def yX5_setCut : MethodName := ⟨RX5, "setCut", "(II)I"⟩
abbrev cX5_setMelting : ByteArray := prog_1_method_4_code
def yX5_setMelting : MethodName := ⟨RX5, "setMelting", "(II)I"⟩
abbrev cX5_deliver : ByteArray := prog_1_method_5_code
def yX5_deliver : MethodName := ⟨RX5, "deliver", "(IIII)I"⟩
abbrev cX5_iceBox : ByteArray := prog_1_method_6_code
def yX5_iceBox : MethodName := ⟨RX5, "iceBox", "(II)I"⟩
abbrev cX5_iceTray : ByteArray := prog_1_method_7_code
def yX5_iceTray : MethodName := ⟨RX5, "iceTray", "(II)I"⟩
abbrev cX5_toTray : ByteArray := prog_1_method_8_code
def yX5_toTray : MethodName := ⟨RX5, "toTray", "(II)I"⟩
abbrev cX5_toBox : ByteArray := prog_1_method_9_code
def yX5_toBox : MethodName := ⟨RX5, "toBox", "(II)I"⟩
abbrev cX5_divide : ByteArray := prog_1_method_10_code
def yX5_divide : MethodName := ⟨RX5, "divide", "(III)I"⟩
abbrev cX5_throwAway : ByteArray := prog_1_method_11_code
def yX5_throwAway : MethodName := ⟨RX5, "throwAway", "(I)I"⟩
abbrev cX5_order : ByteArray := prog_1_method_12_code
def yX5_order : MethodName := ⟨RX5, "order", "(IIII)I"⟩
abbrev cX5_pass : ByteArray := prog_1_method_13_code
def yX5_pass : MethodName := ⟨RX5, "pass", "()I"⟩
abbrev cX5_close : ByteArray := prog_1_method_14_code
def yX5_close : MethodName := ⟨RX5, "close", "()I"⟩
abbrev cX5_count : ByteArray := prog_1_method_15_code
def yX5_count : MethodName := ⟨RX5, "count", "(I)J"⟩
abbrev cX5_lot : ByteArray := prog_1_method_16_code
def yX5_lot : MethodName := ⟨RX5, "lot", "(II)I"⟩
abbrev cX5_box : ByteArray := prog_1_method_17_code
def yX5_box : MethodName := ⟨RX5, "box", "(II)I"⟩
abbrev cX5_tray : ByteArray := prog_1_method_18_code
def yX5_tray : MethodName := ⟨RX5, "tray", "(II)I"⟩
abbrev cX5_kind : ByteArray := prog_1_method_19_code
def yX5_kind : MethodName := ⟨RX5, "kind", "(II)I"⟩
abbrev cX5_cut : ByteArray := prog_1_method_20_code
def yX5_cut : MethodName := ⟨RX5, "cut", "(I)I"⟩
abbrev cX5_freshAfter : ByteArray := prog_1_method_21_code
def yX5_freshAfter : MethodName := ⟨RX5, "freshAfter", "(II)I"⟩
abbrev cX5_hoursLeft : ByteArray := prog_1_method_22_code
def yX5_hoursLeft : MethodName := ⟨RX5, "hoursLeft", "(I)I"⟩
abbrev cX5_bestHour : ByteArray := prog_1_method_23_code
def yX5_bestHour : MethodName := ⟨RX5, "bestHour", "(I)I"⟩
abbrev cX5_ifClosed : ByteArray := prog_1_method_24_code
def yX5_ifClosed : MethodName := ⟨RX5, "ifClosed", "(I)I"⟩
abbrev cX5_worth : ByteArray := prog_1_method_25_code
def yX5_worth : MethodName := ⟨RX5, "worth", "()J"⟩
abbrev cX5_type : ByteArray := prog_1_method_26_code
def yX5_type : MethodName := ⟨RX5, "type", "(I)I"⟩
abbrev cX5_clearText : ByteArray := prog_1_method_27_code
def yX5_clearText : MethodName := ⟨RX5, "clearText", "()I"⟩
abbrev cX5_syntaxError : ByteArray := prog_1_method_28_code
def yX5_syntaxError : MethodName := ⟨RX5, "syntaxError", "()I"⟩
abbrev cX5_deliverAll : ByteArray := prog_1_method_29_code
def yX5_deliverAll : MethodName := ⟨RX5, "deliverAll", "()I"⟩
abbrev cX5_undo : ByteArray := prog_1_method_30_code
def yX5_undo : MethodName := ⟨RX5, "undo", "()I"⟩
abbrev cX5_digest : ByteArray := prog_1_method_31_code
def yX5_digest : MethodName := ⟨RX5, "digest", "()J"⟩
abbrev cX5_mixedWithLot : ByteArray := prog_1_method_32_code
def yX5_mixedWithLot : MethodName := ⟨RX5, "mixedWithLot", "(JI)J"⟩
abbrev cX5_mixedWithPlaces : ByteArray := prog_1_method_33_code
def yX5_mixedWithPlaces : MethodName := ⟨RX5, "mixedWithPlaces", "(J)J"⟩
abbrev cX5_mixed : ByteArray := prog_1_method_34_code
def yX5_mixed : MethodName := ⟨RX5, "mixed", "(JJ)J"⟩
abbrev cX5_within : ByteArray := prog_1_method_35_code
def yX5_within : MethodName := ⟨RX5, "within", "(III)Z"⟩
abbrev cX5_isKind : ByteArray := prog_1_method_36_code
def yX5_isKind : MethodName := ⟨RX5, "isKind", "(I)Z"⟩
abbrev cX5_isBox : ByteArray := prog_1_method_37_code
def yX5_isBox : MethodName := ⟨RX5, "isBox", "(I)Z"⟩
abbrev cX5_isTray : ByteArray := prog_1_method_38_code
def yX5_isTray : MethodName := ⟨RX5, "isTray", "(I)Z"⟩
abbrev cX5_isHour : ByteArray := prog_1_method_39_code
def yX5_isHour : MethodName := ⟨RX5, "isHour", "(I)Z"⟩
abbrev cX5_moneyFor : ByteArray := prog_1_method_40_code
def yX5_moneyFor : MethodName := ⟨RX5, "moneyFor", "(II)I"⟩
abbrev cX5_freshAnHourLater : ByteArray := prog_1_method_41_code
def yX5_freshAnHourLater : MethodName := ⟨RX5, "freshAnHourLater", "(IZI)I"⟩
abbrev cX5_iceAnHourLater : ByteArray := prog_1_method_42_code
def yX5_iceAnHourLater : MethodName := ⟨RX5, "iceAnHourLater", "(IZI)I"⟩
def RX6 : String := "FishCounterModel"
def TX6 : u_T := fun k => match k with
  | 0 => ("FishCounterModel", "state", "[I", true)
  | 1 => ("FishCounterModel", "kept", "[I", true)
  | 2 => ("FishCounterModel", "history", "[I", true)
  | 3 => ("FishCounterModel", "recorded", "I", false)
  | 4 => ("FishCounterModel", "text", "[I", true)
  | 5 => ("FishCounterModel", "textLength", "I", false)
  | 6 => ("FishCounterModel", "at", "I", false)
  | 7 => ("FishCounterModel", "number", "I", false)
  | 8 => ("FishCounterModel", "kindRead", "I", false)
  | 9 => ("FishCounterModel", "gramsRead", "I", false)
  | 10 => ("FishCounterModel", "freshRead", "I", false)
  | _ => ("FishCounterModel", "boxRead", "I", false)
def tyX6 : Nat → FieldType := fun k => match k with
  | 0 => .array .int
  | 1 => .array .int
  | 2 => .array .int
  | 3 => .int
  | 4 => .array .int
  | 5 => .int
  | 6 => .int
  | 7 => .int
  | 8 => .int
  | 9 => .int
  | 10 => .int
  | _ => .int
abbrev wsX60 : List Cond := u_ws RX6 TX6 12
theorem nmX6 : ∀ a, a < 12 → ∀ b, b < 12 → a ≠ b → (TX6 a).2.1 ≠ (TX6 b).2.1 := by decide +kernel
theorem tyX6_ok : ∀ k, k < 12 → parseFieldDescriptor (TX6 k).2.2.1 = some (tyX6 k) := by decide +kernel
abbrev cX6_init : ByteArray := prog_8_method_1_code
def yX6_init : MethodName := ⟨RX6, "<init>", "()V"⟩
abbrev cX6_within : ByteArray := prog_8_method_3_code
def yX6_within : MethodName := ⟨RX6, "within", "(III)Z"⟩
abbrev cX6_copies : ByteArray := prog_8_method_4_code
def yX6_copies : MethodName := ⟨RX6, "copies", "([II[II)V"⟩
abbrev cX6_record : ByteArray := prog_8_method_5_code
def yX6_record : MethodName := ⟨RX6, "record", "()V"⟩
abbrev cX6_part : ByteArray := prog_8_method_6_code
def yX6_part : MethodName := ⟨RX6, "part", "(II)I"⟩
abbrev cX6_setPart : ByteArray := prog_8_method_7_code
def yX6_setPart : MethodName := ⟨RX6, "setPart", "(III)V"⟩
abbrev cX6_find : ByteArray := prog_8_method_8_code
def yX6_find : MethodName := ⟨RX6, "find", "(I)I"⟩
abbrev cX6_drops : ByteArray := prog_8_method_9_code
def yX6_drops : MethodName := ⟨RX6, "drops", "(I)V"⟩
abbrev cX6_throwsAway : ByteArray := prog_8_method_10_code
def yX6_throwsAway : MethodName := ⟨RX6, "throwsAway", "(I)V"⟩
abbrev cX6_isKind : ByteArray := prog_8_method_11_code
def yX6_isKind : MethodName := ⟨RX6, "isKind", "(I)Z"⟩
abbrev cX6_isBox : ByteArray := prog_8_method_12_code
def yX6_isBox : MethodName := ⟨RX6, "isBox", "(I)Z"⟩
abbrev cX6_isTray : ByteArray := prog_8_method_13_code
def yX6_isTray : MethodName := ⟨RX6, "isTray", "(I)Z"⟩
abbrev cX6_isTrayPlace : ByteArray := prog_8_method_14_code
def yX6_isTrayPlace : MethodName := ⟨RX6, "isTrayPlace", "(I)Z"⟩
abbrev cX6_lotsAt : ByteArray := prog_8_method_15_code
def yX6_lotsAt : MethodName := ⟨RX6, "lotsAt", "(I)I"⟩
abbrev cX6_firstAt : ByteArray := prog_8_method_16_code
def yX6_firstAt : MethodName := ⟨RX6, "firstAt", "(I)I"⟩
abbrev cX6_priceWith : ByteArray := prog_8_method_17_code
def yX6_priceWith : MethodName := ⟨RX6, "priceWith", "(III)I"⟩
abbrev cX6_priceOf : ByteArray := prog_8_method_18_code
def yX6_priceOf : MethodName := ⟨RX6, "priceOf", "(I)I"⟩
abbrev cX6_worthOf : ByteArray := prog_8_method_19_code
def yX6_worthOf : MethodName := ⟨RX6, "worthOf", "(II)I"⟩
abbrev cX6_isSold : ByteArray := prog_8_method_20_code
def yX6_isSold : MethodName := ⟨RX6, "isSold", "(I)Z"⟩
abbrev cX6_setPrice : ByteArray := prog_8_method_21_code
def yX6_setPrice : MethodName := ⟨RX6, "setPrice", "(III)I"⟩
abbrev cX6_isHour : ByteArray := prog_8_method_22_code
def yX6_isHour : MethodName := ⟨RX6, "isHour", "(I)Z"⟩
abbrev cX6_setCut : ByteArray := prog_8_method_23_code
def yX6_setCut : MethodName := ⟨RX6, "setCut", "(II)I"⟩
abbrev cX6_setMelting : ByteArray := prog_8_method_24_code
def yX6_setMelting : MethodName := ⟨RX6, "setMelting", "(II)I"⟩
abbrev cX6_adds : ByteArray := prog_8_method_25_code
def yX6_adds : MethodName := ⟨RX6, "adds", "(IIII)I"⟩
abbrev cX6_whyNotRoom : ByteArray := prog_8_method_26_code
def yX6_whyNotRoom : MethodName := ⟨RX6, "whyNotRoom", "(I)I"⟩
abbrev cX6_whyNotDelivered : ByteArray := prog_8_method_27_code
def yX6_whyNotDelivered : MethodName := ⟨RX6, "whyNotDelivered", "(IIII)I"⟩
abbrev cX6_delivers : ByteArray := prog_8_method_28_code
def yX6_delivers : MethodName := ⟨RX6, "delivers", "(IIII)I"⟩
abbrev cX6_deliver : ByteArray := prog_8_method_29_code
def yX6_deliver : MethodName := ⟨RX6, "deliver", "(IIII)I"⟩
abbrev cX6_ices : ByteArray := prog_8_method_30_code
def yX6_ices : MethodName := ⟨RX6, "ices", "(II)I"⟩
abbrev cX6_iceBox : ByteArray := prog_8_method_31_code
def yX6_iceBox : MethodName := ⟨RX6, "iceBox", "(II)I"⟩
abbrev cX6_iceTray : ByteArray := prog_8_method_32_code
def yX6_iceTray : MethodName := ⟨RX6, "iceTray", "(II)I"⟩
abbrev cX6_toTray : ByteArray := prog_8_method_33_code
def yX6_toTray : MethodName := ⟨RX6, "toTray", "(II)I"⟩
abbrev cX6_toBox : ByteArray := prog_8_method_34_code
def yX6_toBox : MethodName := ⟨RX6, "toBox", "(II)I"⟩
abbrev cX6_divide : ByteArray := prog_8_method_35_code
def yX6_divide : MethodName := ⟨RX6, "divide", "(III)I"⟩
abbrev cX6_throwAway : ByteArray := prog_8_method_36_code
def yX6_throwAway : MethodName := ⟨RX6, "throwAway", "(I)I"⟩
abbrev cX6_nextFor : ByteArray := prog_8_method_37_code
def yX6_nextFor : MethodName := ⟨RX6, "nextFor", "(III)I"⟩
abbrev cX6_order : ByteArray := prog_8_method_38_code
def yX6_order : MethodName := ⟨RX6, "order", "(IIII)I"⟩
abbrev cX6_loss : ByteArray := prog_8_method_39_code
def yX6_loss : MethodName := ⟨RX6, "loss", "(II)I"⟩
abbrev cX6_iceThen : ByteArray := prog_8_method_40_code
def yX6_iceThen : MethodName := ⟨RX6, "iceThen", "(II)I"⟩
abbrev cX6_freshThen : ByteArray := prog_8_method_41_code
def yX6_freshThen : MethodName := ⟨RX6, "freshThen", "(II)I"⟩
abbrev cX6_passesHour : ByteArray := prog_8_method_42_code
def yX6_passesHour : MethodName := ⟨RX6, "passesHour", "()V"⟩
abbrev cX6_pass : ByteArray := prog_8_method_43_code
def yX6_pass : MethodName := ⟨RX6, "pass", "()I"⟩
abbrev cX6_coldest : ByteArray := prog_8_method_44_code
def yX6_coldest : MethodName := ⟨RX6, "coldest", "()I"⟩
abbrev cX6_closes : ByteArray := prog_8_method_45_code
def yX6_closes : MethodName := ⟨RX6, "closes", "()I"⟩
abbrev cX6_close : ByteArray := prog_8_method_46_code
def yX6_close : MethodName := ⟨RX6, "close", "()I"⟩
abbrev cX6_allGrams : ByteArray := prog_8_method_47_code
def yX6_allGrams : MethodName := ⟨RX6, "allGrams", "()I"⟩
abbrev cX6_countOf : ByteArray := prog_8_method_48_code
def yX6_countOf : MethodName := ⟨RX6, "countOf", "(I)J"⟩
abbrev cX6_count : ByteArray := prog_8_method_49_code
def yX6_count : MethodName := ⟨RX6, "count", "(I)J"⟩
abbrev cX6_ofLot : ByteArray := prog_8_method_50_code
def yX6_ofLot : MethodName := ⟨RX6, "ofLot", "(II)I"⟩
abbrev cX6_lot : ByteArray := prog_8_method_51_code
def yX6_lot : MethodName := ⟨RX6, "lot", "(II)I"⟩
abbrev cX6_gramsAt : ByteArray := prog_8_method_52_code
def yX6_gramsAt : MethodName := ⟨RX6, "gramsAt", "(I)I"⟩
abbrev cX6_numberAt : ByteArray := prog_8_method_53_code
def yX6_numberAt : MethodName := ⟨RX6, "numberAt", "(I)I"⟩
abbrev cX6_ofBox : ByteArray := prog_8_method_54_code
def yX6_ofBox : MethodName := ⟨RX6, "ofBox", "(II)I"⟩
abbrev cX6_box : ByteArray := prog_8_method_55_code
def yX6_box : MethodName := ⟨RX6, "box", "(II)I"⟩
abbrev cX6_ofTray : ByteArray := prog_8_method_56_code
def yX6_ofTray : MethodName := ⟨RX6, "ofTray", "(II)I"⟩
abbrev cX6_tray : ByteArray := prog_8_method_57_code
def yX6_tray : MethodName := ⟨RX6, "tray", "(II)I"⟩
abbrev cX6_gramsOfKind : ByteArray := prog_8_method_58_code
def yX6_gramsOfKind : MethodName := ⟨RX6, "gramsOfKind", "(I)I"⟩
abbrev cX6_freshest : ByteArray := prog_8_method_59_code
def yX6_freshest : MethodName := ⟨RX6, "freshest", "(I)I"⟩
abbrev cX6_ofKind : ByteArray := prog_8_method_60_code
def yX6_ofKind : MethodName := ⟨RX6, "ofKind", "(II)I"⟩
abbrev cX6_kind : ByteArray := prog_8_method_61_code
def yX6_kind : MethodName := ⟨RX6, "kind", "(II)I"⟩
abbrev cX6_cut : ByteArray := prog_8_method_62_code
def yX6_cut : MethodName := ⟨RX6, "cut", "(I)I"⟩
abbrev cX6_freshIn : ByteArray := prog_8_method_63_code
def yX6_freshIn : MethodName := ⟨RX6, "freshIn", "(II)I"⟩
abbrev cX6_freshAfter : ByteArray := prog_8_method_64_code
def yX6_freshAfter : MethodName := ⟨RX6, "freshAfter", "(II)I"⟩
abbrev cX6_leftOf : ByteArray := prog_8_method_65_code
def yX6_leftOf : MethodName := ⟨RX6, "leftOf", "(I)I"⟩
abbrev cX6_hoursLeft : ByteArray := prog_8_method_66_code
def yX6_hoursLeft : MethodName := ⟨RX6, "hoursLeft", "(I)I"⟩
abbrev cX6_bestOf : ByteArray := prog_8_method_67_code
def yX6_bestOf : MethodName := ⟨RX6, "bestOf", "(I)I"⟩
abbrev cX6_bestHour : ByteArray := prog_8_method_68_code
def yX6_bestHour : MethodName := ⟨RX6, "bestHour", "(I)I"⟩
abbrev cX6_ifClosed : ByteArray := prog_8_method_69_code
def yX6_ifClosed : MethodName := ⟨RX6, "ifClosed", "(I)I"⟩
abbrev cX6_allWorth : ByteArray := prog_8_method_70_code
def yX6_allWorth : MethodName := ⟨RX6, "allWorth", "()J"⟩
abbrev cX6_worth : ByteArray := prog_8_method_71_code
def yX6_worth : MethodName := ⟨RX6, "worth", "()J"⟩
abbrev cX6_type : ByteArray := prog_8_method_72_code
def yX6_type : MethodName := ⟨RX6, "type", "(I)I"⟩
abbrev cX6_clearText : ByteArray := prog_8_method_73_code
def yX6_clearText : MethodName := ⟨RX6, "clearText", "()I"⟩
abbrev cX6_character : ByteArray := prog_8_method_74_code
def yX6_character : MethodName := ⟨RX6, "character", "(I)I"⟩
abbrev cX6_isNext : ByteArray := prog_8_method_75_code
def yX6_isNext : MethodName := ⟨RX6, "isNext", "(I)Z"⟩
abbrev cX6_readsDigit : ByteArray := prog_8_method_76_code
def yX6_readsDigit : MethodName := ⟨RX6, "readsDigit", "(II)Z"⟩
abbrev cX6_readsNumber : ByteArray := prog_8_method_77_code
def yX6_readsNumber : MethodName := ⟨RX6, "readsNumber", "(II)Z"⟩
abbrev cX6_readsItem : ByteArray := prog_8_method_78_code
def yX6_readsItem : MethodName := ⟨RX6, "readsItem", "()Z"⟩
abbrev cX6_findError : ByteArray := prog_8_method_79_code
def yX6_findError : MethodName := ⟨RX6, "findError", "()I"⟩
abbrev cX6_syntaxError : ByteArray := prog_8_method_80_code
def yX6_syntaxError : MethodName := ⟨RX6, "syntaxError", "()I"⟩
abbrev cX6_deliverAll : ByteArray := prog_8_method_81_code
def yX6_deliverAll : MethodName := ⟨RX6, "deliverAll", "()I"⟩
abbrev cX6_undo : ByteArray := prog_8_method_82_code
def yX6_undo : MethodName := ⟨RX6, "undo", "()I"⟩
abbrev cX6_digest : ByteArray := prog_8_method_83_code
def yX6_digest : MethodName := ⟨RX6, "digest", "()J"⟩
def RJ9 : String := "java/lang/Math"
def TJ9 : u_T := fun k => match k with
  | _ => ("", "", "", false)
def tyJ9 : Nat → FieldType := fun k => match k with
  | _ => .int
abbrev wsJ90 : List Cond := u_ws RJ9 TJ9 0
theorem nmJ9 : ∀ a, a < 0 → ∀ b, b < 0 → a ≠ b → (TJ9 a).2.1 ≠ (TJ9 b).2.1 := by decide +kernel
theorem tyJ9_ok : ∀ k, k < 0 → parseFieldDescriptor (TJ9 k).2.2.1 = some (tyJ9 k) := by decide +kernel
abbrev cJ9_max_7cf53 : ByteArray := prog_9_method_65_code
def yJ9_max_7cf53 : MethodName := ⟨RJ9, "max", "(II)I"⟩
abbrev cJ9_min_7cf53 : ByteArray := prog_9_method_69_code
def yJ9_min_7cf53 : MethodName := ⟨RJ9, "min", "(II)I"⟩
def RJ10 : String := "java/lang/System"
def TJ10 : u_T := fun k => match k with
  | _ => ("", "", "", false)
def tyJ10 : Nat → FieldType := fun k => match k with
  | _ => .int
abbrev wsJ100 : List Cond := u_ws RJ10 TJ10 0
theorem nmJ10 : ∀ a, a < 0 → ∀ b, b < 0 → a ≠ b → (TJ10 a).2.1 ≠ (TJ10 b).2.1 := by decide +kernel
theorem tyJ10_ok : ∀ k, k < 0 → parseFieldDescriptor (TJ10 k).2.2.1 = some (tyJ10 k) := by decide +kernel
def RL : String := "FishCounterLaw"
abbrev cL_law : ByteArray := code
def yL_law : MethodName := ⟨RL, "law", "([I)Z"⟩
def wsJ9_max_7cf53 : List Cond := .code yJ9_max_7cf53 cJ9_max_7cf53 2 (some .int) :: ([])
def wsJ9_min_7cf53 : List Cond := .code yJ9_min_7cf53 cJ9_min_7cf53 2 (some .int) :: ([])
theorem inJ9 : ∀ w ∈ wsJ90, w ∈ lw_tbl := by decide +kernel
theorem inJ10 : ∀ w ∈ wsJ100, w ∈ lw_tbl := by decide +kernel
abbrev vwCl : List vw_C := [(RX0, TX0, 7), (RX1, TX1, 4), (RX2, TX2, 3), (RX3, TX3, 6), (RX4, TX4, 17), (RX5, TX5, 5), (RX6, TX6, 12)]
/-! ===== END printed: names ===== -/
/-- the words that every contract takes: all of the tables' that stay true -/
def wsL_law : List Cond := lw_tbl.filter goodWord
theorem wsL_law_in : ∀ w ∈ wsL_law, w ∈ lw_tbl := fun _ h => (List.mem_filter.mp h).1
theorem kGood : wsL_law.all goodWord = true := List.all_eq_true.mpr (fun _ h => (List.mem_filter.mp h).2)
theorem kW {w : Cond} (i : Nat) (h : (lw_tbl[i]? = some w) ∧ goodWord w = true) : w ∈ wsL_law := List.mem_filter.mpr ⟨List.mem_of_getElem? h.1, h.2⟩
theorem kWs {ws : List Cond} (ps : List Nat) (hp : ws = ps.filterMap (fun i => lw_tbl[i]?)) (h : ws.all goodWord = true) : ∀ w ∈ ws, w ∈ wsL_law := fun w hw => List.mem_filter.mpr ⟨((goodIn_r ws ps hp h) w hw).1, List.all_eq_true.mp h w hw⟩
end
section
/-! THE WORDS, each by its place, and the methods' call facts -/
def kMy (y : MethodName) (bytes : ByteArray) (maxL : Nat) (ret : Option FieldType) (n : Nat) : Prop := Cond.initialized y.cls ∈ wsL_law ∧ Cond.code y bytes maxL ret ∈ wsL_law ∧ y.cls ≠ "java/lang/invoke/MethodHandle" ∧ y.cls ≠ "java/lang/invoke/VarHandle" ∧ (parseMethodDescriptor y.desc).map (fun d => d.parameters.length) = some n
theorem wk_L_7 : Cond.classLink RL 7 RX5 ∈ wsL_law := kW 55 (by decide +kernel)
theorem wy_X5 : Cond.instantiable RX5 5 ∈ wsL_law := kW 56 (by decide +kernel)
theorem wn_X5 : Cond.initialized RX5 ∈ wsL_law := kW 46 (by decide +kernel)
theorem wk_L_10 : Cond.classLink RL 10 RX6 ∈ wsL_law := kW 640 (by decide +kernel)
theorem wy_X6 : Cond.instantiable RX6 12 ∈ wsL_law := kW 641 (by decide +kernel)
theorem wn_X6 : Cond.initialized RX6 ∈ wsL_law := kW 52 (by decide +kernel)
theorem wm_L_9 : Cond.methodLink RL 9 yX5_init ∈ wsL_law := kW 57 (by decide +kernel)
theorem wi_X5_init : Cond.instanceMethod yX5_init ∈ wsL_law := kW 58 (by decide +kernel)
theorem wc_X5_init : Cond.code yX5_init cX5_init 1 none ∈ wsL_law := kW 59 (by decide +kernel)
theorem wm_X5_1 : Cond.methodLink RX5 1 objectInit ∈ wsL_law := kW 60 (by decide +kernel)
theorem wi_objInit : Cond.instanceMethod objectInit ∈ wsL_law := kW 61 (by decide +kernel)
theorem wc_objInit : Cond.code objectInit ⟨#[0xb1]⟩ 1 none ∈ wsL_law := kW 62 (by decide +kernel)
theorem wk_X5_7 : Cond.classLink RX5 7 RX4 ∈ wsL_law := kW 63 (by decide +kernel)
theorem wy_X4 : Cond.instantiable RX4 17 ∈ wsL_law := kW 64 (by decide +kernel)
theorem wn_X4 : Cond.initialized RX4 ∈ wsL_law := kW 47 (by decide +kernel)
theorem wf_X5_10 : Cond.fieldLink RX5 10 "FishCounter" "now" "LFishCounter$Shop;" ∈ wsL_law := kW 252 (by decide +kernel)
theorem wf_X5_16 : Cond.fieldLink RX5 16 "FishCounter" "trial" "LFishCounter$Shop;" ∈ wsL_law := kW 253 (by decide +kernel)
theorem wk_X5_19 : Cond.classLink RX5 19 RX1 ∈ wsL_law := kW 178 (by decide +kernel)
theorem wy_X1 : Cond.instantiable RX1 4 ∈ wsL_law := kW 179 (by decide +kernel)
theorem wn_X1 : Cond.initialized RX1 ∈ wsL_law := kW 49 (by decide +kernel)
theorem wf_X5_22 : Cond.fieldLink RX5 22 "FishCounter" "forecast" "LFishCounter$Forecast;" ∈ wsL_law := kW 254 (by decide +kernel)
theorem wk_X5_26 : Cond.classLink RX5 26 RX2 ∈ wsL_law := kW 198 (by decide +kernel)
theorem wy_X2 : Cond.instantiable RX2 3 ∈ wsL_law := kW 199 (by decide +kernel)
theorem wn_X2 : Cond.initialized RX2 ∈ wsL_law := kW 50 (by decide +kernel)
theorem wf_X5_29 : Cond.fieldLink RX5 29 "FishCounter" "history" "LFishCounter$History;" ∈ wsL_law := kW 255 (by decide +kernel)
theorem wk_X5_33 : Cond.classLink RX5 33 RX0 ∈ wsL_law := kW 218 (by decide +kernel)
theorem wy_X0 : Cond.instantiable RX0 7 ∈ wsL_law := kW 219 (by decide +kernel)
theorem wn_X0 : Cond.initialized RX0 ∈ wsL_law := kW 51 (by decide +kernel)
theorem wf_X5_36 : Cond.fieldLink RX5 36 "FishCounter" "text" "LFishCounter$DeliveryText;" ∈ wsL_law := kW 256 (by decide +kernel)
theorem wm_X5_9 : Cond.methodLink RX5 9 yX4_init ∈ wsL_law := kW 65 (by decide +kernel)
theorem wi_X4_init : Cond.instanceMethod yX4_init ∈ wsL_law := kW 66 (by decide +kernel)
theorem wc_X4_init : Cond.code yX4_init cX4_init 2 none ∈ wsL_law := kW 67 (by decide +kernel)
theorem wm_X4_3 : Cond.methodLink RX4 3 objectInit ∈ wsL_law := kW 68 (by decide +kernel)
theorem wf_X4_9 : Cond.fieldLink RX4 9 "FishCounter$Shop" "melting" "I" ∈ wsL_law := kW 113 (by decide +kernel)
theorem wf_X4_15 : Cond.fieldLink RX4 15 "FishCounter$Shop" "limit" "I" ∈ wsL_law := kW 116 (by decide +kernel)
theorem wa_int : Cond.arrayClass .int ∈ wsL_law := kW 108 (by decide +kernel)
theorem wf_X4_18 : Cond.fieldLink RX4 18 "FishCounter$Shop" "prices" "[I" ∈ wsL_law := kW 131 (by decide +kernel)
theorem wf_X4_22 : Cond.fieldLink RX4 22 "FishCounter$Shop" "costs" "[I" ∈ wsL_law := kW 133 (by decide +kernel)
theorem wf_X4_25 : Cond.fieldLink RX4 25 "FishCounter$Shop" "cuts" "[I" ∈ wsL_law := kW 135 (by decide +kernel)
theorem wf_X4_28 : Cond.fieldLink RX4 28 "FishCounter$Shop" "boxIce" "[I" ∈ wsL_law := kW 137 (by decide +kernel)
theorem wf_X4_31 : Cond.fieldLink RX4 31 "FishCounter$Shop" "trayIce" "[I" ∈ wsL_law := kW 139 (by decide +kernel)
theorem wk_X4_34 : Cond.classLink RX4 34 RX3 ∈ wsL_law := kW 69 (by decide +kernel)
theorem wf_X4_36 : Cond.fieldLink RX4 36 "FishCounter$Shop" "lots" "[LFishCounter$Lot;" ∈ wsL_law := kW 141 (by decide +kernel)
theorem wy_X3 : Cond.instantiable RX3 6 ∈ wsL_law := kW 71 (by decide +kernel)
theorem wn_X3 : Cond.initialized RX3 ∈ wsL_law := kW 48 (by decide +kernel)
theorem wi_X3_init : Cond.instanceMethod yX3_init ∈ wsL_law := kW 73 (by decide +kernel)
theorem wc_X3_init : Cond.code yX3_init cX3_init 1 none ∈ wsL_law := kW 74 (by decide +kernel)
theorem wm_X3_3 : Cond.methodLink RX3 3 objectInit ∈ wsL_law := kW 75 (by decide +kernel)
theorem wf_X3_9 : Cond.fieldLink RX3 9 "FishCounter$Lot" "box" "I" ∈ wsL_law := kW 89 (by decide +kernel)
theorem wf_X3_15 : Cond.fieldLink RX3 15 "FishCounter$Lot" "tray" "I" ∈ wsL_law := kW 92 (by decide +kernel)
theorem wi_X1_init : Cond.instanceMethod yX1_init ∈ wsL_law := kW 181 (by decide +kernel)
theorem wc_X1_init : Cond.code yX1_init cX1_init 1 none ∈ wsL_law := kW 182 (by decide +kernel)
theorem wm_X1_1 : Cond.methodLink RX1 1 objectInit ∈ wsL_law := kW 183 (by decide +kernel)
theorem wm_X5_28 : Cond.methodLink RX5 28 yX2_init ∈ wsL_law := kW 200 (by decide +kernel)
theorem wi_X2_init : Cond.instanceMethod yX2_init ∈ wsL_law := kW 201 (by decide +kernel)
theorem wc_X2_init : Cond.code yX2_init cX2_init 2 none ∈ wsL_law := kW 202 (by decide +kernel)
theorem wm_X2_3 : Cond.methodLink RX2 3 objectInit ∈ wsL_law := kW 203 (by decide +kernel)
theorem wk_X2_9 : Cond.classLink RX2 9 RX4 ∈ wsL_law := kW 204 (by decide +kernel)
theorem wf_X2_11 : Cond.fieldLink RX2 11 "FishCounter$History" "saved" "[LFishCounter$Shop;" ∈ wsL_law := kW 210 (by decide +kernel)
theorem wm_X2_17 : Cond.methodLink RX2 17 yX4_init ∈ wsL_law := kW 206 (by decide +kernel)
theorem wi_X0_init : Cond.instanceMethod yX0_init ∈ wsL_law := kW 221 (by decide +kernel)
theorem wc_X0_init : Cond.code yX0_init cX0_init 1 none ∈ wsL_law := kW 222 (by decide +kernel)
theorem wm_X0_3 : Cond.methodLink RX0 3 objectInit ∈ wsL_law := kW 223 (by decide +kernel)
theorem wa_char : Cond.arrayClass .char ∈ wsL_law := kW 251 (by decide +kernel)
theorem wf_X0_9 : Cond.fieldLink RX0 9 "FishCounter$DeliveryText" "signs" "[C" ∈ wsL_law := kW 235 (by decide +kernel)
theorem wm_L_12 : Cond.methodLink RL 12 yX6_init ∈ wsL_law := kW 642 (by decide +kernel)
theorem wi_X6_init : Cond.instanceMethod yX6_init ∈ wsL_law := kW 643 (by decide +kernel)
theorem wc_X6_init : Cond.code yX6_init cX6_init 2 none ∈ wsL_law := kW 644 (by decide +kernel)
theorem wm_X6_1 : Cond.methodLink RX6 1 objectInit ∈ wsL_law := kW 645 (by decide +kernel)
theorem wf_X6_7 : Cond.fieldLink RX6 7 "FishCounterModel" "state" "[I" ∈ wsL_law := kW 646 (by decide +kernel)
theorem wf_X6_13 : Cond.fieldLink RX6 13 "FishCounterModel" "kept" "[I" ∈ wsL_law := kW 647 (by decide +kernel)
theorem wf_X6_16 : Cond.fieldLink RX6 16 "FishCounterModel" "history" "[I" ∈ wsL_law := kW 648 (by decide +kernel)
theorem wf_X6_19 : Cond.fieldLink RX6 19 "FishCounterModel" "text" "[I" ∈ wsL_law := kW 650 (by decide +kernel)
theorem wm_L_13 : Cond.methodLink RL 13 yX5_setPrice ∈ wsL_law := kW 268 (by decide +kernel)
theorem wi_X5_setPrice : Cond.instanceMethod yX5_setPrice ∈ wsL_law := kW 269 (by decide +kernel)
theorem ws_X5_setPrice : Cond.selects RX5 yX5_setPrice yX5_setPrice ∈ wsL_law := kW 270 (by decide +kernel)
theorem wc_X5_setPrice : Cond.code yX5_setPrice cX5_setPrice 5 (some .int) ∈ wsL_law := kW 271 (by decide +kernel)
theorem wf_X5_52 : Cond.fieldLink RX5 52 "FishCounter$Shop" "prices" "[I" ∈ wsL_law := kW 132 (by decide +kernel)
theorem wf_X5_56 : Cond.fieldLink RX5 56 "FishCounter$Shop" "costs" "[I" ∈ wsL_law := kW 134 (by decide +kernel)
theorem wm_X5_40 : Cond.methodLink RX5 40 yX5_isKind ∈ wsL_law := kW 272 (by decide +kernel)
theorem wt_X5_isKind : Cond.static yX5_isKind ∈ wsL_law := kW 273 (by decide +kernel)
theorem wc_X5_isKind : Cond.code yX5_isKind cX5_isKind 1 (some .boolean) ∈ wsL_law := kW 274 (by decide +kernel)
theorem wm_X5_44 : Cond.methodLink RX5 44 yX5_within ∈ wsL_law := kW 275 (by decide +kernel)
theorem wt_X5_within : Cond.static yX5_within ∈ wsL_law := kW 276 (by decide +kernel)
theorem wc_X5_within : Cond.code yX5_within cX5_within 3 (some .boolean) ∈ wsL_law := kW 277 (by decide +kernel)
theorem wm_X5_48 : Cond.methodLink RX5 48 yX2_save ∈ wsL_law := kW 278 (by decide +kernel)
theorem wi_X2_save : Cond.instanceMethod yX2_save ∈ wsL_law := kW 279 (by decide +kernel)
theorem ws_X2_save : Cond.selects RX2 yX2_save yX2_save ∈ wsL_law := kW 280 (by decide +kernel)
theorem wc_X2_save : Cond.code yX2_save cX2_save 2 none ∈ wsL_law := kW 281 (by decide +kernel)
theorem wf_X2_18 : Cond.fieldLink RX2 18 "FishCounter$History" "next" "I" ∈ wsL_law := kW 209 (by decide +kernel)
theorem wf_X2_26 : Cond.fieldLink RX2 26 "FishCounter$History" "count" "I" ∈ wsL_law := kW 207 (by decide +kernel)
theorem wm_X2_29 : Cond.methodLink RX2 29 Lib.Math.min.name ∈ wsL_law := kW 293 (by decide +kernel)
theorem wt_min : Cond.static Lib.Math.min.name ∈ wsL_law := kW 294 (by decide +kernel)
theorem wn_Math : Cond.initialized "java/lang/Math" ∈ wsL_law := kW 54 (by decide +kernel)
theorem wc_min : Cond.code Lib.Math.min.name Lib.Math.min.code 2 (some .int) ∈ wsL_law := kW 295 (by decide +kernel)
theorem wm_X2_22 : Cond.methodLink RX2 22 yX4_copyFrom ∈ wsL_law := kW 282 (by decide +kernel)
theorem wi_X4_copyFrom : Cond.instanceMethod yX4_copyFrom ∈ wsL_law := kW 283 (by decide +kernel)
theorem ws_X4_copyFrom : Cond.selects RX4 yX4_copyFrom yX4_copyFrom ∈ wsL_law := kW 284 (by decide +kernel)
theorem wc_X4_copyFrom : Cond.code yX4_copyFrom cX4_copyFrom 3 none ∈ wsL_law := kW 285 (by decide +kernel)
theorem wf_X4_41 : Cond.fieldLink RX4 41 "FishCounter$Shop" "day" "I" ∈ wsL_law := kW 109 (by decide +kernel)
theorem wf_X4_44 : Cond.fieldLink RX4 44 "FishCounter$Shop" "hour" "I" ∈ wsL_law := kW 111 (by decide +kernel)
theorem wf_X4_47 : Cond.fieldLink RX4 47 "FishCounter$Shop" "lastNumber" "I" ∈ wsL_law := kW 118 (by decide +kernel)
theorem wf_X4_50 : Cond.fieldLink RX4 50 "FishCounter$Shop" "lotCount" "I" ∈ wsL_law := kW 119 (by decide +kernel)
theorem wf_X4_53 : Cond.fieldLink RX4 53 "FishCounter$Shop" "gramsCame" "J" ∈ wsL_law := kW 121 (by decide +kernel)
theorem wf_X4_57 : Cond.fieldLink RX4 57 "FishCounter$Shop" "gramsSold" "J" ∈ wsL_law := kW 123 (by decide +kernel)
theorem wf_X4_60 : Cond.fieldLink RX4 60 "FishCounter$Shop" "gramsThrownAway" "J" ∈ wsL_law := kW 125 (by decide +kernel)
theorem wf_X4_63 : Cond.fieldLink RX4 63 "FishCounter$Shop" "moneyPaid" "J" ∈ wsL_law := kW 127 (by decide +kernel)
theorem wf_X4_66 : Cond.fieldLink RX4 66 "FishCounter$Shop" "moneyTaken" "J" ∈ wsL_law := kW 129 (by decide +kernel)
theorem wm_X4_69 : Cond.methodLink RX4 69 arraycopyName ∈ wsL_law := kW 286 (by decide +kernel)
theorem wna_acopy : Cond.native arraycopyName ∈ wsL_law := kW 288 (by decide +kernel)
theorem wt_acopy : Cond.static arraycopyName ∈ wsL_law := kW 287 (by decide +kernel)
theorem wn_System : Cond.initialized "java/lang/System" ∈ wsL_law := kW 53 (by decide +kernel)
theorem wm_X4_75 : Cond.methodLink RX4 75 yX3_copyFrom ∈ wsL_law := kW 289 (by decide +kernel)
theorem wi_X3_copyFrom : Cond.instanceMethod yX3_copyFrom ∈ wsL_law := kW 290 (by decide +kernel)
theorem ws_X3_copyFrom : Cond.selects RX3 yX3_copyFrom yX3_copyFrom ∈ wsL_law := kW 291 (by decide +kernel)
theorem wc_X3_copyFrom : Cond.code yX3_copyFrom cX3_copyFrom 2 none ∈ wsL_law := kW 292 (by decide +kernel)
theorem wf_X3_18 : Cond.fieldLink RX3 18 "FishCounter$Lot" "number" "I" ∈ wsL_law := kW 77 (by decide +kernel)
theorem wf_X3_21 : Cond.fieldLink RX3 21 "FishCounter$Lot" "kind" "I" ∈ wsL_law := kW 79 (by decide +kernel)
theorem wf_X3_24 : Cond.fieldLink RX3 24 "FishCounter$Lot" "grams" "I" ∈ wsL_law := kW 82 (by decide +kernel)
theorem wf_X3_27 : Cond.fieldLink RX3 27 "FishCounter$Lot" "fresh" "I" ∈ wsL_law := kW 86 (by decide +kernel)
theorem wm_L_17 : Cond.methodLink RL 17 yX6_setPrice ∈ wsL_law := kW 683 (by decide +kernel)
theorem wi_X6_setPrice : Cond.instanceMethod yX6_setPrice ∈ wsL_law := kW 684 (by decide +kernel)
theorem ws_X6_setPrice : Cond.selects RX6 yX6_setPrice yX6_setPrice ∈ wsL_law := kW 685 (by decide +kernel)
theorem wc_X6_setPrice : Cond.code yX6_setPrice cX6_setPrice 5 (some .int) ∈ wsL_law := kW 686 (by decide +kernel)
theorem wm_X6_46 : Cond.methodLink RX6 46 yX6_isKind ∈ wsL_law := kW 687 (by decide +kernel)
theorem wt_X6_isKind : Cond.static yX6_isKind ∈ wsL_law := kW 688 (by decide +kernel)
theorem wc_X6_isKind : Cond.code yX6_isKind cX6_isKind 1 (some .boolean) ∈ wsL_law := kW 689 (by decide +kernel)
theorem wm_X6_38 : Cond.methodLink RX6 38 yX6_within ∈ wsL_law := kW 690 (by decide +kernel)
theorem wt_X6_within : Cond.static yX6_within ∈ wsL_law := kW 691 (by decide +kernel)
theorem wc_X6_within : Cond.code yX6_within cX6_within 3 (some .boolean) ∈ wsL_law := kW 692 (by decide +kernel)
theorem wm_X6_50 : Cond.methodLink RX6 50 yX6_record ∈ wsL_law := kW 693 (by decide +kernel)
theorem wi_X6_record : Cond.instanceMethod yX6_record ∈ wsL_law := kW 695 (by decide +kernel)
theorem ws_X6_record : Cond.selects RX6 yX6_record yX6_record ∈ wsL_law := kW 4 (by decide +kernel)
theorem wc_X6_record : Cond.code yX6_record cX6_record 2 none ∈ wsL_law := kW 696 (by decide +kernel)
theorem wf_X6_22 : Cond.fieldLink RX6 22 "FishCounterModel" "recorded" "I" ∈ wsL_law := kW 649 (by decide +kernel)
theorem wm_X6_26 : Cond.methodLink RX6 26 yX6_copies ∈ wsL_law := kW 697 (by decide +kernel)
theorem wt_X6_copies : Cond.static yX6_copies ∈ wsL_law := kW 698 (by decide +kernel)
theorem wc_X6_copies : Cond.code yX6_copies cX6_copies 5 none ∈ wsL_law := kW 699 (by decide +kernel)
theorem wm_L_18 : Cond.methodLink RL 18 yX5_setCut ∈ wsL_law := kW 296 (by decide +kernel)
theorem wi_X5_setCut : Cond.instanceMethod yX5_setCut ∈ wsL_law := kW 297 (by decide +kernel)
theorem ws_X5_setCut : Cond.selects RX5 yX5_setCut yX5_setCut ∈ wsL_law := kW 298 (by decide +kernel)
theorem wc_X5_setCut : Cond.code yX5_setCut cX5_setCut 4 (some .int) ∈ wsL_law := kW 299 (by decide +kernel)
theorem wf_X5_62 : Cond.fieldLink RX5 62 "FishCounter$Shop" "cuts" "[I" ∈ wsL_law := kW 136 (by decide +kernel)
theorem wm_X5_59 : Cond.methodLink RX5 59 yX5_isHour ∈ wsL_law := kW 300 (by decide +kernel)
theorem wt_X5_isHour : Cond.static yX5_isHour ∈ wsL_law := kW 301 (by decide +kernel)
theorem wc_X5_isHour : Cond.code yX5_isHour cX5_isHour 1 (some .boolean) ∈ wsL_law := kW 302 (by decide +kernel)
theorem wm_L_22 : Cond.methodLink RL 22 yX6_setCut ∈ wsL_law := kW 700 (by decide +kernel)
theorem wi_X6_setCut : Cond.instanceMethod yX6_setCut ∈ wsL_law := kW 701 (by decide +kernel)
theorem ws_X6_setCut : Cond.selects RX6 yX6_setCut yX6_setCut ∈ wsL_law := kW 702 (by decide +kernel)
theorem wc_X6_setCut : Cond.code yX6_setCut cX6_setCut 4 (some .int) ∈ wsL_law := kW 703 (by decide +kernel)
theorem wm_X6_53 : Cond.methodLink RX6 53 yX6_isHour ∈ wsL_law := kW 704 (by decide +kernel)
theorem wt_X6_isHour : Cond.static yX6_isHour ∈ wsL_law := kW 705 (by decide +kernel)
theorem wc_X6_isHour : Cond.code yX6_isHour cX6_isHour 1 (some .boolean) ∈ wsL_law := kW 706 (by decide +kernel)
theorem wm_L_23 : Cond.methodLink RL 23 yX5_setMelting ∈ wsL_law := kW 303 (by decide +kernel)
theorem wi_X5_setMelting : Cond.instanceMethod yX5_setMelting ∈ wsL_law := kW 304 (by decide +kernel)
theorem ws_X5_setMelting : Cond.selects RX5 yX5_setMelting yX5_setMelting ∈ wsL_law := kW 305 (by decide +kernel)
theorem wc_X5_setMelting : Cond.code yX5_setMelting cX5_setMelting 4 (some .int) ∈ wsL_law := kW 306 (by decide +kernel)
theorem wf_X5_65 : Cond.fieldLink RX5 65 "FishCounter$Shop" "limit" "I" ∈ wsL_law := kW 117 (by decide +kernel)
theorem wf_X5_69 : Cond.fieldLink RX5 69 "FishCounter$Shop" "melting" "I" ∈ wsL_law := kW 115 (by decide +kernel)
theorem wm_L_26 : Cond.methodLink RL 26 yX6_setMelting ∈ wsL_law := kW 707 (by decide +kernel)
theorem wi_X6_setMelting : Cond.instanceMethod yX6_setMelting ∈ wsL_law := kW 708 (by decide +kernel)
theorem ws_X6_setMelting : Cond.selects RX6 yX6_setMelting yX6_setMelting ∈ wsL_law := kW 709 (by decide +kernel)
theorem wc_X6_setMelting : Cond.code yX6_setMelting cX6_setMelting 4 (some .int) ∈ wsL_law := kW 710 (by decide +kernel)
theorem wm_L_27 : Cond.methodLink RL 27 yX5_deliver ∈ wsL_law := kW 307 (by decide +kernel)
theorem wi_X5_deliver : Cond.instanceMethod yX5_deliver ∈ wsL_law := kW 308 (by decide +kernel)
theorem ws_X5_deliver : Cond.selects RX5 yX5_deliver yX5_deliver ∈ wsL_law := kW 309 (by decide +kernel)
theorem wc_X5_deliver : Cond.code yX5_deliver cX5_deliver 6 (some .int) ∈ wsL_law := kW 310 (by decide +kernel)
theorem wm_X5_72 : Cond.methodLink RX5 72 yX5_isBox ∈ wsL_law := kW 311 (by decide +kernel)
theorem wt_X5_isBox : Cond.static yX5_isBox ∈ wsL_law := kW 312 (by decide +kernel)
theorem wc_X5_isBox : Cond.code yX5_isBox cX5_isBox 1 (some .boolean) ∈ wsL_law := kW 313 (by decide +kernel)
theorem wm_X5_75 : Cond.methodLink RX5 75 yX4_refusalOfNewLot ∈ wsL_law := kW 314 (by decide +kernel)
theorem wi_X4_refusalOfNewLot : Cond.instanceMethod yX4_refusalOfNewLot ∈ wsL_law := kW 315 (by decide +kernel)
theorem ws_X4_refusalOfNewLot : Cond.selects RX4 yX4_refusalOfNewLot yX4_refusalOfNewLot ∈ wsL_law := kW 316 (by decide +kernel)
theorem wc_X4_refusalOfNewLot : Cond.code yX4_refusalOfNewLot cX4_refusalOfNewLot 2 (some .int) ∈ wsL_law := kW 317 (by decide +kernel)
theorem wm_X4_119 : Cond.methodLink RX4 119 yX4_isBoxFull ∈ wsL_law := kW 318 (by decide +kernel)
theorem wi_X4_isBoxFull : Cond.instanceMethod yX4_isBoxFull ∈ wsL_law := kW 319 (by decide +kernel)
theorem ws_X4_isBoxFull : Cond.selects RX4 yX4_isBoxFull yX4_isBoxFull ∈ wsL_law := kW 320 (by decide +kernel)
theorem wc_X4_isBoxFull : Cond.code yX4_isBoxFull cX4_isBoxFull 2 (some .boolean) ∈ wsL_law := kW 321 (by decide +kernel)
theorem wm_X4_96 : Cond.methodLink RX4 96 yX4_lotsInBox ∈ wsL_law := kW 322 (by decide +kernel)
theorem wi_X4_lotsInBox : Cond.instanceMethod yX4_lotsInBox ∈ wsL_law := kW 323 (by decide +kernel)
theorem ws_X4_lotsInBox : Cond.selects RX4 yX4_lotsInBox yX4_lotsInBox ∈ wsL_law := kW 324 (by decide +kernel)
theorem wc_X4_lotsInBox : Cond.code yX4_lotsInBox cX4_lotsInBox 4 (some .int) ∈ wsL_law := kW 325 (by decide +kernel)
theorem wf_X4_93 : Cond.fieldLink RX4 93 "FishCounter$Lot" "box" "I" ∈ wsL_law := kW 90 (by decide +kernel)
theorem wm_X5_79 : Cond.methodLink RX5 79 yX4_buyLot ∈ wsL_law := kW 326 (by decide +kernel)
theorem wi_X4_buyLot : Cond.instanceMethod yX4_buyLot ∈ wsL_law := kW 327 (by decide +kernel)
theorem ws_X4_buyLot : Cond.selects RX4 yX4_buyLot yX4_buyLot ∈ wsL_law := kW 328 (by decide +kernel)
theorem wc_X4_buyLot : Cond.code yX4_buyLot cX4_buyLot 5 (some .int) ∈ wsL_law := kW 329 (by decide +kernel)
theorem wt_X5_moneyFor : Cond.static yX5_moneyFor ∈ wsL_law := kW 331 (by decide +kernel)
theorem wc_X5_moneyFor : Cond.code yX5_moneyFor cX5_moneyFor 2 (some .int) ∈ wsL_law := kW 332 (by decide +kernel)
theorem wm_X4_130 : Cond.methodLink RX4 130 yX4_addLot ∈ wsL_law := kW 333 (by decide +kernel)
theorem wi_X4_addLot : Cond.instanceMethod yX4_addLot ∈ wsL_law := kW 334 (by decide +kernel)
theorem ws_X4_addLot : Cond.selects RX4 yX4_addLot yX4_addLot ∈ wsL_law := kW 335 (by decide +kernel)
theorem wc_X4_addLot : Cond.code yX4_addLot cX4_addLot 6 (some .int) ∈ wsL_law := kW 336 (by decide +kernel)
theorem wf_X4_79 : Cond.fieldLink RX4 79 "FishCounter$Lot" "number" "I" ∈ wsL_law := kW 76 (by decide +kernel)
theorem wf_X4_102 : Cond.fieldLink RX4 102 "FishCounter$Lot" "kind" "I" ∈ wsL_law := kW 81 (by decide +kernel)
theorem wf_X4_99 : Cond.fieldLink RX4 99 "FishCounter$Lot" "grams" "I" ∈ wsL_law := kW 83 (by decide +kernel)
theorem wf_X4_105 : Cond.fieldLink RX4 105 "FishCounter$Lot" "fresh" "I" ∈ wsL_law := kW 88 (by decide +kernel)
theorem wm_X4_122 : Cond.methodLink RX4 122 yX3_putInBox ∈ wsL_law := kW 337 (by decide +kernel)
theorem wi_X3_putInBox : Cond.instanceMethod yX3_putInBox ∈ wsL_law := kW 338 (by decide +kernel)
theorem ws_X3_putInBox : Cond.selects RX3 yX3_putInBox yX3_putInBox ∈ wsL_law := kW 339 (by decide +kernel)
theorem wc_X3_putInBox : Cond.code yX3_putInBox cX3_putInBox 2 none ∈ wsL_law := kW 340 (by decide +kernel)
theorem wm_L_31 : Cond.methodLink RL 31 yX6_deliver ∈ wsL_law := kW 711 (by decide +kernel)
theorem wi_X6_deliver : Cond.instanceMethod yX6_deliver ∈ wsL_law := kW 712 (by decide +kernel)
theorem ws_X6_deliver : Cond.selects RX6 yX6_deliver yX6_deliver ∈ wsL_law := kW 713 (by decide +kernel)
theorem wc_X6_deliver : Cond.code yX6_deliver cX6_deliver 6 (some .int) ∈ wsL_law := kW 714 (by decide +kernel)
theorem wm_X6_77 : Cond.methodLink RX6 77 yX6_whyNotDelivered ∈ wsL_law := kW 715 (by decide +kernel)
theorem wi_X6_whyNotDelivered : Cond.instanceMethod yX6_whyNotDelivered ∈ wsL_law := kW 717 (by decide +kernel)
theorem ws_X6_whyNotDelivered : Cond.selects RX6 yX6_whyNotDelivered yX6_whyNotDelivered ∈ wsL_law := kW 5 (by decide +kernel)
theorem wc_X6_whyNotDelivered : Cond.code yX6_whyNotDelivered cX6_whyNotDelivered 5 (some .int) ∈ wsL_law := kW 718 (by decide +kernel)
theorem wm_X6_64 : Cond.methodLink RX6 64 yX6_isBox ∈ wsL_law := kW 719 (by decide +kernel)
theorem wt_X6_isBox : Cond.static yX6_isBox ∈ wsL_law := kW 720 (by decide +kernel)
theorem wc_X6_isBox : Cond.code yX6_isBox cX6_isBox 1 (some .boolean) ∈ wsL_law := kW 721 (by decide +kernel)
theorem wm_X6_67 : Cond.methodLink RX6 67 yX6_whyNotRoom ∈ wsL_law := kW 722 (by decide +kernel)
theorem wi_X6_whyNotRoom : Cond.instanceMethod yX6_whyNotRoom ∈ wsL_law := kW 724 (by decide +kernel)
theorem ws_X6_whyNotRoom : Cond.selects RX6 yX6_whyNotRoom yX6_whyNotRoom ∈ wsL_law := kW 6 (by decide +kernel)
theorem wc_X6_whyNotRoom : Cond.code yX6_whyNotRoom cX6_whyNotRoom 2 (some .int) ∈ wsL_law := kW 725 (by decide +kernel)
theorem wm_X6_60 : Cond.methodLink RX6 60 yX6_lotsAt ∈ wsL_law := kW 726 (by decide +kernel)
theorem wi_X6_lotsAt : Cond.instanceMethod yX6_lotsAt ∈ wsL_law := kW 728 (by decide +kernel)
theorem ws_X6_lotsAt : Cond.selects RX6 yX6_lotsAt yX6_lotsAt ∈ wsL_law := kW 7 (by decide +kernel)
theorem wc_X6_lotsAt : Cond.code yX6_lotsAt cX6_lotsAt 4 (some .int) ∈ wsL_law := kW 729 (by decide +kernel)
theorem wm_X6_30 : Cond.methodLink RX6 30 yX6_part ∈ wsL_law := kW 730 (by decide +kernel)
theorem wi_X6_part : Cond.instanceMethod yX6_part ∈ wsL_law := kW 732 (by decide +kernel)
theorem ws_X6_part : Cond.selects RX6 yX6_part yX6_part ∈ wsL_law := kW 8 (by decide +kernel)
theorem wc_X6_part : Cond.code yX6_part cX6_part 3 (some .int) ∈ wsL_law := kW 733 (by decide +kernel)
theorem wm_X6_80 : Cond.methodLink RX6 80 yX6_delivers ∈ wsL_law := kW 734 (by decide +kernel)
theorem wi_X6_delivers : Cond.instanceMethod yX6_delivers ∈ wsL_law := kW 736 (by decide +kernel)
theorem ws_X6_delivers : Cond.selects RX6 yX6_delivers yX6_delivers ∈ wsL_law := kW 9 (by decide +kernel)
theorem wc_X6_delivers : Cond.code yX6_delivers cX6_delivers 5 (some .int) ∈ wsL_law := kW 737 (by decide +kernel)
theorem wm_X6_70 : Cond.methodLink RX6 70 yX6_worthOf ∈ wsL_law := kW 738 (by decide +kernel)
theorem wt_X6_worthOf : Cond.static yX6_worthOf ∈ wsL_law := kW 739 (by decide +kernel)
theorem wc_X6_worthOf : Cond.code yX6_worthOf cX6_worthOf 2 (some .int) ∈ wsL_law := kW 740 (by decide +kernel)
theorem wm_X6_73 : Cond.methodLink RX6 73 yX6_adds ∈ wsL_law := kW 741 (by decide +kernel)
theorem wi_X6_adds : Cond.instanceMethod yX6_adds ∈ wsL_law := kW 743 (by decide +kernel)
theorem ws_X6_adds : Cond.selects RX6 yX6_adds yX6_adds ∈ wsL_law := kW 10 (by decide +kernel)
theorem wc_X6_adds : Cond.code yX6_adds cX6_adds 6 (some .int) ∈ wsL_law := kW 744 (by decide +kernel)
theorem wm_X6_56 : Cond.methodLink RX6 56 yX6_setPart ∈ wsL_law := kW 745 (by decide +kernel)
theorem wi_X6_setPart : Cond.instanceMethod yX6_setPart ∈ wsL_law := kW 747 (by decide +kernel)
theorem ws_X6_setPart : Cond.selects RX6 yX6_setPart yX6_setPart ∈ wsL_law := kW 11 (by decide +kernel)
theorem wc_X6_setPart : Cond.code yX6_setPart cX6_setPart 4 none ∈ wsL_law := kW 748 (by decide +kernel)
theorem wm_L_32 : Cond.methodLink RL 32 yX5_iceBox ∈ wsL_law := kW 341 (by decide +kernel)
theorem wi_X5_iceBox : Cond.instanceMethod yX5_iceBox ∈ wsL_law := kW 342 (by decide +kernel)
theorem ws_X5_iceBox : Cond.selects RX5 yX5_iceBox yX5_iceBox ∈ wsL_law := kW 343 (by decide +kernel)
theorem wc_X5_iceBox : Cond.code yX5_iceBox cX5_iceBox 3 (some .int) ∈ wsL_law := kW 344 (by decide +kernel)
theorem wf_X5_83 : Cond.fieldLink RX5 83 "FishCounter$Shop" "boxIce" "[I" ∈ wsL_law := kW 138 (by decide +kernel)
theorem wm_X5_86 : Cond.methodLink RX5 86 Lib.Math.min.name ∈ wsL_law := kW 345 (by decide +kernel)
theorem wm_L_35 : Cond.methodLink RL 35 yX6_iceBox ∈ wsL_law := kW 749 (by decide +kernel)
theorem wi_X6_iceBox : Cond.instanceMethod yX6_iceBox ∈ wsL_law := kW 750 (by decide +kernel)
theorem ws_X6_iceBox : Cond.selects RX6 yX6_iceBox yX6_iceBox ∈ wsL_law := kW 751 (by decide +kernel)
theorem wc_X6_iceBox : Cond.code yX6_iceBox cX6_iceBox 3 (some .int) ∈ wsL_law := kW 752 (by decide +kernel)
theorem wm_X6_83 : Cond.methodLink RX6 83 yX6_ices ∈ wsL_law := kW 753 (by decide +kernel)
theorem wi_X6_ices : Cond.instanceMethod yX6_ices ∈ wsL_law := kW 755 (by decide +kernel)
theorem ws_X6_ices : Cond.selects RX6 yX6_ices yX6_ices ∈ wsL_law := kW 12 (by decide +kernel)
theorem wc_X6_ices : Cond.code yX6_ices cX6_ices 4 (some .int) ∈ wsL_law := kW 756 (by decide +kernel)
theorem wm_L_36 : Cond.methodLink RL 36 yX5_iceTray ∈ wsL_law := kW 346 (by decide +kernel)
theorem wi_X5_iceTray : Cond.instanceMethod yX5_iceTray ∈ wsL_law := kW 347 (by decide +kernel)
theorem ws_X5_iceTray : Cond.selects RX5 yX5_iceTray yX5_iceTray ∈ wsL_law := kW 348 (by decide +kernel)
theorem wc_X5_iceTray : Cond.code yX5_iceTray cX5_iceTray 3 (some .int) ∈ wsL_law := kW 349 (by decide +kernel)
theorem wf_X5_95 : Cond.fieldLink RX5 95 "FishCounter$Shop" "trayIce" "[I" ∈ wsL_law := kW 140 (by decide +kernel)
theorem wm_X5_92 : Cond.methodLink RX5 92 yX5_isTray ∈ wsL_law := kW 350 (by decide +kernel)
theorem wt_X5_isTray : Cond.static yX5_isTray ∈ wsL_law := kW 351 (by decide +kernel)
theorem wc_X5_isTray : Cond.code yX5_isTray cX5_isTray 1 (some .boolean) ∈ wsL_law := kW 352 (by decide +kernel)
theorem wm_L_39 : Cond.methodLink RL 39 yX6_iceTray ∈ wsL_law := kW 757 (by decide +kernel)
theorem wi_X6_iceTray : Cond.instanceMethod yX6_iceTray ∈ wsL_law := kW 758 (by decide +kernel)
theorem ws_X6_iceTray : Cond.selects RX6 yX6_iceTray yX6_iceTray ∈ wsL_law := kW 759 (by decide +kernel)
theorem wc_X6_iceTray : Cond.code yX6_iceTray cX6_iceTray 3 (some .int) ∈ wsL_law := kW 760 (by decide +kernel)
theorem wm_X6_86 : Cond.methodLink RX6 86 yX6_isTray ∈ wsL_law := kW 761 (by decide +kernel)
theorem wt_X6_isTray : Cond.static yX6_isTray ∈ wsL_law := kW 762 (by decide +kernel)
theorem wc_X6_isTray : Cond.code yX6_isTray cX6_isTray 1 (some .boolean) ∈ wsL_law := kW 763 (by decide +kernel)
theorem wm_L_40 : Cond.methodLink RL 40 yX5_toTray ∈ wsL_law := kW 353 (by decide +kernel)
theorem wi_X5_toTray : Cond.instanceMethod yX5_toTray ∈ wsL_law := kW 354 (by decide +kernel)
theorem ws_X5_toTray : Cond.selects RX5 yX5_toTray yX5_toTray ∈ wsL_law := kW 355 (by decide +kernel)
theorem wc_X5_toTray : Cond.code yX5_toTray cX5_toTray 4 (some .int) ∈ wsL_law := kW 356 (by decide +kernel)
theorem wm_X5_98 : Cond.methodLink RX5 98 yX4_findLot ∈ wsL_law := kW 357 (by decide +kernel)
theorem wi_X4_findLot : Cond.instanceMethod yX4_findLot ∈ wsL_law := kW 358 (by decide +kernel)
theorem ws_X4_findLot : Cond.selects RX4 yX4_findLot yX4_findLot ∈ wsL_law := kW 359 (by decide +kernel)
theorem wc_X4_findLot : Cond.code yX4_findLot cX4_findLot 3 (some (.object "FishCounter$Lot")) ∈ wsL_law := kW 360 (by decide +kernel)
theorem wm_X4_82 : Cond.methodLink RX4 82 yX4_indexOfLot ∈ wsL_law := kW 361 (by decide +kernel)
theorem wi_X4_indexOfLot : Cond.instanceMethod yX4_indexOfLot ∈ wsL_law := kW 362 (by decide +kernel)
theorem ws_X4_indexOfLot : Cond.selects RX4 yX4_indexOfLot yX4_indexOfLot ∈ wsL_law := kW 363 (by decide +kernel)
theorem wc_X4_indexOfLot : Cond.code yX4_indexOfLot cX4_indexOfLot 3 (some .int) ∈ wsL_law := kW 364 (by decide +kernel)
theorem wm_X5_102 : Cond.methodLink RX5 102 yX4_lotOnTray ∈ wsL_law := kW 365 (by decide +kernel)
theorem wi_X4_lotOnTray : Cond.instanceMethod yX4_lotOnTray ∈ wsL_law := kW 366 (by decide +kernel)
theorem ws_X4_lotOnTray : Cond.selects RX4 yX4_lotOnTray yX4_lotOnTray ∈ wsL_law := kW 367 (by decide +kernel)
theorem wc_X4_lotOnTray : Cond.code yX4_lotOnTray cX4_lotOnTray 3 (some (.object "FishCounter$Lot")) ∈ wsL_law := kW 368 (by decide +kernel)
theorem wf_X4_86 : Cond.fieldLink RX4 86 "FishCounter$Lot" "tray" "I" ∈ wsL_law := kW 93 (by decide +kernel)
theorem wm_X5_105 : Cond.methodLink RX5 105 yX3_putOnTray ∈ wsL_law := kW 369 (by decide +kernel)
theorem wi_X3_putOnTray : Cond.instanceMethod yX3_putOnTray ∈ wsL_law := kW 370 (by decide +kernel)
theorem ws_X3_putOnTray : Cond.selects RX3 yX3_putOnTray yX3_putOnTray ∈ wsL_law := kW 371 (by decide +kernel)
theorem wc_X3_putOnTray : Cond.code yX3_putOnTray cX3_putOnTray 2 none ∈ wsL_law := kW 372 (by decide +kernel)
theorem wm_X5_111 : Cond.methodLink RX5 111 yX4_priceOf ∈ wsL_law := kW 373 (by decide +kernel)
theorem wi_X4_priceOf : Cond.instanceMethod yX4_priceOf ∈ wsL_law := kW 374 (by decide +kernel)
theorem ws_X4_priceOf : Cond.selects RX4 yX4_priceOf yX4_priceOf ∈ wsL_law := kW 375 (by decide +kernel)
theorem wc_X4_priceOf : Cond.code yX4_priceOf cX4_priceOf 2 (some .int) ∈ wsL_law := kW 376 (by decide +kernel)
theorem wm_X4_108 : Cond.methodLink RX4 108 yX4_priceAt ∈ wsL_law := kW 377 (by decide +kernel)
theorem wi_X4_priceAt : Cond.instanceMethod yX4_priceAt ∈ wsL_law := kW 378 (by decide +kernel)
theorem ws_X4_priceAt : Cond.selects RX4 yX4_priceAt yX4_priceAt ∈ wsL_law := kW 379 (by decide +kernel)
theorem wc_X4_priceAt : Cond.code yX4_priceAt cX4_priceAt 5 (some .int) ∈ wsL_law := kW 380 (by decide +kernel)
theorem wm_L_43 : Cond.methodLink RL 43 yX6_toTray ∈ wsL_law := kW 764 (by decide +kernel)
theorem wi_X6_toTray : Cond.instanceMethod yX6_toTray ∈ wsL_law := kW 765 (by decide +kernel)
theorem ws_X6_toTray : Cond.selects RX6 yX6_toTray yX6_toTray ∈ wsL_law := kW 766 (by decide +kernel)
theorem wc_X6_toTray : Cond.code yX6_toTray cX6_toTray 4 (some .int) ∈ wsL_law := kW 767 (by decide +kernel)
theorem wm_X6_89 : Cond.methodLink RX6 89 yX6_find ∈ wsL_law := kW 768 (by decide +kernel)
theorem wi_X6_find : Cond.instanceMethod yX6_find ∈ wsL_law := kW 770 (by decide +kernel)
theorem ws_X6_find : Cond.selects RX6 yX6_find yX6_find ∈ wsL_law := kW 13 (by decide +kernel)
theorem wc_X6_find : Cond.code yX6_find cX6_find 4 (some .int) ∈ wsL_law := kW 771 (by decide +kernel)
theorem wm_X6_92 : Cond.methodLink RX6 92 yX6_priceOf ∈ wsL_law := kW 772 (by decide +kernel)
theorem wi_X6_priceOf : Cond.instanceMethod yX6_priceOf ∈ wsL_law := kW 774 (by decide +kernel)
theorem ws_X6_priceOf : Cond.selects RX6 yX6_priceOf yX6_priceOf ∈ wsL_law := kW 14 (by decide +kernel)
theorem wc_X6_priceOf : Cond.code yX6_priceOf cX6_priceOf 2 (some .int) ∈ wsL_law := kW 775 (by decide +kernel)
theorem wm_X6_42 : Cond.methodLink RX6 42 yX6_priceWith ∈ wsL_law := kW 776 (by decide +kernel)
theorem wi_X6_priceWith : Cond.instanceMethod yX6_priceWith ∈ wsL_law := kW 778 (by decide +kernel)
theorem ws_X6_priceWith : Cond.selects RX6 yX6_priceWith yX6_priceWith ∈ wsL_law := kW 15 (by decide +kernel)
theorem wc_X6_priceWith : Cond.code yX6_priceWith cX6_priceWith 5 (some .int) ∈ wsL_law := kW 779 (by decide +kernel)
theorem wm_L_44 : Cond.methodLink RL 44 yX5_toBox ∈ wsL_law := kW 381 (by decide +kernel)
theorem wi_X5_toBox : Cond.instanceMethod yX5_toBox ∈ wsL_law := kW 382 (by decide +kernel)
theorem ws_X5_toBox : Cond.selects RX5 yX5_toBox yX5_toBox ∈ wsL_law := kW 383 (by decide +kernel)
theorem wc_X5_toBox : Cond.code yX5_toBox cX5_toBox 4 (some .int) ∈ wsL_law := kW 384 (by decide +kernel)
theorem wf_X5_115 : Cond.fieldLink RX5 115 "FishCounter$Lot" "box" "I" ∈ wsL_law := kW 91 (by decide +kernel)
theorem wm_X5_118 : Cond.methodLink RX5 118 yX4_isBoxFull ∈ wsL_law := kW 385 (by decide +kernel)
theorem wm_X5_121 : Cond.methodLink RX5 121 yX3_putInBox ∈ wsL_law := kW 386 (by decide +kernel)
theorem wm_X5_124 : Cond.methodLink RX5 124 yX4_lotsInBox ∈ wsL_law := kW 387 (by decide +kernel)
theorem wm_L_47 : Cond.methodLink RL 47 yX6_toBox ∈ wsL_law := kW 780 (by decide +kernel)
theorem wi_X6_toBox : Cond.instanceMethod yX6_toBox ∈ wsL_law := kW 781 (by decide +kernel)
theorem ws_X6_toBox : Cond.selects RX6 yX6_toBox yX6_toBox ∈ wsL_law := kW 782 (by decide +kernel)
theorem wc_X6_toBox : Cond.code yX6_toBox cX6_toBox 4 (some .int) ∈ wsL_law := kW 783 (by decide +kernel)
theorem wm_L_48 : Cond.methodLink RL 48 yX5_divide ∈ wsL_law := kW 388 (by decide +kernel)
theorem wi_X5_divide : Cond.instanceMethod yX5_divide ∈ wsL_law := kW 389 (by decide +kernel)
theorem ws_X5_divide : Cond.selects RX5 yX5_divide yX5_divide ∈ wsL_law := kW 390 (by decide +kernel)
theorem wc_X5_divide : Cond.code yX5_divide cX5_divide 6 (some .int) ∈ wsL_law := kW 391 (by decide +kernel)
theorem wf_X5_127 : Cond.fieldLink RX5 127 "FishCounter$Lot" "grams" "I" ∈ wsL_law := kW 84 (by decide +kernel)
theorem wf_X5_130 : Cond.fieldLink RX5 130 "FishCounter$Lot" "kind" "I" ∈ wsL_law := kW 80 (by decide +kernel)
theorem wf_X5_133 : Cond.fieldLink RX5 133 "FishCounter$Lot" "fresh" "I" ∈ wsL_law := kW 87 (by decide +kernel)
theorem wm_X5_136 : Cond.methodLink RX5 136 yX4_addLot ∈ wsL_law := kW 392 (by decide +kernel)
theorem wm_L_51 : Cond.methodLink RL 51 yX6_divide ∈ wsL_law := kW 784 (by decide +kernel)
theorem wi_X6_divide : Cond.instanceMethod yX6_divide ∈ wsL_law := kW 785 (by decide +kernel)
theorem ws_X6_divide : Cond.selects RX6 yX6_divide yX6_divide ∈ wsL_law := kW 786 (by decide +kernel)
theorem wc_X6_divide : Cond.code yX6_divide cX6_divide 6 (some .int) ∈ wsL_law := kW 787 (by decide +kernel)
theorem wm_L_52 : Cond.methodLink RL 52 yX5_throwAway ∈ wsL_law := kW 393 (by decide +kernel)
theorem wi_X5_throwAway : Cond.instanceMethod yX5_throwAway ∈ wsL_law := kW 394 (by decide +kernel)
theorem ws_X5_throwAway : Cond.selects RX5 yX5_throwAway yX5_throwAway ∈ wsL_law := kW 395 (by decide +kernel)
theorem wc_X5_throwAway : Cond.code yX5_throwAway cX5_throwAway 3 (some .int) ∈ wsL_law := kW 396 (by decide +kernel)
theorem wm_X5_139 : Cond.methodLink RX5 139 yX4_indexOfLot ∈ wsL_law := kW 397 (by decide +kernel)
theorem wm_X5_142 : Cond.methodLink RX5 142 yX4_discardLotAt ∈ wsL_law := kW 398 (by decide +kernel)
theorem wi_X4_discardLotAt : Cond.instanceMethod yX4_discardLotAt ∈ wsL_law := kW 399 (by decide +kernel)
theorem ws_X4_discardLotAt : Cond.selects RX4 yX4_discardLotAt yX4_discardLotAt ∈ wsL_law := kW 400 (by decide +kernel)
theorem wc_X4_discardLotAt : Cond.code yX4_discardLotAt cX4_discardLotAt 3 (some .int) ∈ wsL_law := kW 401 (by decide +kernel)
theorem wm_X4_134 : Cond.methodLink RX4 134 yX4_removeLotAt ∈ wsL_law := kW 402 (by decide +kernel)
theorem wi_X4_removeLotAt : Cond.instanceMethod yX4_removeLotAt ∈ wsL_law := kW 403 (by decide +kernel)
theorem ws_X4_removeLotAt : Cond.selects RX4 yX4_removeLotAt yX4_removeLotAt ∈ wsL_law := kW 404 (by decide +kernel)
theorem wc_X4_removeLotAt : Cond.code yX4_removeLotAt cX4_removeLotAt 4 none ∈ wsL_law := kW 405 (by decide +kernel)
theorem wm_L_56 : Cond.methodLink RL 56 yX6_throwAway ∈ wsL_law := kW 788 (by decide +kernel)
theorem wi_X6_throwAway : Cond.instanceMethod yX6_throwAway ∈ wsL_law := kW 789 (by decide +kernel)
theorem ws_X6_throwAway : Cond.selects RX6 yX6_throwAway yX6_throwAway ∈ wsL_law := kW 790 (by decide +kernel)
theorem wc_X6_throwAway : Cond.code yX6_throwAway cX6_throwAway 4 (some .int) ∈ wsL_law := kW 791 (by decide +kernel)
theorem wm_X6_95 : Cond.methodLink RX6 95 yX6_throwsAway ∈ wsL_law := kW 792 (by decide +kernel)
theorem wi_X6_throwsAway : Cond.instanceMethod yX6_throwsAway ∈ wsL_law := kW 794 (by decide +kernel)
theorem ws_X6_throwsAway : Cond.selects RX6 yX6_throwsAway yX6_throwsAway ∈ wsL_law := kW 16 (by decide +kernel)
theorem wc_X6_throwsAway : Cond.code yX6_throwsAway cX6_throwsAway 2 none ∈ wsL_law := kW 795 (by decide +kernel)
theorem wm_X6_34 : Cond.methodLink RX6 34 yX6_drops ∈ wsL_law := kW 796 (by decide +kernel)
theorem wi_X6_drops : Cond.instanceMethod yX6_drops ∈ wsL_law := kW 798 (by decide +kernel)
theorem ws_X6_drops : Cond.selects RX6 yX6_drops yX6_drops ∈ wsL_law := kW 17 (by decide +kernel)
theorem wc_X6_drops : Cond.code yX6_drops cX6_drops 3 none ∈ wsL_law := kW 799 (by decide +kernel)
theorem wm_L_57 : Cond.methodLink RL 57 yX5_order ∈ wsL_law := kW 406 (by decide +kernel)
theorem wi_X5_order : Cond.instanceMethod yX5_order ∈ wsL_law := kW 407 (by decide +kernel)
theorem ws_X5_order : Cond.selects RX5 yX5_order yX5_order ∈ wsL_law := kW 408 (by decide +kernel)
theorem wc_X5_order : Cond.code yX5_order cX5_order 5 (some .int) ∈ wsL_law := kW 409 (by decide +kernel)
theorem wm_X5_145 : Cond.methodLink RX5 145 yX4_sell ∈ wsL_law := kW 410 (by decide +kernel)
theorem wi_X4_sell : Cond.instanceMethod yX4_sell ∈ wsL_law := kW 411 (by decide +kernel)
theorem ws_X4_sell : Cond.selects RX4 yX4_sell yX4_sell ∈ wsL_law := kW 412 (by decide +kernel)
theorem wc_X4_sell : Cond.code yX4_sell cX4_sell 8 (some .int) ∈ wsL_law := kW 413 (by decide +kernel)
theorem wm_X4_137 : Cond.methodLink RX4 137 Lib.Math.max.name ∈ wsL_law := kW 414 (by decide +kernel)
theorem wt_max : Cond.static Lib.Math.max.name ∈ wsL_law := kW 415 (by decide +kernel)
theorem wc_max : Cond.code Lib.Math.max.name Lib.Math.max.code 2 (some .int) ∈ wsL_law := kW 416 (by decide +kernel)
theorem wm_X4_142 : Cond.methodLink RX4 142 yX4_nextLotToSell ∈ wsL_law := kW 417 (by decide +kernel)
theorem wi_X4_nextLotToSell : Cond.instanceMethod yX4_nextLotToSell ∈ wsL_law := kW 418 (by decide +kernel)
theorem ws_X4_nextLotToSell : Cond.selects RX4 yX4_nextLotToSell yX4_nextLotToSell ∈ wsL_law := kW 419 (by decide +kernel)
theorem wc_X4_nextLotToSell : Cond.code yX4_nextLotToSell cX4_nextLotToSell 8 (some .int) ∈ wsL_law := kW 420 (by decide +kernel)
theorem wm_X4_148 : Cond.methodLink RX4 148 yX3_isOnTray ∈ wsL_law := kW 421 (by decide +kernel)
theorem wi_X3_isOnTray : Cond.instanceMethod yX3_isOnTray ∈ wsL_law := kW 422 (by decide +kernel)
theorem ws_X3_isOnTray : Cond.selects RX3 yX3_isOnTray yX3_isOnTray ∈ wsL_law := kW 423 (by decide +kernel)
theorem wc_X3_isOnTray : Cond.code yX3_isOnTray cX3_isOnTray 1 (some .boolean) ∈ wsL_law := kW 424 (by decide +kernel)
theorem wm_X4_152 : Cond.methodLink RX4 152 yX4_priceOf ∈ wsL_law := kW 425 (by decide +kernel)
theorem wm_X4_145 : Cond.methodLink RX4 145 yX4_sellFromLotAt ∈ wsL_law := kW 426 (by decide +kernel)
theorem wi_X4_sellFromLotAt : Cond.instanceMethod yX4_sellFromLotAt ∈ wsL_law := kW 427 (by decide +kernel)
theorem ws_X4_sellFromLotAt : Cond.selects RX4 yX4_sellFromLotAt yX4_sellFromLotAt ∈ wsL_law := kW 428 (by decide +kernel)
theorem wc_X4_sellFromLotAt : Cond.code yX4_sellFromLotAt cX4_sellFromLotAt 5 (some .int) ∈ wsL_law := kW 429 (by decide +kernel)
theorem wm_X4_156 : Cond.methodLink RX4 156 Lib.Math.min.name ∈ wsL_law := kW 430 (by decide +kernel)
theorem wm_L_60 : Cond.methodLink RL 60 yX6_order ∈ wsL_law := kW 800 (by decide +kernel)
theorem wi_X6_order : Cond.instanceMethod yX6_order ∈ wsL_law := kW 801 (by decide +kernel)
theorem ws_X6_order : Cond.selects RX6 yX6_order yX6_order ∈ wsL_law := kW 802 (by decide +kernel)
theorem wc_X6_order : Cond.code yX6_order cX6_order 8 (some .int) ∈ wsL_law := kW 803 (by decide +kernel)
theorem wm_X6_104 : Cond.methodLink RX6 104 yX6_nextFor ∈ wsL_law := kW 804 (by decide +kernel)
theorem wi_X6_nextFor : Cond.instanceMethod yX6_nextFor ∈ wsL_law := kW 806 (by decide +kernel)
theorem ws_X6_nextFor : Cond.selects RX6 yX6_nextFor yX6_nextFor ∈ wsL_law := kW 18 (by decide +kernel)
theorem wc_X6_nextFor : Cond.code yX6_nextFor cX6_nextFor 7 (some .int) ∈ wsL_law := kW 807 (by decide +kernel)
theorem wm_X6_98 : Cond.methodLink RX6 98 yX6_isTrayPlace ∈ wsL_law := kW 808 (by decide +kernel)
theorem wt_X6_isTrayPlace : Cond.static yX6_isTrayPlace ∈ wsL_law := kW 809 (by decide +kernel)
theorem wc_X6_isTrayPlace : Cond.code yX6_isTrayPlace cX6_isTrayPlace 1 (some .boolean) ∈ wsL_law := kW 810 (by decide +kernel)
theorem wm_X6_101 : Cond.methodLink RX6 101 yX6_isSold ∈ wsL_law := kW 811 (by decide +kernel)
theorem wi_X6_isSold : Cond.instanceMethod yX6_isSold ∈ wsL_law := kW 813 (by decide +kernel)
theorem ws_X6_isSold : Cond.selects RX6 yX6_isSold yX6_isSold ∈ wsL_law := kW 19 (by decide +kernel)
theorem wc_X6_isSold : Cond.code yX6_isSold cX6_isSold 2 (some .boolean) ∈ wsL_law := kW 814 (by decide +kernel)
theorem wm_L_61 : Cond.methodLink RL 61 yX5_pass ∈ wsL_law := kW 431 (by decide +kernel)
theorem wi_X5_pass : Cond.instanceMethod yX5_pass ∈ wsL_law := kW 432 (by decide +kernel)
theorem ws_X5_pass : Cond.selects RX5 yX5_pass yX5_pass ∈ wsL_law := kW 433 (by decide +kernel)
theorem wc_X5_pass : Cond.code yX5_pass cX5_pass 1 (some .int) ∈ wsL_law := kW 434 (by decide +kernel)
theorem wf_X5_148 : Cond.fieldLink RX5 148 "FishCounter$Shop" "hour" "I" ∈ wsL_law := kW 112 (by decide +kernel)
theorem wm_X5_151 : Cond.methodLink RX5 151 yX4_passHour ∈ wsL_law := kW 435 (by decide +kernel)
theorem wi_X4_passHour : Cond.instanceMethod yX4_passHour ∈ wsL_law := kW 436 (by decide +kernel)
theorem ws_X4_passHour : Cond.selects RX4 yX4_passHour yX4_passHour ∈ wsL_law := kW 437 (by decide +kernel)
theorem wc_X4_passHour : Cond.code yX4_passHour cX4_passHour 3 none ∈ wsL_law := kW 438 (by decide +kernel)
theorem wm_X4_159 : Cond.methodLink RX4 159 yX4_iceAt ∈ wsL_law := kW 439 (by decide +kernel)
theorem wi_X4_iceAt : Cond.instanceMethod yX4_iceAt ∈ wsL_law := kW 440 (by decide +kernel)
theorem ws_X4_iceAt : Cond.selects RX4 yX4_iceAt yX4_iceAt ∈ wsL_law := kW 441 (by decide +kernel)
theorem wc_X4_iceAt : Cond.code yX4_iceAt cX4_iceAt 2 (some .int) ∈ wsL_law := kW 442 (by decide +kernel)
theorem wt_X5_freshAnHourLater : Cond.static yX5_freshAnHourLater ∈ wsL_law := kW 446 (by decide +kernel)
theorem wc_X5_freshAnHourLater : Cond.code yX5_freshAnHourLater cX5_freshAnHourLater 4 (some .int) ∈ wsL_law := kW 447 (by decide +kernel)
theorem wm_X5_298 : Cond.methodLink RX5 298 Lib.Math.max.name ∈ wsL_law := kW 448 (by decide +kernel)
theorem wt_X5_iceAnHourLater : Cond.static yX5_iceAnHourLater ∈ wsL_law := kW 450 (by decide +kernel)
theorem wc_X5_iceAnHourLater : Cond.code yX5_iceAnHourLater cX5_iceAnHourLater 3 (some .int) ∈ wsL_law := kW 451 (by decide +kernel)
theorem wm_L_65 : Cond.methodLink RL 65 yX6_pass ∈ wsL_law := kW 815 (by decide +kernel)
theorem wi_X6_pass : Cond.instanceMethod yX6_pass ∈ wsL_law := kW 816 (by decide +kernel)
theorem ws_X6_pass : Cond.selects RX6 yX6_pass yX6_pass ∈ wsL_law := kW 817 (by decide +kernel)
theorem wc_X6_pass : Cond.code yX6_pass cX6_pass 1 (some .int) ∈ wsL_law := kW 818 (by decide +kernel)
theorem wm_X6_116 : Cond.methodLink RX6 116 yX6_passesHour ∈ wsL_law := kW 819 (by decide +kernel)
theorem wi_X6_passesHour : Cond.instanceMethod yX6_passesHour ∈ wsL_law := kW 821 (by decide +kernel)
theorem ws_X6_passesHour : Cond.selects RX6 yX6_passesHour yX6_passesHour ∈ wsL_law := kW 20 (by decide +kernel)
theorem wc_X6_passesHour : Cond.code yX6_passesHour cX6_passesHour 2 none ∈ wsL_law := kW 822 (by decide +kernel)
theorem wm_X6_107 : Cond.methodLink RX6 107 yX6_loss ∈ wsL_law := kW 823 (by decide +kernel)
theorem wt_X6_loss : Cond.static yX6_loss ∈ wsL_law := kW 824 (by decide +kernel)
theorem wc_X6_loss : Cond.code yX6_loss cX6_loss 2 (some .int) ∈ wsL_law := kW 825 (by decide +kernel)
theorem wm_X6_110 : Cond.methodLink RX6 110 yX6_freshThen ∈ wsL_law := kW 826 (by decide +kernel)
theorem wt_X6_freshThen : Cond.static yX6_freshThen ∈ wsL_law := kW 827 (by decide +kernel)
theorem wc_X6_freshThen : Cond.code yX6_freshThen cX6_freshThen 2 (some .int) ∈ wsL_law := kW 828 (by decide +kernel)
theorem wm_X6_113 : Cond.methodLink RX6 113 yX6_iceThen ∈ wsL_law := kW 829 (by decide +kernel)
theorem wi_X6_iceThen : Cond.instanceMethod yX6_iceThen ∈ wsL_law := kW 831 (by decide +kernel)
theorem ws_X6_iceThen : Cond.selects RX6 yX6_iceThen yX6_iceThen ∈ wsL_law := kW 21 (by decide +kernel)
theorem wc_X6_iceThen : Cond.code yX6_iceThen cX6_iceThen 4 (some .int) ∈ wsL_law := kW 832 (by decide +kernel)
theorem wm_L_66 : Cond.methodLink RL 66 yX5_close ∈ wsL_law := kW 452 (by decide +kernel)
theorem wi_X5_close : Cond.instanceMethod yX5_close ∈ wsL_law := kW 453 (by decide +kernel)
theorem ws_X5_close : Cond.selects RX5 yX5_close yX5_close ∈ wsL_law := kW 454 (by decide +kernel)
theorem wc_X5_close : Cond.code yX5_close cX5_close 1 (some .int) ∈ wsL_law := kW 455 (by decide +kernel)
theorem wf_X5_154 : Cond.fieldLink RX5 154 "FishCounter$Shop" "day" "I" ∈ wsL_law := kW 110 (by decide +kernel)
theorem wm_X5_157 : Cond.methodLink RX5 157 yX4_closeDay ∈ wsL_law := kW 456 (by decide +kernel)
theorem wi_X4_closeDay : Cond.instanceMethod yX4_closeDay ∈ wsL_law := kW 457 (by decide +kernel)
theorem ws_X4_closeDay : Cond.selects RX4 yX4_closeDay yX4_closeDay ∈ wsL_law := kW 458 (by decide +kernel)
theorem wc_X4_closeDay : Cond.code yX4_closeDay cX4_closeDay 3 (some .int) ∈ wsL_law := kW 459 (by decide +kernel)
theorem wm_X4_169 : Cond.methodLink RX4 169 yX4_discardLotsBelowLimit ∈ wsL_law := kW 460 (by decide +kernel)
theorem wi_X4_discardLotsBelowLimit : Cond.instanceMethod yX4_discardLotsBelowLimit ∈ wsL_law := kW 461 (by decide +kernel)
theorem ws_X4_discardLotsBelowLimit : Cond.selects RX4 yX4_discardLotsBelowLimit yX4_discardLotsBelowLimit ∈ wsL_law := kW 462 (by decide +kernel)
theorem wc_X4_discardLotsBelowLimit : Cond.code yX4_discardLotsBelowLimit cX4_discardLotsBelowLimit 3 (some .int) ∈ wsL_law := kW 463 (by decide +kernel)
theorem wm_X4_176 : Cond.methodLink RX4 176 yX4_discardLotAt ∈ wsL_law := kW 464 (by decide +kernel)
theorem wm_X4_173 : Cond.methodLink RX4 173 yX4_clearTray ∈ wsL_law := kW 465 (by decide +kernel)
theorem wi_X4_clearTray : Cond.instanceMethod yX4_clearTray ∈ wsL_law := kW 466 (by decide +kernel)
theorem ws_X4_clearTray : Cond.selects RX4 yX4_clearTray yX4_clearTray ∈ wsL_law := kW 467 (by decide +kernel)
theorem wc_X4_clearTray : Cond.code yX4_clearTray cX4_clearTray 4 (some .int) ∈ wsL_law := kW 468 (by decide +kernel)
theorem wm_X4_89 : Cond.methodLink RX4 89 yX4_lotOnTray ∈ wsL_law := kW 469 (by decide +kernel)
theorem wm_X4_179 : Cond.methodLink RX4 179 yX4_boxForTheNight ∈ wsL_law := kW 470 (by decide +kernel)
theorem wi_X4_boxForTheNight : Cond.instanceMethod yX4_boxForTheNight ∈ wsL_law := kW 471 (by decide +kernel)
theorem ws_X4_boxForTheNight : Cond.selects RX4 yX4_boxForTheNight yX4_boxForTheNight ∈ wsL_law := kW 472 (by decide +kernel)
theorem wc_X4_boxForTheNight : Cond.code yX4_boxForTheNight cX4_boxForTheNight 4 (some .int) ∈ wsL_law := kW 473 (by decide +kernel)
theorem wm_L_69 : Cond.methodLink RL 69 yX6_close ∈ wsL_law := kW 833 (by decide +kernel)
theorem wi_X6_close : Cond.instanceMethod yX6_close ∈ wsL_law := kW 834 (by decide +kernel)
theorem ws_X6_close : Cond.selects RX6 yX6_close yX6_close ∈ wsL_law := kW 835 (by decide +kernel)
theorem wc_X6_close : Cond.code yX6_close cX6_close 1 (some .int) ∈ wsL_law := kW 836 (by decide +kernel)
theorem wm_X6_126 : Cond.methodLink RX6 126 yX6_closes ∈ wsL_law := kW 837 (by decide +kernel)
theorem wi_X6_closes : Cond.instanceMethod yX6_closes ∈ wsL_law := kW 839 (by decide +kernel)
theorem ws_X6_closes : Cond.selects RX6 yX6_closes yX6_closes ∈ wsL_law := kW 22 (by decide +kernel)
theorem wc_X6_closes : Cond.code yX6_closes cX6_closes 5 (some .int) ∈ wsL_law := kW 840 (by decide +kernel)
theorem wm_X6_119 : Cond.methodLink RX6 119 yX6_firstAt ∈ wsL_law := kW 841 (by decide +kernel)
theorem wi_X6_firstAt : Cond.instanceMethod yX6_firstAt ∈ wsL_law := kW 843 (by decide +kernel)
theorem ws_X6_firstAt : Cond.selects RX6 yX6_firstAt yX6_firstAt ∈ wsL_law := kW 23 (by decide +kernel)
theorem wc_X6_firstAt : Cond.code yX6_firstAt cX6_firstAt 4 (some .int) ∈ wsL_law := kW 844 (by decide +kernel)
theorem wm_X6_122 : Cond.methodLink RX6 122 yX6_coldest ∈ wsL_law := kW 845 (by decide +kernel)
theorem wi_X6_coldest : Cond.instanceMethod yX6_coldest ∈ wsL_law := kW 847 (by decide +kernel)
theorem ws_X6_coldest : Cond.selects RX6 yX6_coldest yX6_coldest ∈ wsL_law := kW 24 (by decide +kernel)
theorem wc_X6_coldest : Cond.code yX6_coldest cX6_coldest 4 (some .int) ∈ wsL_law := kW 848 (by decide +kernel)
theorem wm_L_70 : Cond.methodLink RL 70 yX5_count ∈ wsL_law := kW 474 (by decide +kernel)
theorem wi_X5_count : Cond.instanceMethod yX5_count ∈ wsL_law := kW 475 (by decide +kernel)
theorem ws_X5_count : Cond.selects RX5 yX5_count yX5_count ∈ wsL_law := kW 476 (by decide +kernel)
theorem wc_X5_count : Cond.code yX5_count cX5_count 2 (some .long) ∈ wsL_law := kW 477 (by decide +kernel)
theorem wf_X5_161 : Cond.fieldLink RX5 161 "FishCounter$Shop" "lotCount" "I" ∈ wsL_law := kW 120 (by decide +kernel)
theorem wf_X5_167 : Cond.fieldLink RX5 167 "FishCounter$Shop" "gramsCame" "J" ∈ wsL_law := kW 122 (by decide +kernel)
theorem wf_X5_171 : Cond.fieldLink RX5 171 "FishCounter$Shop" "gramsSold" "J" ∈ wsL_law := kW 124 (by decide +kernel)
theorem wf_X5_174 : Cond.fieldLink RX5 174 "FishCounter$Shop" "gramsThrownAway" "J" ∈ wsL_law := kW 126 (by decide +kernel)
theorem wf_X5_177 : Cond.fieldLink RX5 177 "FishCounter$Shop" "moneyPaid" "J" ∈ wsL_law := kW 128 (by decide +kernel)
theorem wf_X5_180 : Cond.fieldLink RX5 180 "FishCounter$Shop" "moneyTaken" "J" ∈ wsL_law := kW 130 (by decide +kernel)
theorem wq_X5_183 : Cond.constantLong RX5 183 (-2) ∈ wsL_law := kW 482 (by decide +kernel)
theorem wm_X5_164 : Cond.methodLink RX5 164 yX4_gramsInShop ∈ wsL_law := kW 478 (by decide +kernel)
theorem wi_X4_gramsInShop : Cond.instanceMethod yX4_gramsInShop ∈ wsL_law := kW 479 (by decide +kernel)
theorem ws_X4_gramsInShop : Cond.selects RX4 yX4_gramsInShop yX4_gramsInShop ∈ wsL_law := kW 480 (by decide +kernel)
theorem wc_X4_gramsInShop : Cond.code yX4_gramsInShop cX4_gramsInShop 3 (some .int) ∈ wsL_law := kW 481 (by decide +kernel)
theorem wm_L_74 : Cond.methodLink RL 74 yX6_count ∈ wsL_law := kW 849 (by decide +kernel)
theorem wi_X6_count : Cond.instanceMethod yX6_count ∈ wsL_law := kW 850 (by decide +kernel)
theorem ws_X6_count : Cond.selects RX6 yX6_count yX6_count ∈ wsL_law := kW 851 (by decide +kernel)
theorem wc_X6_count : Cond.code yX6_count cX6_count 2 (some .long) ∈ wsL_law := kW 852 (by decide +kernel)
theorem wq_X6_136 : Cond.constantLong RX6 136 (-2) ∈ wsL_law := kW 861 (by decide +kernel)
theorem wm_X6_132 : Cond.methodLink RX6 132 yX6_countOf ∈ wsL_law := kW 853 (by decide +kernel)
theorem wi_X6_countOf : Cond.instanceMethod yX6_countOf ∈ wsL_law := kW 855 (by decide +kernel)
theorem ws_X6_countOf : Cond.selects RX6 yX6_countOf yX6_countOf ∈ wsL_law := kW 25 (by decide +kernel)
theorem wc_X6_countOf : Cond.code yX6_countOf cX6_countOf 2 (some .long) ∈ wsL_law := kW 856 (by decide +kernel)
theorem wm_X6_129 : Cond.methodLink RX6 129 yX6_allGrams ∈ wsL_law := kW 857 (by decide +kernel)
theorem wi_X6_allGrams : Cond.instanceMethod yX6_allGrams ∈ wsL_law := kW 859 (by decide +kernel)
theorem ws_X6_allGrams : Cond.selects RX6 yX6_allGrams yX6_allGrams ∈ wsL_law := kW 26 (by decide +kernel)
theorem wc_X6_allGrams : Cond.code yX6_allGrams cX6_allGrams 3 (some .int) ∈ wsL_law := kW 860 (by decide +kernel)
theorem wm_L_75 : Cond.methodLink RL 75 yX5_lot ∈ wsL_law := kW 483 (by decide +kernel)
theorem wi_X5_lot : Cond.instanceMethod yX5_lot ∈ wsL_law := kW 484 (by decide +kernel)
theorem ws_X5_lot : Cond.selects RX5 yX5_lot yX5_lot ∈ wsL_law := kW 485 (by decide +kernel)
theorem wc_X5_lot : Cond.code yX5_lot cX5_lot 4 (some .int) ∈ wsL_law := kW 486 (by decide +kernel)
theorem wf_X5_185 : Cond.fieldLink RX5 185 "FishCounter$Lot" "tray" "I" ∈ wsL_law := kW 94 (by decide +kernel)
theorem wm_X5_188 : Cond.methodLink RX5 188 yX5_moneyFor ∈ wsL_law := kW 487 (by decide +kernel)
theorem wm_L_78 : Cond.methodLink RL 78 yX6_lot ∈ wsL_law := kW 862 (by decide +kernel)
theorem wi_X6_lot : Cond.instanceMethod yX6_lot ∈ wsL_law := kW 863 (by decide +kernel)
theorem ws_X6_lot : Cond.selects RX6 yX6_lot yX6_lot ∈ wsL_law := kW 864 (by decide +kernel)
theorem wc_X6_lot : Cond.code yX6_lot cX6_lot 4 (some .int) ∈ wsL_law := kW 865 (by decide +kernel)
theorem wm_X6_138 : Cond.methodLink RX6 138 yX6_ofLot ∈ wsL_law := kW 866 (by decide +kernel)
theorem wi_X6_ofLot : Cond.instanceMethod yX6_ofLot ∈ wsL_law := kW 868 (by decide +kernel)
theorem ws_X6_ofLot : Cond.selects RX6 yX6_ofLot yX6_ofLot ∈ wsL_law := kW 27 (by decide +kernel)
theorem wc_X6_ofLot : Cond.code yX6_ofLot cX6_ofLot 4 (some .int) ∈ wsL_law := kW 869 (by decide +kernel)
theorem wm_L_79 : Cond.methodLink RL 79 yX5_box ∈ wsL_law := kW 488 (by decide +kernel)
theorem wi_X5_box : Cond.instanceMethod yX5_box ∈ wsL_law := kW 489 (by decide +kernel)
theorem ws_X5_box : Cond.selects RX5 yX5_box yX5_box ∈ wsL_law := kW 490 (by decide +kernel)
theorem wc_X5_box : Cond.code yX5_box cX5_box 3 (some .int) ∈ wsL_law := kW 491 (by decide +kernel)
theorem wm_X5_191 : Cond.methodLink RX5 191 yX4_gramsInBox ∈ wsL_law := kW 492 (by decide +kernel)
theorem wi_X4_gramsInBox : Cond.instanceMethod yX4_gramsInBox ∈ wsL_law := kW 493 (by decide +kernel)
theorem ws_X4_gramsInBox : Cond.selects RX4 yX4_gramsInBox yX4_gramsInBox ∈ wsL_law := kW 494 (by decide +kernel)
theorem wc_X4_gramsInBox : Cond.code yX4_gramsInBox cX4_gramsInBox 4 (some .int) ∈ wsL_law := kW 495 (by decide +kernel)
theorem wm_X5_194 : Cond.methodLink RX5 194 yX4_firstLotInBox ∈ wsL_law := kW 496 (by decide +kernel)
theorem wi_X4_firstLotInBox : Cond.instanceMethod yX4_firstLotInBox ∈ wsL_law := kW 497 (by decide +kernel)
theorem ws_X4_firstLotInBox : Cond.selects RX4 yX4_firstLotInBox yX4_firstLotInBox ∈ wsL_law := kW 498 (by decide +kernel)
theorem wc_X4_firstLotInBox : Cond.code yX4_firstLotInBox cX4_firstLotInBox 3 (some .int) ∈ wsL_law := kW 499 (by decide +kernel)
theorem wm_L_82 : Cond.methodLink RL 82 yX6_box ∈ wsL_law := kW 870 (by decide +kernel)
theorem wi_X6_box : Cond.instanceMethod yX6_box ∈ wsL_law := kW 871 (by decide +kernel)
theorem ws_X6_box : Cond.selects RX6 yX6_box yX6_box ∈ wsL_law := kW 872 (by decide +kernel)
theorem wc_X6_box : Cond.code yX6_box cX6_box 3 (some .int) ∈ wsL_law := kW 873 (by decide +kernel)
theorem wm_X6_147 : Cond.methodLink RX6 147 yX6_ofBox ∈ wsL_law := kW 874 (by decide +kernel)
theorem wi_X6_ofBox : Cond.instanceMethod yX6_ofBox ∈ wsL_law := kW 876 (by decide +kernel)
theorem ws_X6_ofBox : Cond.selects RX6 yX6_ofBox yX6_ofBox ∈ wsL_law := kW 28 (by decide +kernel)
theorem wc_X6_ofBox : Cond.code yX6_ofBox cX6_ofBox 3 (some .int) ∈ wsL_law := kW 877 (by decide +kernel)
theorem wm_X6_141 : Cond.methodLink RX6 141 yX6_gramsAt ∈ wsL_law := kW 878 (by decide +kernel)
theorem wi_X6_gramsAt : Cond.instanceMethod yX6_gramsAt ∈ wsL_law := kW 880 (by decide +kernel)
theorem ws_X6_gramsAt : Cond.selects RX6 yX6_gramsAt yX6_gramsAt ∈ wsL_law := kW 29 (by decide +kernel)
theorem wc_X6_gramsAt : Cond.code yX6_gramsAt cX6_gramsAt 4 (some .int) ∈ wsL_law := kW 881 (by decide +kernel)
theorem wm_X6_144 : Cond.methodLink RX6 144 yX6_numberAt ∈ wsL_law := kW 882 (by decide +kernel)
theorem wi_X6_numberAt : Cond.instanceMethod yX6_numberAt ∈ wsL_law := kW 884 (by decide +kernel)
theorem ws_X6_numberAt : Cond.selects RX6 yX6_numberAt yX6_numberAt ∈ wsL_law := kW 30 (by decide +kernel)
theorem wc_X6_numberAt : Cond.code yX6_numberAt cX6_numberAt 2 (some .int) ∈ wsL_law := kW 885 (by decide +kernel)
theorem wm_L_83 : Cond.methodLink RL 83 yX5_tray ∈ wsL_law := kW 500 (by decide +kernel)
theorem wi_X5_tray : Cond.instanceMethod yX5_tray ∈ wsL_law := kW 501 (by decide +kernel)
theorem ws_X5_tray : Cond.selects RX5 yX5_tray yX5_tray ∈ wsL_law := kW 502 (by decide +kernel)
theorem wc_X5_tray : Cond.code yX5_tray cX5_tray 3 (some .int) ∈ wsL_law := kW 503 (by decide +kernel)
theorem wm_X5_197 : Cond.methodLink RX5 197 yX4_numberOnTray ∈ wsL_law := kW 504 (by decide +kernel)
theorem wi_X4_numberOnTray : Cond.instanceMethod yX4_numberOnTray ∈ wsL_law := kW 505 (by decide +kernel)
theorem ws_X4_numberOnTray : Cond.selects RX4 yX4_numberOnTray yX4_numberOnTray ∈ wsL_law := kW 506 (by decide +kernel)
theorem wc_X4_numberOnTray : Cond.code yX4_numberOnTray cX4_numberOnTray 3 (some .int) ∈ wsL_law := kW 507 (by decide +kernel)
theorem wm_L_86 : Cond.methodLink RL 86 yX6_tray ∈ wsL_law := kW 886 (by decide +kernel)
theorem wi_X6_tray : Cond.instanceMethod yX6_tray ∈ wsL_law := kW 887 (by decide +kernel)
theorem ws_X6_tray : Cond.selects RX6 yX6_tray yX6_tray ∈ wsL_law := kW 888 (by decide +kernel)
theorem wc_X6_tray : Cond.code yX6_tray cX6_tray 3 (some .int) ∈ wsL_law := kW 889 (by decide +kernel)
theorem wm_X6_150 : Cond.methodLink RX6 150 yX6_ofTray ∈ wsL_law := kW 890 (by decide +kernel)
theorem wi_X6_ofTray : Cond.instanceMethod yX6_ofTray ∈ wsL_law := kW 892 (by decide +kernel)
theorem ws_X6_ofTray : Cond.selects RX6 yX6_ofTray yX6_ofTray ∈ wsL_law := kW 31 (by decide +kernel)
theorem wc_X6_ofTray : Cond.code yX6_ofTray cX6_ofTray 3 (some .int) ∈ wsL_law := kW 893 (by decide +kernel)
theorem wm_L_87 : Cond.methodLink RL 87 yX5_kind ∈ wsL_law := kW 508 (by decide +kernel)
theorem wi_X5_kind : Cond.instanceMethod yX5_kind ∈ wsL_law := kW 509 (by decide +kernel)
theorem ws_X5_kind : Cond.selects RX5 yX5_kind yX5_kind ∈ wsL_law := kW 510 (by decide +kernel)
theorem wc_X5_kind : Cond.code yX5_kind cX5_kind 3 (some .int) ∈ wsL_law := kW 511 (by decide +kernel)
theorem wm_X5_200 : Cond.methodLink RX5 200 yX4_gramsOfKind ∈ wsL_law := kW 512 (by decide +kernel)
theorem wi_X4_gramsOfKind : Cond.instanceMethod yX4_gramsOfKind ∈ wsL_law := kW 513 (by decide +kernel)
theorem ws_X4_gramsOfKind : Cond.selects RX4 yX4_gramsOfKind yX4_gramsOfKind ∈ wsL_law := kW 514 (by decide +kernel)
theorem wc_X4_gramsOfKind : Cond.code yX4_gramsOfKind cX4_gramsOfKind 4 (some .int) ∈ wsL_law := kW 515 (by decide +kernel)
theorem wm_X5_203 : Cond.methodLink RX5 203 yX4_freshestLotOfKind ∈ wsL_law := kW 516 (by decide +kernel)
theorem wi_X4_freshestLotOfKind : Cond.instanceMethod yX4_freshestLotOfKind ∈ wsL_law := kW 517 (by decide +kernel)
theorem ws_X4_freshestLotOfKind : Cond.selects RX4 yX4_freshestLotOfKind yX4_freshestLotOfKind ∈ wsL_law := kW 518 (by decide +kernel)
theorem wc_X4_freshestLotOfKind : Cond.code yX4_freshestLotOfKind cX4_freshestLotOfKind 5 (some .int) ∈ wsL_law := kW 519 (by decide +kernel)
theorem wm_L_90 : Cond.methodLink RL 90 yX6_kind ∈ wsL_law := kW 894 (by decide +kernel)
theorem wi_X6_kind : Cond.instanceMethod yX6_kind ∈ wsL_law := kW 895 (by decide +kernel)
theorem ws_X6_kind : Cond.selects RX6 yX6_kind yX6_kind ∈ wsL_law := kW 896 (by decide +kernel)
theorem wc_X6_kind : Cond.code yX6_kind cX6_kind 3 (some .int) ∈ wsL_law := kW 897 (by decide +kernel)
theorem wm_X6_159 : Cond.methodLink RX6 159 yX6_ofKind ∈ wsL_law := kW 898 (by decide +kernel)
theorem wi_X6_ofKind : Cond.instanceMethod yX6_ofKind ∈ wsL_law := kW 900 (by decide +kernel)
theorem ws_X6_ofKind : Cond.selects RX6 yX6_ofKind yX6_ofKind ∈ wsL_law := kW 32 (by decide +kernel)
theorem wc_X6_ofKind : Cond.code yX6_ofKind cX6_ofKind 3 (some .int) ∈ wsL_law := kW 901 (by decide +kernel)
theorem wm_X6_153 : Cond.methodLink RX6 153 yX6_gramsOfKind ∈ wsL_law := kW 902 (by decide +kernel)
theorem wi_X6_gramsOfKind : Cond.instanceMethod yX6_gramsOfKind ∈ wsL_law := kW 904 (by decide +kernel)
theorem ws_X6_gramsOfKind : Cond.selects RX6 yX6_gramsOfKind yX6_gramsOfKind ∈ wsL_law := kW 33 (by decide +kernel)
theorem wc_X6_gramsOfKind : Cond.code yX6_gramsOfKind cX6_gramsOfKind 4 (some .int) ∈ wsL_law := kW 905 (by decide +kernel)
theorem wm_X6_156 : Cond.methodLink RX6 156 yX6_freshest ∈ wsL_law := kW 906 (by decide +kernel)
theorem wi_X6_freshest : Cond.instanceMethod yX6_freshest ∈ wsL_law := kW 908 (by decide +kernel)
theorem ws_X6_freshest : Cond.selects RX6 yX6_freshest yX6_freshest ∈ wsL_law := kW 34 (by decide +kernel)
theorem wc_X6_freshest : Cond.code yX6_freshest cX6_freshest 4 (some .int) ∈ wsL_law := kW 909 (by decide +kernel)
theorem wm_L_91 : Cond.methodLink RL 91 yX5_cut ∈ wsL_law := kW 520 (by decide +kernel)
theorem wi_X5_cut : Cond.instanceMethod yX5_cut ∈ wsL_law := kW 521 (by decide +kernel)
theorem ws_X5_cut : Cond.selects RX5 yX5_cut yX5_cut ∈ wsL_law := kW 522 (by decide +kernel)
theorem wc_X5_cut : Cond.code yX5_cut cX5_cut 2 (some .int) ∈ wsL_law := kW 523 (by decide +kernel)
theorem wm_L_94 : Cond.methodLink RL 94 yX6_cut ∈ wsL_law := kW 910 (by decide +kernel)
theorem wi_X6_cut : Cond.instanceMethod yX6_cut ∈ wsL_law := kW 911 (by decide +kernel)
theorem ws_X6_cut : Cond.selects RX6 yX6_cut yX6_cut ∈ wsL_law := kW 912 (by decide +kernel)
theorem wc_X6_cut : Cond.code yX6_cut cX6_cut 2 (some .int) ∈ wsL_law := kW 913 (by decide +kernel)
theorem wm_L_95 : Cond.methodLink RL 95 yX5_freshAfter ∈ wsL_law := kW 524 (by decide +kernel)
theorem wi_X5_freshAfter : Cond.instanceMethod yX5_freshAfter ∈ wsL_law := kW 525 (by decide +kernel)
theorem ws_X5_freshAfter : Cond.selects RX5 yX5_freshAfter yX5_freshAfter ∈ wsL_law := kW 526 (by decide +kernel)
theorem wc_X5_freshAfter : Cond.code yX5_freshAfter cX5_freshAfter 5 (some .int) ∈ wsL_law := kW 527 (by decide +kernel)
theorem wf_X5_211 : Cond.fieldLink RX5 211 "FishCounter$Forecast" "fresh" "I" ∈ wsL_law := kW 185 (by decide +kernel)
theorem wm_X5_206 : Cond.methodLink RX5 206 yX1_start ∈ wsL_law := kW 528 (by decide +kernel)
theorem wi_X1_start : Cond.instanceMethod yX1_start ∈ wsL_law := kW 529 (by decide +kernel)
theorem ws_X1_start : Cond.selects RX1 yX1_start yX1_start ∈ wsL_law := kW 530 (by decide +kernel)
theorem wc_X1_start : Cond.code yX1_start cX1_start 3 none ∈ wsL_law := kW 531 (by decide +kernel)
theorem wf_X1_7 : Cond.fieldLink RX1 7 "FishCounter$Lot" "fresh" "I" ∈ wsL_law := kW 85 (by decide +kernel)
theorem wf_X1_13 : Cond.fieldLink RX1 13 "FishCounter$Forecast" "fresh" "I" ∈ wsL_law := kW 184 (by decide +kernel)
theorem wf_X1_22 : Cond.fieldLink RX1 22 "FishCounter$Forecast" "ice" "I" ∈ wsL_law := kW 186 (by decide +kernel)
theorem wf_X1_25 : Cond.fieldLink RX1 25 "FishCounter$Shop" "melting" "I" ∈ wsL_law := kW 114 (by decide +kernel)
theorem wf_X1_28 : Cond.fieldLink RX1 28 "FishCounter$Forecast" "melting" "I" ∈ wsL_law := kW 187 (by decide +kernel)
theorem wf_X1_33 : Cond.fieldLink RX1 33 "FishCounter$Forecast" "onTray" "Z" ∈ wsL_law := kW 188 (by decide +kernel)
theorem wm_X1_16 : Cond.methodLink RX1 16 yX4_iceAt ∈ wsL_law := kW 532 (by decide +kernel)
theorem wm_X1_29 : Cond.methodLink RX1 29 yX3_isOnTray ∈ wsL_law := kW 533 (by decide +kernel)
theorem wm_X5_210 : Cond.methodLink RX5 210 yX1_passHour ∈ wsL_law := kW 534 (by decide +kernel)
theorem wi_X1_passHour : Cond.instanceMethod yX1_passHour ∈ wsL_law := kW 535 (by decide +kernel)
theorem ws_X1_passHour : Cond.selects RX1 yX1_passHour yX1_passHour ∈ wsL_law := kW 536 (by decide +kernel)
theorem wc_X1_passHour : Cond.code yX1_passHour cX1_passHour 1 none ∈ wsL_law := kW 537 (by decide +kernel)
theorem wm_L_98 : Cond.methodLink RL 98 yX6_freshAfter ∈ wsL_law := kW 914 (by decide +kernel)
theorem wi_X6_freshAfter : Cond.instanceMethod yX6_freshAfter ∈ wsL_law := kW 915 (by decide +kernel)
theorem ws_X6_freshAfter : Cond.selects RX6 yX6_freshAfter yX6_freshAfter ∈ wsL_law := kW 916 (by decide +kernel)
theorem wc_X6_freshAfter : Cond.code yX6_freshAfter cX6_freshAfter 4 (some .int) ∈ wsL_law := kW 917 (by decide +kernel)
theorem wm_X6_162 : Cond.methodLink RX6 162 yX6_freshIn ∈ wsL_law := kW 918 (by decide +kernel)
theorem wi_X6_freshIn : Cond.instanceMethod yX6_freshIn ∈ wsL_law := kW 920 (by decide +kernel)
theorem ws_X6_freshIn : Cond.selects RX6 yX6_freshIn yX6_freshIn ∈ wsL_law := kW 35 (by decide +kernel)
theorem wc_X6_freshIn : Cond.code yX6_freshIn cX6_freshIn 7 (some .int) ∈ wsL_law := kW 921 (by decide +kernel)
theorem wm_L_99 : Cond.methodLink RL 99 yX5_hoursLeft ∈ wsL_law := kW 540 (by decide +kernel)
theorem wi_X5_hoursLeft : Cond.instanceMethod yX5_hoursLeft ∈ wsL_law := kW 541 (by decide +kernel)
theorem ws_X5_hoursLeft : Cond.selects RX5 yX5_hoursLeft yX5_hoursLeft ∈ wsL_law := kW 542 (by decide +kernel)
theorem wc_X5_hoursLeft : Cond.code yX5_hoursLeft cX5_hoursLeft 4 (some .int) ∈ wsL_law := kW 543 (by decide +kernel)
theorem wm_L_102 : Cond.methodLink RL 102 yX6_hoursLeft ∈ wsL_law := kW 922 (by decide +kernel)
theorem wi_X6_hoursLeft : Cond.instanceMethod yX6_hoursLeft ∈ wsL_law := kW 923 (by decide +kernel)
theorem ws_X6_hoursLeft : Cond.selects RX6 yX6_hoursLeft yX6_hoursLeft ∈ wsL_law := kW 924 (by decide +kernel)
theorem wc_X6_hoursLeft : Cond.code yX6_hoursLeft cX6_hoursLeft 3 (some .int) ∈ wsL_law := kW 925 (by decide +kernel)
theorem wm_X6_165 : Cond.methodLink RX6 165 yX6_leftOf ∈ wsL_law := kW 926 (by decide +kernel)
theorem wi_X6_leftOf : Cond.instanceMethod yX6_leftOf ∈ wsL_law := kW 928 (by decide +kernel)
theorem ws_X6_leftOf : Cond.selects RX6 yX6_leftOf yX6_leftOf ∈ wsL_law := kW 36 (by decide +kernel)
theorem wc_X6_leftOf : Cond.code yX6_leftOf cX6_leftOf 4 (some .int) ∈ wsL_law := kW 929 (by decide +kernel)
theorem wm_L_103 : Cond.methodLink RL 103 yX5_bestHour ∈ wsL_law := kW 544 (by decide +kernel)
theorem wi_X5_bestHour : Cond.instanceMethod yX5_bestHour ∈ wsL_law := kW 545 (by decide +kernel)
theorem ws_X5_bestHour : Cond.selects RX5 yX5_bestHour yX5_bestHour ∈ wsL_law := kW 546 (by decide +kernel)
theorem wc_X5_bestHour : Cond.code yX5_bestHour cX5_bestHour 7 (some .int) ∈ wsL_law := kW 547 (by decide +kernel)
theorem wm_X5_212 : Cond.methodLink RX5 212 yX4_priceAt ∈ wsL_law := kW 548 (by decide +kernel)
theorem wm_L_106 : Cond.methodLink RL 106 yX6_bestHour ∈ wsL_law := kW 930 (by decide +kernel)
theorem wi_X6_bestHour : Cond.instanceMethod yX6_bestHour ∈ wsL_law := kW 931 (by decide +kernel)
theorem ws_X6_bestHour : Cond.selects RX6 yX6_bestHour yX6_bestHour ∈ wsL_law := kW 932 (by decide +kernel)
theorem wc_X6_bestHour : Cond.code yX6_bestHour cX6_bestHour 3 (some .int) ∈ wsL_law := kW 933 (by decide +kernel)
theorem wm_X6_168 : Cond.methodLink RX6 168 yX6_bestOf ∈ wsL_law := kW 934 (by decide +kernel)
theorem wi_X6_bestOf : Cond.instanceMethod yX6_bestOf ∈ wsL_law := kW 936 (by decide +kernel)
theorem ws_X6_bestOf : Cond.selects RX6 yX6_bestOf yX6_bestOf ∈ wsL_law := kW 37 (by decide +kernel)
theorem wc_X6_bestOf : Cond.code yX6_bestOf cX6_bestOf 6 (some .int) ∈ wsL_law := kW 937 (by decide +kernel)
theorem wm_L_107 : Cond.methodLink RL 107 yX5_ifClosed ∈ wsL_law := kW 549 (by decide +kernel)
theorem wi_X5_ifClosed : Cond.instanceMethod yX5_ifClosed ∈ wsL_law := kW 550 (by decide +kernel)
theorem ws_X5_ifClosed : Cond.selects RX5 yX5_ifClosed yX5_ifClosed ∈ wsL_law := kW 551 (by decide +kernel)
theorem wc_X5_ifClosed : Cond.code yX5_ifClosed cX5_ifClosed 3 (some .int) ∈ wsL_law := kW 552 (by decide +kernel)
theorem wm_X5_216 : Cond.methodLink RX5 216 yX4_copyFrom ∈ wsL_law := kW 553 (by decide +kernel)
theorem wm_L_110 : Cond.methodLink RL 110 yX6_ifClosed ∈ wsL_law := kW 938 (by decide +kernel)
theorem wi_X6_ifClosed : Cond.instanceMethod yX6_ifClosed ∈ wsL_law := kW 939 (by decide +kernel)
theorem ws_X6_ifClosed : Cond.selects RX6 yX6_ifClosed yX6_ifClosed ∈ wsL_law := kW 940 (by decide +kernel)
theorem wc_X6_ifClosed : Cond.code yX6_ifClosed cX6_ifClosed 3 (some .int) ∈ wsL_law := kW 941 (by decide +kernel)
theorem wm_L_111 : Cond.methodLink RL 111 yX5_worth ∈ wsL_law := kW 554 (by decide +kernel)
theorem wi_X5_worth : Cond.instanceMethod yX5_worth ∈ wsL_law := kW 555 (by decide +kernel)
theorem ws_X5_worth : Cond.selects RX5 yX5_worth yX5_worth ∈ wsL_law := kW 556 (by decide +kernel)
theorem wc_X5_worth : Cond.code yX5_worth cX5_worth 5 (some .long) ∈ wsL_law := kW 557 (by decide +kernel)
theorem wf_X5_219 : Cond.fieldLink RX5 219 "FishCounter$Shop" "lots" "[LFishCounter$Lot;" ∈ wsL_law := kW 142 (by decide +kernel)
theorem wm_L_115 : Cond.methodLink RL 115 yX6_worth ∈ wsL_law := kW 942 (by decide +kernel)
theorem wi_X6_worth : Cond.instanceMethod yX6_worth ∈ wsL_law := kW 943 (by decide +kernel)
theorem ws_X6_worth : Cond.selects RX6 yX6_worth yX6_worth ∈ wsL_law := kW 944 (by decide +kernel)
theorem wc_X6_worth : Cond.code yX6_worth cX6_worth 1 (some .long) ∈ wsL_law := kW 945 (by decide +kernel)
theorem wm_X6_171 : Cond.methodLink RX6 171 yX6_allWorth ∈ wsL_law := kW 946 (by decide +kernel)
theorem wi_X6_allWorth : Cond.instanceMethod yX6_allWorth ∈ wsL_law := kW 948 (by decide +kernel)
theorem ws_X6_allWorth : Cond.selects RX6 yX6_allWorth yX6_allWorth ∈ wsL_law := kW 38 (by decide +kernel)
theorem wc_X6_allWorth : Cond.code yX6_allWorth cX6_allWorth 4 (some .long) ∈ wsL_law := kW 949 (by decide +kernel)
theorem wm_L_116 : Cond.methodLink RL 116 yX5_type ∈ wsL_law := kW 558 (by decide +kernel)
theorem wi_X5_type : Cond.instanceMethod yX5_type ∈ wsL_law := kW 559 (by decide +kernel)
theorem ws_X5_type : Cond.selects RX5 yX5_type yX5_type ∈ wsL_law := kW 560 (by decide +kernel)
theorem wc_X5_type : Cond.code yX5_type cX5_type 2 (some .int) ∈ wsL_law := kW 561 (by decide +kernel)
theorem wf_X5_223 : Cond.fieldLink RX5 223 "FishCounter$DeliveryText" "length" "I" ∈ wsL_law := kW 225 (by decide +kernel)
theorem wm_X5_226 : Cond.methodLink RX5 226 yX0_append ∈ wsL_law := kW 562 (by decide +kernel)
theorem wi_X0_append : Cond.instanceMethod yX0_append ∈ wsL_law := kW 563 (by decide +kernel)
theorem ws_X0_append : Cond.selects RX0 yX0_append yX0_append ∈ wsL_law := kW 564 (by decide +kernel)
theorem wc_X0_append : Cond.code yX0_append cX0_append 2 none ∈ wsL_law := kW 565 (by decide +kernel)
theorem wf_X0_15 : Cond.fieldLink RX0 15 "FishCounter$DeliveryText" "length" "I" ∈ wsL_law := kW 224 (by decide +kernel)
theorem wm_L_119 : Cond.methodLink RL 119 yX6_type ∈ wsL_law := kW 950 (by decide +kernel)
theorem wi_X6_type : Cond.instanceMethod yX6_type ∈ wsL_law := kW 951 (by decide +kernel)
theorem ws_X6_type : Cond.selects RX6 yX6_type yX6_type ∈ wsL_law := kW 952 (by decide +kernel)
theorem wc_X6_type : Cond.code yX6_type cX6_type 2 (some .int) ∈ wsL_law := kW 953 (by decide +kernel)
theorem wf_X6_175 : Cond.fieldLink RX6 175 "FishCounterModel" "textLength" "I" ∈ wsL_law := kW 651 (by decide +kernel)
theorem wm_L_120 : Cond.methodLink RL 120 yX5_clearText ∈ wsL_law := kW 566 (by decide +kernel)
theorem wi_X5_clearText : Cond.instanceMethod yX5_clearText ∈ wsL_law := kW 567 (by decide +kernel)
theorem ws_X5_clearText : Cond.selects RX5 yX5_clearText yX5_clearText ∈ wsL_law := kW 568 (by decide +kernel)
theorem wc_X5_clearText : Cond.code yX5_clearText cX5_clearText 2 (some .int) ∈ wsL_law := kW 569 (by decide +kernel)
theorem wm_L_123 : Cond.methodLink RL 123 yX6_clearText ∈ wsL_law := kW 954 (by decide +kernel)
theorem wi_X6_clearText : Cond.instanceMethod yX6_clearText ∈ wsL_law := kW 955 (by decide +kernel)
theorem ws_X6_clearText : Cond.selects RX6 yX6_clearText yX6_clearText ∈ wsL_law := kW 956 (by decide +kernel)
theorem wc_X6_clearText : Cond.code yX6_clearText cX6_clearText 2 (some .int) ∈ wsL_law := kW 957 (by decide +kernel)
theorem wm_L_124 : Cond.methodLink RL 124 yX5_syntaxError ∈ wsL_law := kW 570 (by decide +kernel)
theorem wi_X5_syntaxError : Cond.instanceMethod yX5_syntaxError ∈ wsL_law := kW 571 (by decide +kernel)
theorem ws_X5_syntaxError : Cond.selects RX5 yX5_syntaxError yX5_syntaxError ∈ wsL_law := kW 572 (by decide +kernel)
theorem wc_X5_syntaxError : Cond.code yX5_syntaxError cX5_syntaxError 1 (some .int) ∈ wsL_law := kW 573 (by decide +kernel)
theorem wm_X5_230 : Cond.methodLink RX5 230 yX0_firstError ∈ wsL_law := kW 574 (by decide +kernel)
theorem wi_X0_firstError : Cond.instanceMethod yX0_firstError ∈ wsL_law := kW 575 (by decide +kernel)
theorem ws_X0_firstError : Cond.selects RX0 yX0_firstError yX0_firstError ∈ wsL_law := kW 576 (by decide +kernel)
theorem wc_X0_firstError : Cond.code yX0_firstError cX0_firstError 2 (some .int) ∈ wsL_law := kW 577 (by decide +kernel)
theorem wf_X0_26 : Cond.fieldLink RX0 26 "FishCounter$DeliveryText" "position" "I" ∈ wsL_law := kW 234 (by decide +kernel)
theorem wm_X0_19 : Cond.methodLink RX0 19 yX0_startReading ∈ wsL_law := kW 578 (by decide +kernel)
theorem wi_X0_startReading : Cond.instanceMethod yX0_startReading ∈ wsL_law := kW 579 (by decide +kernel)
theorem ws_X0_startReading : Cond.selects RX0 yX0_startReading yX0_startReading ∈ wsL_law := kW 580 (by decide +kernel)
theorem wc_X0_startReading : Cond.code yX0_startReading cX0_startReading 1 none ∈ wsL_law := kW 581 (by decide +kernel)
theorem wm_X0_22 : Cond.methodLink RX0 22 yX0_readItem ∈ wsL_law := kW 582 (by decide +kernel)
theorem wi_X0_readItem : Cond.instanceMethod yX0_readItem ∈ wsL_law := kW 583 (by decide +kernel)
theorem ws_X0_readItem : Cond.selects RX0 yX0_readItem yX0_readItem ∈ wsL_law := kW 584 (by decide +kernel)
theorem wc_X0_readItem : Cond.code yX0_readItem cX0_readItem 1 (some .boolean) ∈ wsL_law := kW 585 (by decide +kernel)
theorem wf_X0_37 : Cond.fieldLink RX0 37 "FishCounter$DeliveryText" "kind" "I" ∈ wsL_law := kW 226 (by decide +kernel)
theorem wf_X0_40 : Cond.fieldLink RX0 40 "FishCounter$DeliveryText" "grams" "I" ∈ wsL_law := kW 228 (by decide +kernel)
theorem wf_X0_43 : Cond.fieldLink RX0 43 "FishCounter$DeliveryText" "fresh" "I" ∈ wsL_law := kW 230 (by decide +kernel)
theorem wf_X0_46 : Cond.fieldLink RX0 46 "FishCounter$DeliveryText" "box" "I" ∈ wsL_law := kW 232 (by decide +kernel)
theorem wm_X0_33 : Cond.methodLink RX0 33 yX0_readNumber ∈ wsL_law := kW 586 (by decide +kernel)
theorem wi_X0_readNumber : Cond.instanceMethod yX0_readNumber ∈ wsL_law := kW 588 (by decide +kernel)
theorem ws_X0_readNumber : Cond.selects RX0 yX0_readNumber yX0_readNumber ∈ wsL_law := kW 0 (by decide +kernel)
theorem wc_X0_readNumber : Cond.code yX0_readNumber cX0_readNumber 5 (some .int) ∈ wsL_law := kW 589 (by decide +kernel)
theorem wm_X0_49 : Cond.methodLink RX0 49 yX0_digitHere ∈ wsL_law := kW 590 (by decide +kernel)
theorem wi_X0_digitHere : Cond.instanceMethod yX0_digitHere ∈ wsL_law := kW 592 (by decide +kernel)
theorem ws_X0_digitHere : Cond.selects RX0 yX0_digitHere yX0_digitHere ∈ wsL_law := kW 1 (by decide +kernel)
theorem wc_X0_digitHere : Cond.code yX0_digitHere cX0_digitHere 2 (some .int) ∈ wsL_law := kW 593 (by decide +kernel)
theorem wm_X0_29 : Cond.methodLink RX0 29 yX0_skipSign ∈ wsL_law := kW 595 (by decide +kernel)
theorem wi_X0_skipSign : Cond.instanceMethod yX0_skipSign ∈ wsL_law := kW 596 (by decide +kernel)
theorem ws_X0_skipSign : Cond.selects RX0 yX0_skipSign yX0_skipSign ∈ wsL_law := kW 597 (by decide +kernel)
theorem wc_X0_skipSign : Cond.code yX0_skipSign cX0_skipSign 2 (some .boolean) ∈ wsL_law := kW 598 (by decide +kernel)
theorem wm_L_127 : Cond.methodLink RL 127 yX6_syntaxError ∈ wsL_law := kW 958 (by decide +kernel)
theorem wi_X6_syntaxError : Cond.instanceMethod yX6_syntaxError ∈ wsL_law := kW 959 (by decide +kernel)
theorem ws_X6_syntaxError : Cond.selects RX6 yX6_syntaxError yX6_syntaxError ∈ wsL_law := kW 960 (by decide +kernel)
theorem wc_X6_syntaxError : Cond.code yX6_syntaxError cX6_syntaxError 1 (some .int) ∈ wsL_law := kW 961 (by decide +kernel)
theorem wm_X6_213 : Cond.methodLink RX6 213 yX6_findError ∈ wsL_law := kW 962 (by decide +kernel)
theorem wi_X6_findError : Cond.instanceMethod yX6_findError ∈ wsL_law := kW 964 (by decide +kernel)
theorem ws_X6_findError : Cond.selects RX6 yX6_findError yX6_findError ∈ wsL_law := kW 39 (by decide +kernel)
theorem wc_X6_findError : Cond.code yX6_findError cX6_findError 1 (some .int) ∈ wsL_law := kW 965 (by decide +kernel)
theorem wf_X6_178 : Cond.fieldLink RX6 178 "FishCounterModel" "at" "I" ∈ wsL_law := kW 652 (by decide +kernel)
theorem wm_X6_209 : Cond.methodLink RX6 209 yX6_readsItem ∈ wsL_law := kW 966 (by decide +kernel)
theorem wi_X6_readsItem : Cond.instanceMethod yX6_readsItem ∈ wsL_law := kW 968 (by decide +kernel)
theorem ws_X6_readsItem : Cond.selects RX6 yX6_readsItem yX6_readsItem ∈ wsL_law := kW 40 (by decide +kernel)
theorem wc_X6_readsItem : Cond.code yX6_readsItem cX6_readsItem 2 (some .boolean) ∈ wsL_law := kW 969 (by decide +kernel)
theorem wf_X6_184 : Cond.fieldLink RX6 184 "FishCounterModel" "number" "I" ∈ wsL_law := kW 653 (by decide +kernel)
theorem wf_X6_191 : Cond.fieldLink RX6 191 "FishCounterModel" "kindRead" "I" ∈ wsL_law := kW 654 (by decide +kernel)
theorem wf_X6_200 : Cond.fieldLink RX6 200 "FishCounterModel" "gramsRead" "I" ∈ wsL_law := kW 655 (by decide +kernel)
theorem wf_X6_203 : Cond.fieldLink RX6 203 "FishCounterModel" "freshRead" "I" ∈ wsL_law := kW 656 (by decide +kernel)
theorem wf_X6_206 : Cond.fieldLink RX6 206 "FishCounterModel" "boxRead" "I" ∈ wsL_law := kW 657 (by decide +kernel)
theorem wm_X6_187 : Cond.methodLink RX6 187 yX6_readsDigit ∈ wsL_law := kW 970 (by decide +kernel)
theorem wi_X6_readsDigit : Cond.instanceMethod yX6_readsDigit ∈ wsL_law := kW 972 (by decide +kernel)
theorem ws_X6_readsDigit : Cond.selects RX6 yX6_readsDigit yX6_readsDigit ∈ wsL_law := kW 41 (by decide +kernel)
theorem wc_X6_readsDigit : Cond.code yX6_readsDigit cX6_readsDigit 4 (some .boolean) ∈ wsL_law := kW 973 (by decide +kernel)
theorem wm_X6_181 : Cond.methodLink RX6 181 yX6_character ∈ wsL_law := kW 974 (by decide +kernel)
theorem wi_X6_character : Cond.instanceMethod yX6_character ∈ wsL_law := kW 976 (by decide +kernel)
theorem ws_X6_character : Cond.selects RX6 yX6_character yX6_character ∈ wsL_law := kW 42 (by decide +kernel)
theorem wc_X6_character : Cond.code yX6_character cX6_character 2 (some .int) ∈ wsL_law := kW 977 (by decide +kernel)
theorem wm_X6_194 : Cond.methodLink RX6 194 yX6_isNext ∈ wsL_law := kW 978 (by decide +kernel)
theorem wi_X6_isNext : Cond.instanceMethod yX6_isNext ∈ wsL_law := kW 980 (by decide +kernel)
theorem ws_X6_isNext : Cond.selects RX6 yX6_isNext yX6_isNext ∈ wsL_law := kW 43 (by decide +kernel)
theorem wc_X6_isNext : Cond.code yX6_isNext cX6_isNext 3 (some .boolean) ∈ wsL_law := kW 981 (by decide +kernel)
theorem wm_X6_197 : Cond.methodLink RX6 197 yX6_readsNumber ∈ wsL_law := kW 982 (by decide +kernel)
theorem wi_X6_readsNumber : Cond.instanceMethod yX6_readsNumber ∈ wsL_law := kW 984 (by decide +kernel)
theorem ws_X6_readsNumber : Cond.selects RX6 yX6_readsNumber yX6_readsNumber ∈ wsL_law := kW 44 (by decide +kernel)
theorem wc_X6_readsNumber : Cond.code yX6_readsNumber cX6_readsNumber 5 (some .boolean) ∈ wsL_law := kW 985 (by decide +kernel)
theorem wm_L_128 : Cond.methodLink RL 128 yX5_deliverAll ∈ wsL_law := kW 599 (by decide +kernel)
theorem wi_X5_deliverAll : Cond.instanceMethod yX5_deliverAll ∈ wsL_law := kW 600 (by decide +kernel)
theorem ws_X5_deliverAll : Cond.selects RX5 yX5_deliverAll yX5_deliverAll ∈ wsL_law := kW 601 (by decide +kernel)
theorem wc_X5_deliverAll : Cond.code yX5_deliverAll cX5_deliverAll 2 (some .int) ∈ wsL_law := kW 602 (by decide +kernel)
theorem wf_X5_240 : Cond.fieldLink RX5 240 "FishCounter$DeliveryText" "box" "I" ∈ wsL_law := kW 233 (by decide +kernel)
theorem wf_X5_241 : Cond.fieldLink RX5 241 "FishCounter$DeliveryText" "kind" "I" ∈ wsL_law := kW 227 (by decide +kernel)
theorem wf_X5_242 : Cond.fieldLink RX5 242 "FishCounter$DeliveryText" "grams" "I" ∈ wsL_law := kW 229 (by decide +kernel)
theorem wf_X5_243 : Cond.fieldLink RX5 243 "FishCounter$DeliveryText" "fresh" "I" ∈ wsL_law := kW 231 (by decide +kernel)
theorem wm_X5_233 : Cond.methodLink RX5 233 yX0_startReading ∈ wsL_law := kW 603 (by decide +kernel)
theorem wm_X5_236 : Cond.methodLink RX5 236 yX0_readItem ∈ wsL_law := kW 604 (by decide +kernel)
theorem wm_X5_244 : Cond.methodLink RX5 244 yX0_skipSign ∈ wsL_law := kW 605 (by decide +kernel)
theorem wm_L_131 : Cond.methodLink RL 131 yX6_deliverAll ∈ wsL_law := kW 986 (by decide +kernel)
theorem wi_X6_deliverAll : Cond.instanceMethod yX6_deliverAll ∈ wsL_law := kW 987 (by decide +kernel)
theorem ws_X6_deliverAll : Cond.selects RX6 yX6_deliverAll yX6_deliverAll ∈ wsL_law := kW 988 (by decide +kernel)
theorem wc_X6_deliverAll : Cond.code yX6_deliverAll cX6_deliverAll 3 (some .int) ∈ wsL_law := kW 989 (by decide +kernel)
theorem wm_L_132 : Cond.methodLink RL 132 yX5_undo ∈ wsL_law := kW 606 (by decide +kernel)
theorem wi_X5_undo : Cond.instanceMethod yX5_undo ∈ wsL_law := kW 607 (by decide +kernel)
theorem ws_X5_undo : Cond.selects RX5 yX5_undo yX5_undo ∈ wsL_law := kW 608 (by decide +kernel)
theorem wc_X5_undo : Cond.code yX5_undo cX5_undo 1 (some .int) ∈ wsL_law := kW 609 (by decide +kernel)
theorem wf_X5_248 : Cond.fieldLink RX5 248 "FishCounter$History" "count" "I" ∈ wsL_law := kW 208 (by decide +kernel)
theorem wm_X5_251 : Cond.methodLink RX5 251 yX2_restore ∈ wsL_law := kW 610 (by decide +kernel)
theorem wi_X2_restore : Cond.instanceMethod yX2_restore ∈ wsL_law := kW 611 (by decide +kernel)
theorem ws_X2_restore : Cond.selects RX2 yX2_restore yX2_restore ∈ wsL_law := kW 612 (by decide +kernel)
theorem wc_X2_restore : Cond.code yX2_restore cX2_restore 2 none ∈ wsL_law := kW 613 (by decide +kernel)
theorem wm_L_135 : Cond.methodLink RL 135 yX6_undo ∈ wsL_law := kW 990 (by decide +kernel)
theorem wi_X6_undo : Cond.instanceMethod yX6_undo ∈ wsL_law := kW 991 (by decide +kernel)
theorem ws_X6_undo : Cond.selects RX6 yX6_undo yX6_undo ∈ wsL_law := kW 992 (by decide +kernel)
theorem wc_X6_undo : Cond.code yX6_undo cX6_undo 1 (some .int) ∈ wsL_law := kW 993 (by decide +kernel)
theorem wm_L_136 : Cond.methodLink RL 136 yX5_digest ∈ wsL_law := kW 614 (by decide +kernel)
theorem wi_X5_digest : Cond.instanceMethod yX5_digest ∈ wsL_law := kW 615 (by decide +kernel)
theorem ws_X5_digest : Cond.selects RX5 yX5_digest yX5_digest ∈ wsL_law := kW 616 (by decide +kernel)
theorem wc_X5_digest : Cond.code yX5_digest cX5_digest 5 (some .long) ∈ wsL_law := kW 617 (by decide +kernel)
theorem wq_X5_254 : Cond.constantLong RX5 254 (186) ∈ wsL_law := kW 618 (by decide +kernel)
theorem wf_X5_263 : Cond.fieldLink RX5 263 "FishCounter$Lot" "number" "I" ∈ wsL_law := kW 78 (by decide +kernel)
theorem wm_X5_256 : Cond.methodLink RX5 256 yX5_count ∈ wsL_law := kW 619 (by decide +kernel)
theorem wm_X5_259 : Cond.methodLink RX5 259 yX5_mixed ∈ wsL_law := kW 620 (by decide +kernel)
theorem wt_X5_mixed : Cond.static yX5_mixed ∈ wsL_law := kW 621 (by decide +kernel)
theorem wc_X5_mixed : Cond.code yX5_mixed cX5_mixed 4 (some .long) ∈ wsL_law := kW 622 (by decide +kernel)
theorem wq_X5_296 : Cond.constantLong RX5 296 (31) ∈ wsL_law := kW 623 (by decide +kernel)
theorem wm_X5_266 : Cond.methodLink RX5 266 yX5_mixedWithLot ∈ wsL_law := kW 624 (by decide +kernel)
theorem wi_X5_mixedWithLot : Cond.instanceMethod yX5_mixedWithLot ∈ wsL_law := kW 626 (by decide +kernel)
theorem ws_X5_mixedWithLot : Cond.selects RX5 yX5_mixedWithLot yX5_mixedWithLot ∈ wsL_law := kW 2 (by decide +kernel)
theorem wc_X5_mixedWithLot : Cond.code yX5_mixedWithLot cX5_mixedWithLot 7 (some .long) ∈ wsL_law := kW 627 (by decide +kernel)
theorem wm_X5_283 : Cond.methodLink RX5 283 yX5_lot ∈ wsL_law := kW 628 (by decide +kernel)
theorem wm_X5_286 : Cond.methodLink RX5 286 yX5_hoursLeft ∈ wsL_law := kW 629 (by decide +kernel)
theorem wm_X5_289 : Cond.methodLink RX5 289 yX5_bestHour ∈ wsL_law := kW 630 (by decide +kernel)
theorem wm_X5_270 : Cond.methodLink RX5 270 yX5_mixedWithPlaces ∈ wsL_law := kW 631 (by decide +kernel)
theorem wi_X5_mixedWithPlaces : Cond.instanceMethod yX5_mixedWithPlaces ∈ wsL_law := kW 633 (by decide +kernel)
theorem ws_X5_mixedWithPlaces : Cond.selects RX5 yX5_mixedWithPlaces yX5_mixedWithPlaces ∈ wsL_law := kW 3 (by decide +kernel)
theorem wc_X5_mixedWithPlaces : Cond.code yX5_mixedWithPlaces cX5_mixedWithPlaces 7 (some .long) ∈ wsL_law := kW 634 (by decide +kernel)
theorem wm_X5_292 : Cond.methodLink RX5 292 yX5_box ∈ wsL_law := kW 635 (by decide +kernel)
theorem wm_X5_294 : Cond.methodLink RX5 294 yX5_tray ∈ wsL_law := kW 636 (by decide +kernel)
theorem wm_X5_274 : Cond.methodLink RX5 274 yX5_kind ∈ wsL_law := kW 637 (by decide +kernel)
theorem wm_X5_276 : Cond.methodLink RX5 276 yX5_cut ∈ wsL_law := kW 638 (by decide +kernel)
theorem wm_X5_279 : Cond.methodLink RX5 279 yX5_worth ∈ wsL_law := kW 639 (by decide +kernel)
theorem wm_L_139 : Cond.methodLink RL 139 yX6_digest ∈ wsL_law := kW 994 (by decide +kernel)
theorem wi_X6_digest : Cond.instanceMethod yX6_digest ∈ wsL_law := kW 995 (by decide +kernel)
theorem ws_X6_digest : Cond.selects RX6 yX6_digest yX6_digest ∈ wsL_law := kW 996 (by decide +kernel)
theorem wc_X6_digest : Cond.code yX6_digest cX6_digest 5 (some .long) ∈ wsL_law := kW 997 (by decide +kernel)
theorem wq_X6_216 : Cond.constantLong RX6 216 (186) ∈ wsL_law := kW 998 (by decide +kernel)
theorem wq_X6_218 : Cond.constantLong RX6 218 (31) ∈ wsL_law := kW 999 (by decide +kernel)
theorem ilX0 : ∀ w ∈ wsX00, w ∈ wsL_law := kWs [236, 238, 240, 242, 244, 246, 248] (by decide +kernel) (by decide +kernel)
theorem ilX1 : ∀ w ∈ wsX10, w ∈ wsL_law := kWs [189, 191, 193, 195] (by decide +kernel) (by decide +kernel)
theorem ilX2 : ∀ w ∈ wsX20, w ∈ wsL_law := kWs [211, 213, 215] (by decide +kernel) (by decide +kernel)
theorem ilX3 : ∀ w ∈ wsX30, w ∈ wsL_law := kWs [95, 97, 99, 101, 103, 105] (by decide +kernel) (by decide +kernel)
theorem ilX4 : ∀ w ∈ wsX40, w ∈ wsL_law := kWs [143, 145, 147, 149, 151, 153, 155, 157, 159, 161, 163, 165, 167, 169, 171, 173, 175] (by decide +kernel) (by decide +kernel)
theorem ilX5 : ∀ w ∈ wsX50, w ∈ wsL_law := kWs [257, 259, 261, 263, 265] (by decide +kernel) (by decide +kernel)
theorem ilX6 : ∀ w ∈ wsX60, w ∈ wsL_law := kWs [658, 660, 662, 664, 666, 668, 670, 672, 674, 676, 678, 680] (by decide +kernel) (by decide +kernel)
theorem my_X5_init : kMy yX5_init cX5_init 1 none 0 := ⟨wn_X5, wc_X5_init, by decide +kernel, by decide +kernel, by decide +kernel⟩
theorem my_X4_init : kMy yX4_init cX4_init 2 none 0 := ⟨wn_X4, wc_X4_init, by decide +kernel, by decide +kernel, by decide +kernel⟩
theorem my_X3_init : kMy yX3_init cX3_init 1 none 0 := ⟨wn_X3, wc_X3_init, by decide +kernel, by decide +kernel, by decide +kernel⟩
theorem my_X1_init : kMy yX1_init cX1_init 1 none 0 := ⟨wn_X1, wc_X1_init, by decide +kernel, by decide +kernel, by decide +kernel⟩
theorem my_X2_init : kMy yX2_init cX2_init 2 none 0 := ⟨wn_X2, wc_X2_init, by decide +kernel, by decide +kernel, by decide +kernel⟩
theorem my_X0_init : kMy yX0_init cX0_init 1 none 0 := ⟨wn_X0, wc_X0_init, by decide +kernel, by decide +kernel, by decide +kernel⟩
theorem my_X6_init : kMy yX6_init cX6_init 2 none 0 := ⟨wn_X6, wc_X6_init, by decide +kernel, by decide +kernel, by decide +kernel⟩
theorem my_X5_setPrice : kMy yX5_setPrice cX5_setPrice 5 (some .int) 3 := ⟨wn_X5, wc_X5_setPrice, by decide +kernel, by decide +kernel, by decide +kernel⟩
theorem mv_X5_setPrice : Cond.instanceMethod yX5_setPrice ∈ wsL_law ∧ Cond.selects yX5_setPrice.cls yX5_setPrice yX5_setPrice ∈ wsL_law := ⟨wi_X5_setPrice, ws_X5_setPrice⟩
theorem my_X5_isKind : kMy yX5_isKind cX5_isKind 1 (some .boolean) 1 := ⟨wn_X5, wc_X5_isKind, by decide +kernel, by decide +kernel, by decide +kernel⟩
theorem my_X5_within : kMy yX5_within cX5_within 3 (some .boolean) 3 := ⟨wn_X5, wc_X5_within, by decide +kernel, by decide +kernel, by decide +kernel⟩
theorem my_X2_save : kMy yX2_save cX2_save 2 none 1 := ⟨wn_X2, wc_X2_save, by decide +kernel, by decide +kernel, by decide +kernel⟩
theorem mv_X2_save : Cond.instanceMethod yX2_save ∈ wsL_law ∧ Cond.selects yX2_save.cls yX2_save yX2_save ∈ wsL_law := ⟨wi_X2_save, ws_X2_save⟩
theorem my_X4_copyFrom : kMy yX4_copyFrom cX4_copyFrom 3 none 1 := ⟨wn_X4, wc_X4_copyFrom, by decide +kernel, by decide +kernel, by decide +kernel⟩
theorem mv_X4_copyFrom : Cond.instanceMethod yX4_copyFrom ∈ wsL_law ∧ Cond.selects yX4_copyFrom.cls yX4_copyFrom yX4_copyFrom ∈ wsL_law := ⟨wi_X4_copyFrom, ws_X4_copyFrom⟩
theorem my_X3_copyFrom : kMy yX3_copyFrom cX3_copyFrom 2 none 1 := ⟨wn_X3, wc_X3_copyFrom, by decide +kernel, by decide +kernel, by decide +kernel⟩
theorem mv_X3_copyFrom : Cond.instanceMethod yX3_copyFrom ∈ wsL_law ∧ Cond.selects yX3_copyFrom.cls yX3_copyFrom yX3_copyFrom ∈ wsL_law := ⟨wi_X3_copyFrom, ws_X3_copyFrom⟩
theorem my_X6_setPrice : kMy yX6_setPrice cX6_setPrice 5 (some .int) 3 := ⟨wn_X6, wc_X6_setPrice, by decide +kernel, by decide +kernel, by decide +kernel⟩
theorem mv_X6_setPrice : Cond.instanceMethod yX6_setPrice ∈ wsL_law ∧ Cond.selects yX6_setPrice.cls yX6_setPrice yX6_setPrice ∈ wsL_law := ⟨wi_X6_setPrice, ws_X6_setPrice⟩
theorem my_X6_isKind : kMy yX6_isKind cX6_isKind 1 (some .boolean) 1 := ⟨wn_X6, wc_X6_isKind, by decide +kernel, by decide +kernel, by decide +kernel⟩
theorem my_X6_within : kMy yX6_within cX6_within 3 (some .boolean) 3 := ⟨wn_X6, wc_X6_within, by decide +kernel, by decide +kernel, by decide +kernel⟩
theorem my_X6_record : kMy yX6_record cX6_record 2 none 0 := ⟨wn_X6, wc_X6_record, by decide +kernel, by decide +kernel, by decide +kernel⟩
theorem mv_X6_record : Cond.instanceMethod yX6_record ∈ wsL_law ∧ Cond.selects yX6_record.cls yX6_record yX6_record ∈ wsL_law := ⟨wi_X6_record, ws_X6_record⟩
theorem my_X6_copies : kMy yX6_copies cX6_copies 5 none 4 := ⟨wn_X6, wc_X6_copies, by decide +kernel, by decide +kernel, by decide +kernel⟩
theorem my_X5_setCut : kMy yX5_setCut cX5_setCut 4 (some .int) 2 := ⟨wn_X5, wc_X5_setCut, by decide +kernel, by decide +kernel, by decide +kernel⟩
theorem mv_X5_setCut : Cond.instanceMethod yX5_setCut ∈ wsL_law ∧ Cond.selects yX5_setCut.cls yX5_setCut yX5_setCut ∈ wsL_law := ⟨wi_X5_setCut, ws_X5_setCut⟩
theorem my_X5_isHour : kMy yX5_isHour cX5_isHour 1 (some .boolean) 1 := ⟨wn_X5, wc_X5_isHour, by decide +kernel, by decide +kernel, by decide +kernel⟩
theorem my_X6_setCut : kMy yX6_setCut cX6_setCut 4 (some .int) 2 := ⟨wn_X6, wc_X6_setCut, by decide +kernel, by decide +kernel, by decide +kernel⟩
theorem mv_X6_setCut : Cond.instanceMethod yX6_setCut ∈ wsL_law ∧ Cond.selects yX6_setCut.cls yX6_setCut yX6_setCut ∈ wsL_law := ⟨wi_X6_setCut, ws_X6_setCut⟩
theorem my_X6_isHour : kMy yX6_isHour cX6_isHour 1 (some .boolean) 1 := ⟨wn_X6, wc_X6_isHour, by decide +kernel, by decide +kernel, by decide +kernel⟩
theorem my_X5_setMelting : kMy yX5_setMelting cX5_setMelting 4 (some .int) 2 := ⟨wn_X5, wc_X5_setMelting, by decide +kernel, by decide +kernel, by decide +kernel⟩
theorem mv_X5_setMelting : Cond.instanceMethod yX5_setMelting ∈ wsL_law ∧ Cond.selects yX5_setMelting.cls yX5_setMelting yX5_setMelting ∈ wsL_law := ⟨wi_X5_setMelting, ws_X5_setMelting⟩
theorem my_X6_setMelting : kMy yX6_setMelting cX6_setMelting 4 (some .int) 2 := ⟨wn_X6, wc_X6_setMelting, by decide +kernel, by decide +kernel, by decide +kernel⟩
theorem mv_X6_setMelting : Cond.instanceMethod yX6_setMelting ∈ wsL_law ∧ Cond.selects yX6_setMelting.cls yX6_setMelting yX6_setMelting ∈ wsL_law := ⟨wi_X6_setMelting, ws_X6_setMelting⟩
theorem my_X5_deliver : kMy yX5_deliver cX5_deliver 6 (some .int) 4 := ⟨wn_X5, wc_X5_deliver, by decide +kernel, by decide +kernel, by decide +kernel⟩
theorem mv_X5_deliver : Cond.instanceMethod yX5_deliver ∈ wsL_law ∧ Cond.selects yX5_deliver.cls yX5_deliver yX5_deliver ∈ wsL_law := ⟨wi_X5_deliver, ws_X5_deliver⟩
theorem my_X5_isBox : kMy yX5_isBox cX5_isBox 1 (some .boolean) 1 := ⟨wn_X5, wc_X5_isBox, by decide +kernel, by decide +kernel, by decide +kernel⟩
theorem my_X4_refusalOfNewLot : kMy yX4_refusalOfNewLot cX4_refusalOfNewLot 2 (some .int) 1 := ⟨wn_X4, wc_X4_refusalOfNewLot, by decide +kernel, by decide +kernel, by decide +kernel⟩
theorem mv_X4_refusalOfNewLot : Cond.instanceMethod yX4_refusalOfNewLot ∈ wsL_law ∧ Cond.selects yX4_refusalOfNewLot.cls yX4_refusalOfNewLot yX4_refusalOfNewLot ∈ wsL_law := ⟨wi_X4_refusalOfNewLot, ws_X4_refusalOfNewLot⟩
theorem my_X4_isBoxFull : kMy yX4_isBoxFull cX4_isBoxFull 2 (some .boolean) 1 := ⟨wn_X4, wc_X4_isBoxFull, by decide +kernel, by decide +kernel, by decide +kernel⟩
theorem mv_X4_isBoxFull : Cond.instanceMethod yX4_isBoxFull ∈ wsL_law ∧ Cond.selects yX4_isBoxFull.cls yX4_isBoxFull yX4_isBoxFull ∈ wsL_law := ⟨wi_X4_isBoxFull, ws_X4_isBoxFull⟩
theorem my_X4_lotsInBox : kMy yX4_lotsInBox cX4_lotsInBox 4 (some .int) 1 := ⟨wn_X4, wc_X4_lotsInBox, by decide +kernel, by decide +kernel, by decide +kernel⟩
theorem mv_X4_lotsInBox : Cond.instanceMethod yX4_lotsInBox ∈ wsL_law ∧ Cond.selects yX4_lotsInBox.cls yX4_lotsInBox yX4_lotsInBox ∈ wsL_law := ⟨wi_X4_lotsInBox, ws_X4_lotsInBox⟩
theorem my_X4_buyLot : kMy yX4_buyLot cX4_buyLot 5 (some .int) 4 := ⟨wn_X4, wc_X4_buyLot, by decide +kernel, by decide +kernel, by decide +kernel⟩
theorem mv_X4_buyLot : Cond.instanceMethod yX4_buyLot ∈ wsL_law ∧ Cond.selects yX4_buyLot.cls yX4_buyLot yX4_buyLot ∈ wsL_law := ⟨wi_X4_buyLot, ws_X4_buyLot⟩
theorem my_X5_moneyFor : kMy yX5_moneyFor cX5_moneyFor 2 (some .int) 2 := ⟨wn_X5, wc_X5_moneyFor, by decide +kernel, by decide +kernel, by decide +kernel⟩
theorem my_X4_addLot : kMy yX4_addLot cX4_addLot 6 (some .int) 4 := ⟨wn_X4, wc_X4_addLot, by decide +kernel, by decide +kernel, by decide +kernel⟩
theorem mv_X4_addLot : Cond.instanceMethod yX4_addLot ∈ wsL_law ∧ Cond.selects yX4_addLot.cls yX4_addLot yX4_addLot ∈ wsL_law := ⟨wi_X4_addLot, ws_X4_addLot⟩
theorem my_X3_putInBox : kMy yX3_putInBox cX3_putInBox 2 none 1 := ⟨wn_X3, wc_X3_putInBox, by decide +kernel, by decide +kernel, by decide +kernel⟩
theorem mv_X3_putInBox : Cond.instanceMethod yX3_putInBox ∈ wsL_law ∧ Cond.selects yX3_putInBox.cls yX3_putInBox yX3_putInBox ∈ wsL_law := ⟨wi_X3_putInBox, ws_X3_putInBox⟩
theorem my_X6_deliver : kMy yX6_deliver cX6_deliver 6 (some .int) 4 := ⟨wn_X6, wc_X6_deliver, by decide +kernel, by decide +kernel, by decide +kernel⟩
theorem mv_X6_deliver : Cond.instanceMethod yX6_deliver ∈ wsL_law ∧ Cond.selects yX6_deliver.cls yX6_deliver yX6_deliver ∈ wsL_law := ⟨wi_X6_deliver, ws_X6_deliver⟩
theorem my_X6_whyNotDelivered : kMy yX6_whyNotDelivered cX6_whyNotDelivered 5 (some .int) 4 := ⟨wn_X6, wc_X6_whyNotDelivered, by decide +kernel, by decide +kernel, by decide +kernel⟩
theorem mv_X6_whyNotDelivered : Cond.instanceMethod yX6_whyNotDelivered ∈ wsL_law ∧ Cond.selects yX6_whyNotDelivered.cls yX6_whyNotDelivered yX6_whyNotDelivered ∈ wsL_law := ⟨wi_X6_whyNotDelivered, ws_X6_whyNotDelivered⟩
theorem my_X6_isBox : kMy yX6_isBox cX6_isBox 1 (some .boolean) 1 := ⟨wn_X6, wc_X6_isBox, by decide +kernel, by decide +kernel, by decide +kernel⟩
theorem my_X6_whyNotRoom : kMy yX6_whyNotRoom cX6_whyNotRoom 2 (some .int) 1 := ⟨wn_X6, wc_X6_whyNotRoom, by decide +kernel, by decide +kernel, by decide +kernel⟩
theorem mv_X6_whyNotRoom : Cond.instanceMethod yX6_whyNotRoom ∈ wsL_law ∧ Cond.selects yX6_whyNotRoom.cls yX6_whyNotRoom yX6_whyNotRoom ∈ wsL_law := ⟨wi_X6_whyNotRoom, ws_X6_whyNotRoom⟩
theorem my_X6_lotsAt : kMy yX6_lotsAt cX6_lotsAt 4 (some .int) 1 := ⟨wn_X6, wc_X6_lotsAt, by decide +kernel, by decide +kernel, by decide +kernel⟩
theorem mv_X6_lotsAt : Cond.instanceMethod yX6_lotsAt ∈ wsL_law ∧ Cond.selects yX6_lotsAt.cls yX6_lotsAt yX6_lotsAt ∈ wsL_law := ⟨wi_X6_lotsAt, ws_X6_lotsAt⟩
theorem my_X6_part : kMy yX6_part cX6_part 3 (some .int) 2 := ⟨wn_X6, wc_X6_part, by decide +kernel, by decide +kernel, by decide +kernel⟩
theorem mv_X6_part : Cond.instanceMethod yX6_part ∈ wsL_law ∧ Cond.selects yX6_part.cls yX6_part yX6_part ∈ wsL_law := ⟨wi_X6_part, ws_X6_part⟩
theorem my_X6_delivers : kMy yX6_delivers cX6_delivers 5 (some .int) 4 := ⟨wn_X6, wc_X6_delivers, by decide +kernel, by decide +kernel, by decide +kernel⟩
theorem mv_X6_delivers : Cond.instanceMethod yX6_delivers ∈ wsL_law ∧ Cond.selects yX6_delivers.cls yX6_delivers yX6_delivers ∈ wsL_law := ⟨wi_X6_delivers, ws_X6_delivers⟩
theorem my_X6_worthOf : kMy yX6_worthOf cX6_worthOf 2 (some .int) 2 := ⟨wn_X6, wc_X6_worthOf, by decide +kernel, by decide +kernel, by decide +kernel⟩
theorem my_X6_adds : kMy yX6_adds cX6_adds 6 (some .int) 4 := ⟨wn_X6, wc_X6_adds, by decide +kernel, by decide +kernel, by decide +kernel⟩
theorem mv_X6_adds : Cond.instanceMethod yX6_adds ∈ wsL_law ∧ Cond.selects yX6_adds.cls yX6_adds yX6_adds ∈ wsL_law := ⟨wi_X6_adds, ws_X6_adds⟩
theorem my_X6_setPart : kMy yX6_setPart cX6_setPart 4 none 3 := ⟨wn_X6, wc_X6_setPart, by decide +kernel, by decide +kernel, by decide +kernel⟩
theorem mv_X6_setPart : Cond.instanceMethod yX6_setPart ∈ wsL_law ∧ Cond.selects yX6_setPart.cls yX6_setPart yX6_setPart ∈ wsL_law := ⟨wi_X6_setPart, ws_X6_setPart⟩
theorem my_X5_iceBox : kMy yX5_iceBox cX5_iceBox 3 (some .int) 2 := ⟨wn_X5, wc_X5_iceBox, by decide +kernel, by decide +kernel, by decide +kernel⟩
theorem mv_X5_iceBox : Cond.instanceMethod yX5_iceBox ∈ wsL_law ∧ Cond.selects yX5_iceBox.cls yX5_iceBox yX5_iceBox ∈ wsL_law := ⟨wi_X5_iceBox, ws_X5_iceBox⟩
theorem my_X6_iceBox : kMy yX6_iceBox cX6_iceBox 3 (some .int) 2 := ⟨wn_X6, wc_X6_iceBox, by decide +kernel, by decide +kernel, by decide +kernel⟩
theorem mv_X6_iceBox : Cond.instanceMethod yX6_iceBox ∈ wsL_law ∧ Cond.selects yX6_iceBox.cls yX6_iceBox yX6_iceBox ∈ wsL_law := ⟨wi_X6_iceBox, ws_X6_iceBox⟩
theorem my_X6_ices : kMy yX6_ices cX6_ices 4 (some .int) 2 := ⟨wn_X6, wc_X6_ices, by decide +kernel, by decide +kernel, by decide +kernel⟩
theorem mv_X6_ices : Cond.instanceMethod yX6_ices ∈ wsL_law ∧ Cond.selects yX6_ices.cls yX6_ices yX6_ices ∈ wsL_law := ⟨wi_X6_ices, ws_X6_ices⟩
theorem my_X5_iceTray : kMy yX5_iceTray cX5_iceTray 3 (some .int) 2 := ⟨wn_X5, wc_X5_iceTray, by decide +kernel, by decide +kernel, by decide +kernel⟩
theorem mv_X5_iceTray : Cond.instanceMethod yX5_iceTray ∈ wsL_law ∧ Cond.selects yX5_iceTray.cls yX5_iceTray yX5_iceTray ∈ wsL_law := ⟨wi_X5_iceTray, ws_X5_iceTray⟩
theorem my_X5_isTray : kMy yX5_isTray cX5_isTray 1 (some .boolean) 1 := ⟨wn_X5, wc_X5_isTray, by decide +kernel, by decide +kernel, by decide +kernel⟩
theorem my_X6_iceTray : kMy yX6_iceTray cX6_iceTray 3 (some .int) 2 := ⟨wn_X6, wc_X6_iceTray, by decide +kernel, by decide +kernel, by decide +kernel⟩
theorem mv_X6_iceTray : Cond.instanceMethod yX6_iceTray ∈ wsL_law ∧ Cond.selects yX6_iceTray.cls yX6_iceTray yX6_iceTray ∈ wsL_law := ⟨wi_X6_iceTray, ws_X6_iceTray⟩
theorem my_X6_isTray : kMy yX6_isTray cX6_isTray 1 (some .boolean) 1 := ⟨wn_X6, wc_X6_isTray, by decide +kernel, by decide +kernel, by decide +kernel⟩
theorem my_X5_toTray : kMy yX5_toTray cX5_toTray 4 (some .int) 2 := ⟨wn_X5, wc_X5_toTray, by decide +kernel, by decide +kernel, by decide +kernel⟩
theorem mv_X5_toTray : Cond.instanceMethod yX5_toTray ∈ wsL_law ∧ Cond.selects yX5_toTray.cls yX5_toTray yX5_toTray ∈ wsL_law := ⟨wi_X5_toTray, ws_X5_toTray⟩
theorem my_X4_findLot : kMy yX4_findLot cX4_findLot 3 (some (.object "FishCounter$Lot")) 1 := ⟨wn_X4, wc_X4_findLot, by decide +kernel, by decide +kernel, by decide +kernel⟩
theorem mv_X4_findLot : Cond.instanceMethod yX4_findLot ∈ wsL_law ∧ Cond.selects yX4_findLot.cls yX4_findLot yX4_findLot ∈ wsL_law := ⟨wi_X4_findLot, ws_X4_findLot⟩
theorem my_X4_indexOfLot : kMy yX4_indexOfLot cX4_indexOfLot 3 (some .int) 1 := ⟨wn_X4, wc_X4_indexOfLot, by decide +kernel, by decide +kernel, by decide +kernel⟩
theorem mv_X4_indexOfLot : Cond.instanceMethod yX4_indexOfLot ∈ wsL_law ∧ Cond.selects yX4_indexOfLot.cls yX4_indexOfLot yX4_indexOfLot ∈ wsL_law := ⟨wi_X4_indexOfLot, ws_X4_indexOfLot⟩
theorem my_X4_lotOnTray : kMy yX4_lotOnTray cX4_lotOnTray 3 (some (.object "FishCounter$Lot")) 1 := ⟨wn_X4, wc_X4_lotOnTray, by decide +kernel, by decide +kernel, by decide +kernel⟩
theorem mv_X4_lotOnTray : Cond.instanceMethod yX4_lotOnTray ∈ wsL_law ∧ Cond.selects yX4_lotOnTray.cls yX4_lotOnTray yX4_lotOnTray ∈ wsL_law := ⟨wi_X4_lotOnTray, ws_X4_lotOnTray⟩
theorem my_X3_putOnTray : kMy yX3_putOnTray cX3_putOnTray 2 none 1 := ⟨wn_X3, wc_X3_putOnTray, by decide +kernel, by decide +kernel, by decide +kernel⟩
theorem mv_X3_putOnTray : Cond.instanceMethod yX3_putOnTray ∈ wsL_law ∧ Cond.selects yX3_putOnTray.cls yX3_putOnTray yX3_putOnTray ∈ wsL_law := ⟨wi_X3_putOnTray, ws_X3_putOnTray⟩
theorem my_X4_priceOf : kMy yX4_priceOf cX4_priceOf 2 (some .int) 1 := ⟨wn_X4, wc_X4_priceOf, by decide +kernel, by decide +kernel, by decide +kernel⟩
theorem mv_X4_priceOf : Cond.instanceMethod yX4_priceOf ∈ wsL_law ∧ Cond.selects yX4_priceOf.cls yX4_priceOf yX4_priceOf ∈ wsL_law := ⟨wi_X4_priceOf, ws_X4_priceOf⟩
theorem my_X4_priceAt : kMy yX4_priceAt cX4_priceAt 5 (some .int) 3 := ⟨wn_X4, wc_X4_priceAt, by decide +kernel, by decide +kernel, by decide +kernel⟩
theorem mv_X4_priceAt : Cond.instanceMethod yX4_priceAt ∈ wsL_law ∧ Cond.selects yX4_priceAt.cls yX4_priceAt yX4_priceAt ∈ wsL_law := ⟨wi_X4_priceAt, ws_X4_priceAt⟩
theorem my_X6_toTray : kMy yX6_toTray cX6_toTray 4 (some .int) 2 := ⟨wn_X6, wc_X6_toTray, by decide +kernel, by decide +kernel, by decide +kernel⟩
theorem mv_X6_toTray : Cond.instanceMethod yX6_toTray ∈ wsL_law ∧ Cond.selects yX6_toTray.cls yX6_toTray yX6_toTray ∈ wsL_law := ⟨wi_X6_toTray, ws_X6_toTray⟩
theorem my_X6_find : kMy yX6_find cX6_find 4 (some .int) 1 := ⟨wn_X6, wc_X6_find, by decide +kernel, by decide +kernel, by decide +kernel⟩
theorem mv_X6_find : Cond.instanceMethod yX6_find ∈ wsL_law ∧ Cond.selects yX6_find.cls yX6_find yX6_find ∈ wsL_law := ⟨wi_X6_find, ws_X6_find⟩
theorem my_X6_priceOf : kMy yX6_priceOf cX6_priceOf 2 (some .int) 1 := ⟨wn_X6, wc_X6_priceOf, by decide +kernel, by decide +kernel, by decide +kernel⟩
theorem mv_X6_priceOf : Cond.instanceMethod yX6_priceOf ∈ wsL_law ∧ Cond.selects yX6_priceOf.cls yX6_priceOf yX6_priceOf ∈ wsL_law := ⟨wi_X6_priceOf, ws_X6_priceOf⟩
theorem my_X6_priceWith : kMy yX6_priceWith cX6_priceWith 5 (some .int) 3 := ⟨wn_X6, wc_X6_priceWith, by decide +kernel, by decide +kernel, by decide +kernel⟩
theorem mv_X6_priceWith : Cond.instanceMethod yX6_priceWith ∈ wsL_law ∧ Cond.selects yX6_priceWith.cls yX6_priceWith yX6_priceWith ∈ wsL_law := ⟨wi_X6_priceWith, ws_X6_priceWith⟩
theorem my_X5_toBox : kMy yX5_toBox cX5_toBox 4 (some .int) 2 := ⟨wn_X5, wc_X5_toBox, by decide +kernel, by decide +kernel, by decide +kernel⟩
theorem mv_X5_toBox : Cond.instanceMethod yX5_toBox ∈ wsL_law ∧ Cond.selects yX5_toBox.cls yX5_toBox yX5_toBox ∈ wsL_law := ⟨wi_X5_toBox, ws_X5_toBox⟩
theorem my_X6_toBox : kMy yX6_toBox cX6_toBox 4 (some .int) 2 := ⟨wn_X6, wc_X6_toBox, by decide +kernel, by decide +kernel, by decide +kernel⟩
theorem mv_X6_toBox : Cond.instanceMethod yX6_toBox ∈ wsL_law ∧ Cond.selects yX6_toBox.cls yX6_toBox yX6_toBox ∈ wsL_law := ⟨wi_X6_toBox, ws_X6_toBox⟩
theorem my_X5_divide : kMy yX5_divide cX5_divide 6 (some .int) 3 := ⟨wn_X5, wc_X5_divide, by decide +kernel, by decide +kernel, by decide +kernel⟩
theorem mv_X5_divide : Cond.instanceMethod yX5_divide ∈ wsL_law ∧ Cond.selects yX5_divide.cls yX5_divide yX5_divide ∈ wsL_law := ⟨wi_X5_divide, ws_X5_divide⟩
theorem my_X6_divide : kMy yX6_divide cX6_divide 6 (some .int) 3 := ⟨wn_X6, wc_X6_divide, by decide +kernel, by decide +kernel, by decide +kernel⟩
theorem mv_X6_divide : Cond.instanceMethod yX6_divide ∈ wsL_law ∧ Cond.selects yX6_divide.cls yX6_divide yX6_divide ∈ wsL_law := ⟨wi_X6_divide, ws_X6_divide⟩
theorem my_X5_throwAway : kMy yX5_throwAway cX5_throwAway 3 (some .int) 1 := ⟨wn_X5, wc_X5_throwAway, by decide +kernel, by decide +kernel, by decide +kernel⟩
theorem mv_X5_throwAway : Cond.instanceMethod yX5_throwAway ∈ wsL_law ∧ Cond.selects yX5_throwAway.cls yX5_throwAway yX5_throwAway ∈ wsL_law := ⟨wi_X5_throwAway, ws_X5_throwAway⟩
theorem my_X4_discardLotAt : kMy yX4_discardLotAt cX4_discardLotAt 3 (some .int) 1 := ⟨wn_X4, wc_X4_discardLotAt, by decide +kernel, by decide +kernel, by decide +kernel⟩
theorem mv_X4_discardLotAt : Cond.instanceMethod yX4_discardLotAt ∈ wsL_law ∧ Cond.selects yX4_discardLotAt.cls yX4_discardLotAt yX4_discardLotAt ∈ wsL_law := ⟨wi_X4_discardLotAt, ws_X4_discardLotAt⟩
theorem my_X4_removeLotAt : kMy yX4_removeLotAt cX4_removeLotAt 4 none 1 := ⟨wn_X4, wc_X4_removeLotAt, by decide +kernel, by decide +kernel, by decide +kernel⟩
theorem mv_X4_removeLotAt : Cond.instanceMethod yX4_removeLotAt ∈ wsL_law ∧ Cond.selects yX4_removeLotAt.cls yX4_removeLotAt yX4_removeLotAt ∈ wsL_law := ⟨wi_X4_removeLotAt, ws_X4_removeLotAt⟩
theorem my_X6_throwAway : kMy yX6_throwAway cX6_throwAway 4 (some .int) 1 := ⟨wn_X6, wc_X6_throwAway, by decide +kernel, by decide +kernel, by decide +kernel⟩
theorem mv_X6_throwAway : Cond.instanceMethod yX6_throwAway ∈ wsL_law ∧ Cond.selects yX6_throwAway.cls yX6_throwAway yX6_throwAway ∈ wsL_law := ⟨wi_X6_throwAway, ws_X6_throwAway⟩
theorem my_X6_throwsAway : kMy yX6_throwsAway cX6_throwsAway 2 none 1 := ⟨wn_X6, wc_X6_throwsAway, by decide +kernel, by decide +kernel, by decide +kernel⟩
theorem mv_X6_throwsAway : Cond.instanceMethod yX6_throwsAway ∈ wsL_law ∧ Cond.selects yX6_throwsAway.cls yX6_throwsAway yX6_throwsAway ∈ wsL_law := ⟨wi_X6_throwsAway, ws_X6_throwsAway⟩
theorem my_X6_drops : kMy yX6_drops cX6_drops 3 none 1 := ⟨wn_X6, wc_X6_drops, by decide +kernel, by decide +kernel, by decide +kernel⟩
theorem mv_X6_drops : Cond.instanceMethod yX6_drops ∈ wsL_law ∧ Cond.selects yX6_drops.cls yX6_drops yX6_drops ∈ wsL_law := ⟨wi_X6_drops, ws_X6_drops⟩
theorem my_X5_order : kMy yX5_order cX5_order 5 (some .int) 4 := ⟨wn_X5, wc_X5_order, by decide +kernel, by decide +kernel, by decide +kernel⟩
theorem mv_X5_order : Cond.instanceMethod yX5_order ∈ wsL_law ∧ Cond.selects yX5_order.cls yX5_order yX5_order ∈ wsL_law := ⟨wi_X5_order, ws_X5_order⟩
theorem my_X4_sell : kMy yX4_sell cX4_sell 8 (some .int) 4 := ⟨wn_X4, wc_X4_sell, by decide +kernel, by decide +kernel, by decide +kernel⟩
theorem mv_X4_sell : Cond.instanceMethod yX4_sell ∈ wsL_law ∧ Cond.selects yX4_sell.cls yX4_sell yX4_sell ∈ wsL_law := ⟨wi_X4_sell, ws_X4_sell⟩
theorem my_X4_nextLotToSell : kMy yX4_nextLotToSell cX4_nextLotToSell 8 (some .int) 3 := ⟨wn_X4, wc_X4_nextLotToSell, by decide +kernel, by decide +kernel, by decide +kernel⟩
theorem mv_X4_nextLotToSell : Cond.instanceMethod yX4_nextLotToSell ∈ wsL_law ∧ Cond.selects yX4_nextLotToSell.cls yX4_nextLotToSell yX4_nextLotToSell ∈ wsL_law := ⟨wi_X4_nextLotToSell, ws_X4_nextLotToSell⟩
theorem my_X3_isOnTray : kMy yX3_isOnTray cX3_isOnTray 1 (some .boolean) 0 := ⟨wn_X3, wc_X3_isOnTray, by decide +kernel, by decide +kernel, by decide +kernel⟩
theorem mv_X3_isOnTray : Cond.instanceMethod yX3_isOnTray ∈ wsL_law ∧ Cond.selects yX3_isOnTray.cls yX3_isOnTray yX3_isOnTray ∈ wsL_law := ⟨wi_X3_isOnTray, ws_X3_isOnTray⟩
theorem my_X4_sellFromLotAt : kMy yX4_sellFromLotAt cX4_sellFromLotAt 5 (some .int) 2 := ⟨wn_X4, wc_X4_sellFromLotAt, by decide +kernel, by decide +kernel, by decide +kernel⟩
theorem mv_X4_sellFromLotAt : Cond.instanceMethod yX4_sellFromLotAt ∈ wsL_law ∧ Cond.selects yX4_sellFromLotAt.cls yX4_sellFromLotAt yX4_sellFromLotAt ∈ wsL_law := ⟨wi_X4_sellFromLotAt, ws_X4_sellFromLotAt⟩
theorem my_X6_order : kMy yX6_order cX6_order 8 (some .int) 4 := ⟨wn_X6, wc_X6_order, by decide +kernel, by decide +kernel, by decide +kernel⟩
theorem mv_X6_order : Cond.instanceMethod yX6_order ∈ wsL_law ∧ Cond.selects yX6_order.cls yX6_order yX6_order ∈ wsL_law := ⟨wi_X6_order, ws_X6_order⟩
theorem my_X6_nextFor : kMy yX6_nextFor cX6_nextFor 7 (some .int) 3 := ⟨wn_X6, wc_X6_nextFor, by decide +kernel, by decide +kernel, by decide +kernel⟩
theorem mv_X6_nextFor : Cond.instanceMethod yX6_nextFor ∈ wsL_law ∧ Cond.selects yX6_nextFor.cls yX6_nextFor yX6_nextFor ∈ wsL_law := ⟨wi_X6_nextFor, ws_X6_nextFor⟩
theorem my_X6_isTrayPlace : kMy yX6_isTrayPlace cX6_isTrayPlace 1 (some .boolean) 1 := ⟨wn_X6, wc_X6_isTrayPlace, by decide +kernel, by decide +kernel, by decide +kernel⟩
theorem my_X6_isSold : kMy yX6_isSold cX6_isSold 2 (some .boolean) 1 := ⟨wn_X6, wc_X6_isSold, by decide +kernel, by decide +kernel, by decide +kernel⟩
theorem mv_X6_isSold : Cond.instanceMethod yX6_isSold ∈ wsL_law ∧ Cond.selects yX6_isSold.cls yX6_isSold yX6_isSold ∈ wsL_law := ⟨wi_X6_isSold, ws_X6_isSold⟩
theorem my_X5_pass : kMy yX5_pass cX5_pass 1 (some .int) 0 := ⟨wn_X5, wc_X5_pass, by decide +kernel, by decide +kernel, by decide +kernel⟩
theorem mv_X5_pass : Cond.instanceMethod yX5_pass ∈ wsL_law ∧ Cond.selects yX5_pass.cls yX5_pass yX5_pass ∈ wsL_law := ⟨wi_X5_pass, ws_X5_pass⟩
theorem my_X4_passHour : kMy yX4_passHour cX4_passHour 3 none 0 := ⟨wn_X4, wc_X4_passHour, by decide +kernel, by decide +kernel, by decide +kernel⟩
theorem mv_X4_passHour : Cond.instanceMethod yX4_passHour ∈ wsL_law ∧ Cond.selects yX4_passHour.cls yX4_passHour yX4_passHour ∈ wsL_law := ⟨wi_X4_passHour, ws_X4_passHour⟩
theorem my_X4_iceAt : kMy yX4_iceAt cX4_iceAt 2 (some .int) 1 := ⟨wn_X4, wc_X4_iceAt, by decide +kernel, by decide +kernel, by decide +kernel⟩
theorem mv_X4_iceAt : Cond.instanceMethod yX4_iceAt ∈ wsL_law ∧ Cond.selects yX4_iceAt.cls yX4_iceAt yX4_iceAt ∈ wsL_law := ⟨wi_X4_iceAt, ws_X4_iceAt⟩
theorem my_X5_freshAnHourLater : kMy yX5_freshAnHourLater cX5_freshAnHourLater 4 (some .int) 3 := ⟨wn_X5, wc_X5_freshAnHourLater, by decide +kernel, by decide +kernel, by decide +kernel⟩
theorem my_X5_iceAnHourLater : kMy yX5_iceAnHourLater cX5_iceAnHourLater 3 (some .int) 3 := ⟨wn_X5, wc_X5_iceAnHourLater, by decide +kernel, by decide +kernel, by decide +kernel⟩
theorem my_X6_pass : kMy yX6_pass cX6_pass 1 (some .int) 0 := ⟨wn_X6, wc_X6_pass, by decide +kernel, by decide +kernel, by decide +kernel⟩
theorem mv_X6_pass : Cond.instanceMethod yX6_pass ∈ wsL_law ∧ Cond.selects yX6_pass.cls yX6_pass yX6_pass ∈ wsL_law := ⟨wi_X6_pass, ws_X6_pass⟩
theorem my_X6_passesHour : kMy yX6_passesHour cX6_passesHour 2 none 0 := ⟨wn_X6, wc_X6_passesHour, by decide +kernel, by decide +kernel, by decide +kernel⟩
theorem mv_X6_passesHour : Cond.instanceMethod yX6_passesHour ∈ wsL_law ∧ Cond.selects yX6_passesHour.cls yX6_passesHour yX6_passesHour ∈ wsL_law := ⟨wi_X6_passesHour, ws_X6_passesHour⟩
theorem my_X6_loss : kMy yX6_loss cX6_loss 2 (some .int) 2 := ⟨wn_X6, wc_X6_loss, by decide +kernel, by decide +kernel, by decide +kernel⟩
theorem my_X6_freshThen : kMy yX6_freshThen cX6_freshThen 2 (some .int) 2 := ⟨wn_X6, wc_X6_freshThen, by decide +kernel, by decide +kernel, by decide +kernel⟩
theorem my_X6_iceThen : kMy yX6_iceThen cX6_iceThen 4 (some .int) 2 := ⟨wn_X6, wc_X6_iceThen, by decide +kernel, by decide +kernel, by decide +kernel⟩
theorem mv_X6_iceThen : Cond.instanceMethod yX6_iceThen ∈ wsL_law ∧ Cond.selects yX6_iceThen.cls yX6_iceThen yX6_iceThen ∈ wsL_law := ⟨wi_X6_iceThen, ws_X6_iceThen⟩
theorem my_X5_close : kMy yX5_close cX5_close 1 (some .int) 0 := ⟨wn_X5, wc_X5_close, by decide +kernel, by decide +kernel, by decide +kernel⟩
theorem mv_X5_close : Cond.instanceMethod yX5_close ∈ wsL_law ∧ Cond.selects yX5_close.cls yX5_close yX5_close ∈ wsL_law := ⟨wi_X5_close, ws_X5_close⟩
theorem my_X4_closeDay : kMy yX4_closeDay cX4_closeDay 3 (some .int) 0 := ⟨wn_X4, wc_X4_closeDay, by decide +kernel, by decide +kernel, by decide +kernel⟩
theorem mv_X4_closeDay : Cond.instanceMethod yX4_closeDay ∈ wsL_law ∧ Cond.selects yX4_closeDay.cls yX4_closeDay yX4_closeDay ∈ wsL_law := ⟨wi_X4_closeDay, ws_X4_closeDay⟩
theorem my_X4_discardLotsBelowLimit : kMy yX4_discardLotsBelowLimit cX4_discardLotsBelowLimit 3 (some .int) 0 := ⟨wn_X4, wc_X4_discardLotsBelowLimit, by decide +kernel, by decide +kernel, by decide +kernel⟩
theorem mv_X4_discardLotsBelowLimit : Cond.instanceMethod yX4_discardLotsBelowLimit ∈ wsL_law ∧ Cond.selects yX4_discardLotsBelowLimit.cls yX4_discardLotsBelowLimit yX4_discardLotsBelowLimit ∈ wsL_law := ⟨wi_X4_discardLotsBelowLimit, ws_X4_discardLotsBelowLimit⟩
theorem my_X4_clearTray : kMy yX4_clearTray cX4_clearTray 4 (some .int) 1 := ⟨wn_X4, wc_X4_clearTray, by decide +kernel, by decide +kernel, by decide +kernel⟩
theorem mv_X4_clearTray : Cond.instanceMethod yX4_clearTray ∈ wsL_law ∧ Cond.selects yX4_clearTray.cls yX4_clearTray yX4_clearTray ∈ wsL_law := ⟨wi_X4_clearTray, ws_X4_clearTray⟩
theorem my_X4_boxForTheNight : kMy yX4_boxForTheNight cX4_boxForTheNight 4 (some .int) 0 := ⟨wn_X4, wc_X4_boxForTheNight, by decide +kernel, by decide +kernel, by decide +kernel⟩
theorem mv_X4_boxForTheNight : Cond.instanceMethod yX4_boxForTheNight ∈ wsL_law ∧ Cond.selects yX4_boxForTheNight.cls yX4_boxForTheNight yX4_boxForTheNight ∈ wsL_law := ⟨wi_X4_boxForTheNight, ws_X4_boxForTheNight⟩
theorem my_X6_close : kMy yX6_close cX6_close 1 (some .int) 0 := ⟨wn_X6, wc_X6_close, by decide +kernel, by decide +kernel, by decide +kernel⟩
theorem mv_X6_close : Cond.instanceMethod yX6_close ∈ wsL_law ∧ Cond.selects yX6_close.cls yX6_close yX6_close ∈ wsL_law := ⟨wi_X6_close, ws_X6_close⟩
theorem my_X6_closes : kMy yX6_closes cX6_closes 5 (some .int) 0 := ⟨wn_X6, wc_X6_closes, by decide +kernel, by decide +kernel, by decide +kernel⟩
theorem mv_X6_closes : Cond.instanceMethod yX6_closes ∈ wsL_law ∧ Cond.selects yX6_closes.cls yX6_closes yX6_closes ∈ wsL_law := ⟨wi_X6_closes, ws_X6_closes⟩
theorem my_X6_firstAt : kMy yX6_firstAt cX6_firstAt 4 (some .int) 1 := ⟨wn_X6, wc_X6_firstAt, by decide +kernel, by decide +kernel, by decide +kernel⟩
theorem mv_X6_firstAt : Cond.instanceMethod yX6_firstAt ∈ wsL_law ∧ Cond.selects yX6_firstAt.cls yX6_firstAt yX6_firstAt ∈ wsL_law := ⟨wi_X6_firstAt, ws_X6_firstAt⟩
theorem my_X6_coldest : kMy yX6_coldest cX6_coldest 4 (some .int) 0 := ⟨wn_X6, wc_X6_coldest, by decide +kernel, by decide +kernel, by decide +kernel⟩
theorem mv_X6_coldest : Cond.instanceMethod yX6_coldest ∈ wsL_law ∧ Cond.selects yX6_coldest.cls yX6_coldest yX6_coldest ∈ wsL_law := ⟨wi_X6_coldest, ws_X6_coldest⟩
theorem my_X5_count : kMy yX5_count cX5_count 2 (some .long) 1 := ⟨wn_X5, wc_X5_count, by decide +kernel, by decide +kernel, by decide +kernel⟩
theorem mv_X5_count : Cond.instanceMethod yX5_count ∈ wsL_law ∧ Cond.selects yX5_count.cls yX5_count yX5_count ∈ wsL_law := ⟨wi_X5_count, ws_X5_count⟩
theorem my_X4_gramsInShop : kMy yX4_gramsInShop cX4_gramsInShop 3 (some .int) 0 := ⟨wn_X4, wc_X4_gramsInShop, by decide +kernel, by decide +kernel, by decide +kernel⟩
theorem mv_X4_gramsInShop : Cond.instanceMethod yX4_gramsInShop ∈ wsL_law ∧ Cond.selects yX4_gramsInShop.cls yX4_gramsInShop yX4_gramsInShop ∈ wsL_law := ⟨wi_X4_gramsInShop, ws_X4_gramsInShop⟩
theorem my_X6_count : kMy yX6_count cX6_count 2 (some .long) 1 := ⟨wn_X6, wc_X6_count, by decide +kernel, by decide +kernel, by decide +kernel⟩
theorem mv_X6_count : Cond.instanceMethod yX6_count ∈ wsL_law ∧ Cond.selects yX6_count.cls yX6_count yX6_count ∈ wsL_law := ⟨wi_X6_count, ws_X6_count⟩
theorem my_X6_countOf : kMy yX6_countOf cX6_countOf 2 (some .long) 1 := ⟨wn_X6, wc_X6_countOf, by decide +kernel, by decide +kernel, by decide +kernel⟩
theorem mv_X6_countOf : Cond.instanceMethod yX6_countOf ∈ wsL_law ∧ Cond.selects yX6_countOf.cls yX6_countOf yX6_countOf ∈ wsL_law := ⟨wi_X6_countOf, ws_X6_countOf⟩
theorem my_X6_allGrams : kMy yX6_allGrams cX6_allGrams 3 (some .int) 0 := ⟨wn_X6, wc_X6_allGrams, by decide +kernel, by decide +kernel, by decide +kernel⟩
theorem mv_X6_allGrams : Cond.instanceMethod yX6_allGrams ∈ wsL_law ∧ Cond.selects yX6_allGrams.cls yX6_allGrams yX6_allGrams ∈ wsL_law := ⟨wi_X6_allGrams, ws_X6_allGrams⟩
theorem my_X5_lot : kMy yX5_lot cX5_lot 4 (some .int) 2 := ⟨wn_X5, wc_X5_lot, by decide +kernel, by decide +kernel, by decide +kernel⟩
theorem mv_X5_lot : Cond.instanceMethod yX5_lot ∈ wsL_law ∧ Cond.selects yX5_lot.cls yX5_lot yX5_lot ∈ wsL_law := ⟨wi_X5_lot, ws_X5_lot⟩
theorem my_X6_lot : kMy yX6_lot cX6_lot 4 (some .int) 2 := ⟨wn_X6, wc_X6_lot, by decide +kernel, by decide +kernel, by decide +kernel⟩
theorem mv_X6_lot : Cond.instanceMethod yX6_lot ∈ wsL_law ∧ Cond.selects yX6_lot.cls yX6_lot yX6_lot ∈ wsL_law := ⟨wi_X6_lot, ws_X6_lot⟩
theorem my_X6_ofLot : kMy yX6_ofLot cX6_ofLot 4 (some .int) 2 := ⟨wn_X6, wc_X6_ofLot, by decide +kernel, by decide +kernel, by decide +kernel⟩
theorem mv_X6_ofLot : Cond.instanceMethod yX6_ofLot ∈ wsL_law ∧ Cond.selects yX6_ofLot.cls yX6_ofLot yX6_ofLot ∈ wsL_law := ⟨wi_X6_ofLot, ws_X6_ofLot⟩
theorem my_X5_box : kMy yX5_box cX5_box 3 (some .int) 2 := ⟨wn_X5, wc_X5_box, by decide +kernel, by decide +kernel, by decide +kernel⟩
theorem mv_X5_box : Cond.instanceMethod yX5_box ∈ wsL_law ∧ Cond.selects yX5_box.cls yX5_box yX5_box ∈ wsL_law := ⟨wi_X5_box, ws_X5_box⟩
theorem my_X4_gramsInBox : kMy yX4_gramsInBox cX4_gramsInBox 4 (some .int) 1 := ⟨wn_X4, wc_X4_gramsInBox, by decide +kernel, by decide +kernel, by decide +kernel⟩
theorem mv_X4_gramsInBox : Cond.instanceMethod yX4_gramsInBox ∈ wsL_law ∧ Cond.selects yX4_gramsInBox.cls yX4_gramsInBox yX4_gramsInBox ∈ wsL_law := ⟨wi_X4_gramsInBox, ws_X4_gramsInBox⟩
theorem my_X4_firstLotInBox : kMy yX4_firstLotInBox cX4_firstLotInBox 3 (some .int) 1 := ⟨wn_X4, wc_X4_firstLotInBox, by decide +kernel, by decide +kernel, by decide +kernel⟩
theorem mv_X4_firstLotInBox : Cond.instanceMethod yX4_firstLotInBox ∈ wsL_law ∧ Cond.selects yX4_firstLotInBox.cls yX4_firstLotInBox yX4_firstLotInBox ∈ wsL_law := ⟨wi_X4_firstLotInBox, ws_X4_firstLotInBox⟩
theorem my_X6_box : kMy yX6_box cX6_box 3 (some .int) 2 := ⟨wn_X6, wc_X6_box, by decide +kernel, by decide +kernel, by decide +kernel⟩
theorem mv_X6_box : Cond.instanceMethod yX6_box ∈ wsL_law ∧ Cond.selects yX6_box.cls yX6_box yX6_box ∈ wsL_law := ⟨wi_X6_box, ws_X6_box⟩
theorem my_X6_ofBox : kMy yX6_ofBox cX6_ofBox 3 (some .int) 2 := ⟨wn_X6, wc_X6_ofBox, by decide +kernel, by decide +kernel, by decide +kernel⟩
theorem mv_X6_ofBox : Cond.instanceMethod yX6_ofBox ∈ wsL_law ∧ Cond.selects yX6_ofBox.cls yX6_ofBox yX6_ofBox ∈ wsL_law := ⟨wi_X6_ofBox, ws_X6_ofBox⟩
theorem my_X6_gramsAt : kMy yX6_gramsAt cX6_gramsAt 4 (some .int) 1 := ⟨wn_X6, wc_X6_gramsAt, by decide +kernel, by decide +kernel, by decide +kernel⟩
theorem mv_X6_gramsAt : Cond.instanceMethod yX6_gramsAt ∈ wsL_law ∧ Cond.selects yX6_gramsAt.cls yX6_gramsAt yX6_gramsAt ∈ wsL_law := ⟨wi_X6_gramsAt, ws_X6_gramsAt⟩
theorem my_X6_numberAt : kMy yX6_numberAt cX6_numberAt 2 (some .int) 1 := ⟨wn_X6, wc_X6_numberAt, by decide +kernel, by decide +kernel, by decide +kernel⟩
theorem mv_X6_numberAt : Cond.instanceMethod yX6_numberAt ∈ wsL_law ∧ Cond.selects yX6_numberAt.cls yX6_numberAt yX6_numberAt ∈ wsL_law := ⟨wi_X6_numberAt, ws_X6_numberAt⟩
theorem my_X5_tray : kMy yX5_tray cX5_tray 3 (some .int) 2 := ⟨wn_X5, wc_X5_tray, by decide +kernel, by decide +kernel, by decide +kernel⟩
theorem mv_X5_tray : Cond.instanceMethod yX5_tray ∈ wsL_law ∧ Cond.selects yX5_tray.cls yX5_tray yX5_tray ∈ wsL_law := ⟨wi_X5_tray, ws_X5_tray⟩
theorem my_X4_numberOnTray : kMy yX4_numberOnTray cX4_numberOnTray 3 (some .int) 1 := ⟨wn_X4, wc_X4_numberOnTray, by decide +kernel, by decide +kernel, by decide +kernel⟩
theorem mv_X4_numberOnTray : Cond.instanceMethod yX4_numberOnTray ∈ wsL_law ∧ Cond.selects yX4_numberOnTray.cls yX4_numberOnTray yX4_numberOnTray ∈ wsL_law := ⟨wi_X4_numberOnTray, ws_X4_numberOnTray⟩
theorem my_X6_tray : kMy yX6_tray cX6_tray 3 (some .int) 2 := ⟨wn_X6, wc_X6_tray, by decide +kernel, by decide +kernel, by decide +kernel⟩
theorem mv_X6_tray : Cond.instanceMethod yX6_tray ∈ wsL_law ∧ Cond.selects yX6_tray.cls yX6_tray yX6_tray ∈ wsL_law := ⟨wi_X6_tray, ws_X6_tray⟩
theorem my_X6_ofTray : kMy yX6_ofTray cX6_ofTray 3 (some .int) 2 := ⟨wn_X6, wc_X6_ofTray, by decide +kernel, by decide +kernel, by decide +kernel⟩
theorem mv_X6_ofTray : Cond.instanceMethod yX6_ofTray ∈ wsL_law ∧ Cond.selects yX6_ofTray.cls yX6_ofTray yX6_ofTray ∈ wsL_law := ⟨wi_X6_ofTray, ws_X6_ofTray⟩
theorem my_X5_kind : kMy yX5_kind cX5_kind 3 (some .int) 2 := ⟨wn_X5, wc_X5_kind, by decide +kernel, by decide +kernel, by decide +kernel⟩
theorem mv_X5_kind : Cond.instanceMethod yX5_kind ∈ wsL_law ∧ Cond.selects yX5_kind.cls yX5_kind yX5_kind ∈ wsL_law := ⟨wi_X5_kind, ws_X5_kind⟩
theorem my_X4_gramsOfKind : kMy yX4_gramsOfKind cX4_gramsOfKind 4 (some .int) 1 := ⟨wn_X4, wc_X4_gramsOfKind, by decide +kernel, by decide +kernel, by decide +kernel⟩
theorem mv_X4_gramsOfKind : Cond.instanceMethod yX4_gramsOfKind ∈ wsL_law ∧ Cond.selects yX4_gramsOfKind.cls yX4_gramsOfKind yX4_gramsOfKind ∈ wsL_law := ⟨wi_X4_gramsOfKind, ws_X4_gramsOfKind⟩
theorem my_X4_freshestLotOfKind : kMy yX4_freshestLotOfKind cX4_freshestLotOfKind 5 (some .int) 1 := ⟨wn_X4, wc_X4_freshestLotOfKind, by decide +kernel, by decide +kernel, by decide +kernel⟩
theorem mv_X4_freshestLotOfKind : Cond.instanceMethod yX4_freshestLotOfKind ∈ wsL_law ∧ Cond.selects yX4_freshestLotOfKind.cls yX4_freshestLotOfKind yX4_freshestLotOfKind ∈ wsL_law := ⟨wi_X4_freshestLotOfKind, ws_X4_freshestLotOfKind⟩
theorem my_X6_kind : kMy yX6_kind cX6_kind 3 (some .int) 2 := ⟨wn_X6, wc_X6_kind, by decide +kernel, by decide +kernel, by decide +kernel⟩
theorem mv_X6_kind : Cond.instanceMethod yX6_kind ∈ wsL_law ∧ Cond.selects yX6_kind.cls yX6_kind yX6_kind ∈ wsL_law := ⟨wi_X6_kind, ws_X6_kind⟩
theorem my_X6_ofKind : kMy yX6_ofKind cX6_ofKind 3 (some .int) 2 := ⟨wn_X6, wc_X6_ofKind, by decide +kernel, by decide +kernel, by decide +kernel⟩
theorem mv_X6_ofKind : Cond.instanceMethod yX6_ofKind ∈ wsL_law ∧ Cond.selects yX6_ofKind.cls yX6_ofKind yX6_ofKind ∈ wsL_law := ⟨wi_X6_ofKind, ws_X6_ofKind⟩
theorem my_X6_gramsOfKind : kMy yX6_gramsOfKind cX6_gramsOfKind 4 (some .int) 1 := ⟨wn_X6, wc_X6_gramsOfKind, by decide +kernel, by decide +kernel, by decide +kernel⟩
theorem mv_X6_gramsOfKind : Cond.instanceMethod yX6_gramsOfKind ∈ wsL_law ∧ Cond.selects yX6_gramsOfKind.cls yX6_gramsOfKind yX6_gramsOfKind ∈ wsL_law := ⟨wi_X6_gramsOfKind, ws_X6_gramsOfKind⟩
theorem my_X6_freshest : kMy yX6_freshest cX6_freshest 4 (some .int) 1 := ⟨wn_X6, wc_X6_freshest, by decide +kernel, by decide +kernel, by decide +kernel⟩
theorem mv_X6_freshest : Cond.instanceMethod yX6_freshest ∈ wsL_law ∧ Cond.selects yX6_freshest.cls yX6_freshest yX6_freshest ∈ wsL_law := ⟨wi_X6_freshest, ws_X6_freshest⟩
theorem my_X5_cut : kMy yX5_cut cX5_cut 2 (some .int) 1 := ⟨wn_X5, wc_X5_cut, by decide +kernel, by decide +kernel, by decide +kernel⟩
theorem mv_X5_cut : Cond.instanceMethod yX5_cut ∈ wsL_law ∧ Cond.selects yX5_cut.cls yX5_cut yX5_cut ∈ wsL_law := ⟨wi_X5_cut, ws_X5_cut⟩
theorem my_X6_cut : kMy yX6_cut cX6_cut 2 (some .int) 1 := ⟨wn_X6, wc_X6_cut, by decide +kernel, by decide +kernel, by decide +kernel⟩
theorem mv_X6_cut : Cond.instanceMethod yX6_cut ∈ wsL_law ∧ Cond.selects yX6_cut.cls yX6_cut yX6_cut ∈ wsL_law := ⟨wi_X6_cut, ws_X6_cut⟩
theorem my_X5_freshAfter : kMy yX5_freshAfter cX5_freshAfter 5 (some .int) 2 := ⟨wn_X5, wc_X5_freshAfter, by decide +kernel, by decide +kernel, by decide +kernel⟩
theorem mv_X5_freshAfter : Cond.instanceMethod yX5_freshAfter ∈ wsL_law ∧ Cond.selects yX5_freshAfter.cls yX5_freshAfter yX5_freshAfter ∈ wsL_law := ⟨wi_X5_freshAfter, ws_X5_freshAfter⟩
theorem my_X1_start : kMy yX1_start cX1_start 3 none 2 := ⟨wn_X1, wc_X1_start, by decide +kernel, by decide +kernel, by decide +kernel⟩
theorem mv_X1_start : Cond.instanceMethod yX1_start ∈ wsL_law ∧ Cond.selects yX1_start.cls yX1_start yX1_start ∈ wsL_law := ⟨wi_X1_start, ws_X1_start⟩
theorem my_X1_passHour : kMy yX1_passHour cX1_passHour 1 none 0 := ⟨wn_X1, wc_X1_passHour, by decide +kernel, by decide +kernel, by decide +kernel⟩
theorem mv_X1_passHour : Cond.instanceMethod yX1_passHour ∈ wsL_law ∧ Cond.selects yX1_passHour.cls yX1_passHour yX1_passHour ∈ wsL_law := ⟨wi_X1_passHour, ws_X1_passHour⟩
theorem my_X6_freshAfter : kMy yX6_freshAfter cX6_freshAfter 4 (some .int) 2 := ⟨wn_X6, wc_X6_freshAfter, by decide +kernel, by decide +kernel, by decide +kernel⟩
theorem mv_X6_freshAfter : Cond.instanceMethod yX6_freshAfter ∈ wsL_law ∧ Cond.selects yX6_freshAfter.cls yX6_freshAfter yX6_freshAfter ∈ wsL_law := ⟨wi_X6_freshAfter, ws_X6_freshAfter⟩
theorem my_X6_freshIn : kMy yX6_freshIn cX6_freshIn 7 (some .int) 2 := ⟨wn_X6, wc_X6_freshIn, by decide +kernel, by decide +kernel, by decide +kernel⟩
theorem mv_X6_freshIn : Cond.instanceMethod yX6_freshIn ∈ wsL_law ∧ Cond.selects yX6_freshIn.cls yX6_freshIn yX6_freshIn ∈ wsL_law := ⟨wi_X6_freshIn, ws_X6_freshIn⟩
theorem my_X5_hoursLeft : kMy yX5_hoursLeft cX5_hoursLeft 4 (some .int) 1 := ⟨wn_X5, wc_X5_hoursLeft, by decide +kernel, by decide +kernel, by decide +kernel⟩
theorem mv_X5_hoursLeft : Cond.instanceMethod yX5_hoursLeft ∈ wsL_law ∧ Cond.selects yX5_hoursLeft.cls yX5_hoursLeft yX5_hoursLeft ∈ wsL_law := ⟨wi_X5_hoursLeft, ws_X5_hoursLeft⟩
theorem my_X6_hoursLeft : kMy yX6_hoursLeft cX6_hoursLeft 3 (some .int) 1 := ⟨wn_X6, wc_X6_hoursLeft, by decide +kernel, by decide +kernel, by decide +kernel⟩
theorem mv_X6_hoursLeft : Cond.instanceMethod yX6_hoursLeft ∈ wsL_law ∧ Cond.selects yX6_hoursLeft.cls yX6_hoursLeft yX6_hoursLeft ∈ wsL_law := ⟨wi_X6_hoursLeft, ws_X6_hoursLeft⟩
theorem my_X6_leftOf : kMy yX6_leftOf cX6_leftOf 4 (some .int) 1 := ⟨wn_X6, wc_X6_leftOf, by decide +kernel, by decide +kernel, by decide +kernel⟩
theorem mv_X6_leftOf : Cond.instanceMethod yX6_leftOf ∈ wsL_law ∧ Cond.selects yX6_leftOf.cls yX6_leftOf yX6_leftOf ∈ wsL_law := ⟨wi_X6_leftOf, ws_X6_leftOf⟩
theorem my_X5_bestHour : kMy yX5_bestHour cX5_bestHour 7 (some .int) 1 := ⟨wn_X5, wc_X5_bestHour, by decide +kernel, by decide +kernel, by decide +kernel⟩
theorem mv_X5_bestHour : Cond.instanceMethod yX5_bestHour ∈ wsL_law ∧ Cond.selects yX5_bestHour.cls yX5_bestHour yX5_bestHour ∈ wsL_law := ⟨wi_X5_bestHour, ws_X5_bestHour⟩
theorem my_X6_bestHour : kMy yX6_bestHour cX6_bestHour 3 (some .int) 1 := ⟨wn_X6, wc_X6_bestHour, by decide +kernel, by decide +kernel, by decide +kernel⟩
theorem mv_X6_bestHour : Cond.instanceMethod yX6_bestHour ∈ wsL_law ∧ Cond.selects yX6_bestHour.cls yX6_bestHour yX6_bestHour ∈ wsL_law := ⟨wi_X6_bestHour, ws_X6_bestHour⟩
theorem my_X6_bestOf : kMy yX6_bestOf cX6_bestOf 6 (some .int) 1 := ⟨wn_X6, wc_X6_bestOf, by decide +kernel, by decide +kernel, by decide +kernel⟩
theorem mv_X6_bestOf : Cond.instanceMethod yX6_bestOf ∈ wsL_law ∧ Cond.selects yX6_bestOf.cls yX6_bestOf yX6_bestOf ∈ wsL_law := ⟨wi_X6_bestOf, ws_X6_bestOf⟩
theorem my_X5_ifClosed : kMy yX5_ifClosed cX5_ifClosed 3 (some .int) 1 := ⟨wn_X5, wc_X5_ifClosed, by decide +kernel, by decide +kernel, by decide +kernel⟩
theorem mv_X5_ifClosed : Cond.instanceMethod yX5_ifClosed ∈ wsL_law ∧ Cond.selects yX5_ifClosed.cls yX5_ifClosed yX5_ifClosed ∈ wsL_law := ⟨wi_X5_ifClosed, ws_X5_ifClosed⟩
theorem my_X6_ifClosed : kMy yX6_ifClosed cX6_ifClosed 3 (some .int) 1 := ⟨wn_X6, wc_X6_ifClosed, by decide +kernel, by decide +kernel, by decide +kernel⟩
theorem mv_X6_ifClosed : Cond.instanceMethod yX6_ifClosed ∈ wsL_law ∧ Cond.selects yX6_ifClosed.cls yX6_ifClosed yX6_ifClosed ∈ wsL_law := ⟨wi_X6_ifClosed, ws_X6_ifClosed⟩
theorem my_X5_worth : kMy yX5_worth cX5_worth 5 (some .long) 0 := ⟨wn_X5, wc_X5_worth, by decide +kernel, by decide +kernel, by decide +kernel⟩
theorem mv_X5_worth : Cond.instanceMethod yX5_worth ∈ wsL_law ∧ Cond.selects yX5_worth.cls yX5_worth yX5_worth ∈ wsL_law := ⟨wi_X5_worth, ws_X5_worth⟩
theorem my_X6_worth : kMy yX6_worth cX6_worth 1 (some .long) 0 := ⟨wn_X6, wc_X6_worth, by decide +kernel, by decide +kernel, by decide +kernel⟩
theorem mv_X6_worth : Cond.instanceMethod yX6_worth ∈ wsL_law ∧ Cond.selects yX6_worth.cls yX6_worth yX6_worth ∈ wsL_law := ⟨wi_X6_worth, ws_X6_worth⟩
theorem my_X6_allWorth : kMy yX6_allWorth cX6_allWorth 4 (some .long) 0 := ⟨wn_X6, wc_X6_allWorth, by decide +kernel, by decide +kernel, by decide +kernel⟩
theorem mv_X6_allWorth : Cond.instanceMethod yX6_allWorth ∈ wsL_law ∧ Cond.selects yX6_allWorth.cls yX6_allWorth yX6_allWorth ∈ wsL_law := ⟨wi_X6_allWorth, ws_X6_allWorth⟩
theorem my_X5_type : kMy yX5_type cX5_type 2 (some .int) 1 := ⟨wn_X5, wc_X5_type, by decide +kernel, by decide +kernel, by decide +kernel⟩
theorem mv_X5_type : Cond.instanceMethod yX5_type ∈ wsL_law ∧ Cond.selects yX5_type.cls yX5_type yX5_type ∈ wsL_law := ⟨wi_X5_type, ws_X5_type⟩
theorem my_X0_append : kMy yX0_append cX0_append 2 none 1 := ⟨wn_X0, wc_X0_append, by decide +kernel, by decide +kernel, by decide +kernel⟩
theorem mv_X0_append : Cond.instanceMethod yX0_append ∈ wsL_law ∧ Cond.selects yX0_append.cls yX0_append yX0_append ∈ wsL_law := ⟨wi_X0_append, ws_X0_append⟩
theorem my_X6_type : kMy yX6_type cX6_type 2 (some .int) 1 := ⟨wn_X6, wc_X6_type, by decide +kernel, by decide +kernel, by decide +kernel⟩
theorem mv_X6_type : Cond.instanceMethod yX6_type ∈ wsL_law ∧ Cond.selects yX6_type.cls yX6_type yX6_type ∈ wsL_law := ⟨wi_X6_type, ws_X6_type⟩
theorem my_X5_clearText : kMy yX5_clearText cX5_clearText 2 (some .int) 0 := ⟨wn_X5, wc_X5_clearText, by decide +kernel, by decide +kernel, by decide +kernel⟩
theorem mv_X5_clearText : Cond.instanceMethod yX5_clearText ∈ wsL_law ∧ Cond.selects yX5_clearText.cls yX5_clearText yX5_clearText ∈ wsL_law := ⟨wi_X5_clearText, ws_X5_clearText⟩
theorem my_X6_clearText : kMy yX6_clearText cX6_clearText 2 (some .int) 0 := ⟨wn_X6, wc_X6_clearText, by decide +kernel, by decide +kernel, by decide +kernel⟩
theorem mv_X6_clearText : Cond.instanceMethod yX6_clearText ∈ wsL_law ∧ Cond.selects yX6_clearText.cls yX6_clearText yX6_clearText ∈ wsL_law := ⟨wi_X6_clearText, ws_X6_clearText⟩
theorem my_X5_syntaxError : kMy yX5_syntaxError cX5_syntaxError 1 (some .int) 0 := ⟨wn_X5, wc_X5_syntaxError, by decide +kernel, by decide +kernel, by decide +kernel⟩
theorem mv_X5_syntaxError : Cond.instanceMethod yX5_syntaxError ∈ wsL_law ∧ Cond.selects yX5_syntaxError.cls yX5_syntaxError yX5_syntaxError ∈ wsL_law := ⟨wi_X5_syntaxError, ws_X5_syntaxError⟩
theorem my_X0_firstError : kMy yX0_firstError cX0_firstError 2 (some .int) 0 := ⟨wn_X0, wc_X0_firstError, by decide +kernel, by decide +kernel, by decide +kernel⟩
theorem mv_X0_firstError : Cond.instanceMethod yX0_firstError ∈ wsL_law ∧ Cond.selects yX0_firstError.cls yX0_firstError yX0_firstError ∈ wsL_law := ⟨wi_X0_firstError, ws_X0_firstError⟩
theorem my_X0_startReading : kMy yX0_startReading cX0_startReading 1 none 0 := ⟨wn_X0, wc_X0_startReading, by decide +kernel, by decide +kernel, by decide +kernel⟩
theorem mv_X0_startReading : Cond.instanceMethod yX0_startReading ∈ wsL_law ∧ Cond.selects yX0_startReading.cls yX0_startReading yX0_startReading ∈ wsL_law := ⟨wi_X0_startReading, ws_X0_startReading⟩
theorem my_X0_readItem : kMy yX0_readItem cX0_readItem 1 (some .boolean) 0 := ⟨wn_X0, wc_X0_readItem, by decide +kernel, by decide +kernel, by decide +kernel⟩
theorem mv_X0_readItem : Cond.instanceMethod yX0_readItem ∈ wsL_law ∧ Cond.selects yX0_readItem.cls yX0_readItem yX0_readItem ∈ wsL_law := ⟨wi_X0_readItem, ws_X0_readItem⟩
theorem my_X0_readNumber : kMy yX0_readNumber cX0_readNumber 5 (some .int) 2 := ⟨wn_X0, wc_X0_readNumber, by decide +kernel, by decide +kernel, by decide +kernel⟩
theorem mv_X0_readNumber : Cond.instanceMethod yX0_readNumber ∈ wsL_law ∧ Cond.selects yX0_readNumber.cls yX0_readNumber yX0_readNumber ∈ wsL_law := ⟨wi_X0_readNumber, ws_X0_readNumber⟩
theorem my_X0_digitHere : kMy yX0_digitHere cX0_digitHere 2 (some .int) 0 := ⟨wn_X0, wc_X0_digitHere, by decide +kernel, by decide +kernel, by decide +kernel⟩
theorem mv_X0_digitHere : Cond.instanceMethod yX0_digitHere ∈ wsL_law ∧ Cond.selects yX0_digitHere.cls yX0_digitHere yX0_digitHere ∈ wsL_law := ⟨wi_X0_digitHere, ws_X0_digitHere⟩
theorem my_X0_skipSign : kMy yX0_skipSign cX0_skipSign 2 (some .boolean) 1 := ⟨wn_X0, wc_X0_skipSign, by decide +kernel, by decide +kernel, by decide +kernel⟩
theorem mv_X0_skipSign : Cond.instanceMethod yX0_skipSign ∈ wsL_law ∧ Cond.selects yX0_skipSign.cls yX0_skipSign yX0_skipSign ∈ wsL_law := ⟨wi_X0_skipSign, ws_X0_skipSign⟩
theorem my_X6_syntaxError : kMy yX6_syntaxError cX6_syntaxError 1 (some .int) 0 := ⟨wn_X6, wc_X6_syntaxError, by decide +kernel, by decide +kernel, by decide +kernel⟩
theorem mv_X6_syntaxError : Cond.instanceMethod yX6_syntaxError ∈ wsL_law ∧ Cond.selects yX6_syntaxError.cls yX6_syntaxError yX6_syntaxError ∈ wsL_law := ⟨wi_X6_syntaxError, ws_X6_syntaxError⟩
theorem my_X6_findError : kMy yX6_findError cX6_findError 1 (some .int) 0 := ⟨wn_X6, wc_X6_findError, by decide +kernel, by decide +kernel, by decide +kernel⟩
theorem mv_X6_findError : Cond.instanceMethod yX6_findError ∈ wsL_law ∧ Cond.selects yX6_findError.cls yX6_findError yX6_findError ∈ wsL_law := ⟨wi_X6_findError, ws_X6_findError⟩
theorem my_X6_readsItem : kMy yX6_readsItem cX6_readsItem 2 (some .boolean) 0 := ⟨wn_X6, wc_X6_readsItem, by decide +kernel, by decide +kernel, by decide +kernel⟩
theorem mv_X6_readsItem : Cond.instanceMethod yX6_readsItem ∈ wsL_law ∧ Cond.selects yX6_readsItem.cls yX6_readsItem yX6_readsItem ∈ wsL_law := ⟨wi_X6_readsItem, ws_X6_readsItem⟩
theorem my_X6_readsDigit : kMy yX6_readsDigit cX6_readsDigit 4 (some .boolean) 2 := ⟨wn_X6, wc_X6_readsDigit, by decide +kernel, by decide +kernel, by decide +kernel⟩
theorem mv_X6_readsDigit : Cond.instanceMethod yX6_readsDigit ∈ wsL_law ∧ Cond.selects yX6_readsDigit.cls yX6_readsDigit yX6_readsDigit ∈ wsL_law := ⟨wi_X6_readsDigit, ws_X6_readsDigit⟩
theorem my_X6_character : kMy yX6_character cX6_character 2 (some .int) 1 := ⟨wn_X6, wc_X6_character, by decide +kernel, by decide +kernel, by decide +kernel⟩
theorem mv_X6_character : Cond.instanceMethod yX6_character ∈ wsL_law ∧ Cond.selects yX6_character.cls yX6_character yX6_character ∈ wsL_law := ⟨wi_X6_character, ws_X6_character⟩
theorem my_X6_isNext : kMy yX6_isNext cX6_isNext 3 (some .boolean) 1 := ⟨wn_X6, wc_X6_isNext, by decide +kernel, by decide +kernel, by decide +kernel⟩
theorem mv_X6_isNext : Cond.instanceMethod yX6_isNext ∈ wsL_law ∧ Cond.selects yX6_isNext.cls yX6_isNext yX6_isNext ∈ wsL_law := ⟨wi_X6_isNext, ws_X6_isNext⟩
theorem my_X6_readsNumber : kMy yX6_readsNumber cX6_readsNumber 5 (some .boolean) 2 := ⟨wn_X6, wc_X6_readsNumber, by decide +kernel, by decide +kernel, by decide +kernel⟩
theorem mv_X6_readsNumber : Cond.instanceMethod yX6_readsNumber ∈ wsL_law ∧ Cond.selects yX6_readsNumber.cls yX6_readsNumber yX6_readsNumber ∈ wsL_law := ⟨wi_X6_readsNumber, ws_X6_readsNumber⟩
theorem my_X5_deliverAll : kMy yX5_deliverAll cX5_deliverAll 2 (some .int) 0 := ⟨wn_X5, wc_X5_deliverAll, by decide +kernel, by decide +kernel, by decide +kernel⟩
theorem mv_X5_deliverAll : Cond.instanceMethod yX5_deliverAll ∈ wsL_law ∧ Cond.selects yX5_deliverAll.cls yX5_deliverAll yX5_deliverAll ∈ wsL_law := ⟨wi_X5_deliverAll, ws_X5_deliverAll⟩
theorem my_X6_deliverAll : kMy yX6_deliverAll cX6_deliverAll 3 (some .int) 0 := ⟨wn_X6, wc_X6_deliverAll, by decide +kernel, by decide +kernel, by decide +kernel⟩
theorem mv_X6_deliverAll : Cond.instanceMethod yX6_deliverAll ∈ wsL_law ∧ Cond.selects yX6_deliverAll.cls yX6_deliverAll yX6_deliverAll ∈ wsL_law := ⟨wi_X6_deliverAll, ws_X6_deliverAll⟩
theorem my_X5_undo : kMy yX5_undo cX5_undo 1 (some .int) 0 := ⟨wn_X5, wc_X5_undo, by decide +kernel, by decide +kernel, by decide +kernel⟩
theorem mv_X5_undo : Cond.instanceMethod yX5_undo ∈ wsL_law ∧ Cond.selects yX5_undo.cls yX5_undo yX5_undo ∈ wsL_law := ⟨wi_X5_undo, ws_X5_undo⟩
theorem my_X2_restore : kMy yX2_restore cX2_restore 2 none 1 := ⟨wn_X2, wc_X2_restore, by decide +kernel, by decide +kernel, by decide +kernel⟩
theorem mv_X2_restore : Cond.instanceMethod yX2_restore ∈ wsL_law ∧ Cond.selects yX2_restore.cls yX2_restore yX2_restore ∈ wsL_law := ⟨wi_X2_restore, ws_X2_restore⟩
theorem my_X6_undo : kMy yX6_undo cX6_undo 1 (some .int) 0 := ⟨wn_X6, wc_X6_undo, by decide +kernel, by decide +kernel, by decide +kernel⟩
theorem mv_X6_undo : Cond.instanceMethod yX6_undo ∈ wsL_law ∧ Cond.selects yX6_undo.cls yX6_undo yX6_undo ∈ wsL_law := ⟨wi_X6_undo, ws_X6_undo⟩
theorem my_X5_digest : kMy yX5_digest cX5_digest 5 (some .long) 0 := ⟨wn_X5, wc_X5_digest, by decide +kernel, by decide +kernel, by decide +kernel⟩
theorem mv_X5_digest : Cond.instanceMethod yX5_digest ∈ wsL_law ∧ Cond.selects yX5_digest.cls yX5_digest yX5_digest ∈ wsL_law := ⟨wi_X5_digest, ws_X5_digest⟩
theorem my_X5_mixed : kMy yX5_mixed cX5_mixed 4 (some .long) 2 := ⟨wn_X5, wc_X5_mixed, by decide +kernel, by decide +kernel, by decide +kernel⟩
theorem my_X5_mixedWithLot : kMy yX5_mixedWithLot cX5_mixedWithLot 7 (some .long) 2 := ⟨wn_X5, wc_X5_mixedWithLot, by decide +kernel, by decide +kernel, by decide +kernel⟩
theorem mv_X5_mixedWithLot : Cond.instanceMethod yX5_mixedWithLot ∈ wsL_law ∧ Cond.selects yX5_mixedWithLot.cls yX5_mixedWithLot yX5_mixedWithLot ∈ wsL_law := ⟨wi_X5_mixedWithLot, ws_X5_mixedWithLot⟩
theorem my_X5_mixedWithPlaces : kMy yX5_mixedWithPlaces cX5_mixedWithPlaces 7 (some .long) 1 := ⟨wn_X5, wc_X5_mixedWithPlaces, by decide +kernel, by decide +kernel, by decide +kernel⟩
theorem mv_X5_mixedWithPlaces : Cond.instanceMethod yX5_mixedWithPlaces ∈ wsL_law ∧ Cond.selects yX5_mixedWithPlaces.cls yX5_mixedWithPlaces yX5_mixedWithPlaces ∈ wsL_law := ⟨wi_X5_mixedWithPlaces, ws_X5_mixedWithPlaces⟩
theorem my_X6_digest : kMy yX6_digest cX6_digest 5 (some .long) 0 := ⟨wn_X6, wc_X6_digest, by decide +kernel, by decide +kernel, by decide +kernel⟩
theorem mv_X6_digest : Cond.instanceMethod yX6_digest ∈ wsL_law ∧ Cond.selects yX6_digest.cls yX6_digest yX6_digest ∈ wsL_law := ⟨wi_X6_digest, ws_X6_digest⟩
theorem cib_m6 : (Int8.ofInt (-6)).toInt32 = (-6) := by decide +kernel
theorem cib_m5 : (Int8.ofInt (-5)).toInt32 = (-5) := by decide +kernel
theorem cib_m4 : (Int8.ofInt (-4)).toInt32 = (-4) := by decide +kernel
theorem cib_m3 : (Int8.ofInt (-3)).toInt32 = (-3) := by decide +kernel
theorem cib_m2 : (Int8.ofInt (-2)).toInt32 = (-2) := by decide +kernel
theorem cib_6 : (Int8.ofInt (6)).toInt32 = nI 6 := by decide +kernel
theorem cib_7 : (Int8.ofInt (7)).toInt32 = nI 7 := by decide +kernel
theorem cib_8 : (Int8.ofInt (8)).toInt32 = nI 8 := by decide +kernel
theorem cib_9 : (Int8.ofInt (9)).toInt32 = nI 9 := by decide +kernel
theorem cib_10 : (Int8.ofInt (10)).toInt32 = nI 10 := by decide +kernel
theorem cib_11 : (Int8.ofInt (11)).toInt32 = nI 11 := by decide +kernel
theorem cib_16 : (Int8.ofInt (16)).toInt32 = nI 16 := by decide +kernel
theorem cib_17 : (Int8.ofInt (17)).toInt32 = nI 17 := by decide +kernel
theorem cib_23 : (Int8.ofInt (23)).toInt32 = nI 23 := by decide +kernel
theorem cib_30 : (Int8.ofInt (30)).toInt32 = nI 30 := by decide +kernel
theorem cib_31 : (Int8.ofInt (31)).toInt32 = nI 31 := by decide +kernel
theorem cib_33 : (Int8.ofInt (33)).toInt32 = nI 33 := by decide +kernel
theorem cib_34 : (Int8.ofInt (34)).toInt32 = nI 34 := by decide +kernel
theorem cib_40 : (Int8.ofInt (40)).toInt32 = nI 40 := by decide +kernel
theorem cib_45 : (Int8.ofInt (45)).toInt32 = nI 45 := by decide +kernel
theorem cib_47 : (Int8.ofInt (47)).toInt32 = nI 47 := by decide +kernel
theorem cib_48 : (Int8.ofInt (48)).toInt32 = nI 48 := by decide +kernel
theorem cib_50 : (Int8.ofInt (50)).toInt32 = nI 50 := by decide +kernel
theorem cib_57 : (Int8.ofInt (57)).toInt32 = nI 57 := by decide +kernel
theorem cib_58 : (Int8.ofInt (58)).toInt32 = nI 58 := by decide +kernel
theorem cib_59 : (Int8.ofInt (59)).toInt32 = nI 59 := by decide +kernel
theorem cib_64 : (Int8.ofInt (64)).toInt32 = nI 64 := by decide +kernel
theorem cib_80 : (Int8.ofInt (80)).toInt32 = nI 80 := by decide +kernel
theorem cib_90 : (Int8.ofInt (90)).toInt32 = nI 90 := by decide +kernel
theorem cib_100 : (Int8.ofInt (100)).toInt32 = nI 100 := by decide +kernel
theorem cib_125 : (Int8.ofInt (125)).toInt32 = nI 125 := by decide +kernel
theorem cib_126 : (Int8.ofInt (126)).toInt32 = nI 126 := by decide +kernel
theorem cii_m1 : Int32.ofInt (-1) = (-1) := by decide +kernel
theorem cii_0 : Int32.ofInt (0) = nI 0 := by decide +kernel
theorem cii_1 : Int32.ofInt (1) = nI 1 := by decide +kernel
theorem cii_2 : Int32.ofInt (2) = nI 2 := by decide +kernel
theorem cii_3 : Int32.ofInt (3) = nI 3 := by decide +kernel
theorem cii_4 : Int32.ofInt (4) = nI 4 := by decide +kernel
theorem cii_5 : Int32.ofInt (5) = nI 5 := by decide +kernel
theorem cis_200 : (Int16.ofInt (200)).toInt32 = nI 200 := by decide +kernel
theorem cis_400 : (Int16.ofInt (400)).toInt32 = nI 400 := by decide +kernel
theorem cis_500 : (Int16.ofInt (500)).toInt32 = nI 500 := by decide +kernel
theorem cis_625 : (Int16.ofInt (625)).toInt32 = nI 625 := by decide +kernel
theorem cis_750 : (Int16.ofInt (750)).toInt32 = nI 750 := by decide +kernel
theorem cis_999 : (Int16.ofInt (999)).toInt32 = nI 999 := by decide +kernel
theorem cis_1000 : (Int16.ofInt (1000)).toInt32 = nI 1000 := by decide +kernel
theorem cis_5000 : (Int16.ofInt (5000)).toInt32 = nI 5000 := by decide +kernel
theorem cis_9999 : (Int16.ofInt (9999)).toInt32 = nI 9999 := by decide +kernel
theorem cis_19999 : (Int16.ofInt (19999)).toInt32 = nI 19999 := by decide +kernel
theorem cis_20000 : (Int16.ofInt (20000)).toInt32 = nI 20000 := by decide +kernel
theorem inc_m1 (x : Nat) : nI (x + 1) + Int32.ofInt (-1) = nI x := by rw [show Int32.ofInt (-1) = -nI 1 from by decide +kernel, ← nI_add, ← Int32.sub_eq_add_neg]; exact Int32.add_sub_cancel _ _
theorem inc_1 (x : Nat) : nI x + Int32.ofInt (1) = nI (x + 1) := by rw [show Int32.ofInt (1) = nI 1 from by decide +kernel, nI_add]
theorem inc_5 (x : Nat) : nI x + Int32.ofInt (5) = nI (x + 5) := by rw [show Int32.ofInt (5) = nI 5 from by decide +kernel, nI_add]
end
section
/-! THE LAYER: a system's cells lie at b, b+1, ..; a state is three tables of values (ints, longs, references as offsets from b), the cells' kinds are a list sh. K: the machine at a row of code, with the state, the locals, the stack. Ct: a method's contract. -/
abbrev KS : Type := (Nat → Nat → Int32) × (Nat → Nat → Int64) × (Nat → Nat → Option Nat)
abbrev KSh : Type := Nat ⊕ (FieldType × Nat)
abbrev KD : Type := (Nat → ClassId) × (Nat → Nat → Nat) × (FieldType → ClassId)
def rf (b a : Nat) : Value := .ref (b + a)
def kv (b : Nat) (ty : FieldType) (σ : KS) (a k : Nat) : Value := match ty with
  | .long => .long (σ.2.1 a k)
  | .object _ => va_rf ((σ.2.2 a k).map (fun z => b + z))
  | .array _ => va_rf ((σ.2.2 a k).map (fun z => b + z))
  | _ => .int (σ.1 a k)
def kTy (ci : Nat) : Nat → FieldType := match ci with
  | 0 => tyX0
  | 1 => tyX1
  | 2 => tyX2
  | 3 => tyX3
  | 4 => tyX4
  | 5 => tyX5
  | _ => tyX6
def kat (D : KD) (b : Nat) (σ : KS) (a : Nat) (q : KSh) (H : Heap) : Prop := match q with
  | .inl ci => ∃ r : vw_C, vwCl[ci]? = some r ∧ t_OB (b + a) (D.1 ci) r.2.2 (D.2.1 ci) H (fun k => kv b (kTy ci k) σ a k)
  | .inr x => H[b + a]? = some (arrV (D.2.2 x.1) x.2 (fun k => kv b x.1 σ a k))
def KRep (D : KD) (b : Nat) (sh : List KSh) (σ : KS) (H : Heap) : Prop := H.size = b + sh.length ∧ ∀ (a : Nat) (q : KSh), sh[a]? = some q → kat D b σ a q H
def kTys : List FieldType := [.int, .char, .object "FishCounter$Lot", .object "FishCounter$Shop"]
/-- the private members of nest mates that are called: class, entry, method, host -/
def kNest : List (String × Nat × MethodName × String) := [(RX4, 40, yX3_init, RX5), (RX5, 21, yX1_init, RX5), (RX5, 35, yX0_init, RX5), (RX4, 126, yX5_moneyFor, RX5), (RX4, 112, yX5_isTray, RX5), (RX4, 116, yX5_isBox, RX5), (RX4, 162, yX5_freshAnHourLater, RX5), (RX4, 166, yX5_iceAnHourLater, RX5), (RX1, 37, yX5_freshAnHourLater, RX5), (RX1, 43, yX5_iceAnHourLater, RX5), (RX0, 53, yX5_within, RX5)]
def KK (D : KD) (U : State) : Prop := (∀ (ci : Nat) (r : vw_C), vwCl[ci]? = some r → u_Kn U r.1 r.2.1 r.2.2 (D.1 ci) (D.2.1 ci)) ∧ (∀ ty, ty ∈ kTys → ArrOfT U (D.2.2 ty) ty ∧ va_RA U (D.2.2 ty) ty) ∧ (∀ q, q ∈ kNest → va_Nw (.methodLinkNest q.1 q.2.1 q.2.2.1 q.2.2.2) U) ∧ va_AO "FishCounter$Lot" U ∧ va_AO "FishCounter$Shop" U
theorem KK.warm {D : KD} {u U : State} (hW : u.WarmedH U.vm) (h : KK D u) : KK D U := ⟨fun c q hq => u_Kn_moved hW.alike (h.1 c q hq), fun ty hk => ⟨arrOfT_moved hW.alike (h.2.1 ty hk).1, (h.2.1 ty hk).2.moved hW.alike⟩, fun q hq => va_Nw.warmM hW (h.2.2.1 q hq), va_AO.moved hW.alike h.2.2.2.1, va_AO.moved hW.alike h.2.2.2.2⟩
theorem KK.same {D : KD} {u U : State} (hvm : u.vm = U.vm) (h : KK D u) : KK D U := by
  have hA : u.vm.Alike U.vm := by rw [hvm]; exact Vm.Alike.refl _
  exact ⟨fun c q hq => u_Kn_moved hA (h.1 c q hq), fun ty hk => ⟨arrOfT_moved hA (h.2.1 ty hk).1, (h.2.1 ty hk).2.moved hA⟩, fun q hq => va_Nw.same rfl hvm (h.2.2.1 q hq), va_AO.moved hA h.2.2.2.1, va_AO.moved hA h.2.2.2.2⟩
/-- the class table's facts that putfield wants -/
def kFd (ci : Nat) : Prop := ∀ r : vw_C, vwCl[ci]? = some r → (∀ w ∈ u_ws r.1 r.2.1 r.2.2, w ∈ wsL_law) ∧ (∀ k, k < r.2.2 → parseFieldDescriptor (r.2.1 k).2.2.1 = some (kTy ci k)) ∧ (∀ a, a < r.2.2 → ∀ b, b < r.2.2 → a ≠ b → (r.2.1 a).2.1 ≠ (r.2.1 b).2.1)
theorem kFd0 : kFd 0 := by intro r hr; cases hr; exact ⟨ilX0, tyX0_ok, nmX0⟩
theorem kFd1 : kFd 1 := by intro r hr; cases hr; exact ⟨ilX1, tyX1_ok, nmX1⟩
theorem kFd2 : kFd 2 := by intro r hr; cases hr; exact ⟨ilX2, tyX2_ok, nmX2⟩
theorem kFd3 : kFd 3 := by intro r hr; cases hr; exact ⟨ilX3, tyX3_ok, nmX3⟩
theorem kFd4 : kFd 4 := by intro r hr; cases hr; exact ⟨ilX4, tyX4_ok, nmX4⟩
theorem kFd5 : kFd 5 := by intro r hr; cases hr; exact ⟨ilX5, tyX5_ok, nmX5⟩
theorem kFd6 : kFd 6 := by intro r hr; cases hr; exact ⟨ilX6, tyX6_ok, nmX6⟩
/-- a row of the state put anew -/
def wI (σ : KS) (a : Nat) (f : Nat → Int32) : KS := (fun x => if x = a then f else σ.1 x, σ.2.1, σ.2.2)
def wL (σ : KS) (a : Nat) (f : Nat → Int64) : KS := (σ.1, fun x => if x = a then f else σ.2.1 x, σ.2.2)
def wP (σ : KS) (a : Nat) (f : Nat → Option Nat) : KS := (σ.1, σ.2.1, fun x => if x = a then f else σ.2.2 x)
theorem wI_self {σ : KS} {a : Nat} {f : Nat → Int32} : (wI σ a f).1 a = f := if_pos rfl
theorem wI_ne {σ : KS} {a x : Nat} {f : Nat → Int32} (h : x ≠ a) : (wI σ a f).1 x = σ.1 x := if_neg h
theorem wI_L {σ : KS} {a : Nat} {f : Nat → Int32} : (wI σ a f).2.1 = σ.2.1 := rfl
theorem wI_P {σ : KS} {a : Nat} {f : Nat → Int32} : (wI σ a f).2.2 = σ.2.2 := rfl
theorem wL_self {σ : KS} {a : Nat} {f : Nat → Int64} : (wL σ a f).2.1 a = f := if_pos rfl
theorem wL_ne {σ : KS} {a x : Nat} {f : Nat → Int64} (h : x ≠ a) : (wL σ a f).2.1 x = σ.2.1 x := if_neg h
theorem wL_I {σ : KS} {a : Nat} {f : Nat → Int64} : (wL σ a f).1 = σ.1 := rfl
theorem wL_P {σ : KS} {a : Nat} {f : Nat → Int64} : (wL σ a f).2.2 = σ.2.2 := rfl
theorem wP_self {σ : KS} {a : Nat} {f : Nat → Option Nat} : (wP σ a f).2.2 a = f := if_pos rfl
theorem wP_ne {σ : KS} {a x : Nat} {f : Nat → Option Nat} (h : x ≠ a) : (wP σ a f).2.2 x = σ.2.2 x := if_neg h
theorem wP_I {σ : KS} {a : Nat} {f : Nat → Option Nat} : (wP σ a f).1 = σ.1 := rfl
theorem wP_L {σ : KS} {a : Nat} {f : Nat → Option Nat} : (wP σ a f).2.1 = σ.2.1 := rfl
theorem wI_wI {σ : KS} {a : Nat} {f g : Nat → Int32} : wI (wI σ a f) a g = wI σ a g := by
  unfold wI
  simp only [Prod.mk.injEq, and_true]
  funext x
  by_cases h : x = a
  · rw [if_pos h, if_pos h]
  · rw [if_neg h, if_neg h, if_neg h]
theorem wI_id {σ : KS} {a : Nat} {f : Nat → Int32} (h : σ.1 a = f) : wI σ a f = σ := by
  unfold wI
  obtain ⟨i, l, q⟩ := σ
  simp only [Prod.mk.injEq, and_true]
  funext x
  by_cases hx : x = a
  · rw [if_pos hx, hx]; exact h.symm
  · rw [if_neg hx]
theorem wI_comm {σ : KS} {a c : Nat} {f g : Nat → Int32} (h : a ≠ c) : wI (wI σ a f) c g = wI (wI σ c g) a f := by
  unfold wI
  simp only [Prod.mk.injEq, and_true]
  funext x
  by_cases h1 : x = a
  · by_cases h2 : x = c
    · exact absurd (h1.symm.trans h2) h
    · rw [if_neg h2, if_pos h1, if_pos h1]
  · by_cases h2 : x = c
    · rw [if_pos h2, if_neg h1, if_pos h2]
    · rw [if_neg h2, if_neg h1, if_neg h1, if_neg h2]
/-- a state whose other cells are the old ones -/
theorem KRep.put {D : KD} {b : Nat} {sh : List KSh} {σ σ' : KS} {H H' : Heap} {a : Nat} {q : KSh} (h : KRep D b sh σ H) (hq : sh[a]? = some q) (hz : H'.size = H.size) (ho : ∀ x, x ≠ b + a → H'[x]? = H[x]?) (hn : kat D b σ' a q H') (hs : ∀ x, x ≠ a → σ'.1 x = σ.1 x ∧ σ'.2.1 x = σ.2.1 x ∧ σ'.2.2 x = σ.2.2 x) : KRep D b sh σ' H' := by
  refine ⟨hz.trans h.1, fun x qx hx => ?_⟩
  by_cases hxa : x = a
  · subst hxa
    rw [hq] at hx
    cases hx
    exact hn
  · have h1 := h.2 x qx hx
    have hh : H'[b + x]? = H[b + x]? := ho _ (fun z => hxa (by omega))
    obtain ⟨e1, e2, e3⟩ := hs x hxa
    have ev : ∀ ty k, kv b ty σ' x k = kv b ty σ x k := by
      intro ty k
      unfold kv
      rw [e1, e2, e3]
    cases qx with
    | inl ci =>
      obtain ⟨r, h2, h3⟩ := h1
      exact ⟨r, h2, (h3.kept hh).to (fun k _ => (ev _ k).symm)⟩
    | inr z =>
      show H'[b + x]? = _
      rw [hh]
      refine Eq.trans (show H[b + x]? = _ from h1) ?_
      congr 2
      funext k
      exact (ev _ k).symm
/-- a state with one cell more -/
theorem KRep.push {D : KD} {b : Nat} {sh : List KSh} {σ σ' : KS} {H H' : Heap} {q : KSh} (h : KRep D b sh σ H) (hz : H'.size = b + sh.length + 1) (ho : ∀ x, x < b + sh.length → H'[x]? = H[x]?) (hn : kat D b σ' sh.length q H') (hs : ∀ x, x < sh.length → σ'.1 x = σ.1 x ∧ σ'.2.1 x = σ.2.1 x ∧ σ'.2.2 x = σ.2.2 x) : KRep D b (sh ++ [q]) σ' H' := by
  refine ⟨by rw [hz, List.length_append]; rfl, fun x qx hx => ?_⟩
  by_cases hl : x < sh.length
  · rw [List.getElem?_append_left hl] at hx
    have h1 := h.2 x qx hx
    have hh : H'[b + x]? = H[b + x]? := ho _ (by omega)
    obtain ⟨e1, e2, e3⟩ := hs x hl
    have ev : ∀ ty k, kv b ty σ' x k = kv b ty σ x k := by
      intro ty k
      unfold kv
      rw [e1, e2, e3]
    cases qx with
    | inl ci =>
      obtain ⟨r, h2, h3⟩ := h1
      exact ⟨r, h2, (h3.kept hh).to (fun k _ => (ev _ k).symm)⟩
    | inr z =>
      show H'[b + x]? = _
      rw [hh]
      refine Eq.trans (show H[b + x]? = _ from h1) ?_
      congr 2
      funext k
      exact (ev _ k).symm
  · rw [List.getElem?_append_right (by omega)] at hx
    have hz2 : x - sh.length < 1 := (List.getElem?_eq_some_iff.mp hx).1
    have hx0 : x = sh.length := by omega
    subst hx0
    rw [Nat.sub_self] at hx
    cases hx
    exact hn
end
section
/-! THE ROWS of the layer -/
def KX (p : Program) (s : State) (m : MethodId) (meth : Method) (c : Code) (args : Array Value) (D : KD) (b : Nat) (cc : ByteArray) (nL : Nat) (ret : Option FieldType) (own : String) : Prop :=
  p.tables.exec = Jvm.exec ∧ c.code = cc ∧ c.maxLocals = nL ∧ s.vm.findClass own = some m.cls ∧ (∀ w ∈ wsL_law, w.before args s = true) ∧ KK D s ∧ meth.sig.returnType = ret ∧ meth.locks = false ∧ b ≤ s.heap.size
def K (p : Program) (l : Launch) (e : Env) (R : Room) (s : State) (m : MethodId) (args : Array Value) (below : List Frame) (meth : Method) (c : Code) (Q : State → Prop) (D : KD) (b nL ca sl : Nat) (sh : List KSh) (σ : KS) (pc : Nat) (ls : List (Nat × Value)) (st : List Value) : Prop :=
  ∀ (H : Heap) (locs : List Loc) (lsA : Array Slot), KRep D b sh σ H → va_S (fun q => b ≤ q) s.heap H locs → lv_has lsA nL ls → W p l e R s m args below meth c H locs ca sl Q (F0 m pc lsA st)
def KQ (below : List Frame) (Post : Option Value → KS → Prop) (D : KD) (b : Nat) (args : Array Value) (s : State) (sh' : List KSh) (mc ms : Nat) : State → Prop :=
  MQ below (fun _ st o t => (∃ r σ', o = .returned r ∧ Post r σ' ∧ KRep D b sh' σ' t.heap) ∧ va_F (fun q => b ≤ q) st t) args s mc ms (fun q => b ≤ q)
/-- a method's contract: from the state σ (cells sh), with the arguments As, it comes back; Post says of answer and state -/
def Ct (l : Launch) (D : KD) (b : Nat) (y : MethodName) (cc : ByteArray) (nL : Nat) (ret : Option FieldType) (rm : Room) (mc ms : Nat) (As : List Value) (sh : List KSh) (σ : KS) (sh' : List KSh) (Post : Option Value → KS → Prop) : Prop :=
  Met l y (Cond.code y cc nL ret :: wsL_law) rm (va_Pc As (fun U => KRep D b sh σ U.heap ∧ KK D U)) (fun _ st o t => (∃ r σ', o = .returned r ∧ Post r σ' ∧ KRep D b sh' σ' t.heap) ∧ va_F (fun q => b ≤ q) st t) mc ms (fun q => b ≤ q)
/-- an answer and a state that are known -/
def pE (r : Option Value) (σ : KS) : Option Value → KS → Prop := fun r1 σ1 => r1 = r ∧ σ1 = σ
/-- an answer that is known, and what holds of the state -/
def pS (r : Option Value) (φ : KS → Prop) : Option Value → KS → Prop := fun r1 σ1 => r1 = r ∧ φ σ1
theorem pE.mk {r : Option Value} {σ : KS} : pE r σ r σ := ⟨rfl, rfl⟩
theorem Ct.of {l : Launch} {D : KD} {b : Nat} {y : MethodName} {cc : ByteArray} {nL : Nat} {ret : Option FieldType} {rm : Room} {mc ms : Nat} {As : List Value} {sh sh' : List KSh} {σ : KS} {Post : Option Value → KS → Prop} {ls : List (Nat × Value)} (hy : plainName y.cls = true) (hn : (lg_sl As).length ≤ nL) (hls : lv_args 0 As = ls)
    (body : ∀ p e s m args below meth c Q, Q = KQ below Post D b args s sh' mc ms → KX p s m meth c args D b cc nL ret y.cls → meth.name = y.name → K p l e rm s m args below meth c Q D b nL 0 0 sh σ 0 ls []) : Ct l D b y cc nL ret rm mc ms As sh σ sh' Post := by
  refine Met.ofW (cc := cc) (maxL := nL) (ret := ret) hy rfl ?_
  intro p e s m args below meth c s₁ B hml hv
  obtain ⟨rfl, hR, hK⟩ := hv
  have hts := atoms_spec (ws := Cond.code y cc nL ret :: wsL_law) B.pre
  have hown : s.vm.findClass y.cls = some m.cls := findClass_of_methodNamed B.named
  have hl := lv_entry As (n := nL) hn
  rw [hls] at hl
  have h := body p e s m As.toArray below meth c _ rfl ⟨B.exec, B.bytes, hml, hown, fun w h => hts w (List.mem_cons_of_mem _ h), hK, B.returns, B.notSynchronized, by rw [hR.1]; omega⟩ (name_of_methodNamed B.named B.method).1
  rw [lg_entry_eq]
  exact h s.heap [] _ hR va_S.rf hl
section KROWS
variable {p : Program} {l : Launch} {e : Env} {R : Room} {s : State} {m : MethodId} {args : Array Value} {below : List Frame} {meth : Method} {c : Code} {Q : State → Prop} {D : KD} {b nL ca sl : Nat} {sh : List KSh} {σ : KS} {pc : Nat} {ls : List (Nat × Value)} {st : List Value} {cc : ByteArray} {ret : Option FieldType} {own : String}
theorem K_eq {st' : List Value} (h : st = st') (k : K p l e R s m args below meth c Q D b nL ca sl sh σ pc ls st') : K p l e R s m args below meth c Q D b nL ca sl sh σ pc ls st := h ▸ k
theorem K_st {σ' : KS} (h : σ = σ') (k : K p l e R s m args below meth c Q D b nL ca sl sh σ' pc ls st) : K p l e R s m args below meth c Q D b nL ca sl sh σ pc ls st := h ▸ k
theorem K_sub {ls' : List (Nat × Value)} (ks : List Nat) (h : lv_pick ls ks = ls') (k : K p l e R s m args below meth c Q D b nL ca sl sh σ pc ls' st) : K p l e R s m args below meth c Q D b nL ca sl sh σ pc ls st := fun H locs lsA hR hS hl => k H locs lsA hR hS (lv_sub hl ks h)
theorem K_iconst (X : KX p s m meth c args D b cc nL ret own) {n : Int} {v : Int32} (d : decode cc pc = .ok (.iconst n, 1)) (hv : Int32.ofInt n = v) (k : K p l e R s m args below meth c Q D b nL ca sl sh σ (pc + 1) ls (.int v :: st)) : K p l e R s m args below meth c Q D b nL ca sl sh σ pc ls st := fun H locs lsA hR hS hl => lv_iconst X.1 X.2.1 d hv (k H locs lsA hR hS hl)
theorem K_bipush (X : KX p s m meth c args D b cc nL ret own) {n : Int} {v : Int32} (d : decode cc pc = .ok (.bipush n, 2)) (hv : (Int8.ofInt n).toInt32 = v) (k : K p l e R s m args below meth c Q D b nL ca sl sh σ (pc + 2) ls (.int v :: st)) : K p l e R s m args below meth c Q D b nL ca sl sh σ pc ls st := fun H locs lsA hR hS hl => lv_bipush X.1 X.2.1 d hv (k H locs lsA hR hS hl)
theorem K_sipush (X : KX p s m meth c args D b cc nL ret own) {n : Int} {v : Int32} (d : decode cc pc = .ok (.sipush n, 3)) (hv : (Int16.ofInt n).toInt32 = v) (k : K p l e R s m args below meth c Q D b nL ca sl sh σ (pc + 3) ls (.int v :: st)) : K p l e R s m args below meth c Q D b nL ca sl sh σ pc ls st := fun H locs lsA hR hS hl => lv_sipush X.1 X.2.1 d hv (k H locs lsA hR hS hl)
theorem K_lconst (X : KX p s m meth c args D b cc nL ret own) {n : Fin 2} {v : Int64} (d : decode cc pc = .ok (.lconst n, 1)) (hv : Int64.ofNat (n : Nat) = v) (k : K p l e R s m args below meth c Q D b nL ca sl sh σ (pc + 1) ls (.long v :: st)) : K p l e R s m args below meth c Q D b nL ca sl sh σ pc ls st := fun H locs lsA hR hS hl => lv_lconst X.1 X.2.1 d hv (k H locs lsA hR hS hl)
theorem K_ldc2 (X : KX p s m meth c args D b cc nL ret own) {index : Nat} {v : Int64} (hw : Cond.constantLong own index v ∈ wsL_law) (d : decode cc pc = .ok (.ldc2_w index, 3)) (k : K p l e R s m args below meth c Q D b nL ca sl sh σ (pc + 3) ls (.long v :: st)) : K p l e R s m args below meth c Q D b nL ca sl sh σ pc ls st := fun H locs lsA hR hS hl => lv_ldc2 X.1 X.2.1 X.2.2.2.1 (X.2.2.2.2.1 _ hw) d (k H locs lsA hR hS hl)
theorem K_null (X : KX p s m meth c args D b cc nL ret own) (d : decode cc pc = .ok (.aconst_null, 1)) (k : K p l e R s m args below meth c Q D b nL ca sl sh σ (pc + 1) ls (.null :: st)) : K p l e R s m args below meth c Q D b nL ca sl sh σ pc ls st := fun H locs lsA hR hS hl => lv_null X.1 X.2.1 d (k H locs lsA hR hS hl)
theorem K_iload_n (X : KX p s m meth c args D b cc nL ret own) (j : Nat) {q : Fin 4} {i : Nat} {x : Int32} (d : decode cc pc = .ok (.iload_n q, 1)) (hi : (q : Nat) = i) (h : ls[j]? = some (i, .int x)) (k : K p l e R s m args below meth c Q D b nL ca sl sh σ (pc + 1) ls (.int x :: st)) : K p l e R s m args below meth c Q D b nL ca sl sh σ pc ls st := fun H locs lsA hR hS hl => lv_iload_n X.1 X.2.1 d hi (lv_at hl j h) (k H locs lsA hR hS hl)
theorem K_iload (X : KX p s m meth c args D b cc nL ret own) (j : Nat) {i : Nat} {x : Int32} (d : decode cc pc = .ok (.iload i, 2)) (h : ls[j]? = some (i, .int x)) (k : K p l e R s m args below meth c Q D b nL ca sl sh σ (pc + 2) ls (.int x :: st)) : K p l e R s m args below meth c Q D b nL ca sl sh σ pc ls st := fun H locs lsA hR hS hl => lv_iload X.1 X.2.1 d (lv_at hl j h) (k H locs lsA hR hS hl)
theorem K_lload_n (X : KX p s m meth c args D b cc nL ret own) (j : Nat) {q : Fin 4} {i : Nat} {x : Int64} (d : decode cc pc = .ok (.lload_n q, 1)) (hi : (q : Nat) = i) (h : ls[j]? = some (i, .long x)) (k : K p l e R s m args below meth c Q D b nL ca sl sh σ (pc + 1) ls (.long x :: st)) : K p l e R s m args below meth c Q D b nL ca sl sh σ pc ls st := fun H locs lsA hR hS hl => lv_lload_n X.1 X.2.1 d hi (lv_at hl j h) (k H locs lsA hR hS hl)
theorem K_lload (X : KX p s m meth c args D b cc nL ret own) (j : Nat) {i : Nat} {x : Int64} (d : decode cc pc = .ok (.lload i, 2)) (h : ls[j]? = some (i, .long x)) (k : K p l e R s m args below meth c Q D b nL ca sl sh σ (pc + 2) ls (.long x :: st)) : K p l e R s m args below meth c Q D b nL ca sl sh σ pc ls st := fun H locs lsA hR hS hl => lv_lload X.1 X.2.1 d (lv_at hl j h) (k H locs lsA hR hS hl)
theorem K_aload_n (X : KX p s m meth c args D b cc nL ret own) (j : Nat) {q : Fin 4} {i x : Nat} (d : decode cc pc = .ok (.aload_n q, 1)) (hi : (q : Nat) = i) (h : ls[j]? = some (i, rf b x)) (k : K p l e R s m args below meth c Q D b nL ca sl sh σ (pc + 1) ls (rf b x :: st)) : K p l e R s m args below meth c Q D b nL ca sl sh σ pc ls st := fun H locs lsA hR hS hl => lv_aload_n X.1 X.2.1 d hi (lv_at hl j h) (k H locs lsA hR hS hl)
theorem K_aload (X : KX p s m meth c args D b cc nL ret own) (j : Nat) {i x : Nat} (d : decode cc pc = .ok (.aload i, 2)) (h : ls[j]? = some (i, rf b x)) (k : K p l e R s m args below meth c Q D b nL ca sl sh σ (pc + 2) ls (rf b x :: st)) : K p l e R s m args below meth c Q D b nL ca sl sh σ pc ls st := fun H locs lsA hR hS hl => lv_aload X.1 X.2.1 d (lv_at hl j h) (k H locs lsA hR hS hl)
theorem K_aload_nN (X : KX p s m meth c args D b cc nL ret own) (j : Nat) {q : Fin 4} {i : Nat} (d : decode cc pc = .ok (.aload_n q, 1)) (hi : (q : Nat) = i) (h : ls[j]? = some (i, .null)) (k : K p l e R s m args below meth c Q D b nL ca sl sh σ (pc + 1) ls (.null :: st)) : K p l e R s m args below meth c Q D b nL ca sl sh σ pc ls st := fun H locs lsA hR hS hl => lv_aload_nN X.1 X.2.1 d hi (lv_at hl j h) (k H locs lsA hR hS hl)
theorem K_aloadN (X : KX p s m meth c args D b cc nL ret own) (j : Nat) {i : Nat} (d : decode cc pc = .ok (.aload i, 2)) (h : ls[j]? = some (i, .null)) (k : K p l e R s m args below meth c Q D b nL ca sl sh σ (pc + 2) ls (.null :: st)) : K p l e R s m args below meth c Q D b nL ca sl sh σ pc ls st := fun H locs lsA hR hS hl => lv_aloadN X.1 X.2.1 d (lv_at hl j h) (k H locs lsA hR hS hl)
theorem K_istore_n (X : KX p s m meth c args D b cc nL ret own) {ls' : List (Nat × Value)} {q : Fin 4} {i : Nat} {x : Int32} (d : decode cc pc = .ok (.istore_n q, 1)) (hi : (q : Nat) = i) (hn : i < nL) (hl' : (i, Value.int x) :: ls.filter (fun q => !(q.1 == i) && !(q.1 + 1 == i && q.2.category == 2)) = ls') (k : K p l e R s m args below meth c Q D b nL ca sl sh σ (pc + 1) ls' st) : K p l e R s m args below meth c Q D b nL ca sl sh σ pc ls (.int x :: st) := fun H locs _ hR hS hl => lv_istore_n X.1 X.2.1 d hi hl hn hl' (fun lsB hB => k H locs lsB hR hS hB)
theorem K_istore (X : KX p s m meth c args D b cc nL ret own) {ls' : List (Nat × Value)} {i : Nat} {x : Int32} (d : decode cc pc = .ok (.istore i, 2)) (hn : i < nL) (hl' : (i, Value.int x) :: ls.filter (fun q => !(q.1 == i) && !(q.1 + 1 == i && q.2.category == 2)) = ls') (k : K p l e R s m args below meth c Q D b nL ca sl sh σ (pc + 2) ls' st) : K p l e R s m args below meth c Q D b nL ca sl sh σ pc ls (.int x :: st) := fun H locs _ hR hS hl => lv_istore X.1 X.2.1 d hl hn hl' (fun lsB hB => k H locs lsB hR hS hB)
theorem K_lstore_n (X : KX p s m meth c args D b cc nL ret own) {ls' : List (Nat × Value)} {q : Fin 4} {i : Nat} {x : Int64} (d : decode cc pc = .ok (.lstore_n q, 1)) (hi : (q : Nat) = i) (hn : i + 1 < nL) (hl' : (i, Value.long x) :: ls.filter (fun q => !(q.1 == i) && (!(q.1 == i + 1) && !(q.1 + 1 == i && q.2.category == 2))) = ls') (k : K p l e R s m args below meth c Q D b nL ca sl sh σ (pc + 1) ls' st) : K p l e R s m args below meth c Q D b nL ca sl sh σ pc ls (.long x :: st) := fun H locs _ hR hS hl => lv_lstore_n X.1 X.2.1 d hi hl hn hl' (fun lsB hB => k H locs lsB hR hS hB)
theorem K_lstore (X : KX p s m meth c args D b cc nL ret own) {ls' : List (Nat × Value)} {i : Nat} {x : Int64} (d : decode cc pc = .ok (.lstore i, 2)) (hn : i + 1 < nL) (hl' : (i, Value.long x) :: ls.filter (fun q => !(q.1 == i) && (!(q.1 == i + 1) && !(q.1 + 1 == i && q.2.category == 2))) = ls') (k : K p l e R s m args below meth c Q D b nL ca sl sh σ (pc + 2) ls' st) : K p l e R s m args below meth c Q D b nL ca sl sh σ pc ls (.long x :: st) := fun H locs _ hR hS hl => lv_lstore X.1 X.2.1 d hl hn hl' (fun lsB hB => k H locs lsB hR hS hB)
theorem K_astore_n (X : KX p s m meth c args D b cc nL ret own) {ls' : List (Nat × Value)} {q : Fin 4} {i x : Nat} (d : decode cc pc = .ok (.astore_n q, 1)) (hi : (q : Nat) = i) (hn : i < nL) (hl' : (i, rf b x) :: ls.filter (fun q => !(q.1 == i) && !(q.1 + 1 == i && q.2.category == 2)) = ls') (k : K p l e R s m args below meth c Q D b nL ca sl sh σ (pc + 1) ls' st) : K p l e R s m args below meth c Q D b nL ca sl sh σ pc ls (rf b x :: st) := fun H locs _ hR hS hl => lv_astore_n X.1 X.2.1 d hi hl hn hl' (fun lsB hB => k H locs lsB hR hS hB)
theorem K_astore (X : KX p s m meth c args D b cc nL ret own) {ls' : List (Nat × Value)} {i x : Nat} (d : decode cc pc = .ok (.astore i, 2)) (hn : i < nL) (hl' : (i, rf b x) :: ls.filter (fun q => !(q.1 == i) && !(q.1 + 1 == i && q.2.category == 2)) = ls') (k : K p l e R s m args below meth c Q D b nL ca sl sh σ (pc + 2) ls' st) : K p l e R s m args below meth c Q D b nL ca sl sh σ pc ls (rf b x :: st) := fun H locs _ hR hS hl => lv_astore X.1 X.2.1 d hl hn hl' (fun lsB hB => k H locs lsB hR hS hB)
theorem K_astore_nN (X : KX p s m meth c args D b cc nL ret own) {ls' : List (Nat × Value)} {q : Fin 4} {i : Nat} (d : decode cc pc = .ok (.astore_n q, 1)) (hi : (q : Nat) = i) (hn : i < nL) (hl' : (i, Value.null) :: ls.filter (fun q => !(q.1 == i) && !(q.1 + 1 == i && q.2.category == 2)) = ls') (k : K p l e R s m args below meth c Q D b nL ca sl sh σ (pc + 1) ls' st) : K p l e R s m args below meth c Q D b nL ca sl sh σ pc ls (.null :: st) := fun H locs _ hR hS hl => lv_astore_nN X.1 X.2.1 d hi hl hn hl' (fun lsB hB => k H locs lsB hR hS hB)
theorem K_astoreN (X : KX p s m meth c args D b cc nL ret own) {ls' : List (Nat × Value)} {i : Nat} (d : decode cc pc = .ok (.astore i, 2)) (hn : i < nL) (hl' : (i, Value.null) :: ls.filter (fun q => !(q.1 == i) && !(q.1 + 1 == i && q.2.category == 2)) = ls') (k : K p l e R s m args below meth c Q D b nL ca sl sh σ (pc + 2) ls' st) : K p l e R s m args below meth c Q D b nL ca sl sh σ pc ls (.null :: st) := fun H locs _ hR hS hl => lv_astoreN X.1 X.2.1 d hl hn hl' (fun lsB hB => k H locs lsB hR hS hB)
theorem K_iinc (X : KX p s m meth c args D b cc nL ret own) (j : Nat) {ls' : List (Nat × Value)} {i : Nat} {n : Int} {x v : Int32} (d : decode cc pc = .ok (.iinc i n, 3)) (hj : ls[j]? = some (i, .int x)) (hv : x + Int32.ofInt n = v) (hn : i < nL) (hl' : (i, Value.int v) :: ls.filter (fun q => !(q.1 == i) && !(q.1 + 1 == i && q.2.category == 2)) = ls') (k : K p l e R s m args below meth c Q D b nL ca sl sh σ (pc + 3) ls' st) : K p l e R s m args below meth c Q D b nL ca sl sh σ pc ls st := fun H locs _ hR hS hl => lv_iinc X.1 X.2.1 d hl hj hv hn hl' (fun lsB hB => k H locs lsB hR hS hB)
theorem K_iadd (X : KX p s m meth c args D b cc nL ret own) {x y : Int32} (d : decode cc pc = .ok (.iadd, 1)) (k : K p l e R s m args below meth c Q D b nL ca sl sh σ (pc + 1) ls (.int (x + y) :: st)) : K p l e R s m args below meth c Q D b nL ca sl sh σ pc ls (.int y :: .int x :: st) := fun H locs lsA hR hS hl => lv_iadd X.1 X.2.1 d (k H locs lsA hR hS hl)
theorem K_isub (X : KX p s m meth c args D b cc nL ret own) {x y : Int32} (d : decode cc pc = .ok (.isub, 1)) (k : K p l e R s m args below meth c Q D b nL ca sl sh σ (pc + 1) ls (.int (x - y) :: st)) : K p l e R s m args below meth c Q D b nL ca sl sh σ pc ls (.int y :: .int x :: st) := fun H locs lsA hR hS hl => lv_isub X.1 X.2.1 d (k H locs lsA hR hS hl)
theorem K_imul (X : KX p s m meth c args D b cc nL ret own) {x y : Int32} (d : decode cc pc = .ok (.imul, 1)) (k : K p l e R s m args below meth c Q D b nL ca sl sh σ (pc + 1) ls (.int (x * y) :: st)) : K p l e R s m args below meth c Q D b nL ca sl sh σ pc ls (.int y :: .int x :: st) := fun H locs lsA hR hS hl => lv_imul X.1 X.2.1 d (k H locs lsA hR hS hl)
theorem K_iand (X : KX p s m meth c args D b cc nL ret own) {x y : Int32} (d : decode cc pc = .ok (.iand, 1)) (k : K p l e R s m args below meth c Q D b nL ca sl sh σ (pc + 1) ls (.int (x &&& y) :: st)) : K p l e R s m args below meth c Q D b nL ca sl sh σ pc ls (.int y :: .int x :: st) := fun H locs lsA hR hS hl => lv_iand X.1 X.2.1 d (k H locs lsA hR hS hl)
theorem K_idiv (X : KX p s m meth c args D b cc nL ret own) {x y : Int32} (d : decode cc pc = .ok (.idiv, 1)) (hne : ¬ y = 0) (k : K p l e R s m args below meth c Q D b nL ca sl sh σ (pc + 1) ls (.int (x / y) :: st)) : K p l e R s m args below meth c Q D b nL ca sl sh σ pc ls (.int y :: .int x :: st) := fun H locs lsA hR hS hl => lv_idiv X.1 X.2.1 d hne (k H locs lsA hR hS hl)
theorem K_irem (X : KX p s m meth c args D b cc nL ret own) {x y : Int32} (d : decode cc pc = .ok (.irem, 1)) (hne : ¬ y = 0) (k : K p l e R s m args below meth c Q D b nL ca sl sh σ (pc + 1) ls (.int (x - x / y * y) :: st)) : K p l e R s m args below meth c Q D b nL ca sl sh σ pc ls (.int y :: .int x :: st) := fun H locs lsA hR hS hl => lv_irem X.1 X.2.1 d hne (k H locs lsA hR hS hl)
theorem K_ladd (X : KX p s m meth c args D b cc nL ret own) {x y : Int64} (d : decode cc pc = .ok (.ladd, 1)) (k : K p l e R s m args below meth c Q D b nL ca sl sh σ (pc + 1) ls (.long (x + y) :: st)) : K p l e R s m args below meth c Q D b nL ca sl sh σ pc ls (.long y :: .long x :: st) := fun H locs lsA hR hS hl => lv_ladd X.1 X.2.1 d (k H locs lsA hR hS hl)
theorem K_lmul (X : KX p s m meth c args D b cc nL ret own) {x y : Int64} (d : decode cc pc = .ok (.lmul, 1)) (k : K p l e R s m args below meth c Q D b nL ca sl sh σ (pc + 1) ls (.long (x * y) :: st)) : K p l e R s m args below meth c Q D b nL ca sl sh σ pc ls (.long y :: .long x :: st) := fun H locs lsA hR hS hl => lv_lmul X.1 X.2.1 d (k H locs lsA hR hS hl)
theorem K_lcmp (X : KX p s m meth c args D b cc nL ret own) {x y : Int64} (d : decode cc pc = .ok (.lcmp, 1)) (k : K p l e R s m args below meth c Q D b nL ca sl sh σ (pc + 1) ls (.int (lg_cmp x y) :: st)) : K p l e R s m args below meth c Q D b nL ca sl sh σ pc ls (.long y :: .long x :: st) := fun H locs lsA hR hS hl => W.lcmp X.1 X.2.1 d (k H locs lsA hR hS hl)
theorem K_iaddN (X : KX p s m meth c args D b cc nL ret own) {x y : Nat} (d : decode cc pc = .ok (.iadd, 1)) (k : K p l e R s m args below meth c Q D b nL ca sl sh σ (pc + 1) ls (.int (nI (x + y)) :: st)) : K p l e R s m args below meth c Q D b nL ca sl sh σ pc ls (.int (nI y) :: .int (nI x) :: st) := K_iadd X d (by rw [nI_add]; exact k)
theorem K_imulN (X : KX p s m meth c args D b cc nL ret own) {x y : Nat} (d : decode cc pc = .ok (.imul, 1)) (k : K p l e R s m args below meth c Q D b nL ca sl sh σ (pc + 1) ls (.int (nI (x * y)) :: st)) : K p l e R s m args below meth c Q D b nL ca sl sh σ pc ls (.int (nI y) :: .int (nI x) :: st) := K_imul X d (by rw [pk_mul]; exact k)
theorem K_isubN (X : KX p s m meth c args D b cc nL ret own) {x y : Nat} (d : decode cc pc = .ok (.isub, 1)) (h : y ≤ x) (k : K p l e R s m args below meth c Q D b nL ca sl sh σ (pc + 1) ls (.int (nI (x - y)) :: st)) : K p l e R s m args below meth c Q D b nL ca sl sh σ pc ls (.int (nI y) :: .int (nI x) :: st) := K_isub X d (by rw [pk_sub h]; exact k)
theorem K_idivN (X : KX p s m meth c args D b cc nL ret own) {x y : Nat} (d : decode cc pc = .ok (.idiv, 1)) (hx : x < 2 ^ 31) (h0 : 0 < y) (hy : y < 2 ^ 31) (k : K p l e R s m args below meth c Q D b nL ca sl sh σ (pc + 1) ls (.int (nI (x / y)) :: st)) : K p l e R s m args below meth c Q D b nL ca sl sh σ pc ls (.int (nI y) :: .int (nI x) :: st) := K_idiv X d (nI_ne0 h0 hy) (by rw [pk_div hx h0 hy]; exact k)
theorem K_iremN (X : KX p s m meth c args D b cc nL ret own) {x y : Nat} (d : decode cc pc = .ok (.irem, 1)) (hx : x < 2 ^ 31) (h0 : 0 < y) (hy : y < 2 ^ 31) (k : K p l e R s m args below meth c Q D b nL ca sl sh σ (pc + 1) ls (.int (nI (x % y)) :: st)) : K p l e R s m args below meth c Q D b nL ca sl sh σ pc ls (.int (nI y) :: .int (nI x) :: st) := K_irem X d (nI_ne0 h0 hy) (by rw [pk_rem hx h0 hy]; exact k)
theorem K_laddN (X : KX p s m meth c args D b cc nL ret own) {x y : Nat} (d : decode cc pc = .ok (.ladd, 1)) (k : K p l e R s m args below meth c Q D b nL ca sl sh σ (pc + 1) ls (.long (lN (x + y)) :: st)) : K p l e R s m args below meth c Q D b nL ca sl sh σ pc ls (.long (lN y) :: .long (lN x) :: st) := K_ladd X d (by rw [lN_add]; exact k)
theorem K_i2l (X : KX p s m meth c args D b cc nL ret own) {x : Int32} (d : decode cc pc = .ok (.i2l, 1)) (k : K p l e R s m args below meth c Q D b nL ca sl sh σ (pc + 1) ls (.long x.toInt64 :: st)) : K p l e R s m args below meth c Q D b nL ca sl sh σ pc ls (.int x :: st) := fun H locs lsA hR hS hl => lv_i2l X.1 X.2.1 d rfl (k H locs lsA hR hS hl)
theorem K_i2lN (X : KX p s m meth c args D b cc nL ret own) {x : Nat} (d : decode cc pc = .ok (.i2l, 1)) (h : x < 2 ^ 31) (k : K p l e R s m args below meth c Q D b nL ca sl sh σ (pc + 1) ls (.long (lN x) :: st)) : K p l e R s m args below meth c Q D b nL ca sl sh σ pc ls (.int (nI x) :: st) := K_i2l X d (by rw [nI_l h]; exact k)
theorem K_i2c (X : KX p s m meth c args D b cc nL ret own) {x : Int32} (d : decode cc pc = .ok (.i2c, 1)) (k : K p l e R s m args below meth c Q D b nL ca sl sh σ (pc + 1) ls (.int (x.toUInt32 % 65536).toInt32 :: st)) : K p l e R s m args below meth c Q D b nL ca sl sh σ pc ls (.int x :: st) := fun H locs lsA hR hS hl => lv_i2c X.1 X.2.1 d rfl (k H locs lsA hR hS hl)
theorem K_dup (X : KX p s m meth c args D b cc nL ret own) {v : Value} (d : decode cc pc = .ok (.dup, 1)) (hc : v.category = 1) (k : K p l e R s m args below meth c Q D b nL ca sl sh σ (pc + 1) ls (v :: v :: st)) : K p l e R s m args below meth c Q D b nL ca sl sh σ pc ls (v :: st) := fun H locs lsA hR hS hl => lv_dup X.1 X.2.1 d hc (k H locs lsA hR hS hl)
theorem K_dup2 (X : KX p s m meth c args D b cc nL ret own) {v w : Value} (d : decode cc pc = .ok (.dup2, 1)) (hc : v.category = 1) (hd : w.category = 1) (k : K p l e R s m args below meth c Q D b nL ca sl sh σ (pc + 1) ls (v :: w :: v :: w :: st)) : K p l e R s m args below meth c Q D b nL ca sl sh σ pc ls (v :: w :: st) := fun H locs lsA hR hS hl => lv_dup2_11 X.1 X.2.1 d hc hd (k H locs lsA hR hS hl)
theorem K_pop (X : KX p s m meth c args D b cc nL ret own) {v : Value} (d : decode cc pc = .ok (.pop, 1)) (hc : v.category = 1) (k : K p l e R s m args below meth c Q D b nL ca sl sh σ (pc + 1) ls st) : K p l e R s m args below meth c Q D b nL ca sl sh σ pc ls (v :: st) := fun H locs lsA hR hS hl => lv_pop X.1 X.2.1 d hc (k H locs lsA hR hS hl)
theorem K_goto (X : KX p s m meth c args D b cc nL ret own) {off : Int} {tgt : Nat} (d : decode cc pc = .ok (.goto off, 3)) (ht : (pc : Int) + off = (tgt : Int)) (k : K p l e R s m args below meth c Q D b nL ca sl sh σ tgt ls st) : K p l e R s m args below meth c Q D b nL ca sl sh σ pc ls st := fun H locs lsA hR hS hl => lv_goto X.1 X.2.1 d ht (k H locs lsA hR hS hl)
theorem K_icmp_eq (X : KX p s m meth c args D b cc nL ret own) {x y : Int32} {off : Int} {tgt : Nat} (d : decode cc pc = .ok (.if_icmp .eq off, 3)) (ht : (pc : Int) + off = (tgt : Int)) (kt : x = y → K p l e R s m args below meth c Q D b nL ca sl sh σ tgt ls st) (kf : ¬ x = y → K p l e R s m args below meth c Q D b nL ca sl sh σ (pc + 3) ls st) : K p l e R s m args below meth c Q D b nL ca sl sh σ pc ls (.int y :: .int x :: st) := fun H locs lsA hR hS hl => lv_icmp_eq X.1 X.2.1 d ht (fun z => kt z H locs lsA hR hS hl) (fun z => kf z H locs lsA hR hS hl)
theorem K_icmpN_eq (X : KX p s m meth c args D b cc nL ret own) {x y : Nat} {off : Int} {tgt : Nat} (d : decode cc pc = .ok (.if_icmp .eq off, 3)) (ht : (pc : Int) + off = (tgt : Int)) (hx : x < 2 ^ 31) (hy : y < 2 ^ 31) (kt : x = y → K p l e R s m args below meth c Q D b nL ca sl sh σ tgt ls st) (kf : ¬ x = y → K p l e R s m args below meth c Q D b nL ca sl sh σ (pc + 3) ls st) : K p l e R s m args below meth c Q D b nL ca sl sh σ pc ls (.int (nI y) :: .int (nI x) :: st) := K_icmp_eq X d ht (fun z => kt ((nI_eq hx hy).mp z)) (fun z => kf (fun q => z (by rw [q])))
theorem K_if_eq (X : KX p s m meth c args D b cc nL ret own) {x : Int32} {off : Int} {tgt : Nat} (d : decode cc pc = .ok (.ifCond .eq off, 3)) (ht : (pc : Int) + off = (tgt : Int)) (kt : x = 0 → K p l e R s m args below meth c Q D b nL ca sl sh σ tgt ls st) (kf : ¬ x = 0 → K p l e R s m args below meth c Q D b nL ca sl sh σ (pc + 3) ls st) : K p l e R s m args below meth c Q D b nL ca sl sh σ pc ls (.int x :: st) := fun H locs lsA hR hS hl => lv_if_eq X.1 X.2.1 d ht (fun z => kt z H locs lsA hR hS hl) (fun z => kf z H locs lsA hR hS hl)
theorem K_icmp_ne (X : KX p s m meth c args D b cc nL ret own) {x y : Int32} {off : Int} {tgt : Nat} (d : decode cc pc = .ok (.if_icmp .ne off, 3)) (ht : (pc : Int) + off = (tgt : Int)) (kt : ¬ x = y → K p l e R s m args below meth c Q D b nL ca sl sh σ tgt ls st) (kf : x = y → K p l e R s m args below meth c Q D b nL ca sl sh σ (pc + 3) ls st) : K p l e R s m args below meth c Q D b nL ca sl sh σ pc ls (.int y :: .int x :: st) := fun H locs lsA hR hS hl => lv_icmp_ne X.1 X.2.1 d ht (fun z => kt z H locs lsA hR hS hl) (fun z => kf z H locs lsA hR hS hl)
theorem K_icmpN_ne (X : KX p s m meth c args D b cc nL ret own) {x y : Nat} {off : Int} {tgt : Nat} (d : decode cc pc = .ok (.if_icmp .ne off, 3)) (ht : (pc : Int) + off = (tgt : Int)) (hx : x < 2 ^ 31) (hy : y < 2 ^ 31) (kt : ¬ x = y → K p l e R s m args below meth c Q D b nL ca sl sh σ tgt ls st) (kf : x = y → K p l e R s m args below meth c Q D b nL ca sl sh σ (pc + 3) ls st) : K p l e R s m args below meth c Q D b nL ca sl sh σ pc ls (.int (nI y) :: .int (nI x) :: st) := K_icmp_ne X d ht (fun z => kt (fun q => z (by rw [q]))) (fun z => kf ((nI_eq hx hy).mp z))
theorem K_if_ne (X : KX p s m meth c args D b cc nL ret own) {x : Int32} {off : Int} {tgt : Nat} (d : decode cc pc = .ok (.ifCond .ne off, 3)) (ht : (pc : Int) + off = (tgt : Int)) (kt : ¬ x = 0 → K p l e R s m args below meth c Q D b nL ca sl sh σ tgt ls st) (kf : x = 0 → K p l e R s m args below meth c Q D b nL ca sl sh σ (pc + 3) ls st) : K p l e R s m args below meth c Q D b nL ca sl sh σ pc ls (.int x :: st) := fun H locs lsA hR hS hl => lv_if_ne X.1 X.2.1 d ht (fun z => kt z H locs lsA hR hS hl) (fun z => kf z H locs lsA hR hS hl)
theorem K_icmp_lt (X : KX p s m meth c args D b cc nL ret own) {x y : Int32} {off : Int} {tgt : Nat} (d : decode cc pc = .ok (.if_icmp .lt off, 3)) (ht : (pc : Int) + off = (tgt : Int)) (kt : x < y → K p l e R s m args below meth c Q D b nL ca sl sh σ tgt ls st) (kf : ¬ x < y → K p l e R s m args below meth c Q D b nL ca sl sh σ (pc + 3) ls st) : K p l e R s m args below meth c Q D b nL ca sl sh σ pc ls (.int y :: .int x :: st) := fun H locs lsA hR hS hl => lv_icmp_lt X.1 X.2.1 d ht (fun z => kt z H locs lsA hR hS hl) (fun z => kf z H locs lsA hR hS hl)
theorem K_icmpN_lt (X : KX p s m meth c args D b cc nL ret own) {x y : Nat} {off : Int} {tgt : Nat} (d : decode cc pc = .ok (.if_icmp .lt off, 3)) (ht : (pc : Int) + off = (tgt : Int)) (hx : x < 2 ^ 31) (hy : y < 2 ^ 31) (kt : x < y → K p l e R s m args below meth c Q D b nL ca sl sh σ tgt ls st) (kf : ¬ x < y → K p l e R s m args below meth c Q D b nL ca sl sh σ (pc + 3) ls st) : K p l e R s m args below meth c Q D b nL ca sl sh σ pc ls (.int (nI y) :: .int (nI x) :: st) := K_icmp_lt X d ht (fun z => kt ((nI_ltI hx hy).mp z)) (fun z => kf (fun q => z ((nI_ltI hx hy).mpr q)))
theorem K_if_lt (X : KX p s m meth c args D b cc nL ret own) {x : Int32} {off : Int} {tgt : Nat} (d : decode cc pc = .ok (.ifCond .lt off, 3)) (ht : (pc : Int) + off = (tgt : Int)) (kt : x < 0 → K p l e R s m args below meth c Q D b nL ca sl sh σ tgt ls st) (kf : ¬ x < 0 → K p l e R s m args below meth c Q D b nL ca sl sh σ (pc + 3) ls st) : K p l e R s m args below meth c Q D b nL ca sl sh σ pc ls (.int x :: st) := fun H locs lsA hR hS hl => lv_if_lt X.1 X.2.1 d ht (fun z => kt z H locs lsA hR hS hl) (fun z => kf z H locs lsA hR hS hl)
theorem K_icmp_ge (X : KX p s m meth c args D b cc nL ret own) {x y : Int32} {off : Int} {tgt : Nat} (d : decode cc pc = .ok (.if_icmp .ge off, 3)) (ht : (pc : Int) + off = (tgt : Int)) (kt : y ≤ x → K p l e R s m args below meth c Q D b nL ca sl sh σ tgt ls st) (kf : ¬ y ≤ x → K p l e R s m args below meth c Q D b nL ca sl sh σ (pc + 3) ls st) : K p l e R s m args below meth c Q D b nL ca sl sh σ pc ls (.int y :: .int x :: st) := fun H locs lsA hR hS hl => lv_icmp_ge X.1 X.2.1 d ht (fun z => kt z H locs lsA hR hS hl) (fun z => kf z H locs lsA hR hS hl)
theorem K_icmpN_ge (X : KX p s m meth c args D b cc nL ret own) {x y : Nat} {off : Int} {tgt : Nat} (d : decode cc pc = .ok (.if_icmp .ge off, 3)) (ht : (pc : Int) + off = (tgt : Int)) (hx : x < 2 ^ 31) (hy : y < 2 ^ 31) (kt : y ≤ x → K p l e R s m args below meth c Q D b nL ca sl sh σ tgt ls st) (kf : ¬ y ≤ x → K p l e R s m args below meth c Q D b nL ca sl sh σ (pc + 3) ls st) : K p l e R s m args below meth c Q D b nL ca sl sh σ pc ls (.int (nI y) :: .int (nI x) :: st) := K_icmp_ge X d ht (fun z => kt ((nI_leI hy hx).mp z)) (fun z => kf (fun q => z ((nI_leI hy hx).mpr q)))
theorem K_if_ge (X : KX p s m meth c args D b cc nL ret own) {x : Int32} {off : Int} {tgt : Nat} (d : decode cc pc = .ok (.ifCond .ge off, 3)) (ht : (pc : Int) + off = (tgt : Int)) (kt : 0 ≤ x → K p l e R s m args below meth c Q D b nL ca sl sh σ tgt ls st) (kf : ¬ 0 ≤ x → K p l e R s m args below meth c Q D b nL ca sl sh σ (pc + 3) ls st) : K p l e R s m args below meth c Q D b nL ca sl sh σ pc ls (.int x :: st) := fun H locs lsA hR hS hl => lv_if_ge X.1 X.2.1 d ht (fun z => kt z H locs lsA hR hS hl) (fun z => kf z H locs lsA hR hS hl)
theorem K_icmp_gt (X : KX p s m meth c args D b cc nL ret own) {x y : Int32} {off : Int} {tgt : Nat} (d : decode cc pc = .ok (.if_icmp .gt off, 3)) (ht : (pc : Int) + off = (tgt : Int)) (kt : y < x → K p l e R s m args below meth c Q D b nL ca sl sh σ tgt ls st) (kf : ¬ y < x → K p l e R s m args below meth c Q D b nL ca sl sh σ (pc + 3) ls st) : K p l e R s m args below meth c Q D b nL ca sl sh σ pc ls (.int y :: .int x :: st) := fun H locs lsA hR hS hl => lv_icmp_gt X.1 X.2.1 d ht (fun z => kt z H locs lsA hR hS hl) (fun z => kf z H locs lsA hR hS hl)
theorem K_icmpN_gt (X : KX p s m meth c args D b cc nL ret own) {x y : Nat} {off : Int} {tgt : Nat} (d : decode cc pc = .ok (.if_icmp .gt off, 3)) (ht : (pc : Int) + off = (tgt : Int)) (hx : x < 2 ^ 31) (hy : y < 2 ^ 31) (kt : y < x → K p l e R s m args below meth c Q D b nL ca sl sh σ tgt ls st) (kf : ¬ y < x → K p l e R s m args below meth c Q D b nL ca sl sh σ (pc + 3) ls st) : K p l e R s m args below meth c Q D b nL ca sl sh σ pc ls (.int (nI y) :: .int (nI x) :: st) := K_icmp_gt X d ht (fun z => kt ((nI_ltI hy hx).mp z)) (fun z => kf (fun q => z ((nI_ltI hy hx).mpr q)))
theorem K_if_gt (X : KX p s m meth c args D b cc nL ret own) {x : Int32} {off : Int} {tgt : Nat} (d : decode cc pc = .ok (.ifCond .gt off, 3)) (ht : (pc : Int) + off = (tgt : Int)) (kt : 0 < x → K p l e R s m args below meth c Q D b nL ca sl sh σ tgt ls st) (kf : ¬ 0 < x → K p l e R s m args below meth c Q D b nL ca sl sh σ (pc + 3) ls st) : K p l e R s m args below meth c Q D b nL ca sl sh σ pc ls (.int x :: st) := fun H locs lsA hR hS hl => lv_if_gt X.1 X.2.1 d ht (fun z => kt z H locs lsA hR hS hl) (fun z => kf z H locs lsA hR hS hl)
theorem K_icmp_le (X : KX p s m meth c args D b cc nL ret own) {x y : Int32} {off : Int} {tgt : Nat} (d : decode cc pc = .ok (.if_icmp .le off, 3)) (ht : (pc : Int) + off = (tgt : Int)) (kt : x ≤ y → K p l e R s m args below meth c Q D b nL ca sl sh σ tgt ls st) (kf : ¬ x ≤ y → K p l e R s m args below meth c Q D b nL ca sl sh σ (pc + 3) ls st) : K p l e R s m args below meth c Q D b nL ca sl sh σ pc ls (.int y :: .int x :: st) := fun H locs lsA hR hS hl => lv_icmp_le X.1 X.2.1 d ht (fun z => kt z H locs lsA hR hS hl) (fun z => kf z H locs lsA hR hS hl)
theorem K_icmpN_le (X : KX p s m meth c args D b cc nL ret own) {x y : Nat} {off : Int} {tgt : Nat} (d : decode cc pc = .ok (.if_icmp .le off, 3)) (ht : (pc : Int) + off = (tgt : Int)) (hx : x < 2 ^ 31) (hy : y < 2 ^ 31) (kt : x ≤ y → K p l e R s m args below meth c Q D b nL ca sl sh σ tgt ls st) (kf : ¬ x ≤ y → K p l e R s m args below meth c Q D b nL ca sl sh σ (pc + 3) ls st) : K p l e R s m args below meth c Q D b nL ca sl sh σ pc ls (.int (nI y) :: .int (nI x) :: st) := K_icmp_le X d ht (fun z => kt ((nI_leI hx hy).mp z)) (fun z => kf (fun q => z ((nI_leI hx hy).mpr q)))
theorem K_if_le (X : KX p s m meth c args D b cc nL ret own) {x : Int32} {off : Int} {tgt : Nat} (d : decode cc pc = .ok (.ifCond .le off, 3)) (ht : (pc : Int) + off = (tgt : Int)) (kt : x ≤ 0 → K p l e R s m args below meth c Q D b nL ca sl sh σ tgt ls st) (kf : ¬ x ≤ 0 → K p l e R s m args below meth c Q D b nL ca sl sh σ (pc + 3) ls st) : K p l e R s m args below meth c Q D b nL ca sl sh σ pc ls (.int x :: st) := fun H locs lsA hR hS hl => lv_if_le X.1 X.2.1 d ht (fun z => kt z H locs lsA hR hS hl) (fun z => kf z H locs lsA hR hS hl)
def kB (b : Bool) : Int32 := if b = true then 1 else 0
theorem kB_0 {b : Bool} : kB b = 0 ↔ b = false := by cases b <;> decide
theorem K_ifB_eq (X : KX p s m meth c args D b cc nL ret own) {t : Bool} {off : Int} {tgt : Nat} (d : decode cc pc = .ok (.ifCond .eq off, 3)) (ht : (pc : Int) + off = (tgt : Int)) (kt : t = false → K p l e R s m args below meth c Q D b nL ca sl sh σ tgt ls st) (kf : t = true → K p l e R s m args below meth c Q D b nL ca sl sh σ (pc + 3) ls st) : K p l e R s m args below meth c Q D b nL ca sl sh σ pc ls (.int (kB t) :: st) := K_if_eq X d ht (fun z => kt (kB_0.mp z)) (fun z => kf (by cases t; exact absurd rfl z; rfl))
theorem K_ifB_ne (X : KX p s m meth c args D b cc nL ret own) {t : Bool} {off : Int} {tgt : Nat} (d : decode cc pc = .ok (.ifCond .ne off, 3)) (ht : (pc : Int) + off = (tgt : Int)) (kt : t = true → K p l e R s m args below meth c Q D b nL ca sl sh σ tgt ls st) (kf : t = false → K p l e R s m args below meth c Q D b nL ca sl sh σ (pc + 3) ls st) : K p l e R s m args below meth c Q D b nL ca sl sh σ pc ls (.int (kB t) :: st) := K_if_ne X d ht (fun z => kt (by cases t; exact absurd rfl z; rfl)) (fun z => kf (kB_0.mp z))
theorem K_ifnull (X : KX p s m meth c args D b cc nL ret own) {x : Nat} {off : Int} {tgt : Nat} (d : decode cc pc = .ok (.ifnull off, 3)) (ht : (pc : Int) + off = (tgt : Int)) (k : K p l e R s m args below meth c Q D b nL ca sl sh σ (pc + 3) ls st) : K p l e R s m args below meth c Q D b nL ca sl sh σ pc ls (rf b x :: st) := fun H locs lsA hR hS hl => lv_ifnull X.1 X.2.1 d (k H locs lsA hR hS hl)
theorem K_ifnonnull (X : KX p s m meth c args D b cc nL ret own) {x : Nat} {off : Int} {tgt : Nat} (d : decode cc pc = .ok (.ifnonnull off, 3)) (ht : (pc : Int) + off = (tgt : Int)) (k : K p l e R s m args below meth c Q D b nL ca sl sh σ tgt ls st) : K p l e R s m args below meth c Q D b nL ca sl sh σ pc ls (rf b x :: st) := fun H locs lsA hR hS hl => lv_ifnonnull X.1 X.2.1 d ht (k H locs lsA hR hS hl)
theorem K_ifnullN (X : KX p s m meth c args D b cc nL ret own) {off : Int} {tgt : Nat} (d : decode cc pc = .ok (.ifnull off, 3)) (ht : (pc : Int) + off = (tgt : Int)) (k : K p l e R s m args below meth c Q D b nL ca sl sh σ tgt ls st) : K p l e R s m args below meth c Q D b nL ca sl sh σ pc ls (.null :: st) := fun H locs lsA hR hS hl => lv_ifnullN X.1 X.2.1 d ht (k H locs lsA hR hS hl)
theorem K_ifnonnullN (X : KX p s m meth c args D b cc nL ret own) {off : Int} {tgt : Nat} (d : decode cc pc = .ok (.ifnonnull off, 3)) (ht : (pc : Int) + off = (tgt : Int)) (k : K p l e R s m args below meth c Q D b nL ca sl sh σ (pc + 3) ls st) : K p l e R s m args below meth c Q D b nL ca sl sh σ pc ls (.null :: st) := fun H locs lsA hR hS hl => lv_ifnonnullN X.1 X.2.1 d (k H locs lsA hR hS hl)
theorem K_tabIn (X : KX p s m meth c args D b cc nL ret own) {dflt lo hi : Int} {offs : Array Int} {len : Nat} {x : Int32} {off : Int} {tgt : Nat} (d : decode cc pc = .ok (.tableswitch dflt lo hi offs, len)) (h1 : ¬ x.toInt < lo) (h2 : ¬ hi < x.toInt) (ho : offs[(x.toInt - lo).toNat]? = some off) (ht : (pc : Int) + off = (tgt : Int)) (k : K p l e R s m args below meth c Q D b nL ca sl sh σ tgt ls st) : K p l e R s m args below meth c Q D b nL ca sl sh σ pc ls (.int x :: st) := fun H locs lsA hR hS hl => lv_tableIn X.1 X.2.1 d h1 h2 ho ht (k H locs lsA hR hS hl)
theorem K_tabOut (X : KX p s m meth c args D b cc nL ret own) {dflt lo hi : Int} {offs : Array Int} {len : Nat} {x : Int32} {tgt : Nat} (d : decode cc pc = .ok (.tableswitch dflt lo hi offs, len)) (h : x.toInt < lo ∨ hi < x.toInt) (ht : (pc : Int) + dflt = (tgt : Int)) (k : K p l e R s m args below meth c Q D b nL ca sl sh σ tgt ls st) : K p l e R s m args below meth c Q D b nL ca sl sh σ pc ls (.int x :: st) := fun H locs lsA hR hS hl => lv_tableOut X.1 X.2.1 d h ht (k H locs lsA hR hS hl)
theorem K_lookup (X : KX p s m meth c args D b cc nL ret own) {dflt : Int} {ps : Array (Int × Int)} {len : Nat} {x : Int32} {off : Int} {tgt : Nat} (d : decode cc pc = .ok (.lookupswitch dflt ps, len)) (hp : (ps.toList.zip (ps.toList.drop 1)).all (fun (a, next) => a.1 < next.1) = true) (ho : Op.lookupswitch.offset ps.toList dflt x.toInt = off) (ht : (pc : Int) + off = (tgt : Int)) (k : K p l e R s m args below meth c Q D b nL ca sl sh σ tgt ls st) : K p l e R s m args below meth c Q D b nL ca sl sh σ pc ls (.int x :: st) := fun H locs lsA hR hS hl => lv_lookup X.1 X.2.1 d hp ho ht (k H locs lsA hR hS hl)
/-- a field is read -/
theorem K_get (X : KX p s m meth c args D b cc nL ret own) {ci a index : Nat} {C ref : String} {T : u_T} {N : Nat} (k : Nat) (F : kFd ci) (hc : vwCl[ci]? = some (C, T, N)) (hk : k < N) (hs : sh[a]? = some (.inl ci)) (hw : Cond.fieldLink own index ref (T k).2.1 (T k).2.2.1 ∈ wsL_law) (hr : (T k).1 = ref) {v : Value} (hv : kv b (kTy ci k) σ a k = v) (d : decode cc pc = .ok (.getfield index, 3))
    (kk : K p l e R s m args below meth c Q D b nL ca sl sh σ (pc + 3) ls (v :: st)) : K p l e R s m args below meth c Q D b nL ca sl sh σ pc ls (rf b a :: st) := by
  intro H locs lsA hR hS hl
  obtain ⟨r, h1, cell, q1, q2, q3, q4⟩ := hR.2 a _ hs
  have hr2 : r = (C, T, N) := Option.some.inj (h1.symm.trans hc)
  subst hr2
  obtain ⟨F1, F2, F3⟩ := F _ hc
  obtain ⟨hSl, hfc, kC, hkC, hkind⟩ := X.2.2.2.2.2.1.1 ci _ hc
  obtain ⟨cf, kf, fi, f, hi, hsl⟩ := hSl k hk
  subst hr
  refine W.getf X.1 X.2.1 X.2.2.2.1 (X.2.2.2.2.1 _ hw) hi (u_facts hfc hkC (u_lays X.2.2.2.2.1 F1 hk) hi).1 q1 (by rw [q3]; exact fun h => by cases h) (v := v) ?_ rfl rfl d (kk H locs lsA hR hS hl)
  rw [hsl, q4 k hk]
  exact congrArg some hv
theorem kap {s : State} {args : Array Value} {D : KD} (hts : ∀ w ∈ wsL_law, w.before args s = true) (hK : KK D s) {ci : Nat} (F : kFd ci) {r : vw_C} (hc : vwCl[ci]? = some r) : ∀ x y, x < r.2.2 → y < r.2.2 → x ≠ y → (D.2.1 ci) x ≠ (D.2.1 ci) y := by
  intro x y hx hy hne
  obtain ⟨F1, F2, F3⟩ := F _ hc
  obtain ⟨hS, -⟩ := hK.1 ci _ hc
  obtain ⟨_, _, _, fa, hia, ea⟩ := hS x hx
  obtain ⟨_, _, _, fb, hib, eb⟩ := hS y hy
  rw [← ea, ← eb]
  refine u_apart (u_lays hts F1 hx) (u_lays hts F1 hy) hia hib ?_
  rw [(State.fieldFound?_type hia (F2 x hx)).1, (State.fieldFound?_type hib (F2 y hy)).1]
  exact F3 x hx y hy hne
/-- a field is written: the state σ' has the new value there, and all else as σ -/
theorem K_put (X : KX p s m meth c args D b cc nL ret own) {σ' : KS} {ci a index : Nat} {C ref : String} {T : u_T} {N : Nat} (k : Nat) (F : kFd ci) (hc : vwCl[ci]? = some (C, T, N)) (hk : k < N) (hs : sh[a]? = some (.inl ci)) (hw : Cond.fieldLink own index ref (T k).2.1 (T k).2.2.1 ∈ wsL_law) (hr : (T k).1 = ref)
    (hfin : (T k).2.2.2 = false ∨ ((T k).2.2.2 = true ∧ meth.name = "<init>" ∧ (T k).1 = own)) {v : Value} (hn : narrow (kTy ci k) v = v) (hfit : fits (kTy ci k) v = true) (hv : kv b (kTy ci k) σ' a k = v) (hsame : ∀ j, j < N → j ≠ k → kv b (kTy ci j) σ' a j = kv b (kTy ci j) σ a j) (hoth : ∀ x, x ≠ a → σ'.1 x = σ.1 x ∧ σ'.2.1 x = σ.2.1 x ∧ σ'.2.2 x = σ.2.2 x) (d : decode cc pc = .ok (.putfield index, 3))
    (kk : K p l e R s m args below meth c Q D b nL ca sl sh σ' (pc + 3) ls st) : K p l e R s m args below meth c Q D b nL ca sl sh σ pc ls (v :: rf b a :: st) := by
  intro H locs lsA hR hS hl
  have hap := kap X.2.2.2.2.1 X.2.2.2.2.2.1 F hc
  obtain ⟨r, h1, cell, q1, q2, q3, q4⟩ := hR.2 a _ hs
  have hr2 : r = (C, T, N) := Option.some.inj (h1.symm.trans hc)
  subst hr2
  obtain ⟨F1, F2, F3⟩ := F _ hc
  obtain ⟨hSl, hfc, kC, hkC, hkind⟩ := X.2.2.2.2.2.1.1 ci _ hc
  obtain ⟨cf, kf, fi, f, hi, hsl⟩ := hSl k hk
  subst hr
  have hst := (u_facts hfc hkC (u_lays X.2.2.2.2.1 F1 hk) hi).1
  have fin : ∀ H' : Heap, H'[b + a]? = some (cell.setSlot f.slot v) → H'.size = H.size → (∀ q, q ≠ b + a → H'[q]? = H[q]?) → W p l e R s m args below meth c H' (locs ++ [⟨b + a, f.slot⟩]) ca sl Q { (F0 m pc lsA (v :: rf b a :: st)) with pc := pc + 3, stack := st } := by
    intro H' e1 e2 e3
    refine kk H' _ lsA (hR.put hs e2 e3 ⟨_, hc, ?_⟩ hoth) (hS.put e2 e3 (Nat.le_add_right b a)) hl
    rw [hsl] at e1
    refine t_OB.to (V := updV (fun j => kv b (kTy ci j) σ a j) k v) ⟨_, e1, q2, q3, t_set q4 hap hk v⟩ (fun j hj => ?_)
    by_cases hjk : j = k
    · subst hjk
      simp only [updV, if_true]
      exact hv.symm
    · simp only [updV, if_neg hjk]
      exact (hsame j hj hjk).symm
  rcases hfin with hfin | ⟨hfin, hini, hdecl⟩
  · have hlay := X.2.2.2.2.1 _ (F1 _ (u_in_lay hk))
    unfold u_lay at hlay
    rw [if_neg (by rw [hfin]; decide)] at hlay
    have h6 := u_store hfc hkC hkind hlay hi (F2 k hk) hn hfit
    exact W.putK X.1 X.2.1 (f := f) ⟨X.2.2.2.1, X.2.2.2.2.1 _ hw, ⟨_, _, _, hi⟩, hst⟩ (by rw [q2]; exact h6) q1 q3 (by rw [hsl]; exact k2_hasslot (q4 k hk)) rfl rfl d fin
  · have hlay := X.2.2.2.2.1 _ (F1 _ (u_in_lay hk))
    unfold u_lay at hlay
    rw [if_pos hfin] at hlay
    have hcf : m.cls = cf := by
      obtain ⟨_, _, c', _, _, _, -, -, hf', -, -, -, hown2, -⟩ := Cond.laysFinal_spec hlay
      have e1 : c' = cf := by have := hi.symm.trans hf'; simp at this; exact this.1.symm
      rw [hdecl] at hown2
      rw [← e1]; exact Option.some.inj (X.2.2.2.1.symm.trans hown2)
    have h6 := u_fits hfc hkC hkind (Or.inr hlay) hi (F2 k hk) hn hfit
    exact W.putFinK X.1 X.2.1 X.2.2.2.1 (X.2.2.2.2.1 _ hw) hi hst hcf hini (by rw [q2]; exact h6) q1 q3 (by rw [hsl]; exact k2_hasslot (q4 k hk)) rfl rfl d fin
/-- an int field (int, boolean with 0 or 1) is written -/
theorem K_putI (X : KX p s m meth c args D b cc nL ret own) {ci a index : Nat} {C ref : String} {T : u_T} {N : Nat} (k : Nat) (F : kFd ci) (hc : vwCl[ci]? = some (C, T, N)) (hk : k < N) (hs : sh[a]? = some (.inl ci)) (hw : Cond.fieldLink own index ref (T k).2.1 (T k).2.2.1 ∈ wsL_law) (hr : (T k).1 = ref) (hfin : (T k).2.2.2 = false) (hty : kTy ci k = .int) {x : Int32} (d : decode cc pc = .ok (.putfield index, 3))
    (kk : K p l e R s m args below meth c Q D b nL ca sl sh (wI σ a (upd (σ.1 a) k x)) (pc + 3) ls st) : K p l e R s m args below meth c Q D b nL ca sl sh σ pc ls (.int x :: rf b a :: st) := by
  refine K_put X k F hc hk hs hw hr (Or.inl hfin) (by rw [hty]; rfl) (by rw [hty]; rfl) ?_ ?_ ?_ d kk
  · rw [hty]
    show Value.int ((wI σ a (upd (σ.1 a) k x)).1 a k) = _
    rw [wI_self]
    simp [upd]
  · intro j hj hjk
    unfold kv
    rw [wI_self, wI_L, wI_P]
    simp only [upd, if_neg hjk]
  · intro y hy
    exact ⟨wI_ne hy, rfl, rfl⟩
theorem K_putL (X : KX p s m meth c args D b cc nL ret own) {ci a index : Nat} {C ref : String} {T : u_T} {N : Nat} (k : Nat) (F : kFd ci) (hc : vwCl[ci]? = some (C, T, N)) (hk : k < N) (hs : sh[a]? = some (.inl ci)) (hw : Cond.fieldLink own index ref (T k).2.1 (T k).2.2.1 ∈ wsL_law) (hr : (T k).1 = ref) (hfin : (T k).2.2.2 = false) (hty : kTy ci k = .long) {x : Int64} (d : decode cc pc = .ok (.putfield index, 3))
    (kk : K p l e R s m args below meth c Q D b nL ca sl sh (wL σ a (vp_updL (σ.2.1 a) k x)) (pc + 3) ls st) : K p l e R s m args below meth c Q D b nL ca sl sh σ pc ls (.long x :: rf b a :: st) := by
  refine K_put X k F hc hk hs hw hr (Or.inl hfin) (by rw [hty]; rfl) (by rw [hty]; rfl) ?_ ?_ ?_ d kk
  · rw [hty]
    show Value.long ((wL σ a (vp_updL (σ.2.1 a) k x)).2.1 a k) = _
    rw [wL_self]
    simp [vp_updL]
  · intro j hj hjk
    unfold kv
    rw [wL_self, wL_I, wL_P]
    simp only [vp_updL, if_neg hjk]
  · intro y hy
    exact ⟨rfl, wL_ne hy, rfl⟩
/-- int arrays -/
theorem K_iald (X : KX p s m meth c args D b cc nL ret own) {a n : Nat} {i : Int32} (j : Nat) (hs : sh[a]? = some (.inr (.int, n))) (hi : i = nI j) (hj : j < n) (hn : n < 2 ^ 31) {x : Int32} (hx : σ.1 a j = x) (d : decode cc pc = .ok (.iaload, 1))
    (kk : K p l e R s m args below meth c Q D b nL ca sl sh σ (pc + 1) ls (.int x :: st)) : K p l e R s m args below meth c Q D b nL ca sl sh σ pc ls (.int i :: rf b a :: st) := by
  intro H locs lsA hR hS hl
  subst hi
  have hcell : H[b + a]? = some (arrV (D.2.2 .int) n (fun k => kv b .int σ a k)) := hR.2 a _ hs
  refine W.iald (v := .int x) X.1 X.2.1 hcell ((X.2.2.2.2.2.1.2.1 .int (by decide)).1 n _) (fun q => by cases q) (by rw [arrV_size, nI_clamp (by omega)]; intro h; rcases h with h | h; exact nI_pos (by omega) h; omega) (by rw [nI_clamp (by omega), arrV_read _ _ hj, ← hx]; rfl) rfl rfl d (kk H locs lsA hR hS hl)
theorem K_iast (X : KX p s m meth c args D b cc nL ret own) {a n : Nat} {i x : Int32} (j : Nat) (hs : sh[a]? = some (.inr (.int, n))) (hi : i = nI j) (hj : j < n) (hn : n < 2 ^ 31) (d : decode cc pc = .ok (.iastore, 1))
    (kk : K p l e R s m args below meth c Q D b nL ca sl sh (wI σ a (upd (σ.1 a) j x)) (pc + 1) ls st) : K p l e R s m args below meth c Q D b nL ca sl sh σ pc ls (.int x :: .int i :: rf b a :: st) := by
  intro H locs lsA hR hS hl
  subst hi
  have hcell : H[b + a]? = some (arrV (D.2.2 .int) n (fun k => kv b .int σ a k)) := hR.2 a _ hs
  refine W.iast X.1 X.2.1 hcell ((X.2.2.2.2.2.1.2.1 .int (by decide)).1 n _) (fun q => by cases q) (by rw [arrV_size, nI_clamp (by omega)]; intro h; rcases h with h | h; exact nI_pos (by omega) h; omega) rfl rfl d fun H' e1 e2 e3 => ?_
  refine kk H' _ lsA (hR.put hs e2 e3 ?_ (fun y hy => ⟨wI_ne hy, rfl, rfl⟩)) (hS.put e2 e3 (Nat.le_add_right b a)) hl
  show H'[b + a]? = some (arrV _ _ _)
  rw [e1, nI_clamp (by omega), arrV_store]
  congr 2
  funext q
  show updV (fun k => Value.int (σ.1 a k)) j (.int x) q = Value.int ((wI σ a (upd (σ.1 a) j x)).1 a q)
  rw [wI_self]
  by_cases hq : q = j
  · subst hq
    simp [updV, upd]
  · simp [updV, upd, hq]
/-- char arrays -/
theorem K_cald (X : KX p s m meth c args D b cc nL ret own) {a n : Nat} {i : Int32} (j : Nat) (hs : sh[a]? = some (.inr (.char, n))) (hi : i = nI j) (hj : j < n) (hn : n < 2 ^ 31) {x : Int32} (hx : σ.1 a j = x) (d : decode cc pc = .ok (.caload, 1))
    (kk : K p l e R s m args below meth c Q D b nL ca sl sh σ (pc + 1) ls (.int x :: st)) : K p l e R s m args below meth c Q D b nL ca sl sh σ pc ls (.int i :: rf b a :: st) := by
  intro H locs lsA hR hS hl
  subst hi
  have hcell : H[b + a]? = some (arrV (D.2.2 .char) n (fun k => kv b .char σ a k)) := hR.2 a _ hs
  refine W.cald (v := .int x) X.1 X.2.1 hcell ((X.2.2.2.2.2.1.2.1 .char (by decide)).1 n _) (fun q => by cases q) (by rw [arrV_size, nI_clamp (by omega)]; intro h; rcases h with h | h; exact nI_pos (by omega) h; omega) (by rw [nI_clamp (by omega), arrV_read _ _ hj, ← hx]; rfl) rfl rfl d (kk H locs lsA hR hS hl)
theorem K_cast (X : KX p s m meth c args D b cc nL ret own) {a n : Nat} {i x y : Int32} (j : Nat) (hs : sh[a]? = some (.inr (.char, n))) (hi : i = nI j) (hj : j < n) (hn : n < 2 ^ 31) (hx : narrow .char (.int x) = .int y) (d : decode cc pc = .ok (.castore, 1))
    (kk : K p l e R s m args below meth c Q D b nL ca sl sh (wI σ a (upd (σ.1 a) j y)) (pc + 1) ls st) : K p l e R s m args below meth c Q D b nL ca sl sh σ pc ls (.int x :: .int i :: rf b a :: st) := by
  intro H locs lsA hR hS hl
  subst hi
  have hcell : H[b + a]? = some (arrV (D.2.2 .char) n (fun k => kv b .char σ a k)) := hR.2 a _ hs
  refine W.cast X.1 X.2.1 hcell ((X.2.2.2.2.2.1.2.1 .char (by decide)).1 n _) (fun q => by cases q) (by rw [arrV_size, nI_clamp (by omega)]; intro h; rcases h with h | h; exact nI_pos (by omega) h; omega) rfl rfl d fun H' e1 e2 e3 => ?_
  refine kk H' _ lsA (hR.put hs e2 e3 ?_ (fun y hy => ⟨wI_ne hy, rfl, rfl⟩)) (hS.put e2 e3 (Nat.le_add_right b a)) hl
  show H'[b + a]? = some (arrV _ _ _)
  rw [e1, nI_clamp (by omega), arrV_store]
  congr 2
  funext q
  show updV (fun k => Value.int (σ.1 a k)) j (narrow .char (.int x)) q = Value.int ((wI σ a (upd (σ.1 a) j y)).1 a q)
  rw [wI_self, hx]
  by_cases hq : q = j
  · subst hq
    simp [updV, upd]
  · simp [updV, upd, hq]
/-- arrays of references -/
theorem K_aald (X : KX p s m meth c args D b cc nL ret own) {a n z : Nat} {C : String} {i : Int32} (j : Nat) (hs : sh[a]? = some (.inr (.object C, n))) (hty : FieldType.object C ∈ kTys) (hi : i = nI j) (hj : j < n) (hn : n < 2 ^ 31) (hx : σ.2.2 a j = some z) (d : decode cc pc = .ok (.aaload, 1))
    (kk : K p l e R s m args below meth c Q D b nL ca sl sh σ (pc + 1) ls (rf b z :: st)) : K p l e R s m args below meth c Q D b nL ca sl sh σ pc ls (.int i :: rf b a :: st) := by
  intro H locs lsA hR hS hl
  subst hi
  have hcell : H[b + a]? = some (arrV (D.2.2 (.object C)) n (fun k => kv b (.object C) σ a k)) := hR.2 a _ hs
  refine W.aald (v := rf b z) (ty := .object C) X.1 X.2.1 hcell ((X.2.2.2.2.2.1.2.1 _ hty).1 n _) rfl (fun q => by cases q) (by rw [arrV_size, nI_clamp (by omega)]; intro h; rcases h with h | h; exact nI_pos (by omega) h; omega) (by rw [nI_clamp (by omega), arrV_read _ _ hj]; show some (va_rf ((σ.2.2 a j).map _)) = _; rw [hx]; rfl) rfl rfl d (kk H locs lsA hR hS hl)
theorem K_aast (X : KX p s m meth c args D b cc nL ret own) {a n z ci N : Nat} {C : String} {T : u_T} {i : Int32} (j : Nat) (hs : sh[a]? = some (.inr (.object C, n))) (hty : FieldType.object C ∈ kTys) (hz : sh[z]? = some (.inl ci)) (hc : vwCl[ci]? = some (C, T, N)) (hi : i = nI j) (hj : j < n) (hn : n < 2 ^ 31) (d : decode cc pc = .ok (.aastore, 1))
    (kk : K p l e R s m args below meth c Q D b nL ca sl sh (wP σ a (va_up (σ.2.2 a) j (some z))) (pc + 1) ls st) : K p l e R s m args below meth c Q D b nL ca sl sh σ pc ls (rf b z :: .int i :: rf b a :: st) := by
  intro H locs lsA hR hS hl
  subst hi
  have hcell : H[b + a]? = some (arrV (D.2.2 (.object C)) n (fun k => kv b (.object C) σ a k)) := hR.2 a _ hs
  obtain ⟨r, hr, cellV, g1, g2, g3, -⟩ := hR.2 z _ hz
  have hcls : ClassAt s C (D.1 ci) := (X.2.2.2.2.2.1.1 ci _ hc).2
  obtain ⟨kA, comp, k1, k2, k3, -⟩ := (X.2.2.2.2.2.1.2.1 _ hty).2
  have hcomp : comp = D.1 ci := Option.some.inj (k3.symm.trans hcls.1)
  subst hcomp
  obtain ⟨kC, hkC, hkd⟩ := hcls.2
  refine W.aast X.1 X.2.1 hcell (fun q h => by cases h) (fun h => by cases h) k1 k2 rfl hkC (by rw [nI_clamp (by omega)]; exact ⟨nI_pos (by omega), by rw [arrV_size]; exact hj⟩) g1 (fun q h => by rw [g3] at h; cases h) (by rw [g2]; exact hkC) (by rw [g2]; exact va_assign hcls) rfl rfl d fun H' e1 e2 e3 => ?_
  refine kk H' _ lsA (hR.put hs e2 e3 ?_ (fun y hy => ⟨rfl, rfl, wP_ne hy⟩)) (hS.put e2 e3 (Nat.le_add_right b a)) hl
  show H'[b + a]? = some (arrV _ _ _)
  rw [e1, nI_clamp (by omega), arrV_store]
  congr 2
  funext q
  show updV (fun k => va_rf ((σ.2.2 a k).map (fun z => b + z))) j (.ref (b + z)) q = va_rf (((wP σ a (va_up (σ.2.2 a) j (some z))).2.2 a q).map (fun z => b + z))
  rw [wP_self]
  by_cases hq : q = j
  · subst hq
    simp [updV, va_up, va_rf]
  · simp [updV, va_up, hq]
/-- the JDK's max and min, arraycopy -/
theorem K_max (X : KX p s m meth c args D b cc nL ret own) {index : Nat} (h1 : Cond.methodLink own index Lib.Math.max.name ∈ wsL_law) (h2 : Cond.static Lib.Math.max.name ∈ wsL_law) (h3 : Cond.initialized "java/lang/Math" ∈ wsL_law) (h4 : Cond.code Lib.Math.max.name Lib.Math.max.code 2 (some .int) ∈ wsL_law) (hR : 1 ≤ R.frames ∧ (st.map fun v => v.category).sum + 13 ≤ R.locals ∧ ca ≤ R.cells ∧ sl ≤ R.slots) {x y : Int32} (d : decode cc pc = .ok (.invokestatic index, 3))
    (kk : K p l e R s m args below meth c Q D b nL ca sl sh σ (pc + 3) ls (.int (if x < y then y else x) :: st)) : K p l e R s m args below meth c Q D b nL ca sl sh σ pc ls (.int y :: .int x :: st) := fun H locs lsA hRp hS hl =>
  va_mmax X.1 X.2.1 (X.2.2.1.trans hl.1.symm) X.2.2.2.1 (X.2.2.2.2.1 _ h1) (X.2.2.2.2.1 _ h2) (X.2.2.2.2.1 _ h3) (X.2.2.2.2.1 _ h4) hR.1 hR.2.1 hR.2.2.1 hR.2.2.2 d (kk H locs lsA hRp hS hl)
theorem K_min (X : KX p s m meth c args D b cc nL ret own) {index : Nat} (h1 : Cond.methodLink own index Lib.Math.min.name ∈ wsL_law) (h2 : Cond.static Lib.Math.min.name ∈ wsL_law) (h3 : Cond.initialized "java/lang/Math" ∈ wsL_law) (h4 : Cond.code Lib.Math.min.name Lib.Math.min.code 2 (some .int) ∈ wsL_law) (hR : 1 ≤ R.frames ∧ (st.map fun v => v.category).sum + 13 ≤ R.locals ∧ ca ≤ R.cells ∧ sl ≤ R.slots) {x y : Int32} (d : decode cc pc = .ok (.invokestatic index, 3))
    (kk : K p l e R s m args below meth c Q D b nL ca sl sh σ (pc + 3) ls (.int (if y < x then y else x) :: st)) : K p l e R s m args below meth c Q D b nL ca sl sh σ pc ls (.int y :: .int x :: st) := fun H locs lsA hRp hS hl =>
  va_mmin X.1 X.2.1 (X.2.2.1.trans hl.1.symm) X.2.2.2.1 (X.2.2.2.2.1 _ h1) (X.2.2.2.2.1 _ h2) (X.2.2.2.2.1 _ h3) (X.2.2.2.2.1 _ h4) hR.1 hR.2.1 hR.2.2.1 hR.2.2.2 d (kk H locs lsA hRp hS hl)
theorem K_copy (X : KX p s m meth c args D b cc nL ret own) {index a0 a n0 n1 : Nat} (h1 : Cond.methodLink own index arraycopyName ∈ wsL_law) (h2 : Cond.native arraycopyName ∈ wsL_law) (h3 : Cond.static arraycopyName ∈ wsL_law) (h4 : Cond.initialized "java/lang/System" ∈ wsL_law) (hs0 : sh[a0]? = some (.inr (.int, n0))) (hs1 : sh[a]? = some (.inr (.int, n1))) {sp dp n : Int32} (jn : Nat) (hsp : sp = 0) (hdp : dp = 0) (hn : n = nI jn) (hj : jn < 2 ^ 31) (hj0 : jn ≤ n0) (hj1 : jn ≤ n1)
    (hR : 1 ≤ R.frames ∧ (st.map fun v => v.category).sum + (nativeFrameWords "java/lang/System" "arraycopy" 5 + 11) ≤ R.locals) (d : decode cc pc = .ok (.invokestatic index, 3))
    (kk : K p l e R s m args below meth c Q D b nL ca sl sh (wI σ a (fun k => if k < jn then σ.1 a0 k else σ.1 a k)) (pc + 3) ls st) : K p l e R s m args below meth c Q D b nL ca sl sh σ pc ls (.int n :: .int dp :: rf b a :: .int sp :: rf b a0 :: st) := by
  intro H locs lsA hRp hS hl T hT Xs
  subst hsp
  subst hdp
  subst hn
  have hK := X.2.2.2.2.2.1.2.1 .int (by decide)
  have hc0 : H[b + a0]? = some (arrV (D.2.2 .int) n0 (fun k => .int (σ.1 a0 k))) := hRp.2 a0 _ hs0
  have hc1 : H[b + a]? = some (arrV (D.2.2 .int) n1 (fun k => .int (σ.1 a k))) := hRp.2 a _ hs1
  obtain ⟨-, k0, hk0, cm0, hkk0⟩ := hK.1 n0 (fun j => .int (σ.1 a0 j))
  obtain ⟨-, k1, hk1, cm1, hkk1⟩ := hK.1 n1 (fun j => .int (σ.1 a j))
  have z0 : (0 : Int32).toNatClampNeg = 0 := by decide
  have zi : (0 : Int32).toInt = 0 := by decide
  have zn : (nI jn).toNatClampNeg = jn := nI_clamp hj
  have zni : (nI jn).toInt = (jn : Int) := nI_toInt hj
  obtain ⟨vm', X', step⟩ := Xs.arraycopy X.1 X.2.2.2.1 (X.2.2.2.2.1 _ h1) (X.2.2.2.2.1 _ h2) (X.2.2.2.2.1 _ h3) (X.2.2.2.2.1 _ h4) (src := b + a0) (dst := b + a) (cs := arrV (D.2.2 .int) n0 (fun k => .int (σ.1 a0 k))) (cd := arrV (D.2.2 .int) n1 (fun k => .int (σ.1 a k))) (srcPos := 0) (destPos := 0) (n := nI jn) (by rw [hT]; exact hc0) (by rw [hT]; exact hc1)
    (fun _ h => by cases h) (fun _ h => by cases h) (fun h => by cases h) (fun h => by cases h) hk0 hk1 hkk0 hkk1 (by simp [refKind]) (by decide) (by decide) (nI_pos hj)
    (by rw [zi, zni, arrV_size]; omega)
    (by rw [zi, zni, arrV_size]; omega)
    (fun vm₁ _ i hi => by
      rw [zn] at hi
      have e : (arrV (D.2.2 .int) n0 (fun k => Value.int (σ.1 a0 k))).slots.getD ((0 : Int32).toNatClampNeg + i) .null = .int (σ.1 a0 i) := by
        rw [z0, Nat.zero_add, Array.getD_eq_getD_getElem?, arrV_read _ _ (by omega)]
        rfl
      refine ⟨?_, ?_⟩
      · rw [e]
        rfl
      · rw [e]
        exact trivial)
    (g := F0 m pc lsA (.int (nI jn) :: .int 0 :: .ref (b + a) :: .int 0 :: .ref (b + a0) :: st)) rfl (by show lsA.size = _; rw [hl.1, X.2.2.1]) (rest := st) rfl (by rw [X.2.1]; exact d) hR.1 (by show 2 * 0 + _ + _ ≤ _; omega)
  have e1 : copied (arrV (D.2.2 .int) n0 (fun k => Value.int (σ.1 a0 k))) (arrV (D.2.2 .int) n1 (fun k => Value.int (σ.1 a k))) 0 0 (nI jn) = arrV (D.2.2 .int) n1 (fun k => .int (if k < jn then σ.1 a0 k else σ.1 a k)) := by
    have e2 := va_copied (fun z => Value.int z) (D.2.2 .int) (D.2.2 .int) (n0 := n0) (n1 := n1) (sp := 0) (dp := 0) (n := jn) (fun k => σ.1 a0 k) (fun k => σ.1 a k) (by omega)
    have e3 : copied (arrV (D.2.2 .int) n0 (fun k => Value.int (σ.1 a0 k))) (arrV (D.2.2 .int) n1 (fun k => Value.int (σ.1 a k))) 0 0 (nI jn) = (arrV (D.2.2 .int) n1 (fun j => Value.int (σ.1 a j))).storeRun 0 ((arrV (D.2.2 .int) n0 (fun j => Value.int (σ.1 a0 j))).stretch 0 jn) := by
      unfold copied
      rw [z0, zn]
    rw [e3, e2]
    congr 1
    funext k
    simp [va_cpy]
  rw [e1] at X' step
  have hlt : b + a < H.size := (Array.getElem?_eq_some_iff.mp hc1).1
  generalize hnew : arrV (D.2.2 .int) n1 (fun k => Value.int (if k < jn then σ.1 a0 k else σ.1 a k)) = nw at X' step
  have hheap : ((T.setVm vm').setCell (b + a) nw).heap = H.setIfInBounds (b + a) nw := by rw [← hT]; rfl
  have oq : ∀ q : Nat, q ≠ b + a → (H.setIfInBounds (b + a) nw)[q]? = H[q]? := fun q hq => by simp [Array.getElem?_setIfInBounds, Ne.symm hq]
  have on : (H.setIfInBounds (b + a) nw)[b + a]? = some nw := by simp [Array.getElem?_setIfInBounds, hlt]
  obtain ⟨t, a1, b1⟩ := kk (H.setIfInBounds (b + a) nw) _ lsA (hRp.put hs1 (by simp) oq (by
      show _ = some (arrV _ _ _)
      rw [on, ← hnew]
      congr 2
      funext k
      show _ = Value.int ((wI σ a _).1 a k)
      rw [wI_self]) (fun y hy => ⟨wI_ne hy, rfl, rfl⟩)) ⟨by simp; exact hS.1, fun q g1 g2 => by
      rw [oq q (fun e => g2 (by rw [e]; exact Nat.le_add_right b a))]
      exact hS.2.1 q g1 g2, fun q hq => by
      rcases List.mem_append.mp hq with h | h
      · exact hS.2.2 q h
      · obtain ⟨z, -, hz⟩ := List.mem_map.mp h
        rw [← hz]
        exact Nat.le_add_right b a⟩ hl _ hheap X'
  exact ⟨t, step t a1, b1⟩
/-- the ends -/
theorem K_iret {Post : Option Value → KS → Prop} (X : KX p s m meth c args D b cc nL (some .int) own) {v : Int32} (hQ : Q = KQ below Post D b args s sh ca sl) (d : decode cc pc = .ok (.ireturn, 1)) (h : Post (some (.int v)) σ) : K p l e R s m args below meth c Q D b nL ca sl sh σ pc ls [.int v] := fun H locs lsA hR hS hl => by
  subst hQ
  exact W.iret X.1 X.2.1 X.2.2.2.2.2.2.1 (fun t ht hW => ⟨⟨_, _, rfl, h, by rw [ht]; exact hR⟩, hS.F ht⟩) hS.2.2 d X.2.2.2.2.2.2.2.1
theorem kB_nar (t : Bool) : narrow .boolean (.int (kB t)) = .int (kB t) := by cases t <;> rfl
theorem K_zret {Post : Option Value → KS → Prop} (X : KX p s m meth c args D b cc nL (some .boolean) own) {v : Int32} (t : Bool) (hv : v = kB t) (hQ : Q = KQ below Post D b args s sh ca sl) (d : decode cc pc = .ok (.ireturn, 1)) (h : Post (some (.int (kB t))) σ) : K p l e R s m args below meth c Q D b nL ca sl sh σ pc ls [.int v] := fun H locs lsA hR hS hl => by
  subst hv
  subst hQ
  exact W.zret X.1 X.2.1 X.2.2.2.2.2.2.1 (kB_nar t) (fun t ht hW => ⟨⟨_, _, rfl, h, by rw [ht]; exact hR⟩, hS.F ht⟩) hS.2.2 d X.2.2.2.2.2.2.2.1
theorem K_lret {Post : Option Value → KS → Prop} (X : KX p s m meth c args D b cc nL (some .long) own) {v : Int64} (hQ : Q = KQ below Post D b args s sh ca sl) (d : decode cc pc = .ok (.lreturn, 1)) (h : Post (some (.long v)) σ) : K p l e R s m args below meth c Q D b nL ca sl sh σ pc ls [.long v] := fun H locs lsA hR hS hl => by
  subst hQ
  exact W.lret X.1 X.2.1 X.2.2.2.2.2.2.1 (fun t ht hW => ⟨⟨_, _, rfl, h, by rw [ht]; exact hR⟩, hS.F ht⟩) hS.2.2 d X.2.2.2.2.2.2.2.1
theorem K_aret {Post : Option Value → KS → Prop} {C : String} (X : KX p s m meth c args D b cc nL (some (.object C)) own) {z : Nat} (hQ : Q = KQ below Post D b args s sh ca sl) (d : decode cc pc = .ok (.areturn, 1)) (h : Post (some (rf b z)) σ) : K p l e R s m args below meth c Q D b nL ca sl sh σ pc ls [rf b z] := fun H locs lsA hR hS hl => by
  subst hQ
  exact W.aret X.1 X.2.1 X.2.2.2.2.2.2.1 (Or.inl ⟨C, rfl⟩) (Or.inr ⟨b + z, rfl⟩) (fun t ht hW => ⟨⟨_, _, rfl, h, by rw [ht]; exact hR⟩, hS.F ht⟩) hS.2.2 d X.2.2.2.2.2.2.2.1
theorem K_aretN {Post : Option Value → KS → Prop} {C : String} (X : KX p s m meth c args D b cc nL (some (.object C)) own) (hQ : Q = KQ below Post D b args s sh ca sl) (d : decode cc pc = .ok (.areturn, 1)) (h : Post (some .null) σ) : K p l e R s m args below meth c Q D b nL ca sl sh σ pc ls [.null] := fun H locs lsA hR hS hl => by
  subst hQ
  exact W.aret X.1 X.2.1 X.2.2.2.2.2.2.1 (Or.inl ⟨C, rfl⟩) (Or.inl rfl) (fun t ht hW => ⟨⟨_, _, rfl, h, by rw [ht]; exact hR⟩, hS.F ht⟩) hS.2.2 d X.2.2.2.2.2.2.2.1
theorem K_vret {Post : Option Value → KS → Prop} (X : KX p s m meth c args D b cc nL none own) (hQ : Q = KQ below Post D b args s sh ca sl) (d : decode cc pc = .ok (.return_, 1)) (h : Post none σ) : K p l e R s m args below meth c Q D b nL ca sl sh σ pc ls [] := fun H locs lsA hR hS hl => by
  subst hQ
  exact W.vret X.1 X.2.1 X.2.2.2.2.2.2.1 (fun t ht hW => ⟨⟨_, _, rfl, h, by rw [ht]; exact hR⟩, hS.F ht⟩) hS.2.2 d X.2.2.2.2.2.2.2.1
/-- calls -/
theorem kGoodIn {y : MethodName} {bytes : ByteArray} {maxL : Nat} {ret : Option FieldType} (h : Cond.code y bytes maxL ret ∈ wsL_law) : GoodIn wsL_law (Cond.code y bytes maxL ret :: wsL_law) := by
  have hg : ∀ w ∈ wsL_law, w ∈ wsL_law ∧ ((w.onTables && w.keeps) = true ∨ ∃ ty, w = .arrayClass ty) := fun w hw => ⟨hw, good_of_word (List.all_eq_true.mp kGood w hw)⟩
  intro w hw
  rcases List.mem_cons.mp hw with rfl | hw
  · exact hg _ h
  · exact hg _ hw
theorem kBlind {D : KD} {b : Nat} {sh : List KSh} {σ : KS} {As : List Value} : FrameBlind (va_Pc As (fun U => KRep D b sh σ U.heap ∧ KK D U)) := fun a U g mk q => ⟨q.1, q.2.1, KK.same (u := U) (U := U.calling g mk a) rfl q.2.2⟩
theorem K_after {y : MethodName} {sh' : List KSh} {Post : Option Value → KS → Prop} {mc ms : Nat} {a : Array Value} {H : Heap} {locs : List Loc} {lsA : Array Slot} {stk : List Value} (hl : lv_has lsA nL ls) (hS : va_S (fun q => b ≤ q) s.heap H locs)
    (hr : va_Run p l e R s m args below meth c H locs ca sl mc ms (F0 m pc lsA stk) st ((fun (_ : Array Value) (st : State) (o : Outcome) (t : State) => (∃ r σ', o = .returned r ∧ Post r σ' ∧ KRep D b sh' σ' t.heap) ∧ va_F (fun q => b ≤ q) st t) a) (fun q => b ≤ q))
    (kk : ∀ r σ', Post r σ' → K p l e R s m args below meth c Q D b nL (ca + mc) (sl + ms) sh' σ' (pc + 3) ls (r.toList ++ st)) : W p l e R s m args below meth c H locs ca sl Q (F0 m pc lsA stk) := by
  intro T hT Xs
  obtain ⟨v, st₀, t, T', L, h0, X', hL, e1, e2, ⟨⟨r, σ', hv, hp, hRp⟩, hF⟩, st1⟩ := hr T hT Xs
  cases hv
  obtain ⟨hz, hk⟩ := hF
  rw [h0] at hz hk
  obtain ⟨t2, a1, b1⟩ := kk _ σ' hp T'.heap (locs ++ L) lsA (by rw [e1]; exact hRp) ⟨Nat.le_trans hS.1 (by rw [e1]; exact hz), fun q h1 h2 => by rw [e1, hk q (Nat.lt_of_lt_of_le h1 hS.1) h2]; exact hS.2.1 q h1 h2, fun q hq => by
      rcases List.mem_append.mp hq with h | h
      · exact hS.2.2 q h
      · exact hL q h⟩ hl T' rfl X'
  exact ⟨t2, st1 t2 a1, b1⟩
theorem K_callV (X : KX p s m meth c args D b cc nL ret own) {y : MethodName} {bytes : ByteArray} {maxL n index a ci mc ms : Nat} {rt : Option FieldType} {rm : Room} {As stk : List Value} {sh' : List KSh} {Post : Option Value → KS → Prop} {T : u_T} {N : Nat} (hc : Ct l D b y bytes maxL rt rm mc ms (rf b a :: As) sh σ sh' Post) (hy : kMy y bytes maxL rt n) (hi : Cond.instanceMethod y ∈ wsL_law ∧ Cond.selects y.cls y y ∈ wsL_law) (hlk : Cond.methodLink own index y ∈ wsL_law) (hsa : sh[a]? = some (.inl ci)) (hci : vwCl[ci]? = some (y.cls, T, N))
    (hroom : rm.cells = mc ∧ rm.slots = ms ∧ rm.frames + 1 ≤ R.frames ∧ 8 + (maxL + 11) + rm.locals ≤ R.locals ∧ ca + mc ≤ R.cells ∧ sl + ms ≤ R.slots) (hst : stk = As.reverse ++ rf b a :: st) (hn : As.length = n) (hcat : (st.map fun v => v.category).sum ≤ 8) (d : decode cc pc = .ok (.invokevirtual index, 3))
    (kk : ∀ r σ', Post r σ' → K p l e R s m args below meth c Q D b nL (ca + mc) (sl + ms) sh' σ' (pc + 3) ls (r.toList ++ st)) : K p l e R s m args below meth c Q D b nL ca sl sh σ pc ls stk := by
  intro H locs lsA hR hS hl
  subst hst
  obtain ⟨r, hr, cellV, g1, g2, g3, -⟩ := hR.2 a _ hsa
  have hcls : ClassAt s y.cls (D.1 ci) := (X.2.2.2.2.2.1.1 ci _ hci).2
  refine K_after (y := y) (a := (Value.ref (b + a) :: As).toArray) hl hS (va_runV (As := As) (rest := st) (n := n) ⟨X.1, X.2.1, X.2.2.1, X.2.2.2.1, X.2.2.2.2.1⟩ hc
    ⟨callB_of n X.2.2.2.2.1 (kGoodIn hy.2.1) rfl hroom.1 hroom.2.1 (X.2.2.2.2.1 _ hy.1) (X.2.2.2.2.1 _ hlk) ⟨hy.2.2.1, hy.2.2.2.1, hy.2.2.2.2⟩ ⟨hroom.2.2.1, hroom.2.2.2.1⟩, X.2.2.2.2.1 _ hi.1, X.2.2.2.2.1 _ hi.2⟩
    ⟨kBlind, ⟨cellV, g1, by rw [g3]; rfl, by rw [g2]; exact hcls.1⟩, fun U hU hW => ⟨rfl, by rw [hU]; exact hR, X.2.2.2.2.2.1.warm hW⟩⟩ rfl hn hl.1 rfl (lv_room hcat) d hroom.2.2.2.2) kk
theorem K_callS (X : KX p s m meth c args D b cc nL ret own) {y : MethodName} {bytes : ByteArray} {maxL n index mc ms : Nat} {rt : Option FieldType} {rm : Room} {As stk : List Value} {sh' : List KSh} {Post : Option Value → KS → Prop} (hc : Ct l D b y bytes maxL rt rm mc ms As sh σ sh' Post) (hy : kMy y bytes maxL rt n) (hi : Cond.static y ∈ wsL_law) (hlk : Cond.methodLink own index y ∈ wsL_law)
    (hroom : rm.cells = mc ∧ rm.slots = ms ∧ rm.frames + 1 ≤ R.frames ∧ 8 + (maxL + 11) + rm.locals ≤ R.locals ∧ ca + mc ≤ R.cells ∧ sl + ms ≤ R.slots) (hst : stk = As.reverse ++ st) (hn : As.length = n) (hcat : (st.map fun v => v.category).sum ≤ 8) (d : decode cc pc = .ok (.invokestatic index, 3))
    (kk : ∀ r σ', Post r σ' → K p l e R s m args below meth c Q D b nL (ca + mc) (sl + ms) sh' σ' (pc + 3) ls (r.toList ++ st)) : K p l e R s m args below meth c Q D b nL ca sl sh σ pc ls stk := by
  intro H locs lsA hR hS hl
  subst hst
  refine K_after (y := y) (a := As.toArray) hl hS (va_runS (As := As) (rest := st) (n := n) ⟨X.1, X.2.1, X.2.2.1, X.2.2.2.1, X.2.2.2.2.1⟩ hc
    ⟨callB_of n X.2.2.2.2.1 (kGoodIn hy.2.1) rfl hroom.1 hroom.2.1 (X.2.2.2.2.1 _ hy.1) (X.2.2.2.2.1 _ hlk) ⟨hy.2.2.1, hy.2.2.2.1, hy.2.2.2.2⟩ ⟨hroom.2.2.1, hroom.2.2.2.1⟩, X.2.2.2.2.1 _ hi⟩
    ⟨kBlind, fun U hU hW => ⟨rfl, by rw [hU]; exact hR, X.2.2.2.2.2.1.warm hW⟩⟩ rfl hn hl.1 rfl (lv_room hcat) d hroom.2.2.2.2) kk
/-- a private static method of another class of the nest -/
theorem kCN (X : KX p s m meth c args D b cc nL ret own) {y : MethodName} {bytes : ByteArray} {maxL n index mc ms : Nat} {host : String} {rt : Option FieldType} {rm : Room} (hy : kMy y bytes maxL rt n) (hlk : (own, index, y, host) ∈ kNest) (hroom : rm.cells = mc ∧ rm.slots = ms ∧ rm.frames + 1 ≤ R.frames ∧ 8 + (maxL + 11) + rm.locals ≤ R.locals) : va_CN R s args own index y host bytes maxL rt (Cond.code y bytes maxL rt :: wsL_law) rm mc ms n :=
  va_cnB n X.2.2.2.2.1 (kGoodIn hy.2.1) rfl hroom.1 hroom.2.1 (X.2.2.2.2.2.1.2.2.1 _ hlk) (X.2.2.2.2.1 _ hy.1) ⟨hy.2.2.1, hy.2.2.2.1, hy.2.2.2.2⟩ ⟨hroom.2.2.1, hroom.2.2.2⟩
theorem K_callSN (X : KX p s m meth c args D b cc nL ret own) {y : MethodName} {bytes : ByteArray} {maxL n index mc ms : Nat} {host : String} {rt : Option FieldType} {rm : Room} {As stk : List Value} {sh' : List KSh} {Post : Option Value → KS → Prop} (hc : Ct l D b y bytes maxL rt rm mc ms As sh σ sh' Post) (hy : kMy y bytes maxL rt n) (hi : Cond.static y ∈ wsL_law) (hlk : (own, index, y, host) ∈ kNest)
    (hroom : rm.cells = mc ∧ rm.slots = ms ∧ rm.frames + 1 ≤ R.frames ∧ 8 + (maxL + 11) + rm.locals ≤ R.locals ∧ ca + mc ≤ R.cells ∧ sl + ms ≤ R.slots) (hst : stk = As.reverse ++ st) (hn : As.length = n) (hcat : (st.map fun v => v.category).sum ≤ 8) (d : decode cc pc = .ok (.invokestatic index, 3))
    (kk : ∀ r σ', Post r σ' → K p l e R s m args below meth c Q D b nL (ca + mc) (sl + ms) sh' σ' (pc + 3) ls (r.toList ++ st)) : K p l e R s m args below meth c Q D b nL ca sl sh σ pc ls stk := by
  intro H locs lsA hR hS hl
  subst hst
  exact K_after (y := y) (a := As.toArray) hl hS (va_runSN (As := As) (rest := st) (n := n) ⟨X.1, X.2.1, X.2.2.1, X.2.2.2.1, X.2.2.2.2.1⟩ hc ⟨kCN X hy hlk ⟨hroom.1, hroom.2.1, hroom.2.2.1, hroom.2.2.2.1⟩, X.2.2.2.2.1 _ hi, trivial⟩
    ⟨kBlind, fun U hU hW => ⟨rfl, by rw [hU]; exact hR, X.2.2.2.2.2.1.warm hW⟩⟩ rfl hn hl.1 rfl (lv_room hcat) d hroom.2.2.2.2) kk
/-- constructors -/
theorem K_callI (X : KX p s m meth c args D b cc nL ret own) {y : MethodName} {bytes : ByteArray} {maxL n index a mc ms : Nat} {rm : Room} {As stk : List Value} {sh' : List KSh} {Post : Option Value → KS → Prop} (hc : Ct l D b y bytes maxL none rm mc ms (rf b a :: As) sh σ sh' Post) (hy : kMy y bytes maxL none n) (hi : Cond.instanceMethod y ∈ wsL_law) (hnm : y.name = "<init>") (hlk : Cond.methodLink own index y ∈ wsL_law)
    (hroom : rm.cells = mc ∧ rm.slots = ms ∧ rm.frames + 1 ≤ R.frames ∧ 8 + (maxL + 11) + rm.locals ≤ R.locals ∧ ca + mc ≤ R.cells ∧ sl + ms ≤ R.slots) (hst : stk = As.reverse ++ rf b a :: st) (hn : As.length = n) (hcat : (st.map fun v => v.category).sum ≤ 8) (d : decode cc pc = .ok (.invokespecial index, 3))
    (kk : ∀ r σ', Post r σ' → K p l e R s m args below meth c Q D b nL (ca + mc) (sl + ms) sh' σ' (pc + 3) ls (r.toList ++ st)) : K p l e R s m args below meth c Q D b nL ca sl sh σ pc ls stk := by
  intro H locs lsA hR hS hl
  subst hst
  exact K_after (y := y) (a := (Value.ref (b + a) :: As).toArray) hl hS (va_runI (As := As) (rest := st) (n := n) ⟨X.1, X.2.1, X.2.2.1, X.2.2.2.1, X.2.2.2.2.1⟩ hc
    ⟨callB_of n X.2.2.2.2.1 (kGoodIn hy.2.1) rfl hroom.1 hroom.2.1 (X.2.2.2.2.1 _ hy.1) (X.2.2.2.2.1 _ hlk) ⟨hy.2.2.1, hy.2.2.2.1, hy.2.2.2.2⟩ ⟨hroom.2.2.1, hroom.2.2.2.1⟩, hnm, X.2.2.2.2.1 _ hi⟩
    ⟨kBlind, fun U hU hW => ⟨rfl, by rw [hU]; exact hR, X.2.2.2.2.2.1.warm hW⟩⟩ rfl hn hl.1 rfl (lv_room hcat) d hroom.2.2.2.2) kk
theorem K_callIN (X : KX p s m meth c args D b cc nL ret own) {y : MethodName} {bytes : ByteArray} {maxL n index a mc ms : Nat} {host : String} {rm : Room} {As stk : List Value} {sh' : List KSh} {Post : Option Value → KS → Prop} (hc : Ct l D b y bytes maxL none rm mc ms (rf b a :: As) sh σ sh' Post) (hy : kMy y bytes maxL none n) (hi : Cond.instanceMethod y ∈ wsL_law) (hnm : y.name = "<init>") (hlk : (own, index, y, host) ∈ kNest)
    (hroom : rm.cells = mc ∧ rm.slots = ms ∧ rm.frames + 1 ≤ R.frames ∧ 8 + (maxL + 11) + rm.locals ≤ R.locals ∧ ca + mc ≤ R.cells ∧ sl + ms ≤ R.slots) (hst : stk = As.reverse ++ rf b a :: st) (hn : As.length = n) (hcat : (st.map fun v => v.category).sum ≤ 8) (d : decode cc pc = .ok (.invokespecial index, 3))
    (kk : ∀ r σ', Post r σ' → K p l e R s m args below meth c Q D b nL (ca + mc) (sl + ms) sh' σ' (pc + 3) ls (r.toList ++ st)) : K p l e R s m args below meth c Q D b nL ca sl sh σ pc ls stk := by
  intro H locs lsA hR hS hl
  subst hst
  exact K_after (y := y) (a := (Value.ref (b + a) :: As).toArray) hl hS (va_runIN (As := As) (rest := st) (n := n) ⟨X.1, X.2.1, X.2.2.1, X.2.2.2.1, X.2.2.2.2.1⟩ hc ⟨kCN X hy hlk ⟨hroom.1, hroom.2.1, hroom.2.2.1, hroom.2.2.2.1⟩, hnm, X.2.2.2.2.1 _ hi⟩
    ⟨kBlind, fun U hU hW => ⟨rfl, by rw [hU]; exact hR, X.2.2.2.2.2.1.warm hW⟩⟩ rfl hn hl.1 rfl (lv_room hcat) d hroom.2.2.2.2) kk
theorem K_objInit (X : KX p s m meth c args D b cc nL ret own) {index a : Nat} (h1 : Cond.methodLink own index Lib.objectInit ∈ wsL_law) (h2 : Cond.instanceMethod Lib.objectInit ∈ wsL_law) (h3 : Cond.code Lib.objectInit ⟨#[0xb1]⟩ 1 none ∈ wsL_law) (hR : 1 ≤ R.frames ∧ (st.map fun v => v.category).sum + 12 ≤ R.locals) (d : decode cc pc = .ok (.invokespecial index, 3))
    (kk : K p l e R s m args below meth c Q D b nL ca sl sh σ (pc + 3) ls st) : K p l e R s m args below meth c Q D b nL ca sl sh σ pc ls (rf b a :: st) := fun H locs lsA hRp hS hl =>
  W.objInit X.1 X.2.1 X.2.2.2.1 (X.2.2.2.2.1 _ h1) (X.2.2.2.2.1 _ h2) (X.2.2.2.2.1 _ h3) rfl (hl.1.trans X.2.2.1.symm) rfl d hR.1 (by show 2 * 0 + _ + 12 ≤ _; omega) (kk H locs lsA hRp hS hl)
theorem K_callVE (X : KX p s m meth c args D b cc nL ret own) {y : MethodName} {bytes : ByteArray} {maxL n index a ci mc ms : Nat} {rt : Option FieldType} {rm : Room} {As stk : List Value} {sh' : List KSh} {σ' : KS} {v : Value} {T : u_T} {N : Nat} (hc : Ct l D b y bytes maxL rt rm mc ms (rf b a :: As) sh σ sh' (pE (some v) σ')) (hy : kMy y bytes maxL rt n) (hi : Cond.instanceMethod y ∈ wsL_law ∧ Cond.selects y.cls y y ∈ wsL_law) (hlk : Cond.methodLink own index y ∈ wsL_law) (hsa : sh[a]? = some (.inl ci)) (hci : vwCl[ci]? = some (y.cls, T, N))
    (hroom : rm.cells = mc ∧ rm.slots = ms ∧ rm.frames + 1 ≤ R.frames ∧ 8 + (maxL + 11) + rm.locals ≤ R.locals ∧ ca + mc ≤ R.cells ∧ sl + ms ≤ R.slots) (hst : stk = As.reverse ++ rf b a :: st) (hn : As.length = n) (hcat : (st.map fun v => v.category).sum ≤ 8) (d : decode cc pc = .ok (.invokevirtual index, 3))
    (kk : K p l e R s m args below meth c Q D b nL (ca + mc) (sl + ms) sh' σ' (pc + 3) ls (v :: st)) : K p l e R s m args below meth c Q D b nL ca sl sh σ pc ls stk := K_callV X hc hy hi hlk hsa hci hroom hst hn hcat d (by rintro _ _ ⟨rfl, rfl⟩; exact kk)
theorem K_callVE0 (X : KX p s m meth c args D b cc nL ret own) {y : MethodName} {bytes : ByteArray} {maxL n index a ci mc ms : Nat} {rt : Option FieldType} {rm : Room} {As stk : List Value} {sh' : List KSh} {σ' : KS} {T : u_T} {N : Nat} (hc : Ct l D b y bytes maxL rt rm mc ms (rf b a :: As) sh σ sh' (pE (none) σ')) (hy : kMy y bytes maxL rt n) (hi : Cond.instanceMethod y ∈ wsL_law ∧ Cond.selects y.cls y y ∈ wsL_law) (hlk : Cond.methodLink own index y ∈ wsL_law) (hsa : sh[a]? = some (.inl ci)) (hci : vwCl[ci]? = some (y.cls, T, N))
    (hroom : rm.cells = mc ∧ rm.slots = ms ∧ rm.frames + 1 ≤ R.frames ∧ 8 + (maxL + 11) + rm.locals ≤ R.locals ∧ ca + mc ≤ R.cells ∧ sl + ms ≤ R.slots) (hst : stk = As.reverse ++ rf b a :: st) (hn : As.length = n) (hcat : (st.map fun v => v.category).sum ≤ 8) (d : decode cc pc = .ok (.invokevirtual index, 3))
    (kk : K p l e R s m args below meth c Q D b nL (ca + mc) (sl + ms) sh' σ' (pc + 3) ls st) : K p l e R s m args below meth c Q D b nL ca sl sh σ pc ls stk := K_callV X hc hy hi hlk hsa hci hroom hst hn hcat d (by rintro _ _ ⟨rfl, rfl⟩; exact kk)
theorem K_callVP (X : KX p s m meth c args D b cc nL ret own) {y : MethodName} {bytes : ByteArray} {maxL n index a ci mc ms : Nat} {rt : Option FieldType} {rm : Room} {As stk : List Value} {sh' : List KSh} {φ : KS → Prop} {v : Value} {T : u_T} {N : Nat} (hc : Ct l D b y bytes maxL rt rm mc ms (rf b a :: As) sh σ sh' (pS (some v) φ)) (hy : kMy y bytes maxL rt n) (hi : Cond.instanceMethod y ∈ wsL_law ∧ Cond.selects y.cls y y ∈ wsL_law) (hlk : Cond.methodLink own index y ∈ wsL_law) (hsa : sh[a]? = some (.inl ci)) (hci : vwCl[ci]? = some (y.cls, T, N))
    (hroom : rm.cells = mc ∧ rm.slots = ms ∧ rm.frames + 1 ≤ R.frames ∧ 8 + (maxL + 11) + rm.locals ≤ R.locals ∧ ca + mc ≤ R.cells ∧ sl + ms ≤ R.slots) (hst : stk = As.reverse ++ rf b a :: st) (hn : As.length = n) (hcat : (st.map fun v => v.category).sum ≤ 8) (d : decode cc pc = .ok (.invokevirtual index, 3))
    (kk : ∀ σ', φ σ' → K p l e R s m args below meth c Q D b nL (ca + mc) (sl + ms) sh' σ' (pc + 3) ls (v :: st)) : K p l e R s m args below meth c Q D b nL ca sl sh σ pc ls stk := K_callV X hc hy hi hlk hsa hci hroom hst hn hcat d (by rintro _ σ' ⟨rfl, h⟩; exact kk σ' h)
theorem K_callVP0 (X : KX p s m meth c args D b cc nL ret own) {y : MethodName} {bytes : ByteArray} {maxL n index a ci mc ms : Nat} {rt : Option FieldType} {rm : Room} {As stk : List Value} {sh' : List KSh} {φ : KS → Prop} {T : u_T} {N : Nat} (hc : Ct l D b y bytes maxL rt rm mc ms (rf b a :: As) sh σ sh' (pS (none) φ)) (hy : kMy y bytes maxL rt n) (hi : Cond.instanceMethod y ∈ wsL_law ∧ Cond.selects y.cls y y ∈ wsL_law) (hlk : Cond.methodLink own index y ∈ wsL_law) (hsa : sh[a]? = some (.inl ci)) (hci : vwCl[ci]? = some (y.cls, T, N))
    (hroom : rm.cells = mc ∧ rm.slots = ms ∧ rm.frames + 1 ≤ R.frames ∧ 8 + (maxL + 11) + rm.locals ≤ R.locals ∧ ca + mc ≤ R.cells ∧ sl + ms ≤ R.slots) (hst : stk = As.reverse ++ rf b a :: st) (hn : As.length = n) (hcat : (st.map fun v => v.category).sum ≤ 8) (d : decode cc pc = .ok (.invokevirtual index, 3))
    (kk : ∀ σ', φ σ' → K p l e R s m args below meth c Q D b nL (ca + mc) (sl + ms) sh' σ' (pc + 3) ls st) : K p l e R s m args below meth c Q D b nL ca sl sh σ pc ls stk := K_callV X hc hy hi hlk hsa hci hroom hst hn hcat d (by rintro _ σ' ⟨rfl, h⟩; exact kk σ' h)
theorem K_callSE (X : KX p s m meth c args D b cc nL ret own) {y : MethodName} {bytes : ByteArray} {maxL n index mc ms : Nat} {rt : Option FieldType} {rm : Room} {As stk : List Value} {sh' : List KSh} {σ' : KS} {v : Value} (hc : Ct l D b y bytes maxL rt rm mc ms As sh σ sh' (pE (some v) σ')) (hy : kMy y bytes maxL rt n) (hi : Cond.static y ∈ wsL_law) (hlk : Cond.methodLink own index y ∈ wsL_law)
    (hroom : rm.cells = mc ∧ rm.slots = ms ∧ rm.frames + 1 ≤ R.frames ∧ 8 + (maxL + 11) + rm.locals ≤ R.locals ∧ ca + mc ≤ R.cells ∧ sl + ms ≤ R.slots) (hst : stk = As.reverse ++ st) (hn : As.length = n) (hcat : (st.map fun v => v.category).sum ≤ 8) (d : decode cc pc = .ok (.invokestatic index, 3))
    (kk : K p l e R s m args below meth c Q D b nL (ca + mc) (sl + ms) sh' σ' (pc + 3) ls (v :: st)) : K p l e R s m args below meth c Q D b nL ca sl sh σ pc ls stk := K_callS X hc hy hi hlk hroom hst hn hcat d (by rintro _ _ ⟨rfl, rfl⟩; exact kk)
theorem K_callSE0 (X : KX p s m meth c args D b cc nL ret own) {y : MethodName} {bytes : ByteArray} {maxL n index mc ms : Nat} {rt : Option FieldType} {rm : Room} {As stk : List Value} {sh' : List KSh} {σ' : KS} (hc : Ct l D b y bytes maxL rt rm mc ms As sh σ sh' (pE (none) σ')) (hy : kMy y bytes maxL rt n) (hi : Cond.static y ∈ wsL_law) (hlk : Cond.methodLink own index y ∈ wsL_law)
    (hroom : rm.cells = mc ∧ rm.slots = ms ∧ rm.frames + 1 ≤ R.frames ∧ 8 + (maxL + 11) + rm.locals ≤ R.locals ∧ ca + mc ≤ R.cells ∧ sl + ms ≤ R.slots) (hst : stk = As.reverse ++ st) (hn : As.length = n) (hcat : (st.map fun v => v.category).sum ≤ 8) (d : decode cc pc = .ok (.invokestatic index, 3))
    (kk : K p l e R s m args below meth c Q D b nL (ca + mc) (sl + ms) sh' σ' (pc + 3) ls st) : K p l e R s m args below meth c Q D b nL ca sl sh σ pc ls stk := K_callS X hc hy hi hlk hroom hst hn hcat d (by rintro _ _ ⟨rfl, rfl⟩; exact kk)
theorem K_callSP (X : KX p s m meth c args D b cc nL ret own) {y : MethodName} {bytes : ByteArray} {maxL n index mc ms : Nat} {rt : Option FieldType} {rm : Room} {As stk : List Value} {sh' : List KSh} {φ : KS → Prop} {v : Value} (hc : Ct l D b y bytes maxL rt rm mc ms As sh σ sh' (pS (some v) φ)) (hy : kMy y bytes maxL rt n) (hi : Cond.static y ∈ wsL_law) (hlk : Cond.methodLink own index y ∈ wsL_law)
    (hroom : rm.cells = mc ∧ rm.slots = ms ∧ rm.frames + 1 ≤ R.frames ∧ 8 + (maxL + 11) + rm.locals ≤ R.locals ∧ ca + mc ≤ R.cells ∧ sl + ms ≤ R.slots) (hst : stk = As.reverse ++ st) (hn : As.length = n) (hcat : (st.map fun v => v.category).sum ≤ 8) (d : decode cc pc = .ok (.invokestatic index, 3))
    (kk : ∀ σ', φ σ' → K p l e R s m args below meth c Q D b nL (ca + mc) (sl + ms) sh' σ' (pc + 3) ls (v :: st)) : K p l e R s m args below meth c Q D b nL ca sl sh σ pc ls stk := K_callS X hc hy hi hlk hroom hst hn hcat d (by rintro _ σ' ⟨rfl, h⟩; exact kk σ' h)
theorem K_callSP0 (X : KX p s m meth c args D b cc nL ret own) {y : MethodName} {bytes : ByteArray} {maxL n index mc ms : Nat} {rt : Option FieldType} {rm : Room} {As stk : List Value} {sh' : List KSh} {φ : KS → Prop} (hc : Ct l D b y bytes maxL rt rm mc ms As sh σ sh' (pS (none) φ)) (hy : kMy y bytes maxL rt n) (hi : Cond.static y ∈ wsL_law) (hlk : Cond.methodLink own index y ∈ wsL_law)
    (hroom : rm.cells = mc ∧ rm.slots = ms ∧ rm.frames + 1 ≤ R.frames ∧ 8 + (maxL + 11) + rm.locals ≤ R.locals ∧ ca + mc ≤ R.cells ∧ sl + ms ≤ R.slots) (hst : stk = As.reverse ++ st) (hn : As.length = n) (hcat : (st.map fun v => v.category).sum ≤ 8) (d : decode cc pc = .ok (.invokestatic index, 3))
    (kk : ∀ σ', φ σ' → K p l e R s m args below meth c Q D b nL (ca + mc) (sl + ms) sh' σ' (pc + 3) ls st) : K p l e R s m args below meth c Q D b nL ca sl sh σ pc ls stk := K_callS X hc hy hi hlk hroom hst hn hcat d (by rintro _ σ' ⟨rfl, h⟩; exact kk σ' h)
theorem K_callSNE (X : KX p s m meth c args D b cc nL ret own) {y : MethodName} {bytes : ByteArray} {maxL n index mc ms : Nat} {host : String} {rt : Option FieldType} {rm : Room} {As stk : List Value} {sh' : List KSh} {σ' : KS} {v : Value} (hc : Ct l D b y bytes maxL rt rm mc ms As sh σ sh' (pE (some v) σ')) (hy : kMy y bytes maxL rt n) (hi : Cond.static y ∈ wsL_law) (hlk : (own, index, y, host) ∈ kNest)
    (hroom : rm.cells = mc ∧ rm.slots = ms ∧ rm.frames + 1 ≤ R.frames ∧ 8 + (maxL + 11) + rm.locals ≤ R.locals ∧ ca + mc ≤ R.cells ∧ sl + ms ≤ R.slots) (hst : stk = As.reverse ++ st) (hn : As.length = n) (hcat : (st.map fun v => v.category).sum ≤ 8) (d : decode cc pc = .ok (.invokestatic index, 3))
    (kk : K p l e R s m args below meth c Q D b nL (ca + mc) (sl + ms) sh' σ' (pc + 3) ls (v :: st)) : K p l e R s m args below meth c Q D b nL ca sl sh σ pc ls stk := K_callSN X hc hy hi hlk hroom hst hn hcat d (by rintro _ _ ⟨rfl, rfl⟩; exact kk)
theorem K_callSNE0 (X : KX p s m meth c args D b cc nL ret own) {y : MethodName} {bytes : ByteArray} {maxL n index mc ms : Nat} {host : String} {rt : Option FieldType} {rm : Room} {As stk : List Value} {sh' : List KSh} {σ' : KS} (hc : Ct l D b y bytes maxL rt rm mc ms As sh σ sh' (pE (none) σ')) (hy : kMy y bytes maxL rt n) (hi : Cond.static y ∈ wsL_law) (hlk : (own, index, y, host) ∈ kNest)
    (hroom : rm.cells = mc ∧ rm.slots = ms ∧ rm.frames + 1 ≤ R.frames ∧ 8 + (maxL + 11) + rm.locals ≤ R.locals ∧ ca + mc ≤ R.cells ∧ sl + ms ≤ R.slots) (hst : stk = As.reverse ++ st) (hn : As.length = n) (hcat : (st.map fun v => v.category).sum ≤ 8) (d : decode cc pc = .ok (.invokestatic index, 3))
    (kk : K p l e R s m args below meth c Q D b nL (ca + mc) (sl + ms) sh' σ' (pc + 3) ls st) : K p l e R s m args below meth c Q D b nL ca sl sh σ pc ls stk := K_callSN X hc hy hi hlk hroom hst hn hcat d (by rintro _ _ ⟨rfl, rfl⟩; exact kk)
theorem K_callSNP (X : KX p s m meth c args D b cc nL ret own) {y : MethodName} {bytes : ByteArray} {maxL n index mc ms : Nat} {host : String} {rt : Option FieldType} {rm : Room} {As stk : List Value} {sh' : List KSh} {φ : KS → Prop} {v : Value} (hc : Ct l D b y bytes maxL rt rm mc ms As sh σ sh' (pS (some v) φ)) (hy : kMy y bytes maxL rt n) (hi : Cond.static y ∈ wsL_law) (hlk : (own, index, y, host) ∈ kNest)
    (hroom : rm.cells = mc ∧ rm.slots = ms ∧ rm.frames + 1 ≤ R.frames ∧ 8 + (maxL + 11) + rm.locals ≤ R.locals ∧ ca + mc ≤ R.cells ∧ sl + ms ≤ R.slots) (hst : stk = As.reverse ++ st) (hn : As.length = n) (hcat : (st.map fun v => v.category).sum ≤ 8) (d : decode cc pc = .ok (.invokestatic index, 3))
    (kk : ∀ σ', φ σ' → K p l e R s m args below meth c Q D b nL (ca + mc) (sl + ms) sh' σ' (pc + 3) ls (v :: st)) : K p l e R s m args below meth c Q D b nL ca sl sh σ pc ls stk := K_callSN X hc hy hi hlk hroom hst hn hcat d (by rintro _ σ' ⟨rfl, h⟩; exact kk σ' h)
theorem K_callSNP0 (X : KX p s m meth c args D b cc nL ret own) {y : MethodName} {bytes : ByteArray} {maxL n index mc ms : Nat} {host : String} {rt : Option FieldType} {rm : Room} {As stk : List Value} {sh' : List KSh} {φ : KS → Prop} (hc : Ct l D b y bytes maxL rt rm mc ms As sh σ sh' (pS (none) φ)) (hy : kMy y bytes maxL rt n) (hi : Cond.static y ∈ wsL_law) (hlk : (own, index, y, host) ∈ kNest)
    (hroom : rm.cells = mc ∧ rm.slots = ms ∧ rm.frames + 1 ≤ R.frames ∧ 8 + (maxL + 11) + rm.locals ≤ R.locals ∧ ca + mc ≤ R.cells ∧ sl + ms ≤ R.slots) (hst : stk = As.reverse ++ st) (hn : As.length = n) (hcat : (st.map fun v => v.category).sum ≤ 8) (d : decode cc pc = .ok (.invokestatic index, 3))
    (kk : ∀ σ', φ σ' → K p l e R s m args below meth c Q D b nL (ca + mc) (sl + ms) sh' σ' (pc + 3) ls st) : K p l e R s m args below meth c Q D b nL ca sl sh σ pc ls stk := K_callSN X hc hy hi hlk hroom hst hn hcat d (by rintro _ σ' ⟨rfl, h⟩; exact kk σ' h)
theorem K_callIE0 (X : KX p s m meth c args D b cc nL ret own) {y : MethodName} {bytes : ByteArray} {maxL n index a mc ms : Nat} {rm : Room} {As stk : List Value} {sh' : List KSh} {σ' : KS} (hc : Ct l D b y bytes maxL none rm mc ms (rf b a :: As) sh σ sh' (pE (none) σ')) (hy : kMy y bytes maxL none n) (hi : Cond.instanceMethod y ∈ wsL_law) (hnm : y.name = "<init>") (hlk : Cond.methodLink own index y ∈ wsL_law)
    (hroom : rm.cells = mc ∧ rm.slots = ms ∧ rm.frames + 1 ≤ R.frames ∧ 8 + (maxL + 11) + rm.locals ≤ R.locals ∧ ca + mc ≤ R.cells ∧ sl + ms ≤ R.slots) (hst : stk = As.reverse ++ rf b a :: st) (hn : As.length = n) (hcat : (st.map fun v => v.category).sum ≤ 8) (d : decode cc pc = .ok (.invokespecial index, 3))
    (kk : K p l e R s m args below meth c Q D b nL (ca + mc) (sl + ms) sh' σ' (pc + 3) ls st) : K p l e R s m args below meth c Q D b nL ca sl sh σ pc ls stk := K_callI X hc hy hi hnm hlk hroom hst hn hcat d (by rintro _ _ ⟨rfl, rfl⟩; exact kk)
theorem K_callIP0 (X : KX p s m meth c args D b cc nL ret own) {y : MethodName} {bytes : ByteArray} {maxL n index a mc ms : Nat} {rm : Room} {As stk : List Value} {sh' : List KSh} {φ : KS → Prop} (hc : Ct l D b y bytes maxL none rm mc ms (rf b a :: As) sh σ sh' (pS (none) φ)) (hy : kMy y bytes maxL none n) (hi : Cond.instanceMethod y ∈ wsL_law) (hnm : y.name = "<init>") (hlk : Cond.methodLink own index y ∈ wsL_law)
    (hroom : rm.cells = mc ∧ rm.slots = ms ∧ rm.frames + 1 ≤ R.frames ∧ 8 + (maxL + 11) + rm.locals ≤ R.locals ∧ ca + mc ≤ R.cells ∧ sl + ms ≤ R.slots) (hst : stk = As.reverse ++ rf b a :: st) (hn : As.length = n) (hcat : (st.map fun v => v.category).sum ≤ 8) (d : decode cc pc = .ok (.invokespecial index, 3))
    (kk : ∀ σ', φ σ' → K p l e R s m args below meth c Q D b nL (ca + mc) (sl + ms) sh' σ' (pc + 3) ls st) : K p l e R s m args below meth c Q D b nL ca sl sh σ pc ls stk := K_callI X hc hy hi hnm hlk hroom hst hn hcat d (by rintro _ σ' ⟨rfl, h⟩; exact kk σ' h)
theorem K_callINE0 (X : KX p s m meth c args D b cc nL ret own) {y : MethodName} {bytes : ByteArray} {maxL n index a mc ms : Nat} {host : String} {rm : Room} {As stk : List Value} {sh' : List KSh} {σ' : KS} (hc : Ct l D b y bytes maxL none rm mc ms (rf b a :: As) sh σ sh' (pE (none) σ')) (hy : kMy y bytes maxL none n) (hi : Cond.instanceMethod y ∈ wsL_law) (hnm : y.name = "<init>") (hlk : (own, index, y, host) ∈ kNest)
    (hroom : rm.cells = mc ∧ rm.slots = ms ∧ rm.frames + 1 ≤ R.frames ∧ 8 + (maxL + 11) + rm.locals ≤ R.locals ∧ ca + mc ≤ R.cells ∧ sl + ms ≤ R.slots) (hst : stk = As.reverse ++ rf b a :: st) (hn : As.length = n) (hcat : (st.map fun v => v.category).sum ≤ 8) (d : decode cc pc = .ok (.invokespecial index, 3))
    (kk : K p l e R s m args below meth c Q D b nL (ca + mc) (sl + ms) sh' σ' (pc + 3) ls st) : K p l e R s m args below meth c Q D b nL ca sl sh σ pc ls stk := K_callIN X hc hy hi hnm hlk hroom hst hn hcat d (by rintro _ _ ⟨rfl, rfl⟩; exact kk)
theorem K_callINP0 (X : KX p s m meth c args D b cc nL ret own) {y : MethodName} {bytes : ByteArray} {maxL n index a mc ms : Nat} {host : String} {rm : Room} {As stk : List Value} {sh' : List KSh} {φ : KS → Prop} (hc : Ct l D b y bytes maxL none rm mc ms (rf b a :: As) sh σ sh' (pS (none) φ)) (hy : kMy y bytes maxL none n) (hi : Cond.instanceMethod y ∈ wsL_law) (hnm : y.name = "<init>") (hlk : (own, index, y, host) ∈ kNest)
    (hroom : rm.cells = mc ∧ rm.slots = ms ∧ rm.frames + 1 ≤ R.frames ∧ 8 + (maxL + 11) + rm.locals ≤ R.locals ∧ ca + mc ≤ R.cells ∧ sl + ms ≤ R.slots) (hst : stk = As.reverse ++ rf b a :: st) (hn : As.length = n) (hcat : (st.map fun v => v.category).sum ≤ 8) (d : decode cc pc = .ok (.invokespecial index, 3))
    (kk : ∀ σ', φ σ' → K p l e R s m args below meth c Q D b nL (ca + mc) (sl + ms) sh' σ' (pc + 3) ls st) : K p l e R s m args below meth c Q D b nL ca sl sh σ pc ls stk := K_callIN X hc hy hi hnm hlk hroom hst hn hcat d (by rintro _ σ' ⟨rfl, h⟩; exact kk σ' h)
/-- new cells: the state σ' has the blank cell's values in the new row -/
theorem K_new (X : KX p s m meth c args D b cc nL ret own) {σ' : KS} {ci index N : Nat} {C : String} {T : u_T} (F : kFd ci) (hc : vwCl[ci]? = some (C, T, N)) (h1 : Cond.classLink own index C ∈ wsL_law) (h2 : Cond.instantiable C N ∈ wsL_law) (h3 : Cond.initialized C ∈ wsL_law) (hv : ∀ j, j < N → kv b (kTy ci j) σ' sh.length j = defaultValue (kTy ci j)) (hoth : ∀ x, x < sh.length → σ'.1 x = σ.1 x ∧ σ'.2.1 x = σ.2.1 x ∧ σ'.2.2 x = σ.2.2 x) (hroom : ca + 1 ≤ R.cells ∧ sl + N ≤ R.slots) (d : decode cc pc = .ok (.new index, 3))
    (kk : K p l e R s m args below meth c Q D b nL (ca + 1) (sl + N) (sh ++ [.inl ci]) σ' (pc + 3) ls (rf b sh.length :: st)) : K p l e R s m args below meth c Q D b nL ca sl sh σ pc ls st := by
  intro H locs lsA hR hS hl
  obtain ⟨F1, F2, F3⟩ := F _ hc
  have hKn := X.2.2.2.2.2.1.1 ci _ hc
  refine W.newcK X.1 X.2.1 X.2.2.2.1 (X.2.2.2.2.1 _ h1) (X.2.2.2.2.1 _ h2) (X.2.2.2.2.1 _ h3) rfl d hroom.1 hroom.2 hKn.2.1 hR.1 fun H1 kC hkC e1 z1 o1 => ?_
  refine kk H1 locs lsA (hR.push z1 o1 ⟨_, hc, (u_born (kTy ci) X.2.2.2.2.1 F1 hKn hkC e1 F2).to (fun j hj => (hv j hj).symm)⟩ hoth) ⟨by rw [z1]; have := hS.1; rw [hR.1] at this; omega, fun q g1 g2 => ?_, hS.2.2⟩ hl
  rw [o1 q (by have : ¬ b ≤ q := g2; omega)]
  exact hS.2.1 q g1 g2
theorem kNm {D : KD} (hK : KK D s) {ty : FieldType} (hty : ty = .int ∨ ty = .char) {cA : ClassId} (h : s.vm.findClass ("[" ++ ty.toString) = some cA) : cA = D.2.2 ty := by
  rcases hty with rfl | rfl
  · have h2 : s.vm.findClass ("[" ++ FieldType.int.toString) = some (D.2.2 .int) := (hK.2.1 .int (by decide)).2
    exact Option.some.inj (h.symm.trans h2)
  · have h2 : s.vm.findClass ("[" ++ FieldType.char.toString) = some (D.2.2 .char) := (hK.2.1 .char (by decide)).2
    exact Option.some.inj (h.symm.trans h2)
theorem K_newa (X : KX p s m meth c args D b cc nL ret own) {σ' : KS} {atype : ArrayType} {ty : FieldType} (hat : newarray.typeOf atype = ty) (hty : ty = .int ∨ ty = .char) (h1 : Cond.arrayClass ty ∈ wsL_law) {n : Int32} (jn : Nat) (hn : n = nI jn) (hj : jn < 65536) (hv : ∀ j, j < jn → σ'.1 sh.length j = 0) (hoth : ∀ x, x < sh.length → σ'.1 x = σ.1 x ∧ σ'.2.1 x = σ.2.1 x ∧ σ'.2.2 x = σ.2.2 x) (hroom : ca + 1 ≤ R.cells ∧ sl + jn ≤ R.slots) (d : decode cc pc = .ok (.newarray atype, 2))
    (kk : K p l e R s m args below meth c Q D b nL (ca + 1) (sl + jn) (sh ++ [.inr (ty, jn)]) σ' (pc + 2) ls (rf b sh.length :: st)) : K p l e R s m args below meth c Q D b nL ca sl sh σ pc ls (.int n :: st) := by
  intro H locs lsA hR hS hl
  subst hn
  subst hat
  have hcb : jn * componentBytes (newarray.typeOf atype) ≤ 536870912 := by
    rcases hty with h | h <;> rw [h] <;> simp only [componentBytes] <;> omega
  refine va_newaK X.1 X.2.1 (X.2.2.2.2.1 _ h1) rfl d rfl (nI_pos (by omega)) (nI_clamp (by omega)) hcb hroom.1 hroom.2 hR.1 fun H1 cA e1 z1 o1 hAr hNm => ?_
  have hcA := kNm X.2.2.2.2.2.1 hty hNm
  subst hcA
  refine kk H1 locs lsA (hR.push z1 o1 ?_ hoth) ⟨by rw [z1]; have := hS.1; rw [hR.1] at this; omega, fun q g1 g2 => ?_, hS.2.2⟩ hl
  · show H1[b + sh.length]? = some (arrV _ _ _)
    rw [e1]
    refine congrArg some ?_
    unfold arrV
    congr 1
    apply Array.ext
    · simp
    · intro i hi1 hi2
      simp only [Array.getElem_ofFn]
      have hi3 : i < jn := by simpa using hi1
      rcases hty with h | h <;> rw [h] <;> show Value.int 0 = Value.int (σ'.1 sh.length i) <;> rw [hv i hi3]
  · rw [o1 q (by have : ¬ b ≤ q := g2; omega)]
    exact hS.2.1 q g1 g2
theorem K_newq (X : KX p s m meth c args D b cc nL ret own) {σ' : KS} {index : Nat} {C : String} (hC : C = "FishCounter$Lot" ∨ C = "FishCounter$Shop") (h1 : Cond.classLink own index C ∈ wsL_law) {n : Int32} (jn : Nat) (hn : n = nI jn) (hj : jn < 65536) (hv : ∀ j, j < jn → σ'.2.2 sh.length j = none) (hoth : ∀ x, x < sh.length → σ'.1 x = σ.1 x ∧ σ'.2.1 x = σ.2.1 x ∧ σ'.2.2 x = σ.2.2 x) (hroom : ca + 1 ≤ R.cells ∧ sl + jn ≤ R.slots) (d : decode cc pc = .ok (.anewarray index, 3))
    (kk : K p l e R s m args below meth c Q D b nL (ca + 1) (sl + jn) (sh ++ [.inr (.object C, jn)]) σ' (pc + 3) ls (rf b sh.length :: st)) : K p l e R s m args below meth c Q D b nL ca sl sh σ pc ls (.int n :: st) := by
  intro H locs lsA hR hS hl
  subst hn
  have hao : va_AO C s := by rcases hC with rfl | rfl; exact X.2.2.2.2.2.1.2.2.2.1; exact X.2.2.2.2.2.1.2.2.2.2
  have hty : FieldType.object C ∈ kTys := by rcases hC with rfl | rfl <;> decide
  obtain ⟨kA, comp, k1, k2, k3, k4⟩ := (X.2.2.2.2.2.1.2.1 _ hty).2
  have hz : (nI jn).toNatClampNeg = jn := nI_clamp (by omega)
  refine W.anew X.1 X.2.1 X.2.2.2.1 (X.2.2.2.2.1 _ h1) (va_AO.use hao) rfl d rfl (nI_pos (by omega)) (by rw [hz]; omega) hroom.1 (by rw [hz]; exact hroom.2) fun cA kA' comp' f1 f2 f3 f4 => ?_
  have hcA : cA = D.2.2 (.object C) := Option.some.inj (f1.symm.trans k4)
  subst hcA
  rw [hz, hR.1]
  generalize hH1 : H.push ({ cls := D.2.2 (.object C), slots := Array.replicate jn .null, vm := .none } : Cell) = H1
  have z1 : H1.size = b + sh.length + 1 := by rw [← hH1, Array.size_push, hR.1]
  have e1 : H1[b + sh.length]? = some (arrV (D.2.2 (.object C)) jn (fun _ => .null)) := by rw [← hH1, ← hR.1, Array.getElem?_push_size, ← arrV_new]
  have o1 : ∀ q : Nat, q < b + sh.length → H1[q]? = H[q]? := fun q hq => by rw [← hH1, Array.getElem?_push, if_neg (by rw [hR.1]; omega)]
  refine kk H1 locs lsA (hR.push z1 o1 ?_ hoth) ⟨by rw [z1]; have := hS.1; rw [hR.1] at this; omega, fun q g1 g2 => ?_, hS.2.2⟩ hl
  · show H1[b + sh.length]? = some (arrV _ _ _)
    rw [e1]
    refine congrArg some ?_
    unfold arrV
    congr 1
    apply Array.ext
    · simp
    · intro i hi1 hi2
      simp only [Array.getElem_ofFn]
      have hi3 : i < jn := by simpa using hi1
      show Value.null = va_rf ((σ'.2.2 sh.length i).map _)
      rw [hv i hi3]
      rfl
  · rw [o1 q (by have : ¬ b ≤ q := g2; omega)]
    exact hS.2.1 q g1 g2
theorem K_widen {ca' sl' : Nat} (h1 : ca ≤ ca') (h2 : sl ≤ sl') (kk : K p l e R s m args below meth c Q D b nL ca' sl' sh σ pc ls st) : K p l e R s m args below meth c Q D b nL ca sl sh σ pc ls st := fun H locs lsA hR hS hl => W.widen h1 h2 (kk H locs lsA hR hS hl)
theorem K_ifN_eq (X : KX p s m meth c args D b cc nL ret own) {x : Nat} {off : Int} {tgt : Nat} (d : decode cc pc = .ok (.ifCond .eq off, 3)) (ht : (pc : Int) + off = (tgt : Int)) (hx : x < 2 ^ 31) (kt : x = 0 → K p l e R s m args below meth c Q D b nL ca sl sh σ tgt ls st) (kf : ¬ x = 0 → K p l e R s m args below meth c Q D b nL ca sl sh σ (pc + 3) ls st) : K p l e R s m args below meth c Q D b nL ca sl sh σ pc ls (.int (nI x) :: st) := K_if_eq X d ht (fun z => kt ((nI_eq hx (by decide)).mp z)) (fun z => kf (fun q => z (by rw [q]; rfl)))
theorem K_ifN_ne (X : KX p s m meth c args D b cc nL ret own) {x : Nat} {off : Int} {tgt : Nat} (d : decode cc pc = .ok (.ifCond .ne off, 3)) (ht : (pc : Int) + off = (tgt : Int)) (hx : x < 2 ^ 31) (kt : ¬ x = 0 → K p l e R s m args below meth c Q D b nL ca sl sh σ tgt ls st) (kf : x = 0 → K p l e R s m args below meth c Q D b nL ca sl sh σ (pc + 3) ls st) : K p l e R s m args below meth c Q D b nL ca sl sh σ pc ls (.int (nI x) :: st) := K_if_ne X d ht (fun z => kt (fun q => z (by rw [q]; rfl))) (fun z => kf ((nI_eq hx (by decide)).mp z))
theorem K_ifN_le (X : KX p s m meth c args D b cc nL ret own) {x : Nat} {off : Int} {tgt : Nat} (d : decode cc pc = .ok (.ifCond .le off, 3)) (ht : (pc : Int) + off = (tgt : Int)) (hx : x < 2 ^ 31) (kt : x = 0 → K p l e R s m args below meth c Q D b nL ca sl sh σ tgt ls st) (kf : ¬ x = 0 → K p l e R s m args below meth c Q D b nL ca sl sh σ (pc + 3) ls st) : K p l e R s m args below meth c Q D b nL ca sl sh σ pc ls (.int (nI x) :: st) := K_if_le X d ht (fun z => kt (by have := (nI_leI hx (by decide)).mp (show nI x ≤ nI 0 from z); omega)) (fun z => kf (fun q => z (by rw [q]; exact (nI_leI (by decide) (by decide)).mpr (Nat.le_refl 0))))
theorem kup {P : Nat → Prop} {n : Nat} (h : ∀ i, i ≤ n → (i < n → P (i + 1)) → P i) : ∀ i, i ≤ n → P i := by
  have key : ∀ k i, i + k = n → P i := by
    intro k
    induction k with
    | zero => intro i hi; exact h i (by omega) (fun z => absurd z (by omega))
    | succ k ih => intro i hi; exact h i (by omega) (fun _ => ih (i + 1) (by omega))
  intro i hi
  exact key (n - i) i (by omega)
theorem kv_o {σ : KS} {C : String} {a k z : Nat} (h : σ.2.2 a k = some z) : kv b (.object C) σ a k = rf b z := by
  show va_rf ((σ.2.2 a k).map _) = _
  rw [h]
  rfl
theorem kv_a {σ : KS} {t : FieldType} {a k z : Nat} (h : σ.2.2 a k = some z) : kv b (.array t) σ a k = rf b z := by
  show va_rf ((σ.2.2 a k).map _) = _
  rw [h]
  rfl
end KROWS
abbrev rM (f L : Nat) : Room := { frames := f, cells := 0, slots := 0, locals := L }
end
section
/-! how each instruction of the class and the law decodes -/
theorem dX0_init_0 : decode cX0_init 0 = .ok (.aload_n 0, 1) := by decide +kernel
theorem dX0_init_1 : decode cX0_init 1 = .ok (.invokespecial 3, 3) := by decide +kernel
theorem dX0_init_4 : decode cX0_init 4 = .ok (.aload_n 0, 1) := by decide +kernel
theorem dX0_init_5 : decode cX0_init 5 = .ok (.bipush 80, 2) := by decide +kernel
theorem dX0_init_7 : decode cX0_init 7 = .ok (.newarray .char, 2) := by decide +kernel
theorem dX0_init_9 : decode cX0_init 9 = .ok (.putfield 9, 3) := by decide +kernel
theorem dX0_init_12 : decode cX0_init 12 = .ok (.return_, 1) := by decide +kernel
theorem dX0_append_0 : decode cX0_append 0 = .ok (.aload_n 0, 1) := by decide +kernel
theorem dX0_append_1 : decode cX0_append 1 = .ok (.getfield 9, 3) := by decide +kernel
theorem dX0_append_4 : decode cX0_append 4 = .ok (.aload_n 0, 1) := by decide +kernel
theorem dX0_append_5 : decode cX0_append 5 = .ok (.getfield 15, 3) := by decide +kernel
theorem dX0_append_8 : decode cX0_append 8 = .ok (.iload_n 1, 1) := by decide +kernel
theorem dX0_append_9 : decode cX0_append 9 = .ok (.castore, 1) := by decide +kernel
theorem dX0_append_10 : decode cX0_append 10 = .ok (.aload_n 0, 1) := by decide +kernel
theorem dX0_append_11 : decode cX0_append 11 = .ok (.dup, 1) := by decide +kernel
theorem dX0_append_12 : decode cX0_append 12 = .ok (.getfield 15, 3) := by decide +kernel
theorem dX0_append_15 : decode cX0_append 15 = .ok (.iconst 1, 1) := by decide +kernel
theorem dX0_append_16 : decode cX0_append 16 = .ok (.iadd, 1) := by decide +kernel
theorem dX0_append_17 : decode cX0_append 17 = .ok (.putfield 15, 3) := by decide +kernel
theorem dX0_append_20 : decode cX0_append 20 = .ok (.return_, 1) := by decide +kernel
theorem dX0_firstError_0 : decode cX0_firstError 0 = .ok (.aload_n 0, 1) := by decide +kernel
theorem dX0_firstError_1 : decode cX0_firstError 1 = .ok (.invokevirtual 19, 3) := by decide +kernel
theorem dX0_firstError_4 : decode cX0_firstError 4 = .ok (.iconst 0, 1) := by decide +kernel
theorem dX0_firstError_5 : decode cX0_firstError 5 = .ok (.istore_n 1, 1) := by decide +kernel
theorem dX0_firstError_6 : decode cX0_firstError 6 = .ok (.iload_n 1, 1) := by decide +kernel
theorem dX0_firstError_7 : decode cX0_firstError 7 = .ok (.bipush 80, 2) := by decide +kernel
theorem dX0_firstError_9 : decode cX0_firstError 9 = .ok (.if_icmp .ge 49, 3) := by decide +kernel
theorem dX0_firstError_12 : decode cX0_firstError 12 = .ok (.aload_n 0, 1) := by decide +kernel
theorem dX0_firstError_13 : decode cX0_firstError 13 = .ok (.invokevirtual 22, 3) := by decide +kernel
theorem dX0_firstError_16 : decode cX0_firstError 16 = .ok (.ifCond .ne 8, 3) := by decide +kernel
theorem dX0_firstError_19 : decode cX0_firstError 19 = .ok (.aload_n 0, 1) := by decide +kernel
theorem dX0_firstError_20 : decode cX0_firstError 20 = .ok (.getfield 26, 3) := by decide +kernel
theorem dX0_firstError_23 : decode cX0_firstError 23 = .ok (.ireturn, 1) := by decide +kernel
theorem dX0_firstError_24 : decode cX0_firstError 24 = .ok (.aload_n 0, 1) := by decide +kernel
theorem dX0_firstError_25 : decode cX0_firstError 25 = .ok (.getfield 26, 3) := by decide +kernel
theorem dX0_firstError_28 : decode cX0_firstError 28 = .ok (.aload_n 0, 1) := by decide +kernel
theorem dX0_firstError_29 : decode cX0_firstError 29 = .ok (.getfield 15, 3) := by decide +kernel
theorem dX0_firstError_32 : decode cX0_firstError 32 = .ok (.if_icmp .lt 6, 3) := by decide +kernel
theorem dX0_firstError_35 : decode cX0_firstError 35 = .ok (.bipush (-6), 2) := by decide +kernel
theorem dX0_firstError_37 : decode cX0_firstError 37 = .ok (.ireturn, 1) := by decide +kernel
theorem dX0_firstError_38 : decode cX0_firstError 38 = .ok (.aload_n 0, 1) := by decide +kernel
theorem dX0_firstError_39 : decode cX0_firstError 39 = .ok (.bipush 59, 2) := by decide +kernel
theorem dX0_firstError_41 : decode cX0_firstError 41 = .ok (.invokevirtual 29, 3) := by decide +kernel
theorem dX0_firstError_44 : decode cX0_firstError 44 = .ok (.ifCond .ne 8, 3) := by decide +kernel
theorem dX0_firstError_47 : decode cX0_firstError 47 = .ok (.aload_n 0, 1) := by decide +kernel
theorem dX0_firstError_48 : decode cX0_firstError 48 = .ok (.getfield 26, 3) := by decide +kernel
theorem dX0_firstError_51 : decode cX0_firstError 51 = .ok (.ireturn, 1) := by decide +kernel
theorem dX0_firstError_52 : decode cX0_firstError 52 = .ok (.iinc 1 1, 3) := by decide +kernel
theorem dX0_firstError_55 : decode cX0_firstError 55 = .ok (.goto (-49), 3) := by decide +kernel
theorem dX0_firstError_58 : decode cX0_firstError 58 = .ok (.aload_n 0, 1) := by decide +kernel
theorem dX0_firstError_59 : decode cX0_firstError 59 = .ok (.getfield 26, 3) := by decide +kernel
theorem dX0_firstError_62 : decode cX0_firstError 62 = .ok (.ireturn, 1) := by decide +kernel
theorem dX0_startReading_0 : decode cX0_startReading 0 = .ok (.aload_n 0, 1) := by decide +kernel
theorem dX0_startReading_1 : decode cX0_startReading 1 = .ok (.iconst 0, 1) := by decide +kernel
theorem dX0_startReading_2 : decode cX0_startReading 2 = .ok (.putfield 26, 3) := by decide +kernel
theorem dX0_startReading_5 : decode cX0_startReading 5 = .ok (.return_, 1) := by decide +kernel
theorem dX0_readItem_0 : decode cX0_readItem 0 = .ok (.aload_n 0, 1) := by decide +kernel
theorem dX0_readItem_1 : decode cX0_readItem 1 = .ok (.aload_n 0, 1) := by decide +kernel
theorem dX0_readItem_2 : decode cX0_readItem 2 = .ok (.iconst 0, 1) := by decide +kernel
theorem dX0_readItem_3 : decode cX0_readItem 3 = .ok (.iconst 5, 1) := by decide +kernel
theorem dX0_readItem_4 : decode cX0_readItem 4 = .ok (.invokevirtual 33, 3) := by decide +kernel
theorem dX0_readItem_7 : decode cX0_readItem 7 = .ok (.putfield 37, 3) := by decide +kernel
theorem dX0_readItem_10 : decode cX0_readItem 10 = .ok (.aload_n 0, 1) := by decide +kernel
theorem dX0_readItem_11 : decode cX0_readItem 11 = .ok (.getfield 37, 3) := by decide +kernel
theorem dX0_readItem_14 : decode cX0_readItem 14 = .ok (.bipush (-6), 2) := by decide +kernel
theorem dX0_readItem_16 : decode cX0_readItem 16 = .ok (.if_icmp .eq 12, 3) := by decide +kernel
theorem dX0_readItem_19 : decode cX0_readItem 19 = .ok (.aload_n 0, 1) := by decide +kernel
theorem dX0_readItem_20 : decode cX0_readItem 20 = .ok (.bipush 58, 2) := by decide +kernel
theorem dX0_readItem_22 : decode cX0_readItem 22 = .ok (.invokevirtual 29, 3) := by decide +kernel
theorem dX0_readItem_25 : decode cX0_readItem 25 = .ok (.ifCond .ne 5, 3) := by decide +kernel
theorem dX0_readItem_28 : decode cX0_readItem 28 = .ok (.iconst 0, 1) := by decide +kernel
theorem dX0_readItem_29 : decode cX0_readItem 29 = .ok (.ireturn, 1) := by decide +kernel
theorem dX0_readItem_30 : decode cX0_readItem 30 = .ok (.aload_n 0, 1) := by decide +kernel
theorem dX0_readItem_31 : decode cX0_readItem 31 = .ok (.aload_n 0, 1) := by decide +kernel
theorem dX0_readItem_32 : decode cX0_readItem 32 = .ok (.iconst 1, 1) := by decide +kernel
theorem dX0_readItem_33 : decode cX0_readItem 33 = .ok (.sipush 20000, 3) := by decide +kernel
theorem dX0_readItem_36 : decode cX0_readItem 36 = .ok (.invokevirtual 33, 3) := by decide +kernel
theorem dX0_readItem_39 : decode cX0_readItem 39 = .ok (.putfield 40, 3) := by decide +kernel
theorem dX0_readItem_42 : decode cX0_readItem 42 = .ok (.aload_n 0, 1) := by decide +kernel
theorem dX0_readItem_43 : decode cX0_readItem 43 = .ok (.getfield 40, 3) := by decide +kernel
theorem dX0_readItem_46 : decode cX0_readItem 46 = .ok (.bipush (-6), 2) := by decide +kernel
theorem dX0_readItem_48 : decode cX0_readItem 48 = .ok (.if_icmp .eq 12, 3) := by decide +kernel
theorem dX0_readItem_51 : decode cX0_readItem 51 = .ok (.aload_n 0, 1) := by decide +kernel
theorem dX0_readItem_52 : decode cX0_readItem 52 = .ok (.bipush 47, 2) := by decide +kernel
theorem dX0_readItem_54 : decode cX0_readItem 54 = .ok (.invokevirtual 29, 3) := by decide +kernel
theorem dX0_readItem_57 : decode cX0_readItem 57 = .ok (.ifCond .ne 5, 3) := by decide +kernel
theorem dX0_readItem_60 : decode cX0_readItem 60 = .ok (.iconst 0, 1) := by decide +kernel
theorem dX0_readItem_61 : decode cX0_readItem 61 = .ok (.ireturn, 1) := by decide +kernel
theorem dX0_readItem_62 : decode cX0_readItem 62 = .ok (.aload_n 0, 1) := by decide +kernel
theorem dX0_readItem_63 : decode cX0_readItem 63 = .ok (.aload_n 0, 1) := by decide +kernel
theorem dX0_readItem_64 : decode cX0_readItem 64 = .ok (.iconst 0, 1) := by decide +kernel
theorem dX0_readItem_65 : decode cX0_readItem 65 = .ok (.bipush 100, 2) := by decide +kernel
theorem dX0_readItem_67 : decode cX0_readItem 67 = .ok (.invokevirtual 33, 3) := by decide +kernel
theorem dX0_readItem_70 : decode cX0_readItem 70 = .ok (.putfield 43, 3) := by decide +kernel
theorem dX0_readItem_73 : decode cX0_readItem 73 = .ok (.aload_n 0, 1) := by decide +kernel
theorem dX0_readItem_74 : decode cX0_readItem 74 = .ok (.getfield 43, 3) := by decide +kernel
theorem dX0_readItem_77 : decode cX0_readItem 77 = .ok (.bipush (-6), 2) := by decide +kernel
theorem dX0_readItem_79 : decode cX0_readItem 79 = .ok (.if_icmp .eq 12, 3) := by decide +kernel
theorem dX0_readItem_82 : decode cX0_readItem 82 = .ok (.aload_n 0, 1) := by decide +kernel
theorem dX0_readItem_83 : decode cX0_readItem 83 = .ok (.bipush 64, 2) := by decide +kernel
theorem dX0_readItem_85 : decode cX0_readItem 85 = .ok (.invokevirtual 29, 3) := by decide +kernel
theorem dX0_readItem_88 : decode cX0_readItem 88 = .ok (.ifCond .ne 5, 3) := by decide +kernel
theorem dX0_readItem_91 : decode cX0_readItem 91 = .ok (.iconst 0, 1) := by decide +kernel
theorem dX0_readItem_92 : decode cX0_readItem 92 = .ok (.ireturn, 1) := by decide +kernel
theorem dX0_readItem_93 : decode cX0_readItem 93 = .ok (.aload_n 0, 1) := by decide +kernel
theorem dX0_readItem_94 : decode cX0_readItem 94 = .ok (.aload_n 0, 1) := by decide +kernel
theorem dX0_readItem_95 : decode cX0_readItem 95 = .ok (.iconst 0, 1) := by decide +kernel
theorem dX0_readItem_96 : decode cX0_readItem 96 = .ok (.iconst 5, 1) := by decide +kernel
theorem dX0_readItem_97 : decode cX0_readItem 97 = .ok (.invokevirtual 33, 3) := by decide +kernel
theorem dX0_readItem_100 : decode cX0_readItem 100 = .ok (.putfield 46, 3) := by decide +kernel
theorem dX0_readItem_103 : decode cX0_readItem 103 = .ok (.aload_n 0, 1) := by decide +kernel
theorem dX0_readItem_104 : decode cX0_readItem 104 = .ok (.getfield 46, 3) := by decide +kernel
theorem dX0_readItem_107 : decode cX0_readItem 107 = .ok (.bipush (-6), 2) := by decide +kernel
theorem dX0_readItem_109 : decode cX0_readItem 109 = .ok (.if_icmp .eq 7, 3) := by decide +kernel
theorem dX0_readItem_112 : decode cX0_readItem 112 = .ok (.iconst 1, 1) := by decide +kernel
theorem dX0_readItem_113 : decode cX0_readItem 113 = .ok (.goto 4, 3) := by decide +kernel
theorem dX0_readItem_116 : decode cX0_readItem 116 = .ok (.iconst 0, 1) := by decide +kernel
theorem dX0_readItem_117 : decode cX0_readItem 117 = .ok (.ireturn, 1) := by decide +kernel
theorem dX0_skipSign_0 : decode cX0_skipSign 0 = .ok (.aload_n 0, 1) := by decide +kernel
theorem dX0_skipSign_1 : decode cX0_skipSign 1 = .ok (.getfield 26, 3) := by decide +kernel
theorem dX0_skipSign_4 : decode cX0_skipSign 4 = .ok (.aload_n 0, 1) := by decide +kernel
theorem dX0_skipSign_5 : decode cX0_skipSign 5 = .ok (.getfield 15, 3) := by decide +kernel
theorem dX0_skipSign_8 : decode cX0_skipSign 8 = .ok (.if_icmp .ge 16, 3) := by decide +kernel
theorem dX0_skipSign_11 : decode cX0_skipSign 11 = .ok (.aload_n 0, 1) := by decide +kernel
theorem dX0_skipSign_12 : decode cX0_skipSign 12 = .ok (.getfield 9, 3) := by decide +kernel
theorem dX0_skipSign_15 : decode cX0_skipSign 15 = .ok (.aload_n 0, 1) := by decide +kernel
theorem dX0_skipSign_16 : decode cX0_skipSign 16 = .ok (.getfield 26, 3) := by decide +kernel
theorem dX0_skipSign_19 : decode cX0_skipSign 19 = .ok (.caload, 1) := by decide +kernel
theorem dX0_skipSign_20 : decode cX0_skipSign 20 = .ok (.iload_n 1, 1) := by decide +kernel
theorem dX0_skipSign_21 : decode cX0_skipSign 21 = .ok (.if_icmp .eq 5, 3) := by decide +kernel
theorem dX0_skipSign_24 : decode cX0_skipSign 24 = .ok (.iconst 0, 1) := by decide +kernel
theorem dX0_skipSign_25 : decode cX0_skipSign 25 = .ok (.ireturn, 1) := by decide +kernel
theorem dX0_skipSign_26 : decode cX0_skipSign 26 = .ok (.aload_n 0, 1) := by decide +kernel
theorem dX0_skipSign_27 : decode cX0_skipSign 27 = .ok (.dup, 1) := by decide +kernel
theorem dX0_skipSign_28 : decode cX0_skipSign 28 = .ok (.getfield 26, 3) := by decide +kernel
theorem dX0_skipSign_31 : decode cX0_skipSign 31 = .ok (.iconst 1, 1) := by decide +kernel
theorem dX0_skipSign_32 : decode cX0_skipSign 32 = .ok (.iadd, 1) := by decide +kernel
theorem dX0_skipSign_33 : decode cX0_skipSign 33 = .ok (.putfield 26, 3) := by decide +kernel
theorem dX0_skipSign_36 : decode cX0_skipSign 36 = .ok (.iconst 1, 1) := by decide +kernel
theorem dX0_skipSign_37 : decode cX0_skipSign 37 = .ok (.ireturn, 1) := by decide +kernel
theorem dX0_readNumber_0 : decode cX0_readNumber 0 = .ok (.aload_n 0, 1) := by decide +kernel
theorem dX0_readNumber_1 : decode cX0_readNumber 1 = .ok (.invokevirtual 49, 3) := by decide +kernel
theorem dX0_readNumber_4 : decode cX0_readNumber 4 = .ok (.istore_n 3, 1) := by decide +kernel
theorem dX0_readNumber_5 : decode cX0_readNumber 5 = .ok (.iload_n 3, 1) := by decide +kernel
theorem dX0_readNumber_6 : decode cX0_readNumber 6 = .ok (.bipush (-6), 2) := by decide +kernel
theorem dX0_readNumber_8 : decode cX0_readNumber 8 = .ok (.if_icmp .eq 12, 3) := by decide +kernel
theorem dX0_readNumber_11 : decode cX0_readNumber 11 = .ok (.iload_n 3, 1) := by decide +kernel
theorem dX0_readNumber_12 : decode cX0_readNumber 12 = .ok (.iload_n 1, 1) := by decide +kernel
theorem dX0_readNumber_13 : decode cX0_readNumber 13 = .ok (.iload_n 2, 1) := by decide +kernel
theorem dX0_readNumber_14 : decode cX0_readNumber 14 = .ok (.invokestatic 53, 3) := by decide +kernel
theorem dX0_readNumber_17 : decode cX0_readNumber 17 = .ok (.ifCond .ne 6, 3) := by decide +kernel
theorem dX0_readNumber_20 : decode cX0_readNumber 20 = .ok (.bipush (-6), 2) := by decide +kernel
theorem dX0_readNumber_22 : decode cX0_readNumber 22 = .ok (.ireturn, 1) := by decide +kernel
theorem dX0_readNumber_23 : decode cX0_readNumber 23 = .ok (.aload_n 0, 1) := by decide +kernel
theorem dX0_readNumber_24 : decode cX0_readNumber 24 = .ok (.dup, 1) := by decide +kernel
theorem dX0_readNumber_25 : decode cX0_readNumber 25 = .ok (.getfield 26, 3) := by decide +kernel
theorem dX0_readNumber_28 : decode cX0_readNumber 28 = .ok (.iconst 1, 1) := by decide +kernel
theorem dX0_readNumber_29 : decode cX0_readNumber 29 = .ok (.iadd, 1) := by decide +kernel
theorem dX0_readNumber_30 : decode cX0_readNumber 30 = .ok (.putfield 26, 3) := by decide +kernel
theorem dX0_readNumber_33 : decode cX0_readNumber 33 = .ok (.iload_n 3, 1) := by decide +kernel
theorem dX0_readNumber_34 : decode cX0_readNumber 34 = .ok (.ifCond .ne 5, 3) := by decide +kernel
theorem dX0_readNumber_37 : decode cX0_readNumber 37 = .ok (.iload_n 3, 1) := by decide +kernel
theorem dX0_readNumber_38 : decode cX0_readNumber 38 = .ok (.ireturn, 1) := by decide +kernel
theorem dX0_readNumber_39 : decode cX0_readNumber 39 = .ok (.aload_n 0, 1) := by decide +kernel
theorem dX0_readNumber_40 : decode cX0_readNumber 40 = .ok (.getfield 26, 3) := by decide +kernel
theorem dX0_readNumber_43 : decode cX0_readNumber 43 = .ok (.aload_n 0, 1) := by decide +kernel
theorem dX0_readNumber_44 : decode cX0_readNumber 44 = .ok (.getfield 15, 3) := by decide +kernel
theorem dX0_readNumber_47 : decode cX0_readNumber 47 = .ok (.if_icmp .ge 51, 3) := by decide +kernel
theorem dX0_readNumber_50 : decode cX0_readNumber 50 = .ok (.aload_n 0, 1) := by decide +kernel
theorem dX0_readNumber_51 : decode cX0_readNumber 51 = .ok (.invokevirtual 49, 3) := by decide +kernel
theorem dX0_readNumber_54 : decode cX0_readNumber 54 = .ok (.istore 4, 2) := by decide +kernel
theorem dX0_readNumber_56 : decode cX0_readNumber 56 = .ok (.iload 4, 2) := by decide +kernel
theorem dX0_readNumber_58 : decode cX0_readNumber 58 = .ok (.bipush (-6), 2) := by decide +kernel
theorem dX0_readNumber_60 : decode cX0_readNumber 60 = .ok (.if_icmp .eq 38, 3) := by decide +kernel
theorem dX0_readNumber_63 : decode cX0_readNumber 63 = .ok (.bipush 10, 2) := by decide +kernel
theorem dX0_readNumber_65 : decode cX0_readNumber 65 = .ok (.iload_n 3, 1) := by decide +kernel
theorem dX0_readNumber_66 : decode cX0_readNumber 66 = .ok (.imul, 1) := by decide +kernel
theorem dX0_readNumber_67 : decode cX0_readNumber 67 = .ok (.iload 4, 2) := by decide +kernel
theorem dX0_readNumber_69 : decode cX0_readNumber 69 = .ok (.iadd, 1) := by decide +kernel
theorem dX0_readNumber_70 : decode cX0_readNumber 70 = .ok (.iload_n 2, 1) := by decide +kernel
theorem dX0_readNumber_71 : decode cX0_readNumber 71 = .ok (.if_icmp .le 6, 3) := by decide +kernel
theorem dX0_readNumber_74 : decode cX0_readNumber 74 = .ok (.goto 24, 3) := by decide +kernel
theorem dX0_readNumber_77 : decode cX0_readNumber 77 = .ok (.bipush 10, 2) := by decide +kernel
theorem dX0_readNumber_79 : decode cX0_readNumber 79 = .ok (.iload_n 3, 1) := by decide +kernel
theorem dX0_readNumber_80 : decode cX0_readNumber 80 = .ok (.imul, 1) := by decide +kernel
theorem dX0_readNumber_81 : decode cX0_readNumber 81 = .ok (.iload 4, 2) := by decide +kernel
theorem dX0_readNumber_83 : decode cX0_readNumber 83 = .ok (.iadd, 1) := by decide +kernel
theorem dX0_readNumber_84 : decode cX0_readNumber 84 = .ok (.istore_n 3, 1) := by decide +kernel
theorem dX0_readNumber_85 : decode cX0_readNumber 85 = .ok (.aload_n 0, 1) := by decide +kernel
theorem dX0_readNumber_86 : decode cX0_readNumber 86 = .ok (.dup, 1) := by decide +kernel
theorem dX0_readNumber_87 : decode cX0_readNumber 87 = .ok (.getfield 26, 3) := by decide +kernel
theorem dX0_readNumber_90 : decode cX0_readNumber 90 = .ok (.iconst 1, 1) := by decide +kernel
theorem dX0_readNumber_91 : decode cX0_readNumber 91 = .ok (.iadd, 1) := by decide +kernel
theorem dX0_readNumber_92 : decode cX0_readNumber 92 = .ok (.putfield 26, 3) := by decide +kernel
theorem dX0_readNumber_95 : decode cX0_readNumber 95 = .ok (.goto (-56), 3) := by decide +kernel
theorem dX0_readNumber_98 : decode cX0_readNumber 98 = .ok (.iload_n 3, 1) := by decide +kernel
theorem dX0_readNumber_99 : decode cX0_readNumber 99 = .ok (.ireturn, 1) := by decide +kernel
theorem dX0_digitHere_0 : decode cX0_digitHere 0 = .ok (.aload_n 0, 1) := by decide +kernel
theorem dX0_digitHere_1 : decode cX0_digitHere 1 = .ok (.getfield 26, 3) := by decide +kernel
theorem dX0_digitHere_4 : decode cX0_digitHere 4 = .ok (.aload_n 0, 1) := by decide +kernel
theorem dX0_digitHere_5 : decode cX0_digitHere 5 = .ok (.getfield 15, 3) := by decide +kernel
theorem dX0_digitHere_8 : decode cX0_digitHere 8 = .ok (.if_icmp .lt 6, 3) := by decide +kernel
theorem dX0_digitHere_11 : decode cX0_digitHere 11 = .ok (.bipush (-6), 2) := by decide +kernel
theorem dX0_digitHere_13 : decode cX0_digitHere 13 = .ok (.ireturn, 1) := by decide +kernel
theorem dX0_digitHere_14 : decode cX0_digitHere 14 = .ok (.aload_n 0, 1) := by decide +kernel
theorem dX0_digitHere_15 : decode cX0_digitHere 15 = .ok (.getfield 9, 3) := by decide +kernel
theorem dX0_digitHere_18 : decode cX0_digitHere 18 = .ok (.aload_n 0, 1) := by decide +kernel
theorem dX0_digitHere_19 : decode cX0_digitHere 19 = .ok (.getfield 26, 3) := by decide +kernel
theorem dX0_digitHere_22 : decode cX0_digitHere 22 = .ok (.caload, 1) := by decide +kernel
theorem dX0_digitHere_23 : decode cX0_digitHere 23 = .ok (.istore_n 1, 1) := by decide +kernel
theorem dX0_digitHere_24 : decode cX0_digitHere 24 = .ok (.iload_n 1, 1) := by decide +kernel
theorem dX0_digitHere_25 : decode cX0_digitHere 25 = .ok (.bipush 48, 2) := by decide +kernel
theorem dX0_digitHere_27 : decode cX0_digitHere 27 = .ok (.if_icmp .lt 16, 3) := by decide +kernel
theorem dX0_digitHere_30 : decode cX0_digitHere 30 = .ok (.iload_n 1, 1) := by decide +kernel
theorem dX0_digitHere_31 : decode cX0_digitHere 31 = .ok (.bipush 57, 2) := by decide +kernel
theorem dX0_digitHere_33 : decode cX0_digitHere 33 = .ok (.if_icmp .gt 10, 3) := by decide +kernel
theorem dX0_digitHere_36 : decode cX0_digitHere 36 = .ok (.iload_n 1, 1) := by decide +kernel
theorem dX0_digitHere_37 : decode cX0_digitHere 37 = .ok (.bipush 48, 2) := by decide +kernel
theorem dX0_digitHere_39 : decode cX0_digitHere 39 = .ok (.isub, 1) := by decide +kernel
theorem dX0_digitHere_40 : decode cX0_digitHere 40 = .ok (.goto 5, 3) := by decide +kernel
theorem dX0_digitHere_43 : decode cX0_digitHere 43 = .ok (.bipush (-6), 2) := by decide +kernel
theorem dX0_digitHere_45 : decode cX0_digitHere 45 = .ok (.ireturn, 1) := by decide +kernel
theorem dX1_init_0 : decode cX1_init 0 = .ok (.aload_n 0, 1) := by decide +kernel
theorem dX1_init_1 : decode cX1_init 1 = .ok (.invokespecial 1, 3) := by decide +kernel
theorem dX1_init_4 : decode cX1_init 4 = .ok (.return_, 1) := by decide +kernel
theorem dX1_start_0 : decode cX1_start 0 = .ok (.aload_n 0, 1) := by decide +kernel
theorem dX1_start_1 : decode cX1_start 1 = .ok (.aload_n 2, 1) := by decide +kernel
theorem dX1_start_2 : decode cX1_start 2 = .ok (.getfield 7, 3) := by decide +kernel
theorem dX1_start_5 : decode cX1_start 5 = .ok (.putfield 13, 3) := by decide +kernel
theorem dX1_start_8 : decode cX1_start 8 = .ok (.aload_n 0, 1) := by decide +kernel
theorem dX1_start_9 : decode cX1_start 9 = .ok (.aload_n 1, 1) := by decide +kernel
theorem dX1_start_10 : decode cX1_start 10 = .ok (.aload_n 2, 1) := by decide +kernel
theorem dX1_start_11 : decode cX1_start 11 = .ok (.invokevirtual 16, 3) := by decide +kernel
theorem dX1_start_14 : decode cX1_start 14 = .ok (.putfield 22, 3) := by decide +kernel
theorem dX1_start_17 : decode cX1_start 17 = .ok (.aload_n 0, 1) := by decide +kernel
theorem dX1_start_18 : decode cX1_start 18 = .ok (.aload_n 1, 1) := by decide +kernel
theorem dX1_start_19 : decode cX1_start 19 = .ok (.getfield 25, 3) := by decide +kernel
theorem dX1_start_22 : decode cX1_start 22 = .ok (.putfield 28, 3) := by decide +kernel
theorem dX1_start_25 : decode cX1_start 25 = .ok (.aload_n 0, 1) := by decide +kernel
theorem dX1_start_26 : decode cX1_start 26 = .ok (.aload_n 2, 1) := by decide +kernel
theorem dX1_start_27 : decode cX1_start 27 = .ok (.invokevirtual 29, 3) := by decide +kernel
theorem dX1_start_30 : decode cX1_start 30 = .ok (.putfield 33, 3) := by decide +kernel
theorem dX1_start_33 : decode cX1_start 33 = .ok (.return_, 1) := by decide +kernel
theorem dX1_passHour_0 : decode cX1_passHour 0 = .ok (.aload_n 0, 1) := by decide +kernel
theorem dX1_passHour_1 : decode cX1_passHour 1 = .ok (.aload_n 0, 1) := by decide +kernel
theorem dX1_passHour_2 : decode cX1_passHour 2 = .ok (.getfield 13, 3) := by decide +kernel
theorem dX1_passHour_5 : decode cX1_passHour 5 = .ok (.aload_n 0, 1) := by decide +kernel
theorem dX1_passHour_6 : decode cX1_passHour 6 = .ok (.getfield 33, 3) := by decide +kernel
theorem dX1_passHour_9 : decode cX1_passHour 9 = .ok (.aload_n 0, 1) := by decide +kernel
theorem dX1_passHour_10 : decode cX1_passHour 10 = .ok (.getfield 22, 3) := by decide +kernel
theorem dX1_passHour_13 : decode cX1_passHour 13 = .ok (.invokestatic 37, 3) := by decide +kernel
theorem dX1_passHour_16 : decode cX1_passHour 16 = .ok (.putfield 13, 3) := by decide +kernel
theorem dX1_passHour_19 : decode cX1_passHour 19 = .ok (.aload_n 0, 1) := by decide +kernel
theorem dX1_passHour_20 : decode cX1_passHour 20 = .ok (.aload_n 0, 1) := by decide +kernel
theorem dX1_passHour_21 : decode cX1_passHour 21 = .ok (.getfield 22, 3) := by decide +kernel
theorem dX1_passHour_24 : decode cX1_passHour 24 = .ok (.aload_n 0, 1) := by decide +kernel
theorem dX1_passHour_25 : decode cX1_passHour 25 = .ok (.getfield 33, 3) := by decide +kernel
theorem dX1_passHour_28 : decode cX1_passHour 28 = .ok (.aload_n 0, 1) := by decide +kernel
theorem dX1_passHour_29 : decode cX1_passHour 29 = .ok (.getfield 28, 3) := by decide +kernel
theorem dX1_passHour_32 : decode cX1_passHour 32 = .ok (.invokestatic 43, 3) := by decide +kernel
theorem dX1_passHour_35 : decode cX1_passHour 35 = .ok (.putfield 22, 3) := by decide +kernel
theorem dX1_passHour_38 : decode cX1_passHour 38 = .ok (.return_, 1) := by decide +kernel
theorem dX2_init_0 : decode cX2_init 0 = .ok (.aload_n 0, 1) := by decide +kernel
theorem dX2_init_1 : decode cX2_init 1 = .ok (.invokespecial 3, 3) := by decide +kernel
theorem dX2_init_4 : decode cX2_init 4 = .ok (.aload_n 0, 1) := by decide +kernel
theorem dX2_init_5 : decode cX2_init 5 = .ok (.bipush 6, 2) := by decide +kernel
theorem dX2_init_7 : decode cX2_init 7 = .ok (.anewarray 9, 3) := by decide +kernel
theorem dX2_init_10 : decode cX2_init 10 = .ok (.putfield 11, 3) := by decide +kernel
theorem dX2_init_13 : decode cX2_init 13 = .ok (.iconst 0, 1) := by decide +kernel
theorem dX2_init_14 : decode cX2_init 14 = .ok (.istore_n 1, 1) := by decide +kernel
theorem dX2_init_15 : decode cX2_init 15 = .ok (.iload_n 1, 1) := by decide +kernel
theorem dX2_init_16 : decode cX2_init 16 = .ok (.bipush 6, 2) := by decide +kernel
theorem dX2_init_18 : decode cX2_init 18 = .ok (.if_icmp .ge 22, 3) := by decide +kernel
theorem dX2_init_21 : decode cX2_init 21 = .ok (.aload_n 0, 1) := by decide +kernel
theorem dX2_init_22 : decode cX2_init 22 = .ok (.getfield 11, 3) := by decide +kernel
theorem dX2_init_25 : decode cX2_init 25 = .ok (.iload_n 1, 1) := by decide +kernel
theorem dX2_init_26 : decode cX2_init 26 = .ok (.new 9, 3) := by decide +kernel
theorem dX2_init_29 : decode cX2_init 29 = .ok (.dup, 1) := by decide +kernel
theorem dX2_init_30 : decode cX2_init 30 = .ok (.invokespecial 17, 3) := by decide +kernel
theorem dX2_init_33 : decode cX2_init 33 = .ok (.aastore, 1) := by decide +kernel
theorem dX2_init_34 : decode cX2_init 34 = .ok (.iinc 1 1, 3) := by decide +kernel
theorem dX2_init_37 : decode cX2_init 37 = .ok (.goto (-22), 3) := by decide +kernel
theorem dX2_init_40 : decode cX2_init 40 = .ok (.return_, 1) := by decide +kernel
theorem dX2_save_0 : decode cX2_save 0 = .ok (.aload_n 0, 1) := by decide +kernel
theorem dX2_save_1 : decode cX2_save 1 = .ok (.getfield 11, 3) := by decide +kernel
theorem dX2_save_4 : decode cX2_save 4 = .ok (.aload_n 0, 1) := by decide +kernel
theorem dX2_save_5 : decode cX2_save 5 = .ok (.getfield 18, 3) := by decide +kernel
theorem dX2_save_8 : decode cX2_save 8 = .ok (.aaload, 1) := by decide +kernel
theorem dX2_save_9 : decode cX2_save 9 = .ok (.aload_n 1, 1) := by decide +kernel
theorem dX2_save_10 : decode cX2_save 10 = .ok (.invokevirtual 22, 3) := by decide +kernel
theorem dX2_save_13 : decode cX2_save 13 = .ok (.aload_n 0, 1) := by decide +kernel
theorem dX2_save_14 : decode cX2_save 14 = .ok (.aload_n 0, 1) := by decide +kernel
theorem dX2_save_15 : decode cX2_save 15 = .ok (.getfield 18, 3) := by decide +kernel
theorem dX2_save_18 : decode cX2_save 18 = .ok (.iconst 1, 1) := by decide +kernel
theorem dX2_save_19 : decode cX2_save 19 = .ok (.iadd, 1) := by decide +kernel
theorem dX2_save_20 : decode cX2_save 20 = .ok (.bipush 6, 2) := by decide +kernel
theorem dX2_save_22 : decode cX2_save 22 = .ok (.irem, 1) := by decide +kernel
theorem dX2_save_23 : decode cX2_save 23 = .ok (.putfield 18, 3) := by decide +kernel
theorem dX2_save_26 : decode cX2_save 26 = .ok (.aload_n 0, 1) := by decide +kernel
theorem dX2_save_27 : decode cX2_save 27 = .ok (.bipush 6, 2) := by decide +kernel
theorem dX2_save_29 : decode cX2_save 29 = .ok (.aload_n 0, 1) := by decide +kernel
theorem dX2_save_30 : decode cX2_save 30 = .ok (.getfield 26, 3) := by decide +kernel
theorem dX2_save_33 : decode cX2_save 33 = .ok (.iconst 1, 1) := by decide +kernel
theorem dX2_save_34 : decode cX2_save 34 = .ok (.iadd, 1) := by decide +kernel
theorem dX2_save_35 : decode cX2_save 35 = .ok (.invokestatic 29, 3) := by decide +kernel
theorem dX2_save_38 : decode cX2_save 38 = .ok (.putfield 26, 3) := by decide +kernel
theorem dX2_save_41 : decode cX2_save 41 = .ok (.return_, 1) := by decide +kernel
theorem dX2_restore_0 : decode cX2_restore 0 = .ok (.aload_n 0, 1) := by decide +kernel
theorem dX2_restore_1 : decode cX2_restore 1 = .ok (.aload_n 0, 1) := by decide +kernel
theorem dX2_restore_2 : decode cX2_restore 2 = .ok (.getfield 18, 3) := by decide +kernel
theorem dX2_restore_5 : decode cX2_restore 5 = .ok (.bipush 6, 2) := by decide +kernel
theorem dX2_restore_7 : decode cX2_restore 7 = .ok (.iadd, 1) := by decide +kernel
theorem dX2_restore_8 : decode cX2_restore 8 = .ok (.iconst 1, 1) := by decide +kernel
theorem dX2_restore_9 : decode cX2_restore 9 = .ok (.isub, 1) := by decide +kernel
theorem dX2_restore_10 : decode cX2_restore 10 = .ok (.bipush 6, 2) := by decide +kernel
theorem dX2_restore_12 : decode cX2_restore 12 = .ok (.irem, 1) := by decide +kernel
theorem dX2_restore_13 : decode cX2_restore 13 = .ok (.putfield 18, 3) := by decide +kernel
theorem dX2_restore_16 : decode cX2_restore 16 = .ok (.aload_n 1, 1) := by decide +kernel
theorem dX2_restore_17 : decode cX2_restore 17 = .ok (.aload_n 0, 1) := by decide +kernel
theorem dX2_restore_18 : decode cX2_restore 18 = .ok (.getfield 11, 3) := by decide +kernel
theorem dX2_restore_21 : decode cX2_restore 21 = .ok (.aload_n 0, 1) := by decide +kernel
theorem dX2_restore_22 : decode cX2_restore 22 = .ok (.getfield 18, 3) := by decide +kernel
theorem dX2_restore_25 : decode cX2_restore 25 = .ok (.aaload, 1) := by decide +kernel
theorem dX2_restore_26 : decode cX2_restore 26 = .ok (.invokevirtual 22, 3) := by decide +kernel
theorem dX2_restore_29 : decode cX2_restore 29 = .ok (.aload_n 0, 1) := by decide +kernel
theorem dX2_restore_30 : decode cX2_restore 30 = .ok (.dup, 1) := by decide +kernel
theorem dX2_restore_31 : decode cX2_restore 31 = .ok (.getfield 26, 3) := by decide +kernel
theorem dX2_restore_34 : decode cX2_restore 34 = .ok (.iconst 1, 1) := by decide +kernel
theorem dX2_restore_35 : decode cX2_restore 35 = .ok (.isub, 1) := by decide +kernel
theorem dX2_restore_36 : decode cX2_restore 36 = .ok (.putfield 26, 3) := by decide +kernel
theorem dX2_restore_39 : decode cX2_restore 39 = .ok (.return_, 1) := by decide +kernel
theorem dX3_init_0 : decode cX3_init 0 = .ok (.aload_n 0, 1) := by decide +kernel
theorem dX3_init_1 : decode cX3_init 1 = .ok (.invokespecial 3, 3) := by decide +kernel
theorem dX3_init_4 : decode cX3_init 4 = .ok (.aload_n 0, 1) := by decide +kernel
theorem dX3_init_5 : decode cX3_init 5 = .ok (.bipush (-6), 2) := by decide +kernel
theorem dX3_init_7 : decode cX3_init 7 = .ok (.putfield 9, 3) := by decide +kernel
theorem dX3_init_10 : decode cX3_init 10 = .ok (.aload_n 0, 1) := by decide +kernel
theorem dX3_init_11 : decode cX3_init 11 = .ok (.bipush (-6), 2) := by decide +kernel
theorem dX3_init_13 : decode cX3_init 13 = .ok (.putfield 15, 3) := by decide +kernel
theorem dX3_init_16 : decode cX3_init 16 = .ok (.return_, 1) := by decide +kernel
theorem dX3_isOnTray_0 : decode cX3_isOnTray 0 = .ok (.aload_n 0, 1) := by decide +kernel
theorem dX3_isOnTray_1 : decode cX3_isOnTray 1 = .ok (.getfield 15, 3) := by decide +kernel
theorem dX3_isOnTray_4 : decode cX3_isOnTray 4 = .ok (.bipush (-6), 2) := by decide +kernel
theorem dX3_isOnTray_6 : decode cX3_isOnTray 6 = .ok (.if_icmp .eq 7, 3) := by decide +kernel
theorem dX3_isOnTray_9 : decode cX3_isOnTray 9 = .ok (.iconst 1, 1) := by decide +kernel
theorem dX3_isOnTray_10 : decode cX3_isOnTray 10 = .ok (.goto 4, 3) := by decide +kernel
theorem dX3_isOnTray_13 : decode cX3_isOnTray 13 = .ok (.iconst 0, 1) := by decide +kernel
theorem dX3_isOnTray_14 : decode cX3_isOnTray 14 = .ok (.ireturn, 1) := by decide +kernel
theorem dX3_putInBox_0 : decode cX3_putInBox 0 = .ok (.aload_n 0, 1) := by decide +kernel
theorem dX3_putInBox_1 : decode cX3_putInBox 1 = .ok (.iload_n 1, 1) := by decide +kernel
theorem dX3_putInBox_2 : decode cX3_putInBox 2 = .ok (.putfield 9, 3) := by decide +kernel
theorem dX3_putInBox_5 : decode cX3_putInBox 5 = .ok (.aload_n 0, 1) := by decide +kernel
theorem dX3_putInBox_6 : decode cX3_putInBox 6 = .ok (.bipush (-6), 2) := by decide +kernel
theorem dX3_putInBox_8 : decode cX3_putInBox 8 = .ok (.putfield 15, 3) := by decide +kernel
theorem dX3_putInBox_11 : decode cX3_putInBox 11 = .ok (.return_, 1) := by decide +kernel
theorem dX3_putOnTray_0 : decode cX3_putOnTray 0 = .ok (.aload_n 0, 1) := by decide +kernel
theorem dX3_putOnTray_1 : decode cX3_putOnTray 1 = .ok (.iload_n 1, 1) := by decide +kernel
theorem dX3_putOnTray_2 : decode cX3_putOnTray 2 = .ok (.putfield 15, 3) := by decide +kernel
theorem dX3_putOnTray_5 : decode cX3_putOnTray 5 = .ok (.aload_n 0, 1) := by decide +kernel
theorem dX3_putOnTray_6 : decode cX3_putOnTray 6 = .ok (.bipush (-6), 2) := by decide +kernel
theorem dX3_putOnTray_8 : decode cX3_putOnTray 8 = .ok (.putfield 9, 3) := by decide +kernel
theorem dX3_putOnTray_11 : decode cX3_putOnTray 11 = .ok (.return_, 1) := by decide +kernel
theorem dX3_copyFrom_0 : decode cX3_copyFrom 0 = .ok (.aload_n 0, 1) := by decide +kernel
theorem dX3_copyFrom_1 : decode cX3_copyFrom 1 = .ok (.aload_n 1, 1) := by decide +kernel
theorem dX3_copyFrom_2 : decode cX3_copyFrom 2 = .ok (.getfield 18, 3) := by decide +kernel
theorem dX3_copyFrom_5 : decode cX3_copyFrom 5 = .ok (.putfield 18, 3) := by decide +kernel
theorem dX3_copyFrom_8 : decode cX3_copyFrom 8 = .ok (.aload_n 0, 1) := by decide +kernel
theorem dX3_copyFrom_9 : decode cX3_copyFrom 9 = .ok (.aload_n 1, 1) := by decide +kernel
theorem dX3_copyFrom_10 : decode cX3_copyFrom 10 = .ok (.getfield 21, 3) := by decide +kernel
theorem dX3_copyFrom_13 : decode cX3_copyFrom 13 = .ok (.putfield 21, 3) := by decide +kernel
theorem dX3_copyFrom_16 : decode cX3_copyFrom 16 = .ok (.aload_n 0, 1) := by decide +kernel
theorem dX3_copyFrom_17 : decode cX3_copyFrom 17 = .ok (.aload_n 1, 1) := by decide +kernel
theorem dX3_copyFrom_18 : decode cX3_copyFrom 18 = .ok (.getfield 24, 3) := by decide +kernel
theorem dX3_copyFrom_21 : decode cX3_copyFrom 21 = .ok (.putfield 24, 3) := by decide +kernel
theorem dX3_copyFrom_24 : decode cX3_copyFrom 24 = .ok (.aload_n 0, 1) := by decide +kernel
theorem dX3_copyFrom_25 : decode cX3_copyFrom 25 = .ok (.aload_n 1, 1) := by decide +kernel
theorem dX3_copyFrom_26 : decode cX3_copyFrom 26 = .ok (.getfield 27, 3) := by decide +kernel
theorem dX3_copyFrom_29 : decode cX3_copyFrom 29 = .ok (.putfield 27, 3) := by decide +kernel
theorem dX3_copyFrom_32 : decode cX3_copyFrom 32 = .ok (.aload_n 0, 1) := by decide +kernel
theorem dX3_copyFrom_33 : decode cX3_copyFrom 33 = .ok (.aload_n 1, 1) := by decide +kernel
theorem dX3_copyFrom_34 : decode cX3_copyFrom 34 = .ok (.getfield 9, 3) := by decide +kernel
theorem dX3_copyFrom_37 : decode cX3_copyFrom 37 = .ok (.putfield 9, 3) := by decide +kernel
theorem dX3_copyFrom_40 : decode cX3_copyFrom 40 = .ok (.aload_n 0, 1) := by decide +kernel
theorem dX3_copyFrom_41 : decode cX3_copyFrom 41 = .ok (.aload_n 1, 1) := by decide +kernel
theorem dX3_copyFrom_42 : decode cX3_copyFrom 42 = .ok (.getfield 15, 3) := by decide +kernel
theorem dX3_copyFrom_45 : decode cX3_copyFrom 45 = .ok (.putfield 15, 3) := by decide +kernel
theorem dX3_copyFrom_48 : decode cX3_copyFrom 48 = .ok (.return_, 1) := by decide +kernel
theorem dX4_init_0 : decode cX4_init 0 = .ok (.aload_n 0, 1) := by decide +kernel
theorem dX4_init_1 : decode cX4_init 1 = .ok (.invokespecial 3, 3) := by decide +kernel
theorem dX4_init_4 : decode cX4_init 4 = .ok (.aload_n 0, 1) := by decide +kernel
theorem dX4_init_5 : decode cX4_init 5 = .ok (.bipush 100, 2) := by decide +kernel
theorem dX4_init_7 : decode cX4_init 7 = .ok (.putfield 9, 3) := by decide +kernel
theorem dX4_init_10 : decode cX4_init 10 = .ok (.aload_n 0, 1) := by decide +kernel
theorem dX4_init_11 : decode cX4_init 11 = .ok (.bipush 30, 2) := by decide +kernel
theorem dX4_init_13 : decode cX4_init 13 = .ok (.putfield 15, 3) := by decide +kernel
theorem dX4_init_16 : decode cX4_init 16 = .ok (.aload_n 0, 1) := by decide +kernel
theorem dX4_init_17 : decode cX4_init 17 = .ok (.bipush 6, 2) := by decide +kernel
theorem dX4_init_19 : decode cX4_init 19 = .ok (.newarray .int, 2) := by decide +kernel
theorem dX4_init_21 : decode cX4_init 21 = .ok (.putfield 18, 3) := by decide +kernel
theorem dX4_init_24 : decode cX4_init 24 = .ok (.aload_n 0, 1) := by decide +kernel
theorem dX4_init_25 : decode cX4_init 25 = .ok (.bipush 6, 2) := by decide +kernel
theorem dX4_init_27 : decode cX4_init 27 = .ok (.newarray .int, 2) := by decide +kernel
theorem dX4_init_29 : decode cX4_init 29 = .ok (.putfield 22, 3) := by decide +kernel
theorem dX4_init_32 : decode cX4_init 32 = .ok (.aload_n 0, 1) := by decide +kernel
theorem dX4_init_33 : decode cX4_init 33 = .ok (.bipush 11, 2) := by decide +kernel
theorem dX4_init_35 : decode cX4_init 35 = .ok (.newarray .int, 2) := by decide +kernel
theorem dX4_init_37 : decode cX4_init 37 = .ok (.putfield 25, 3) := by decide +kernel
theorem dX4_init_40 : decode cX4_init 40 = .ok (.aload_n 0, 1) := by decide +kernel
theorem dX4_init_41 : decode cX4_init 41 = .ok (.bipush 6, 2) := by decide +kernel
theorem dX4_init_43 : decode cX4_init 43 = .ok (.newarray .int, 2) := by decide +kernel
theorem dX4_init_45 : decode cX4_init 45 = .ok (.putfield 28, 3) := by decide +kernel
theorem dX4_init_48 : decode cX4_init 48 = .ok (.aload_n 0, 1) := by decide +kernel
theorem dX4_init_49 : decode cX4_init 49 = .ok (.iconst 5, 1) := by decide +kernel
theorem dX4_init_50 : decode cX4_init 50 = .ok (.newarray .int, 2) := by decide +kernel
theorem dX4_init_52 : decode cX4_init 52 = .ok (.putfield 31, 3) := by decide +kernel
theorem dX4_init_55 : decode cX4_init 55 = .ok (.aload_n 0, 1) := by decide +kernel
theorem dX4_init_56 : decode cX4_init 56 = .ok (.bipush 16, 2) := by decide +kernel
theorem dX4_init_58 : decode cX4_init 58 = .ok (.anewarray 34, 3) := by decide +kernel
theorem dX4_init_61 : decode cX4_init 61 = .ok (.putfield 36, 3) := by decide +kernel
theorem dX4_init_64 : decode cX4_init 64 = .ok (.iconst 0, 1) := by decide +kernel
theorem dX4_init_65 : decode cX4_init 65 = .ok (.istore_n 1, 1) := by decide +kernel
theorem dX4_init_66 : decode cX4_init 66 = .ok (.iload_n 1, 1) := by decide +kernel
theorem dX4_init_67 : decode cX4_init 67 = .ok (.bipush 6, 2) := by decide +kernel
theorem dX4_init_69 : decode cX4_init 69 = .ok (.if_icmp .ge 38, 3) := by decide +kernel
theorem dX4_init_72 : decode cX4_init 72 = .ok (.aload_n 0, 1) := by decide +kernel
theorem dX4_init_73 : decode cX4_init 73 = .ok (.getfield 18, 3) := by decide +kernel
theorem dX4_init_76 : decode cX4_init 76 = .ok (.iload_n 1, 1) := by decide +kernel
theorem dX4_init_77 : decode cX4_init 77 = .ok (.sipush 1000, 3) := by decide +kernel
theorem dX4_init_80 : decode cX4_init 80 = .ok (.sipush 200, 3) := by decide +kernel
theorem dX4_init_83 : decode cX4_init 83 = .ok (.iload_n 1, 1) := by decide +kernel
theorem dX4_init_84 : decode cX4_init 84 = .ok (.imul, 1) := by decide +kernel
theorem dX4_init_85 : decode cX4_init 85 = .ok (.iadd, 1) := by decide +kernel
theorem dX4_init_86 : decode cX4_init 86 = .ok (.iastore, 1) := by decide +kernel
theorem dX4_init_87 : decode cX4_init 87 = .ok (.aload_n 0, 1) := by decide +kernel
theorem dX4_init_88 : decode cX4_init 88 = .ok (.getfield 22, 3) := by decide +kernel
theorem dX4_init_91 : decode cX4_init 91 = .ok (.iload_n 1, 1) := by decide +kernel
theorem dX4_init_92 : decode cX4_init 92 = .ok (.sipush 400, 3) := by decide +kernel
theorem dX4_init_95 : decode cX4_init 95 = .ok (.bipush 100, 2) := by decide +kernel
theorem dX4_init_97 : decode cX4_init 97 = .ok (.iload_n 1, 1) := by decide +kernel
theorem dX4_init_98 : decode cX4_init 98 = .ok (.imul, 1) := by decide +kernel
theorem dX4_init_99 : decode cX4_init 99 = .ok (.iadd, 1) := by decide +kernel
theorem dX4_init_100 : decode cX4_init 100 = .ok (.iastore, 1) := by decide +kernel
theorem dX4_init_101 : decode cX4_init 101 = .ok (.iinc 1 1, 3) := by decide +kernel
theorem dX4_init_104 : decode cX4_init 104 = .ok (.goto (-38), 3) := by decide +kernel
theorem dX4_init_107 : decode cX4_init 107 = .ok (.iconst 0, 1) := by decide +kernel
theorem dX4_init_108 : decode cX4_init 108 = .ok (.istore_n 1, 1) := by decide +kernel
theorem dX4_init_109 : decode cX4_init 109 = .ok (.iload_n 1, 1) := by decide +kernel
theorem dX4_init_110 : decode cX4_init 110 = .ok (.bipush 16, 2) := by decide +kernel
theorem dX4_init_112 : decode cX4_init 112 = .ok (.if_icmp .ge 22, 3) := by decide +kernel
theorem dX4_init_115 : decode cX4_init 115 = .ok (.aload_n 0, 1) := by decide +kernel
theorem dX4_init_116 : decode cX4_init 116 = .ok (.getfield 36, 3) := by decide +kernel
theorem dX4_init_119 : decode cX4_init 119 = .ok (.iload_n 1, 1) := by decide +kernel
theorem dX4_init_120 : decode cX4_init 120 = .ok (.new 34, 3) := by decide +kernel
theorem dX4_init_123 : decode cX4_init 123 = .ok (.dup, 1) := by decide +kernel
theorem dX4_init_124 : decode cX4_init 124 = .ok (.invokespecial 40, 3) := by decide +kernel
theorem dX4_init_127 : decode cX4_init 127 = .ok (.aastore, 1) := by decide +kernel
theorem dX4_init_128 : decode cX4_init 128 = .ok (.iinc 1 1, 3) := by decide +kernel
theorem dX4_init_131 : decode cX4_init 131 = .ok (.goto (-22), 3) := by decide +kernel
theorem dX4_init_134 : decode cX4_init 134 = .ok (.return_, 1) := by decide +kernel
theorem dX4_copyFrom_0 : decode cX4_copyFrom 0 = .ok (.aload_n 0, 1) := by decide +kernel
theorem dX4_copyFrom_1 : decode cX4_copyFrom 1 = .ok (.aload_n 1, 1) := by decide +kernel
theorem dX4_copyFrom_2 : decode cX4_copyFrom 2 = .ok (.getfield 41, 3) := by decide +kernel
theorem dX4_copyFrom_5 : decode cX4_copyFrom 5 = .ok (.putfield 41, 3) := by decide +kernel
theorem dX4_copyFrom_8 : decode cX4_copyFrom 8 = .ok (.aload_n 0, 1) := by decide +kernel
theorem dX4_copyFrom_9 : decode cX4_copyFrom 9 = .ok (.aload_n 1, 1) := by decide +kernel
theorem dX4_copyFrom_10 : decode cX4_copyFrom 10 = .ok (.getfield 44, 3) := by decide +kernel
theorem dX4_copyFrom_13 : decode cX4_copyFrom 13 = .ok (.putfield 44, 3) := by decide +kernel
theorem dX4_copyFrom_16 : decode cX4_copyFrom 16 = .ok (.aload_n 0, 1) := by decide +kernel
theorem dX4_copyFrom_17 : decode cX4_copyFrom 17 = .ok (.aload_n 1, 1) := by decide +kernel
theorem dX4_copyFrom_18 : decode cX4_copyFrom 18 = .ok (.getfield 9, 3) := by decide +kernel
theorem dX4_copyFrom_21 : decode cX4_copyFrom 21 = .ok (.putfield 9, 3) := by decide +kernel
theorem dX4_copyFrom_24 : decode cX4_copyFrom 24 = .ok (.aload_n 0, 1) := by decide +kernel
theorem dX4_copyFrom_25 : decode cX4_copyFrom 25 = .ok (.aload_n 1, 1) := by decide +kernel
theorem dX4_copyFrom_26 : decode cX4_copyFrom 26 = .ok (.getfield 15, 3) := by decide +kernel
theorem dX4_copyFrom_29 : decode cX4_copyFrom 29 = .ok (.putfield 15, 3) := by decide +kernel
theorem dX4_copyFrom_32 : decode cX4_copyFrom 32 = .ok (.aload_n 0, 1) := by decide +kernel
theorem dX4_copyFrom_33 : decode cX4_copyFrom 33 = .ok (.aload_n 1, 1) := by decide +kernel
theorem dX4_copyFrom_34 : decode cX4_copyFrom 34 = .ok (.getfield 47, 3) := by decide +kernel
theorem dX4_copyFrom_37 : decode cX4_copyFrom 37 = .ok (.putfield 47, 3) := by decide +kernel
theorem dX4_copyFrom_40 : decode cX4_copyFrom 40 = .ok (.aload_n 0, 1) := by decide +kernel
theorem dX4_copyFrom_41 : decode cX4_copyFrom 41 = .ok (.aload_n 1, 1) := by decide +kernel
theorem dX4_copyFrom_42 : decode cX4_copyFrom 42 = .ok (.getfield 50, 3) := by decide +kernel
theorem dX4_copyFrom_45 : decode cX4_copyFrom 45 = .ok (.putfield 50, 3) := by decide +kernel
theorem dX4_copyFrom_48 : decode cX4_copyFrom 48 = .ok (.aload_n 0, 1) := by decide +kernel
theorem dX4_copyFrom_49 : decode cX4_copyFrom 49 = .ok (.aload_n 1, 1) := by decide +kernel
theorem dX4_copyFrom_50 : decode cX4_copyFrom 50 = .ok (.getfield 53, 3) := by decide +kernel
theorem dX4_copyFrom_53 : decode cX4_copyFrom 53 = .ok (.putfield 53, 3) := by decide +kernel
theorem dX4_copyFrom_56 : decode cX4_copyFrom 56 = .ok (.aload_n 0, 1) := by decide +kernel
theorem dX4_copyFrom_57 : decode cX4_copyFrom 57 = .ok (.aload_n 1, 1) := by decide +kernel
theorem dX4_copyFrom_58 : decode cX4_copyFrom 58 = .ok (.getfield 57, 3) := by decide +kernel
theorem dX4_copyFrom_61 : decode cX4_copyFrom 61 = .ok (.putfield 57, 3) := by decide +kernel
theorem dX4_copyFrom_64 : decode cX4_copyFrom 64 = .ok (.aload_n 0, 1) := by decide +kernel
theorem dX4_copyFrom_65 : decode cX4_copyFrom 65 = .ok (.aload_n 1, 1) := by decide +kernel
theorem dX4_copyFrom_66 : decode cX4_copyFrom 66 = .ok (.getfield 60, 3) := by decide +kernel
theorem dX4_copyFrom_69 : decode cX4_copyFrom 69 = .ok (.putfield 60, 3) := by decide +kernel
theorem dX4_copyFrom_72 : decode cX4_copyFrom 72 = .ok (.aload_n 0, 1) := by decide +kernel
theorem dX4_copyFrom_73 : decode cX4_copyFrom 73 = .ok (.aload_n 1, 1) := by decide +kernel
theorem dX4_copyFrom_74 : decode cX4_copyFrom 74 = .ok (.getfield 63, 3) := by decide +kernel
theorem dX4_copyFrom_77 : decode cX4_copyFrom 77 = .ok (.putfield 63, 3) := by decide +kernel
theorem dX4_copyFrom_80 : decode cX4_copyFrom 80 = .ok (.aload_n 0, 1) := by decide +kernel
theorem dX4_copyFrom_81 : decode cX4_copyFrom 81 = .ok (.aload_n 1, 1) := by decide +kernel
theorem dX4_copyFrom_82 : decode cX4_copyFrom 82 = .ok (.getfield 66, 3) := by decide +kernel
theorem dX4_copyFrom_85 : decode cX4_copyFrom 85 = .ok (.putfield 66, 3) := by decide +kernel
theorem dX4_copyFrom_88 : decode cX4_copyFrom 88 = .ok (.aload_n 1, 1) := by decide +kernel
theorem dX4_copyFrom_89 : decode cX4_copyFrom 89 = .ok (.getfield 18, 3) := by decide +kernel
theorem dX4_copyFrom_92 : decode cX4_copyFrom 92 = .ok (.iconst 0, 1) := by decide +kernel
theorem dX4_copyFrom_93 : decode cX4_copyFrom 93 = .ok (.aload_n 0, 1) := by decide +kernel
theorem dX4_copyFrom_94 : decode cX4_copyFrom 94 = .ok (.getfield 18, 3) := by decide +kernel
theorem dX4_copyFrom_97 : decode cX4_copyFrom 97 = .ok (.iconst 0, 1) := by decide +kernel
theorem dX4_copyFrom_98 : decode cX4_copyFrom 98 = .ok (.bipush 6, 2) := by decide +kernel
theorem dX4_copyFrom_100 : decode cX4_copyFrom 100 = .ok (.invokestatic 69, 3) := by decide +kernel
theorem dX4_copyFrom_103 : decode cX4_copyFrom 103 = .ok (.aload_n 1, 1) := by decide +kernel
theorem dX4_copyFrom_104 : decode cX4_copyFrom 104 = .ok (.getfield 22, 3) := by decide +kernel
theorem dX4_copyFrom_107 : decode cX4_copyFrom 107 = .ok (.iconst 0, 1) := by decide +kernel
theorem dX4_copyFrom_108 : decode cX4_copyFrom 108 = .ok (.aload_n 0, 1) := by decide +kernel
theorem dX4_copyFrom_109 : decode cX4_copyFrom 109 = .ok (.getfield 22, 3) := by decide +kernel
theorem dX4_copyFrom_112 : decode cX4_copyFrom 112 = .ok (.iconst 0, 1) := by decide +kernel
theorem dX4_copyFrom_113 : decode cX4_copyFrom 113 = .ok (.bipush 6, 2) := by decide +kernel
theorem dX4_copyFrom_115 : decode cX4_copyFrom 115 = .ok (.invokestatic 69, 3) := by decide +kernel
theorem dX4_copyFrom_118 : decode cX4_copyFrom 118 = .ok (.aload_n 1, 1) := by decide +kernel
theorem dX4_copyFrom_119 : decode cX4_copyFrom 119 = .ok (.getfield 25, 3) := by decide +kernel
theorem dX4_copyFrom_122 : decode cX4_copyFrom 122 = .ok (.iconst 0, 1) := by decide +kernel
theorem dX4_copyFrom_123 : decode cX4_copyFrom 123 = .ok (.aload_n 0, 1) := by decide +kernel
theorem dX4_copyFrom_124 : decode cX4_copyFrom 124 = .ok (.getfield 25, 3) := by decide +kernel
theorem dX4_copyFrom_127 : decode cX4_copyFrom 127 = .ok (.iconst 0, 1) := by decide +kernel
theorem dX4_copyFrom_128 : decode cX4_copyFrom 128 = .ok (.bipush 11, 2) := by decide +kernel
theorem dX4_copyFrom_130 : decode cX4_copyFrom 130 = .ok (.invokestatic 69, 3) := by decide +kernel
theorem dX4_copyFrom_133 : decode cX4_copyFrom 133 = .ok (.aload_n 1, 1) := by decide +kernel
theorem dX4_copyFrom_134 : decode cX4_copyFrom 134 = .ok (.getfield 28, 3) := by decide +kernel
theorem dX4_copyFrom_137 : decode cX4_copyFrom 137 = .ok (.iconst 0, 1) := by decide +kernel
theorem dX4_copyFrom_138 : decode cX4_copyFrom 138 = .ok (.aload_n 0, 1) := by decide +kernel
theorem dX4_copyFrom_139 : decode cX4_copyFrom 139 = .ok (.getfield 28, 3) := by decide +kernel
theorem dX4_copyFrom_142 : decode cX4_copyFrom 142 = .ok (.iconst 0, 1) := by decide +kernel
theorem dX4_copyFrom_143 : decode cX4_copyFrom 143 = .ok (.bipush 6, 2) := by decide +kernel
theorem dX4_copyFrom_145 : decode cX4_copyFrom 145 = .ok (.invokestatic 69, 3) := by decide +kernel
theorem dX4_copyFrom_148 : decode cX4_copyFrom 148 = .ok (.aload_n 1, 1) := by decide +kernel
theorem dX4_copyFrom_149 : decode cX4_copyFrom 149 = .ok (.getfield 31, 3) := by decide +kernel
theorem dX4_copyFrom_152 : decode cX4_copyFrom 152 = .ok (.iconst 0, 1) := by decide +kernel
theorem dX4_copyFrom_153 : decode cX4_copyFrom 153 = .ok (.aload_n 0, 1) := by decide +kernel
theorem dX4_copyFrom_154 : decode cX4_copyFrom 154 = .ok (.getfield 31, 3) := by decide +kernel
theorem dX4_copyFrom_157 : decode cX4_copyFrom 157 = .ok (.iconst 0, 1) := by decide +kernel
theorem dX4_copyFrom_158 : decode cX4_copyFrom 158 = .ok (.iconst 5, 1) := by decide +kernel
theorem dX4_copyFrom_159 : decode cX4_copyFrom 159 = .ok (.invokestatic 69, 3) := by decide +kernel
theorem dX4_copyFrom_162 : decode cX4_copyFrom 162 = .ok (.iconst 0, 1) := by decide +kernel
theorem dX4_copyFrom_163 : decode cX4_copyFrom 163 = .ok (.istore_n 2, 1) := by decide +kernel
theorem dX4_copyFrom_164 : decode cX4_copyFrom 164 = .ok (.iload_n 2, 1) := by decide +kernel
theorem dX4_copyFrom_165 : decode cX4_copyFrom 165 = .ok (.aload_n 0, 1) := by decide +kernel
theorem dX4_copyFrom_166 : decode cX4_copyFrom 166 = .ok (.getfield 50, 3) := by decide +kernel
theorem dX4_copyFrom_169 : decode cX4_copyFrom 169 = .ok (.if_icmp .ge 24, 3) := by decide +kernel
theorem dX4_copyFrom_172 : decode cX4_copyFrom 172 = .ok (.aload_n 0, 1) := by decide +kernel
theorem dX4_copyFrom_173 : decode cX4_copyFrom 173 = .ok (.getfield 36, 3) := by decide +kernel
theorem dX4_copyFrom_176 : decode cX4_copyFrom 176 = .ok (.iload_n 2, 1) := by decide +kernel
theorem dX4_copyFrom_177 : decode cX4_copyFrom 177 = .ok (.aaload, 1) := by decide +kernel
theorem dX4_copyFrom_178 : decode cX4_copyFrom 178 = .ok (.aload_n 1, 1) := by decide +kernel
theorem dX4_copyFrom_179 : decode cX4_copyFrom 179 = .ok (.getfield 36, 3) := by decide +kernel
theorem dX4_copyFrom_182 : decode cX4_copyFrom 182 = .ok (.iload_n 2, 1) := by decide +kernel
theorem dX4_copyFrom_183 : decode cX4_copyFrom 183 = .ok (.aaload, 1) := by decide +kernel
theorem dX4_copyFrom_184 : decode cX4_copyFrom 184 = .ok (.invokevirtual 75, 3) := by decide +kernel
theorem dX4_copyFrom_187 : decode cX4_copyFrom 187 = .ok (.iinc 2 1, 3) := by decide +kernel
theorem dX4_copyFrom_190 : decode cX4_copyFrom 190 = .ok (.goto (-26), 3) := by decide +kernel
theorem dX4_copyFrom_193 : decode cX4_copyFrom 193 = .ok (.return_, 1) := by decide +kernel
theorem dX4_indexOfLot_0 : decode cX4_indexOfLot 0 = .ok (.iconst 0, 1) := by decide +kernel
theorem dX4_indexOfLot_1 : decode cX4_indexOfLot 1 = .ok (.istore_n 2, 1) := by decide +kernel
theorem dX4_indexOfLot_2 : decode cX4_indexOfLot 2 = .ok (.iload_n 2, 1) := by decide +kernel
theorem dX4_indexOfLot_3 : decode cX4_indexOfLot 3 = .ok (.aload_n 0, 1) := by decide +kernel
theorem dX4_indexOfLot_4 : decode cX4_indexOfLot 4 = .ok (.getfield 50, 3) := by decide +kernel
theorem dX4_indexOfLot_7 : decode cX4_indexOfLot 7 = .ok (.if_icmp .ge 24, 3) := by decide +kernel
theorem dX4_indexOfLot_10 : decode cX4_indexOfLot 10 = .ok (.aload_n 0, 1) := by decide +kernel
theorem dX4_indexOfLot_11 : decode cX4_indexOfLot 11 = .ok (.getfield 36, 3) := by decide +kernel
theorem dX4_indexOfLot_14 : decode cX4_indexOfLot 14 = .ok (.iload_n 2, 1) := by decide +kernel
theorem dX4_indexOfLot_15 : decode cX4_indexOfLot 15 = .ok (.aaload, 1) := by decide +kernel
theorem dX4_indexOfLot_16 : decode cX4_indexOfLot 16 = .ok (.getfield 79, 3) := by decide +kernel
theorem dX4_indexOfLot_19 : decode cX4_indexOfLot 19 = .ok (.iload_n 1, 1) := by decide +kernel
theorem dX4_indexOfLot_20 : decode cX4_indexOfLot 20 = .ok (.if_icmp .ne 5, 3) := by decide +kernel
theorem dX4_indexOfLot_23 : decode cX4_indexOfLot 23 = .ok (.iload_n 2, 1) := by decide +kernel
theorem dX4_indexOfLot_24 : decode cX4_indexOfLot 24 = .ok (.ireturn, 1) := by decide +kernel
theorem dX4_indexOfLot_25 : decode cX4_indexOfLot 25 = .ok (.iinc 2 1, 3) := by decide +kernel
theorem dX4_indexOfLot_28 : decode cX4_indexOfLot 28 = .ok (.goto (-26), 3) := by decide +kernel
theorem dX4_indexOfLot_31 : decode cX4_indexOfLot 31 = .ok (.bipush (-6), 2) := by decide +kernel
theorem dX4_indexOfLot_33 : decode cX4_indexOfLot 33 = .ok (.ireturn, 1) := by decide +kernel
theorem dX4_findLot_0 : decode cX4_findLot 0 = .ok (.aload_n 0, 1) := by decide +kernel
theorem dX4_findLot_1 : decode cX4_findLot 1 = .ok (.iload_n 1, 1) := by decide +kernel
theorem dX4_findLot_2 : decode cX4_findLot 2 = .ok (.invokevirtual 82, 3) := by decide +kernel
theorem dX4_findLot_5 : decode cX4_findLot 5 = .ok (.istore_n 2, 1) := by decide +kernel
theorem dX4_findLot_6 : decode cX4_findLot 6 = .ok (.iload_n 2, 1) := by decide +kernel
theorem dX4_findLot_7 : decode cX4_findLot 7 = .ok (.bipush (-6), 2) := by decide +kernel
theorem dX4_findLot_9 : decode cX4_findLot 9 = .ok (.if_icmp .ne 7, 3) := by decide +kernel
theorem dX4_findLot_12 : decode cX4_findLot 12 = .ok (.aconst_null, 1) := by decide +kernel
theorem dX4_findLot_13 : decode cX4_findLot 13 = .ok (.goto 9, 3) := by decide +kernel
theorem dX4_findLot_16 : decode cX4_findLot 16 = .ok (.aload_n 0, 1) := by decide +kernel
theorem dX4_findLot_17 : decode cX4_findLot 17 = .ok (.getfield 36, 3) := by decide +kernel
theorem dX4_findLot_20 : decode cX4_findLot 20 = .ok (.iload_n 2, 1) := by decide +kernel
theorem dX4_findLot_21 : decode cX4_findLot 21 = .ok (.aaload, 1) := by decide +kernel
theorem dX4_findLot_22 : decode cX4_findLot 22 = .ok (.areturn, 1) := by decide +kernel
theorem dX4_lotOnTray_0 : decode cX4_lotOnTray 0 = .ok (.iconst 0, 1) := by decide +kernel
theorem dX4_lotOnTray_1 : decode cX4_lotOnTray 1 = .ok (.istore_n 2, 1) := by decide +kernel
theorem dX4_lotOnTray_2 : decode cX4_lotOnTray 2 = .ok (.iload_n 2, 1) := by decide +kernel
theorem dX4_lotOnTray_3 : decode cX4_lotOnTray 3 = .ok (.aload_n 0, 1) := by decide +kernel
theorem dX4_lotOnTray_4 : decode cX4_lotOnTray 4 = .ok (.getfield 50, 3) := by decide +kernel
theorem dX4_lotOnTray_7 : decode cX4_lotOnTray 7 = .ok (.if_icmp .ge 29, 3) := by decide +kernel
theorem dX4_lotOnTray_10 : decode cX4_lotOnTray 10 = .ok (.aload_n 0, 1) := by decide +kernel
theorem dX4_lotOnTray_11 : decode cX4_lotOnTray 11 = .ok (.getfield 36, 3) := by decide +kernel
theorem dX4_lotOnTray_14 : decode cX4_lotOnTray 14 = .ok (.iload_n 2, 1) := by decide +kernel
theorem dX4_lotOnTray_15 : decode cX4_lotOnTray 15 = .ok (.aaload, 1) := by decide +kernel
theorem dX4_lotOnTray_16 : decode cX4_lotOnTray 16 = .ok (.getfield 86, 3) := by decide +kernel
theorem dX4_lotOnTray_19 : decode cX4_lotOnTray 19 = .ok (.iload_n 1, 1) := by decide +kernel
theorem dX4_lotOnTray_20 : decode cX4_lotOnTray 20 = .ok (.if_icmp .ne 10, 3) := by decide +kernel
theorem dX4_lotOnTray_23 : decode cX4_lotOnTray 23 = .ok (.aload_n 0, 1) := by decide +kernel
theorem dX4_lotOnTray_24 : decode cX4_lotOnTray 24 = .ok (.getfield 36, 3) := by decide +kernel
theorem dX4_lotOnTray_27 : decode cX4_lotOnTray 27 = .ok (.iload_n 2, 1) := by decide +kernel
theorem dX4_lotOnTray_28 : decode cX4_lotOnTray 28 = .ok (.aaload, 1) := by decide +kernel
theorem dX4_lotOnTray_29 : decode cX4_lotOnTray 29 = .ok (.areturn, 1) := by decide +kernel
theorem dX4_lotOnTray_30 : decode cX4_lotOnTray 30 = .ok (.iinc 2 1, 3) := by decide +kernel
theorem dX4_lotOnTray_33 : decode cX4_lotOnTray 33 = .ok (.goto (-31), 3) := by decide +kernel
theorem dX4_lotOnTray_36 : decode cX4_lotOnTray 36 = .ok (.aconst_null, 1) := by decide +kernel
theorem dX4_lotOnTray_37 : decode cX4_lotOnTray 37 = .ok (.areturn, 1) := by decide +kernel
theorem dX4_numberOnTray_0 : decode cX4_numberOnTray 0 = .ok (.aload_n 0, 1) := by decide +kernel
theorem dX4_numberOnTray_1 : decode cX4_numberOnTray 1 = .ok (.iload_n 1, 1) := by decide +kernel
theorem dX4_numberOnTray_2 : decode cX4_numberOnTray 2 = .ok (.invokevirtual 89, 3) := by decide +kernel
theorem dX4_numberOnTray_5 : decode cX4_numberOnTray 5 = .ok (.astore_n 2, 1) := by decide +kernel
theorem dX4_numberOnTray_6 : decode cX4_numberOnTray 6 = .ok (.aload_n 2, 1) := by decide +kernel
theorem dX4_numberOnTray_7 : decode cX4_numberOnTray 7 = .ok (.ifnonnull 8, 3) := by decide +kernel
theorem dX4_numberOnTray_10 : decode cX4_numberOnTray 10 = .ok (.bipush (-6), 2) := by decide +kernel
theorem dX4_numberOnTray_12 : decode cX4_numberOnTray 12 = .ok (.goto 7, 3) := by decide +kernel
theorem dX4_numberOnTray_15 : decode cX4_numberOnTray 15 = .ok (.aload_n 2, 1) := by decide +kernel
theorem dX4_numberOnTray_16 : decode cX4_numberOnTray 16 = .ok (.getfield 79, 3) := by decide +kernel
theorem dX4_numberOnTray_19 : decode cX4_numberOnTray 19 = .ok (.ireturn, 1) := by decide +kernel
theorem dX4_lotsInBox_0 : decode cX4_lotsInBox 0 = .ok (.iconst 0, 1) := by decide +kernel
theorem dX4_lotsInBox_1 : decode cX4_lotsInBox 1 = .ok (.istore_n 2, 1) := by decide +kernel
theorem dX4_lotsInBox_2 : decode cX4_lotsInBox 2 = .ok (.iconst 0, 1) := by decide +kernel
theorem dX4_lotsInBox_3 : decode cX4_lotsInBox 3 = .ok (.istore_n 3, 1) := by decide +kernel
theorem dX4_lotsInBox_4 : decode cX4_lotsInBox 4 = .ok (.iload_n 3, 1) := by decide +kernel
theorem dX4_lotsInBox_5 : decode cX4_lotsInBox 5 = .ok (.aload_n 0, 1) := by decide +kernel
theorem dX4_lotsInBox_6 : decode cX4_lotsInBox 6 = .ok (.getfield 50, 3) := by decide +kernel
theorem dX4_lotsInBox_9 : decode cX4_lotsInBox 9 = .ok (.if_icmp .ge 25, 3) := by decide +kernel
theorem dX4_lotsInBox_12 : decode cX4_lotsInBox 12 = .ok (.aload_n 0, 1) := by decide +kernel
theorem dX4_lotsInBox_13 : decode cX4_lotsInBox 13 = .ok (.getfield 36, 3) := by decide +kernel
theorem dX4_lotsInBox_16 : decode cX4_lotsInBox 16 = .ok (.iload_n 3, 1) := by decide +kernel
theorem dX4_lotsInBox_17 : decode cX4_lotsInBox 17 = .ok (.aaload, 1) := by decide +kernel
theorem dX4_lotsInBox_18 : decode cX4_lotsInBox 18 = .ok (.getfield 93, 3) := by decide +kernel
theorem dX4_lotsInBox_21 : decode cX4_lotsInBox 21 = .ok (.iload_n 1, 1) := by decide +kernel
theorem dX4_lotsInBox_22 : decode cX4_lotsInBox 22 = .ok (.if_icmp .ne 6, 3) := by decide +kernel
theorem dX4_lotsInBox_25 : decode cX4_lotsInBox 25 = .ok (.iinc 2 1, 3) := by decide +kernel
theorem dX4_lotsInBox_28 : decode cX4_lotsInBox 28 = .ok (.iinc 3 1, 3) := by decide +kernel
theorem dX4_lotsInBox_31 : decode cX4_lotsInBox 31 = .ok (.goto (-27), 3) := by decide +kernel
theorem dX4_lotsInBox_34 : decode cX4_lotsInBox 34 = .ok (.iload_n 2, 1) := by decide +kernel
theorem dX4_lotsInBox_35 : decode cX4_lotsInBox 35 = .ok (.ireturn, 1) := by decide +kernel
theorem dX4_isBoxFull_0 : decode cX4_isBoxFull 0 = .ok (.aload_n 0, 1) := by decide +kernel
theorem dX4_isBoxFull_1 : decode cX4_isBoxFull 1 = .ok (.iload_n 1, 1) := by decide +kernel
theorem dX4_isBoxFull_2 : decode cX4_isBoxFull 2 = .ok (.invokevirtual 96, 3) := by decide +kernel
theorem dX4_isBoxFull_5 : decode cX4_isBoxFull 5 = .ok (.iconst 3, 1) := by decide +kernel
theorem dX4_isBoxFull_6 : decode cX4_isBoxFull 6 = .ok (.if_icmp .lt 7, 3) := by decide +kernel
theorem dX4_isBoxFull_9 : decode cX4_isBoxFull 9 = .ok (.iconst 1, 1) := by decide +kernel
theorem dX4_isBoxFull_10 : decode cX4_isBoxFull 10 = .ok (.goto 4, 3) := by decide +kernel
theorem dX4_isBoxFull_13 : decode cX4_isBoxFull 13 = .ok (.iconst 0, 1) := by decide +kernel
theorem dX4_isBoxFull_14 : decode cX4_isBoxFull 14 = .ok (.ireturn, 1) := by decide +kernel
theorem dX4_gramsInBox_0 : decode cX4_gramsInBox 0 = .ok (.iconst 0, 1) := by decide +kernel
theorem dX4_gramsInBox_1 : decode cX4_gramsInBox 1 = .ok (.istore_n 2, 1) := by decide +kernel
theorem dX4_gramsInBox_2 : decode cX4_gramsInBox 2 = .ok (.iconst 0, 1) := by decide +kernel
theorem dX4_gramsInBox_3 : decode cX4_gramsInBox 3 = .ok (.istore_n 3, 1) := by decide +kernel
theorem dX4_gramsInBox_4 : decode cX4_gramsInBox 4 = .ok (.iload_n 3, 1) := by decide +kernel
theorem dX4_gramsInBox_5 : decode cX4_gramsInBox 5 = .ok (.aload_n 0, 1) := by decide +kernel
theorem dX4_gramsInBox_6 : decode cX4_gramsInBox 6 = .ok (.getfield 50, 3) := by decide +kernel
theorem dX4_gramsInBox_9 : decode cX4_gramsInBox 9 = .ok (.if_icmp .ge 34, 3) := by decide +kernel
theorem dX4_gramsInBox_12 : decode cX4_gramsInBox 12 = .ok (.aload_n 0, 1) := by decide +kernel
theorem dX4_gramsInBox_13 : decode cX4_gramsInBox 13 = .ok (.getfield 36, 3) := by decide +kernel
theorem dX4_gramsInBox_16 : decode cX4_gramsInBox 16 = .ok (.iload_n 3, 1) := by decide +kernel
theorem dX4_gramsInBox_17 : decode cX4_gramsInBox 17 = .ok (.aaload, 1) := by decide +kernel
theorem dX4_gramsInBox_18 : decode cX4_gramsInBox 18 = .ok (.getfield 93, 3) := by decide +kernel
theorem dX4_gramsInBox_21 : decode cX4_gramsInBox 21 = .ok (.iload_n 1, 1) := by decide +kernel
theorem dX4_gramsInBox_22 : decode cX4_gramsInBox 22 = .ok (.if_icmp .ne 15, 3) := by decide +kernel
theorem dX4_gramsInBox_25 : decode cX4_gramsInBox 25 = .ok (.iload_n 2, 1) := by decide +kernel
theorem dX4_gramsInBox_26 : decode cX4_gramsInBox 26 = .ok (.aload_n 0, 1) := by decide +kernel
theorem dX4_gramsInBox_27 : decode cX4_gramsInBox 27 = .ok (.getfield 36, 3) := by decide +kernel
theorem dX4_gramsInBox_30 : decode cX4_gramsInBox 30 = .ok (.iload_n 3, 1) := by decide +kernel
theorem dX4_gramsInBox_31 : decode cX4_gramsInBox 31 = .ok (.aaload, 1) := by decide +kernel
theorem dX4_gramsInBox_32 : decode cX4_gramsInBox 32 = .ok (.getfield 99, 3) := by decide +kernel
theorem dX4_gramsInBox_35 : decode cX4_gramsInBox 35 = .ok (.iadd, 1) := by decide +kernel
theorem dX4_gramsInBox_36 : decode cX4_gramsInBox 36 = .ok (.istore_n 2, 1) := by decide +kernel
theorem dX4_gramsInBox_37 : decode cX4_gramsInBox 37 = .ok (.iinc 3 1, 3) := by decide +kernel
theorem dX4_gramsInBox_40 : decode cX4_gramsInBox 40 = .ok (.goto (-36), 3) := by decide +kernel
theorem dX4_gramsInBox_43 : decode cX4_gramsInBox 43 = .ok (.iload_n 2, 1) := by decide +kernel
theorem dX4_gramsInBox_44 : decode cX4_gramsInBox 44 = .ok (.ireturn, 1) := by decide +kernel
theorem dX4_firstLotInBox_0 : decode cX4_firstLotInBox 0 = .ok (.iconst 0, 1) := by decide +kernel
theorem dX4_firstLotInBox_1 : decode cX4_firstLotInBox 1 = .ok (.istore_n 2, 1) := by decide +kernel
theorem dX4_firstLotInBox_2 : decode cX4_firstLotInBox 2 = .ok (.iload_n 2, 1) := by decide +kernel
theorem dX4_firstLotInBox_3 : decode cX4_firstLotInBox 3 = .ok (.aload_n 0, 1) := by decide +kernel
theorem dX4_firstLotInBox_4 : decode cX4_firstLotInBox 4 = .ok (.getfield 50, 3) := by decide +kernel
theorem dX4_firstLotInBox_7 : decode cX4_firstLotInBox 7 = .ok (.if_icmp .ge 32, 3) := by decide +kernel
theorem dX4_firstLotInBox_10 : decode cX4_firstLotInBox 10 = .ok (.aload_n 0, 1) := by decide +kernel
theorem dX4_firstLotInBox_11 : decode cX4_firstLotInBox 11 = .ok (.getfield 36, 3) := by decide +kernel
theorem dX4_firstLotInBox_14 : decode cX4_firstLotInBox 14 = .ok (.iload_n 2, 1) := by decide +kernel
theorem dX4_firstLotInBox_15 : decode cX4_firstLotInBox 15 = .ok (.aaload, 1) := by decide +kernel
theorem dX4_firstLotInBox_16 : decode cX4_firstLotInBox 16 = .ok (.getfield 93, 3) := by decide +kernel
theorem dX4_firstLotInBox_19 : decode cX4_firstLotInBox 19 = .ok (.iload_n 1, 1) := by decide +kernel
theorem dX4_firstLotInBox_20 : decode cX4_firstLotInBox 20 = .ok (.if_icmp .ne 13, 3) := by decide +kernel
theorem dX4_firstLotInBox_23 : decode cX4_firstLotInBox 23 = .ok (.aload_n 0, 1) := by decide +kernel
theorem dX4_firstLotInBox_24 : decode cX4_firstLotInBox 24 = .ok (.getfield 36, 3) := by decide +kernel
theorem dX4_firstLotInBox_27 : decode cX4_firstLotInBox 27 = .ok (.iload_n 2, 1) := by decide +kernel
theorem dX4_firstLotInBox_28 : decode cX4_firstLotInBox 28 = .ok (.aaload, 1) := by decide +kernel
theorem dX4_firstLotInBox_29 : decode cX4_firstLotInBox 29 = .ok (.getfield 79, 3) := by decide +kernel
theorem dX4_firstLotInBox_32 : decode cX4_firstLotInBox 32 = .ok (.ireturn, 1) := by decide +kernel
theorem dX4_firstLotInBox_33 : decode cX4_firstLotInBox 33 = .ok (.iinc 2 1, 3) := by decide +kernel
theorem dX4_firstLotInBox_36 : decode cX4_firstLotInBox 36 = .ok (.goto (-34), 3) := by decide +kernel
theorem dX4_firstLotInBox_39 : decode cX4_firstLotInBox 39 = .ok (.bipush (-6), 2) := by decide +kernel
theorem dX4_firstLotInBox_41 : decode cX4_firstLotInBox 41 = .ok (.ireturn, 1) := by decide +kernel
theorem dX4_gramsInShop_0 : decode cX4_gramsInShop 0 = .ok (.iconst 0, 1) := by decide +kernel
theorem dX4_gramsInShop_1 : decode cX4_gramsInShop 1 = .ok (.istore_n 1, 1) := by decide +kernel
theorem dX4_gramsInShop_2 : decode cX4_gramsInShop 2 = .ok (.iconst 0, 1) := by decide +kernel
theorem dX4_gramsInShop_3 : decode cX4_gramsInShop 3 = .ok (.istore_n 2, 1) := by decide +kernel
theorem dX4_gramsInShop_4 : decode cX4_gramsInShop 4 = .ok (.iload_n 2, 1) := by decide +kernel
theorem dX4_gramsInShop_5 : decode cX4_gramsInShop 5 = .ok (.aload_n 0, 1) := by decide +kernel
theorem dX4_gramsInShop_6 : decode cX4_gramsInShop 6 = .ok (.getfield 50, 3) := by decide +kernel
theorem dX4_gramsInShop_9 : decode cX4_gramsInShop 9 = .ok (.if_icmp .ge 21, 3) := by decide +kernel
theorem dX4_gramsInShop_12 : decode cX4_gramsInShop 12 = .ok (.iload_n 1, 1) := by decide +kernel
theorem dX4_gramsInShop_13 : decode cX4_gramsInShop 13 = .ok (.aload_n 0, 1) := by decide +kernel
theorem dX4_gramsInShop_14 : decode cX4_gramsInShop 14 = .ok (.getfield 36, 3) := by decide +kernel
theorem dX4_gramsInShop_17 : decode cX4_gramsInShop 17 = .ok (.iload_n 2, 1) := by decide +kernel
theorem dX4_gramsInShop_18 : decode cX4_gramsInShop 18 = .ok (.aaload, 1) := by decide +kernel
theorem dX4_gramsInShop_19 : decode cX4_gramsInShop 19 = .ok (.getfield 99, 3) := by decide +kernel
theorem dX4_gramsInShop_22 : decode cX4_gramsInShop 22 = .ok (.iadd, 1) := by decide +kernel
theorem dX4_gramsInShop_23 : decode cX4_gramsInShop 23 = .ok (.istore_n 1, 1) := by decide +kernel
theorem dX4_gramsInShop_24 : decode cX4_gramsInShop 24 = .ok (.iinc 2 1, 3) := by decide +kernel
theorem dX4_gramsInShop_27 : decode cX4_gramsInShop 27 = .ok (.goto (-23), 3) := by decide +kernel
theorem dX4_gramsInShop_30 : decode cX4_gramsInShop 30 = .ok (.iload_n 1, 1) := by decide +kernel
theorem dX4_gramsInShop_31 : decode cX4_gramsInShop 31 = .ok (.ireturn, 1) := by decide +kernel
theorem dX4_gramsOfKind_0 : decode cX4_gramsOfKind 0 = .ok (.iconst 0, 1) := by decide +kernel
theorem dX4_gramsOfKind_1 : decode cX4_gramsOfKind 1 = .ok (.istore_n 2, 1) := by decide +kernel
theorem dX4_gramsOfKind_2 : decode cX4_gramsOfKind 2 = .ok (.iconst 0, 1) := by decide +kernel
theorem dX4_gramsOfKind_3 : decode cX4_gramsOfKind 3 = .ok (.istore_n 3, 1) := by decide +kernel
theorem dX4_gramsOfKind_4 : decode cX4_gramsOfKind 4 = .ok (.iload_n 3, 1) := by decide +kernel
theorem dX4_gramsOfKind_5 : decode cX4_gramsOfKind 5 = .ok (.aload_n 0, 1) := by decide +kernel
theorem dX4_gramsOfKind_6 : decode cX4_gramsOfKind 6 = .ok (.getfield 50, 3) := by decide +kernel
theorem dX4_gramsOfKind_9 : decode cX4_gramsOfKind 9 = .ok (.if_icmp .ge 34, 3) := by decide +kernel
theorem dX4_gramsOfKind_12 : decode cX4_gramsOfKind 12 = .ok (.aload_n 0, 1) := by decide +kernel
theorem dX4_gramsOfKind_13 : decode cX4_gramsOfKind 13 = .ok (.getfield 36, 3) := by decide +kernel
theorem dX4_gramsOfKind_16 : decode cX4_gramsOfKind 16 = .ok (.iload_n 3, 1) := by decide +kernel
theorem dX4_gramsOfKind_17 : decode cX4_gramsOfKind 17 = .ok (.aaload, 1) := by decide +kernel
theorem dX4_gramsOfKind_18 : decode cX4_gramsOfKind 18 = .ok (.getfield 102, 3) := by decide +kernel
theorem dX4_gramsOfKind_21 : decode cX4_gramsOfKind 21 = .ok (.iload_n 1, 1) := by decide +kernel
theorem dX4_gramsOfKind_22 : decode cX4_gramsOfKind 22 = .ok (.if_icmp .ne 15, 3) := by decide +kernel
theorem dX4_gramsOfKind_25 : decode cX4_gramsOfKind 25 = .ok (.iload_n 2, 1) := by decide +kernel
theorem dX4_gramsOfKind_26 : decode cX4_gramsOfKind 26 = .ok (.aload_n 0, 1) := by decide +kernel
theorem dX4_gramsOfKind_27 : decode cX4_gramsOfKind 27 = .ok (.getfield 36, 3) := by decide +kernel
theorem dX4_gramsOfKind_30 : decode cX4_gramsOfKind 30 = .ok (.iload_n 3, 1) := by decide +kernel
theorem dX4_gramsOfKind_31 : decode cX4_gramsOfKind 31 = .ok (.aaload, 1) := by decide +kernel
theorem dX4_gramsOfKind_32 : decode cX4_gramsOfKind 32 = .ok (.getfield 99, 3) := by decide +kernel
theorem dX4_gramsOfKind_35 : decode cX4_gramsOfKind 35 = .ok (.iadd, 1) := by decide +kernel
theorem dX4_gramsOfKind_36 : decode cX4_gramsOfKind 36 = .ok (.istore_n 2, 1) := by decide +kernel
theorem dX4_gramsOfKind_37 : decode cX4_gramsOfKind 37 = .ok (.iinc 3 1, 3) := by decide +kernel
theorem dX4_gramsOfKind_40 : decode cX4_gramsOfKind 40 = .ok (.goto (-36), 3) := by decide +kernel
theorem dX4_gramsOfKind_43 : decode cX4_gramsOfKind 43 = .ok (.iload_n 2, 1) := by decide +kernel
theorem dX4_gramsOfKind_44 : decode cX4_gramsOfKind 44 = .ok (.ireturn, 1) := by decide +kernel
theorem dX4_freshestLotOfKind_0 : decode cX4_freshestLotOfKind 0 = .ok (.bipush (-6), 2) := by decide +kernel
theorem dX4_freshestLotOfKind_2 : decode cX4_freshestLotOfKind 2 = .ok (.istore_n 2, 1) := by decide +kernel
theorem dX4_freshestLotOfKind_3 : decode cX4_freshestLotOfKind 3 = .ok (.iconst (-1), 1) := by decide +kernel
theorem dX4_freshestLotOfKind_4 : decode cX4_freshestLotOfKind 4 = .ok (.istore_n 3, 1) := by decide +kernel
theorem dX4_freshestLotOfKind_5 : decode cX4_freshestLotOfKind 5 = .ok (.iconst 0, 1) := by decide +kernel
theorem dX4_freshestLotOfKind_6 : decode cX4_freshestLotOfKind 6 = .ok (.istore 4, 2) := by decide +kernel
theorem dX4_freshestLotOfKind_8 : decode cX4_freshestLotOfKind 8 = .ok (.iload 4, 2) := by decide +kernel
theorem dX4_freshestLotOfKind_10 : decode cX4_freshestLotOfKind 10 = .ok (.aload_n 0, 1) := by decide +kernel
theorem dX4_freshestLotOfKind_11 : decode cX4_freshestLotOfKind 11 = .ok (.getfield 50, 3) := by decide +kernel
theorem dX4_freshestLotOfKind_14 : decode cX4_freshestLotOfKind 14 = .ok (.if_icmp .ge 59, 3) := by decide +kernel
theorem dX4_freshestLotOfKind_17 : decode cX4_freshestLotOfKind 17 = .ok (.aload_n 0, 1) := by decide +kernel
theorem dX4_freshestLotOfKind_18 : decode cX4_freshestLotOfKind 18 = .ok (.getfield 36, 3) := by decide +kernel
theorem dX4_freshestLotOfKind_21 : decode cX4_freshestLotOfKind 21 = .ok (.iload 4, 2) := by decide +kernel
theorem dX4_freshestLotOfKind_23 : decode cX4_freshestLotOfKind 23 = .ok (.aaload, 1) := by decide +kernel
theorem dX4_freshestLotOfKind_24 : decode cX4_freshestLotOfKind 24 = .ok (.getfield 102, 3) := by decide +kernel
theorem dX4_freshestLotOfKind_27 : decode cX4_freshestLotOfKind 27 = .ok (.iload_n 1, 1) := by decide +kernel
theorem dX4_freshestLotOfKind_28 : decode cX4_freshestLotOfKind 28 = .ok (.if_icmp .ne 39, 3) := by decide +kernel
theorem dX4_freshestLotOfKind_31 : decode cX4_freshestLotOfKind 31 = .ok (.aload_n 0, 1) := by decide +kernel
theorem dX4_freshestLotOfKind_32 : decode cX4_freshestLotOfKind 32 = .ok (.getfield 36, 3) := by decide +kernel
theorem dX4_freshestLotOfKind_35 : decode cX4_freshestLotOfKind 35 = .ok (.iload 4, 2) := by decide +kernel
theorem dX4_freshestLotOfKind_37 : decode cX4_freshestLotOfKind 37 = .ok (.aaload, 1) := by decide +kernel
theorem dX4_freshestLotOfKind_38 : decode cX4_freshestLotOfKind 38 = .ok (.getfield 105, 3) := by decide +kernel
theorem dX4_freshestLotOfKind_41 : decode cX4_freshestLotOfKind 41 = .ok (.iload_n 3, 1) := by decide +kernel
theorem dX4_freshestLotOfKind_42 : decode cX4_freshestLotOfKind 42 = .ok (.if_icmp .le 25, 3) := by decide +kernel
theorem dX4_freshestLotOfKind_45 : decode cX4_freshestLotOfKind 45 = .ok (.aload_n 0, 1) := by decide +kernel
theorem dX4_freshestLotOfKind_46 : decode cX4_freshestLotOfKind 46 = .ok (.getfield 36, 3) := by decide +kernel
theorem dX4_freshestLotOfKind_49 : decode cX4_freshestLotOfKind 49 = .ok (.iload 4, 2) := by decide +kernel
theorem dX4_freshestLotOfKind_51 : decode cX4_freshestLotOfKind 51 = .ok (.aaload, 1) := by decide +kernel
theorem dX4_freshestLotOfKind_52 : decode cX4_freshestLotOfKind 52 = .ok (.getfield 105, 3) := by decide +kernel
theorem dX4_freshestLotOfKind_55 : decode cX4_freshestLotOfKind 55 = .ok (.istore_n 3, 1) := by decide +kernel
theorem dX4_freshestLotOfKind_56 : decode cX4_freshestLotOfKind 56 = .ok (.aload_n 0, 1) := by decide +kernel
theorem dX4_freshestLotOfKind_57 : decode cX4_freshestLotOfKind 57 = .ok (.getfield 36, 3) := by decide +kernel
theorem dX4_freshestLotOfKind_60 : decode cX4_freshestLotOfKind 60 = .ok (.iload 4, 2) := by decide +kernel
theorem dX4_freshestLotOfKind_62 : decode cX4_freshestLotOfKind 62 = .ok (.aaload, 1) := by decide +kernel
theorem dX4_freshestLotOfKind_63 : decode cX4_freshestLotOfKind 63 = .ok (.getfield 79, 3) := by decide +kernel
theorem dX4_freshestLotOfKind_66 : decode cX4_freshestLotOfKind 66 = .ok (.istore_n 2, 1) := by decide +kernel
theorem dX4_freshestLotOfKind_67 : decode cX4_freshestLotOfKind 67 = .ok (.iinc 4 1, 3) := by decide +kernel
theorem dX4_freshestLotOfKind_70 : decode cX4_freshestLotOfKind 70 = .ok (.goto (-62), 3) := by decide +kernel
theorem dX4_freshestLotOfKind_73 : decode cX4_freshestLotOfKind 73 = .ok (.iload_n 2, 1) := by decide +kernel
theorem dX4_freshestLotOfKind_74 : decode cX4_freshestLotOfKind 74 = .ok (.ireturn, 1) := by decide +kernel
theorem dX4_priceAt_0 : decode cX4_priceAt 0 = .ok (.aload_n 0, 1) := by decide +kernel
theorem dX4_priceAt_1 : decode cX4_priceAt 1 = .ok (.getfield 18, 3) := by decide +kernel
theorem dX4_priceAt_4 : decode cX4_priceAt 4 = .ok (.iload_n 1, 1) := by decide +kernel
theorem dX4_priceAt_5 : decode cX4_priceAt 5 = .ok (.iaload, 1) := by decide +kernel
theorem dX4_priceAt_6 : decode cX4_priceAt 6 = .ok (.bipush 50, 2) := by decide +kernel
theorem dX4_priceAt_8 : decode cX4_priceAt 8 = .ok (.iload_n 2, 1) := by decide +kernel
theorem dX4_priceAt_9 : decode cX4_priceAt 9 = .ok (.iconst 2, 1) := by decide +kernel
theorem dX4_priceAt_10 : decode cX4_priceAt 10 = .ok (.idiv, 1) := by decide +kernel
theorem dX4_priceAt_11 : decode cX4_priceAt 11 = .ok (.iadd, 1) := by decide +kernel
theorem dX4_priceAt_12 : decode cX4_priceAt 12 = .ok (.imul, 1) := by decide +kernel
theorem dX4_priceAt_13 : decode cX4_priceAt 13 = .ok (.bipush 100, 2) := by decide +kernel
theorem dX4_priceAt_15 : decode cX4_priceAt 15 = .ok (.idiv, 1) := by decide +kernel
theorem dX4_priceAt_16 : decode cX4_priceAt 16 = .ok (.istore 4, 2) := by decide +kernel
theorem dX4_priceAt_18 : decode cX4_priceAt 18 = .ok (.iload 4, 2) := by decide +kernel
theorem dX4_priceAt_20 : decode cX4_priceAt 20 = .ok (.bipush 100, 2) := by decide +kernel
theorem dX4_priceAt_22 : decode cX4_priceAt 22 = .ok (.aload_n 0, 1) := by decide +kernel
theorem dX4_priceAt_23 : decode cX4_priceAt 23 = .ok (.getfield 25, 3) := by decide +kernel
theorem dX4_priceAt_26 : decode cX4_priceAt 26 = .ok (.iload_n 3, 1) := by decide +kernel
theorem dX4_priceAt_27 : decode cX4_priceAt 27 = .ok (.iaload, 1) := by decide +kernel
theorem dX4_priceAt_28 : decode cX4_priceAt 28 = .ok (.isub, 1) := by decide +kernel
theorem dX4_priceAt_29 : decode cX4_priceAt 29 = .ok (.imul, 1) := by decide +kernel
theorem dX4_priceAt_30 : decode cX4_priceAt 30 = .ok (.bipush 100, 2) := by decide +kernel
theorem dX4_priceAt_32 : decode cX4_priceAt 32 = .ok (.idiv, 1) := by decide +kernel
theorem dX4_priceAt_33 : decode cX4_priceAt 33 = .ok (.ireturn, 1) := by decide +kernel
theorem dX4_priceOf_0 : decode cX4_priceOf 0 = .ok (.aload_n 0, 1) := by decide +kernel
theorem dX4_priceOf_1 : decode cX4_priceOf 1 = .ok (.aload_n 1, 1) := by decide +kernel
theorem dX4_priceOf_2 : decode cX4_priceOf 2 = .ok (.getfield 102, 3) := by decide +kernel
theorem dX4_priceOf_5 : decode cX4_priceOf 5 = .ok (.aload_n 1, 1) := by decide +kernel
theorem dX4_priceOf_6 : decode cX4_priceOf 6 = .ok (.getfield 105, 3) := by decide +kernel
theorem dX4_priceOf_9 : decode cX4_priceOf 9 = .ok (.aload_n 0, 1) := by decide +kernel
theorem dX4_priceOf_10 : decode cX4_priceOf 10 = .ok (.getfield 44, 3) := by decide +kernel
theorem dX4_priceOf_13 : decode cX4_priceOf 13 = .ok (.invokevirtual 108, 3) := by decide +kernel
theorem dX4_priceOf_16 : decode cX4_priceOf 16 = .ok (.ireturn, 1) := by decide +kernel
theorem dX4_iceAt_0 : decode cX4_iceAt 0 = .ok (.aload_n 1, 1) := by decide +kernel
theorem dX4_iceAt_1 : decode cX4_iceAt 1 = .ok (.getfield 86, 3) := by decide +kernel
theorem dX4_iceAt_4 : decode cX4_iceAt 4 = .ok (.invokestatic 112, 3) := by decide +kernel
theorem dX4_iceAt_7 : decode cX4_iceAt 7 = .ok (.ifCond .eq 13, 3) := by decide +kernel
theorem dX4_iceAt_10 : decode cX4_iceAt 10 = .ok (.aload_n 0, 1) := by decide +kernel
theorem dX4_iceAt_11 : decode cX4_iceAt 11 = .ok (.getfield 31, 3) := by decide +kernel
theorem dX4_iceAt_14 : decode cX4_iceAt 14 = .ok (.aload_n 1, 1) := by decide +kernel
theorem dX4_iceAt_15 : decode cX4_iceAt 15 = .ok (.getfield 86, 3) := by decide +kernel
theorem dX4_iceAt_18 : decode cX4_iceAt 18 = .ok (.iaload, 1) := by decide +kernel
theorem dX4_iceAt_19 : decode cX4_iceAt 19 = .ok (.ireturn, 1) := by decide +kernel
theorem dX4_iceAt_20 : decode cX4_iceAt 20 = .ok (.aload_n 1, 1) := by decide +kernel
theorem dX4_iceAt_21 : decode cX4_iceAt 21 = .ok (.getfield 93, 3) := by decide +kernel
theorem dX4_iceAt_24 : decode cX4_iceAt 24 = .ok (.invokestatic 116, 3) := by decide +kernel
theorem dX4_iceAt_27 : decode cX4_iceAt 27 = .ok (.ifCond .eq 15, 3) := by decide +kernel
theorem dX4_iceAt_30 : decode cX4_iceAt 30 = .ok (.aload_n 0, 1) := by decide +kernel
theorem dX4_iceAt_31 : decode cX4_iceAt 31 = .ok (.getfield 28, 3) := by decide +kernel
theorem dX4_iceAt_34 : decode cX4_iceAt 34 = .ok (.aload_n 1, 1) := by decide +kernel
theorem dX4_iceAt_35 : decode cX4_iceAt 35 = .ok (.getfield 93, 3) := by decide +kernel
theorem dX4_iceAt_38 : decode cX4_iceAt 38 = .ok (.iaload, 1) := by decide +kernel
theorem dX4_iceAt_39 : decode cX4_iceAt 39 = .ok (.goto 4, 3) := by decide +kernel
theorem dX4_iceAt_42 : decode cX4_iceAt 42 = .ok (.iconst 0, 1) := by decide +kernel
theorem dX4_iceAt_43 : decode cX4_iceAt 43 = .ok (.ireturn, 1) := by decide +kernel
theorem dX4_refusalOfNewLot_0 : decode cX4_refusalOfNewLot 0 = .ok (.aload_n 0, 1) := by decide +kernel
theorem dX4_refusalOfNewLot_1 : decode cX4_refusalOfNewLot 1 = .ok (.iload_n 1, 1) := by decide +kernel
theorem dX4_refusalOfNewLot_2 : decode cX4_refusalOfNewLot 2 = .ok (.invokevirtual 119, 3) := by decide +kernel
theorem dX4_refusalOfNewLot_5 : decode cX4_refusalOfNewLot 5 = .ok (.ifCond .eq 6, 3) := by decide +kernel
theorem dX4_refusalOfNewLot_8 : decode cX4_refusalOfNewLot 8 = .ok (.bipush (-3), 2) := by decide +kernel
theorem dX4_refusalOfNewLot_10 : decode cX4_refusalOfNewLot 10 = .ok (.ireturn, 1) := by decide +kernel
theorem dX4_refusalOfNewLot_11 : decode cX4_refusalOfNewLot 11 = .ok (.aload_n 0, 1) := by decide +kernel
theorem dX4_refusalOfNewLot_12 : decode cX4_refusalOfNewLot 12 = .ok (.getfield 50, 3) := by decide +kernel
theorem dX4_refusalOfNewLot_15 : decode cX4_refusalOfNewLot 15 = .ok (.bipush 16, 2) := by decide +kernel
theorem dX4_refusalOfNewLot_17 : decode cX4_refusalOfNewLot 17 = .ok (.if_icmp .lt 8, 3) := by decide +kernel
theorem dX4_refusalOfNewLot_20 : decode cX4_refusalOfNewLot 20 = .ok (.bipush (-4), 2) := by decide +kernel
theorem dX4_refusalOfNewLot_22 : decode cX4_refusalOfNewLot 22 = .ok (.goto 4, 3) := by decide +kernel
theorem dX4_refusalOfNewLot_25 : decode cX4_refusalOfNewLot 25 = .ok (.iconst 0, 1) := by decide +kernel
theorem dX4_refusalOfNewLot_26 : decode cX4_refusalOfNewLot 26 = .ok (.ireturn, 1) := by decide +kernel
theorem dX4_addLot_0 : decode cX4_addLot 0 = .ok (.aload_n 0, 1) := by decide +kernel
theorem dX4_addLot_1 : decode cX4_addLot 1 = .ok (.dup, 1) := by decide +kernel
theorem dX4_addLot_2 : decode cX4_addLot 2 = .ok (.getfield 47, 3) := by decide +kernel
theorem dX4_addLot_5 : decode cX4_addLot 5 = .ok (.iconst 1, 1) := by decide +kernel
theorem dX4_addLot_6 : decode cX4_addLot 6 = .ok (.iadd, 1) := by decide +kernel
theorem dX4_addLot_7 : decode cX4_addLot 7 = .ok (.putfield 47, 3) := by decide +kernel
theorem dX4_addLot_10 : decode cX4_addLot 10 = .ok (.aload_n 0, 1) := by decide +kernel
theorem dX4_addLot_11 : decode cX4_addLot 11 = .ok (.getfield 36, 3) := by decide +kernel
theorem dX4_addLot_14 : decode cX4_addLot 14 = .ok (.aload_n 0, 1) := by decide +kernel
theorem dX4_addLot_15 : decode cX4_addLot 15 = .ok (.getfield 50, 3) := by decide +kernel
theorem dX4_addLot_18 : decode cX4_addLot 18 = .ok (.aaload, 1) := by decide +kernel
theorem dX4_addLot_19 : decode cX4_addLot 19 = .ok (.astore 5, 2) := by decide +kernel
theorem dX4_addLot_21 : decode cX4_addLot 21 = .ok (.aload 5, 2) := by decide +kernel
theorem dX4_addLot_23 : decode cX4_addLot 23 = .ok (.aload_n 0, 1) := by decide +kernel
theorem dX4_addLot_24 : decode cX4_addLot 24 = .ok (.getfield 47, 3) := by decide +kernel
theorem dX4_addLot_27 : decode cX4_addLot 27 = .ok (.putfield 79, 3) := by decide +kernel
theorem dX4_addLot_30 : decode cX4_addLot 30 = .ok (.aload 5, 2) := by decide +kernel
theorem dX4_addLot_32 : decode cX4_addLot 32 = .ok (.iload_n 1, 1) := by decide +kernel
theorem dX4_addLot_33 : decode cX4_addLot 33 = .ok (.putfield 102, 3) := by decide +kernel
theorem dX4_addLot_36 : decode cX4_addLot 36 = .ok (.aload 5, 2) := by decide +kernel
theorem dX4_addLot_38 : decode cX4_addLot 38 = .ok (.iload_n 2, 1) := by decide +kernel
theorem dX4_addLot_39 : decode cX4_addLot 39 = .ok (.putfield 99, 3) := by decide +kernel
theorem dX4_addLot_42 : decode cX4_addLot 42 = .ok (.aload 5, 2) := by decide +kernel
theorem dX4_addLot_44 : decode cX4_addLot 44 = .ok (.iload_n 3, 1) := by decide +kernel
theorem dX4_addLot_45 : decode cX4_addLot 45 = .ok (.putfield 105, 3) := by decide +kernel
theorem dX4_addLot_48 : decode cX4_addLot 48 = .ok (.aload 5, 2) := by decide +kernel
theorem dX4_addLot_50 : decode cX4_addLot 50 = .ok (.iload 4, 2) := by decide +kernel
theorem dX4_addLot_52 : decode cX4_addLot 52 = .ok (.invokevirtual 122, 3) := by decide +kernel
theorem dX4_addLot_55 : decode cX4_addLot 55 = .ok (.aload_n 0, 1) := by decide +kernel
theorem dX4_addLot_56 : decode cX4_addLot 56 = .ok (.dup, 1) := by decide +kernel
theorem dX4_addLot_57 : decode cX4_addLot 57 = .ok (.getfield 50, 3) := by decide +kernel
theorem dX4_addLot_60 : decode cX4_addLot 60 = .ok (.iconst 1, 1) := by decide +kernel
theorem dX4_addLot_61 : decode cX4_addLot 61 = .ok (.iadd, 1) := by decide +kernel
theorem dX4_addLot_62 : decode cX4_addLot 62 = .ok (.putfield 50, 3) := by decide +kernel
theorem dX4_addLot_65 : decode cX4_addLot 65 = .ok (.aload_n 0, 1) := by decide +kernel
theorem dX4_addLot_66 : decode cX4_addLot 66 = .ok (.getfield 47, 3) := by decide +kernel
theorem dX4_addLot_69 : decode cX4_addLot 69 = .ok (.ireturn, 1) := by decide +kernel
theorem dX4_buyLot_0 : decode cX4_buyLot 0 = .ok (.aload_n 0, 1) := by decide +kernel
theorem dX4_buyLot_1 : decode cX4_buyLot 1 = .ok (.dup, 1) := by decide +kernel
theorem dX4_buyLot_2 : decode cX4_buyLot 2 = .ok (.getfield 53, 3) := by decide +kernel
theorem dX4_buyLot_5 : decode cX4_buyLot 5 = .ok (.iload_n 2, 1) := by decide +kernel
theorem dX4_buyLot_6 : decode cX4_buyLot 6 = .ok (.i2l, 1) := by decide +kernel
theorem dX4_buyLot_7 : decode cX4_buyLot 7 = .ok (.ladd, 1) := by decide +kernel
theorem dX4_buyLot_8 : decode cX4_buyLot 8 = .ok (.putfield 53, 3) := by decide +kernel
theorem dX4_buyLot_11 : decode cX4_buyLot 11 = .ok (.aload_n 0, 1) := by decide +kernel
theorem dX4_buyLot_12 : decode cX4_buyLot 12 = .ok (.dup, 1) := by decide +kernel
theorem dX4_buyLot_13 : decode cX4_buyLot 13 = .ok (.getfield 63, 3) := by decide +kernel
theorem dX4_buyLot_16 : decode cX4_buyLot 16 = .ok (.iload_n 2, 1) := by decide +kernel
theorem dX4_buyLot_17 : decode cX4_buyLot 17 = .ok (.aload_n 0, 1) := by decide +kernel
theorem dX4_buyLot_18 : decode cX4_buyLot 18 = .ok (.getfield 22, 3) := by decide +kernel
theorem dX4_buyLot_21 : decode cX4_buyLot 21 = .ok (.iload_n 1, 1) := by decide +kernel
theorem dX4_buyLot_22 : decode cX4_buyLot 22 = .ok (.iaload, 1) := by decide +kernel
theorem dX4_buyLot_23 : decode cX4_buyLot 23 = .ok (.invokestatic 126, 3) := by decide +kernel
theorem dX4_buyLot_26 : decode cX4_buyLot 26 = .ok (.i2l, 1) := by decide +kernel
theorem dX4_buyLot_27 : decode cX4_buyLot 27 = .ok (.ladd, 1) := by decide +kernel
theorem dX4_buyLot_28 : decode cX4_buyLot 28 = .ok (.putfield 63, 3) := by decide +kernel
theorem dX4_buyLot_31 : decode cX4_buyLot 31 = .ok (.aload_n 0, 1) := by decide +kernel
theorem dX4_buyLot_32 : decode cX4_buyLot 32 = .ok (.iload_n 1, 1) := by decide +kernel
theorem dX4_buyLot_33 : decode cX4_buyLot 33 = .ok (.iload_n 2, 1) := by decide +kernel
theorem dX4_buyLot_34 : decode cX4_buyLot 34 = .ok (.iload_n 3, 1) := by decide +kernel
theorem dX4_buyLot_35 : decode cX4_buyLot 35 = .ok (.iload 4, 2) := by decide +kernel
theorem dX4_buyLot_37 : decode cX4_buyLot 37 = .ok (.invokevirtual 130, 3) := by decide +kernel
theorem dX4_buyLot_40 : decode cX4_buyLot 40 = .ok (.ireturn, 1) := by decide +kernel
theorem dX4_removeLotAt_0 : decode cX4_removeLotAt 0 = .ok (.aload_n 0, 1) := by decide +kernel
theorem dX4_removeLotAt_1 : decode cX4_removeLotAt 1 = .ok (.getfield 36, 3) := by decide +kernel
theorem dX4_removeLotAt_4 : decode cX4_removeLotAt 4 = .ok (.iload_n 1, 1) := by decide +kernel
theorem dX4_removeLotAt_5 : decode cX4_removeLotAt 5 = .ok (.aaload, 1) := by decide +kernel
theorem dX4_removeLotAt_6 : decode cX4_removeLotAt 6 = .ok (.astore_n 2, 1) := by decide +kernel
theorem dX4_removeLotAt_7 : decode cX4_removeLotAt 7 = .ok (.iload_n 1, 1) := by decide +kernel
theorem dX4_removeLotAt_8 : decode cX4_removeLotAt 8 = .ok (.istore_n 3, 1) := by decide +kernel
theorem dX4_removeLotAt_9 : decode cX4_removeLotAt 9 = .ok (.iload_n 3, 1) := by decide +kernel
theorem dX4_removeLotAt_10 : decode cX4_removeLotAt 10 = .ok (.aload_n 0, 1) := by decide +kernel
theorem dX4_removeLotAt_11 : decode cX4_removeLotAt 11 = .ok (.getfield 50, 3) := by decide +kernel
theorem dX4_removeLotAt_14 : decode cX4_removeLotAt 14 = .ok (.iconst 1, 1) := by decide +kernel
theorem dX4_removeLotAt_15 : decode cX4_removeLotAt 15 = .ok (.isub, 1) := by decide +kernel
theorem dX4_removeLotAt_16 : decode cX4_removeLotAt 16 = .ok (.if_icmp .ge 23, 3) := by decide +kernel
theorem dX4_removeLotAt_19 : decode cX4_removeLotAt 19 = .ok (.aload_n 0, 1) := by decide +kernel
theorem dX4_removeLotAt_20 : decode cX4_removeLotAt 20 = .ok (.getfield 36, 3) := by decide +kernel
theorem dX4_removeLotAt_23 : decode cX4_removeLotAt 23 = .ok (.iload_n 3, 1) := by decide +kernel
theorem dX4_removeLotAt_24 : decode cX4_removeLotAt 24 = .ok (.aload_n 0, 1) := by decide +kernel
theorem dX4_removeLotAt_25 : decode cX4_removeLotAt 25 = .ok (.getfield 36, 3) := by decide +kernel
theorem dX4_removeLotAt_28 : decode cX4_removeLotAt 28 = .ok (.iload_n 3, 1) := by decide +kernel
theorem dX4_removeLotAt_29 : decode cX4_removeLotAt 29 = .ok (.iconst 1, 1) := by decide +kernel
theorem dX4_removeLotAt_30 : decode cX4_removeLotAt 30 = .ok (.iadd, 1) := by decide +kernel
theorem dX4_removeLotAt_31 : decode cX4_removeLotAt 31 = .ok (.aaload, 1) := by decide +kernel
theorem dX4_removeLotAt_32 : decode cX4_removeLotAt 32 = .ok (.aastore, 1) := by decide +kernel
theorem dX4_removeLotAt_33 : decode cX4_removeLotAt 33 = .ok (.iinc 3 1, 3) := by decide +kernel
theorem dX4_removeLotAt_36 : decode cX4_removeLotAt 36 = .ok (.goto (-27), 3) := by decide +kernel
theorem dX4_removeLotAt_39 : decode cX4_removeLotAt 39 = .ok (.aload_n 0, 1) := by decide +kernel
theorem dX4_removeLotAt_40 : decode cX4_removeLotAt 40 = .ok (.dup, 1) := by decide +kernel
theorem dX4_removeLotAt_41 : decode cX4_removeLotAt 41 = .ok (.getfield 50, 3) := by decide +kernel
theorem dX4_removeLotAt_44 : decode cX4_removeLotAt 44 = .ok (.iconst 1, 1) := by decide +kernel
theorem dX4_removeLotAt_45 : decode cX4_removeLotAt 45 = .ok (.isub, 1) := by decide +kernel
theorem dX4_removeLotAt_46 : decode cX4_removeLotAt 46 = .ok (.putfield 50, 3) := by decide +kernel
theorem dX4_removeLotAt_49 : decode cX4_removeLotAt 49 = .ok (.aload_n 0, 1) := by decide +kernel
theorem dX4_removeLotAt_50 : decode cX4_removeLotAt 50 = .ok (.getfield 36, 3) := by decide +kernel
theorem dX4_removeLotAt_53 : decode cX4_removeLotAt 53 = .ok (.aload_n 0, 1) := by decide +kernel
theorem dX4_removeLotAt_54 : decode cX4_removeLotAt 54 = .ok (.getfield 50, 3) := by decide +kernel
theorem dX4_removeLotAt_57 : decode cX4_removeLotAt 57 = .ok (.aload_n 2, 1) := by decide +kernel
theorem dX4_removeLotAt_58 : decode cX4_removeLotAt 58 = .ok (.aastore, 1) := by decide +kernel
theorem dX4_removeLotAt_59 : decode cX4_removeLotAt 59 = .ok (.return_, 1) := by decide +kernel
theorem dX4_discardLotAt_0 : decode cX4_discardLotAt 0 = .ok (.aload_n 0, 1) := by decide +kernel
theorem dX4_discardLotAt_1 : decode cX4_discardLotAt 1 = .ok (.getfield 36, 3) := by decide +kernel
theorem dX4_discardLotAt_4 : decode cX4_discardLotAt 4 = .ok (.iload_n 1, 1) := by decide +kernel
theorem dX4_discardLotAt_5 : decode cX4_discardLotAt 5 = .ok (.aaload, 1) := by decide +kernel
theorem dX4_discardLotAt_6 : decode cX4_discardLotAt 6 = .ok (.getfield 99, 3) := by decide +kernel
theorem dX4_discardLotAt_9 : decode cX4_discardLotAt 9 = .ok (.istore_n 2, 1) := by decide +kernel
theorem dX4_discardLotAt_10 : decode cX4_discardLotAt 10 = .ok (.aload_n 0, 1) := by decide +kernel
theorem dX4_discardLotAt_11 : decode cX4_discardLotAt 11 = .ok (.dup, 1) := by decide +kernel
theorem dX4_discardLotAt_12 : decode cX4_discardLotAt 12 = .ok (.getfield 60, 3) := by decide +kernel
theorem dX4_discardLotAt_15 : decode cX4_discardLotAt 15 = .ok (.iload_n 2, 1) := by decide +kernel
theorem dX4_discardLotAt_16 : decode cX4_discardLotAt 16 = .ok (.i2l, 1) := by decide +kernel
theorem dX4_discardLotAt_17 : decode cX4_discardLotAt 17 = .ok (.ladd, 1) := by decide +kernel
theorem dX4_discardLotAt_18 : decode cX4_discardLotAt 18 = .ok (.putfield 60, 3) := by decide +kernel
theorem dX4_discardLotAt_21 : decode cX4_discardLotAt 21 = .ok (.aload_n 0, 1) := by decide +kernel
theorem dX4_discardLotAt_22 : decode cX4_discardLotAt 22 = .ok (.iload_n 1, 1) := by decide +kernel
theorem dX4_discardLotAt_23 : decode cX4_discardLotAt 23 = .ok (.invokevirtual 134, 3) := by decide +kernel
theorem dX4_discardLotAt_26 : decode cX4_discardLotAt 26 = .ok (.iload_n 2, 1) := by decide +kernel
theorem dX4_discardLotAt_27 : decode cX4_discardLotAt 27 = .ok (.ireturn, 1) := by decide +kernel
theorem dX4_sell_0 : decode cX4_sell 0 = .ok (.iload_n 2, 1) := by decide +kernel
theorem dX4_sell_1 : decode cX4_sell 1 = .ok (.istore 5, 2) := by decide +kernel
theorem dX4_sell_3 : decode cX4_sell 3 = .ok (.iconst 0, 1) := by decide +kernel
theorem dX4_sell_4 : decode cX4_sell 4 = .ok (.istore 6, 2) := by decide +kernel
theorem dX4_sell_6 : decode cX4_sell 6 = .ok (.iload 6, 2) := by decide +kernel
theorem dX4_sell_8 : decode cX4_sell 8 = .ok (.iconst 5, 1) := by decide +kernel
theorem dX4_sell_9 : decode cX4_sell 9 = .ok (.if_icmp .ge 54, 3) := by decide +kernel
theorem dX4_sell_12 : decode cX4_sell 12 = .ok (.iload 5, 2) := by decide +kernel
theorem dX4_sell_14 : decode cX4_sell 14 = .ok (.ifCond .le 49, 3) := by decide +kernel
theorem dX4_sell_17 : decode cX4_sell 17 = .ok (.aload_n 0, 1) := by decide +kernel
theorem dX4_sell_18 : decode cX4_sell 18 = .ok (.iload_n 1, 1) := by decide +kernel
theorem dX4_sell_19 : decode cX4_sell 19 = .ok (.iload_n 3, 1) := by decide +kernel
theorem dX4_sell_20 : decode cX4_sell 20 = .ok (.aload_n 0, 1) := by decide +kernel
theorem dX4_sell_21 : decode cX4_sell 21 = .ok (.getfield 15, 3) := by decide +kernel
theorem dX4_sell_24 : decode cX4_sell 24 = .ok (.invokestatic 137, 3) := by decide +kernel
theorem dX4_sell_27 : decode cX4_sell 27 = .ok (.iload 4, 2) := by decide +kernel
theorem dX4_sell_29 : decode cX4_sell 29 = .ok (.invokevirtual 142, 3) := by decide +kernel
theorem dX4_sell_32 : decode cX4_sell 32 = .ok (.istore 7, 2) := by decide +kernel
theorem dX4_sell_34 : decode cX4_sell 34 = .ok (.iload 7, 2) := by decide +kernel
theorem dX4_sell_36 : decode cX4_sell 36 = .ok (.bipush (-6), 2) := by decide +kernel
theorem dX4_sell_38 : decode cX4_sell 38 = .ok (.if_icmp .ne 6, 3) := by decide +kernel
theorem dX4_sell_41 : decode cX4_sell 41 = .ok (.goto 22, 3) := by decide +kernel
theorem dX4_sell_44 : decode cX4_sell 44 = .ok (.iload 5, 2) := by decide +kernel
theorem dX4_sell_46 : decode cX4_sell 46 = .ok (.aload_n 0, 1) := by decide +kernel
theorem dX4_sell_47 : decode cX4_sell 47 = .ok (.iload 7, 2) := by decide +kernel
theorem dX4_sell_49 : decode cX4_sell 49 = .ok (.iload 5, 2) := by decide +kernel
theorem dX4_sell_51 : decode cX4_sell 51 = .ok (.invokevirtual 145, 3) := by decide +kernel
theorem dX4_sell_54 : decode cX4_sell 54 = .ok (.isub, 1) := by decide +kernel
theorem dX4_sell_55 : decode cX4_sell 55 = .ok (.istore 5, 2) := by decide +kernel
theorem dX4_sell_57 : decode cX4_sell 57 = .ok (.iinc 6 1, 3) := by decide +kernel
theorem dX4_sell_60 : decode cX4_sell 60 = .ok (.goto (-54), 3) := by decide +kernel
theorem dX4_sell_63 : decode cX4_sell 63 = .ok (.iload_n 2, 1) := by decide +kernel
theorem dX4_sell_64 : decode cX4_sell 64 = .ok (.iload 5, 2) := by decide +kernel
theorem dX4_sell_66 : decode cX4_sell 66 = .ok (.isub, 1) := by decide +kernel
theorem dX4_sell_67 : decode cX4_sell 67 = .ok (.ireturn, 1) := by decide +kernel
theorem dX4_nextLotToSell_0 : decode cX4_nextLotToSell 0 = .ok (.bipush (-6), 2) := by decide +kernel
theorem dX4_nextLotToSell_2 : decode cX4_nextLotToSell 2 = .ok (.istore 4, 2) := by decide +kernel
theorem dX4_nextLotToSell_4 : decode cX4_nextLotToSell 4 = .ok (.iconst 0, 1) := by decide +kernel
theorem dX4_nextLotToSell_5 : decode cX4_nextLotToSell 5 = .ok (.istore 5, 2) := by decide +kernel
theorem dX4_nextLotToSell_7 : decode cX4_nextLotToSell 7 = .ok (.iload 5, 2) := by decide +kernel
theorem dX4_nextLotToSell_9 : decode cX4_nextLotToSell 9 = .ok (.aload_n 0, 1) := by decide +kernel
theorem dX4_nextLotToSell_10 : decode cX4_nextLotToSell 10 = .ok (.getfield 50, 3) := by decide +kernel
theorem dX4_nextLotToSell_13 : decode cX4_nextLotToSell 13 = .ok (.if_icmp .ge 95, 3) := by decide +kernel
theorem dX4_nextLotToSell_16 : decode cX4_nextLotToSell 16 = .ok (.aload_n 0, 1) := by decide +kernel
theorem dX4_nextLotToSell_17 : decode cX4_nextLotToSell 17 = .ok (.getfield 36, 3) := by decide +kernel
theorem dX4_nextLotToSell_20 : decode cX4_nextLotToSell 20 = .ok (.iload 5, 2) := by decide +kernel
theorem dX4_nextLotToSell_22 : decode cX4_nextLotToSell 22 = .ok (.aaload, 1) := by decide +kernel
theorem dX4_nextLotToSell_23 : decode cX4_nextLotToSell 23 = .ok (.astore 6, 2) := by decide +kernel
theorem dX4_nextLotToSell_25 : decode cX4_nextLotToSell 25 = .ok (.aload 6, 2) := by decide +kernel
theorem dX4_nextLotToSell_27 : decode cX4_nextLotToSell 27 = .ok (.invokevirtual 148, 3) := by decide +kernel
theorem dX4_nextLotToSell_30 : decode cX4_nextLotToSell 30 = .ok (.ifCond .eq 35, 3) := by decide +kernel
theorem dX4_nextLotToSell_33 : decode cX4_nextLotToSell 33 = .ok (.aload 6, 2) := by decide +kernel
theorem dX4_nextLotToSell_35 : decode cX4_nextLotToSell 35 = .ok (.getfield 102, 3) := by decide +kernel
theorem dX4_nextLotToSell_38 : decode cX4_nextLotToSell 38 = .ok (.iload_n 1, 1) := by decide +kernel
theorem dX4_nextLotToSell_39 : decode cX4_nextLotToSell 39 = .ok (.if_icmp .ne 26, 3) := by decide +kernel
theorem dX4_nextLotToSell_42 : decode cX4_nextLotToSell 42 = .ok (.aload 6, 2) := by decide +kernel
theorem dX4_nextLotToSell_44 : decode cX4_nextLotToSell 44 = .ok (.getfield 105, 3) := by decide +kernel
theorem dX4_nextLotToSell_47 : decode cX4_nextLotToSell 47 = .ok (.iload_n 2, 1) := by decide +kernel
theorem dX4_nextLotToSell_48 : decode cX4_nextLotToSell 48 = .ok (.if_icmp .lt 17, 3) := by decide +kernel
theorem dX4_nextLotToSell_51 : decode cX4_nextLotToSell 51 = .ok (.aload_n 0, 1) := by decide +kernel
theorem dX4_nextLotToSell_52 : decode cX4_nextLotToSell 52 = .ok (.aload 6, 2) := by decide +kernel
theorem dX4_nextLotToSell_54 : decode cX4_nextLotToSell 54 = .ok (.invokevirtual 152, 3) := by decide +kernel
theorem dX4_nextLotToSell_57 : decode cX4_nextLotToSell 57 = .ok (.iload_n 3, 1) := by decide +kernel
theorem dX4_nextLotToSell_58 : decode cX4_nextLotToSell 58 = .ok (.if_icmp .gt 7, 3) := by decide +kernel
theorem dX4_nextLotToSell_61 : decode cX4_nextLotToSell 61 = .ok (.iconst 1, 1) := by decide +kernel
theorem dX4_nextLotToSell_62 : decode cX4_nextLotToSell 62 = .ok (.goto 4, 3) := by decide +kernel
theorem dX4_nextLotToSell_65 : decode cX4_nextLotToSell 65 = .ok (.iconst 0, 1) := by decide +kernel
theorem dX4_nextLotToSell_66 : decode cX4_nextLotToSell 66 = .ok (.istore 7, 2) := by decide +kernel
theorem dX4_nextLotToSell_68 : decode cX4_nextLotToSell 68 = .ok (.iload 7, 2) := by decide +kernel
theorem dX4_nextLotToSell_70 : decode cX4_nextLotToSell 70 = .ok (.ifCond .eq 32, 3) := by decide +kernel
theorem dX4_nextLotToSell_73 : decode cX4_nextLotToSell 73 = .ok (.iload 4, 2) := by decide +kernel
theorem dX4_nextLotToSell_75 : decode cX4_nextLotToSell 75 = .ok (.bipush (-6), 2) := by decide +kernel
theorem dX4_nextLotToSell_77 : decode cX4_nextLotToSell 77 = .ok (.if_icmp .eq 21, 3) := by decide +kernel
theorem dX4_nextLotToSell_80 : decode cX4_nextLotToSell 80 = .ok (.aload 6, 2) := by decide +kernel
theorem dX4_nextLotToSell_82 : decode cX4_nextLotToSell 82 = .ok (.getfield 105, 3) := by decide +kernel
theorem dX4_nextLotToSell_85 : decode cX4_nextLotToSell 85 = .ok (.aload_n 0, 1) := by decide +kernel
theorem dX4_nextLotToSell_86 : decode cX4_nextLotToSell 86 = .ok (.getfield 36, 3) := by decide +kernel
theorem dX4_nextLotToSell_89 : decode cX4_nextLotToSell 89 = .ok (.iload 4, 2) := by decide +kernel
theorem dX4_nextLotToSell_91 : decode cX4_nextLotToSell 91 = .ok (.aaload, 1) := by decide +kernel
theorem dX4_nextLotToSell_92 : decode cX4_nextLotToSell 92 = .ok (.getfield 105, 3) := by decide +kernel
theorem dX4_nextLotToSell_95 : decode cX4_nextLotToSell 95 = .ok (.if_icmp .ge 7, 3) := by decide +kernel
theorem dX4_nextLotToSell_98 : decode cX4_nextLotToSell 98 = .ok (.iload 5, 2) := by decide +kernel
theorem dX4_nextLotToSell_100 : decode cX4_nextLotToSell 100 = .ok (.istore 4, 2) := by decide +kernel
theorem dX4_nextLotToSell_102 : decode cX4_nextLotToSell 102 = .ok (.iinc 5 1, 3) := by decide +kernel
theorem dX4_nextLotToSell_105 : decode cX4_nextLotToSell 105 = .ok (.goto (-98), 3) := by decide +kernel
theorem dX4_nextLotToSell_108 : decode cX4_nextLotToSell 108 = .ok (.iload 4, 2) := by decide +kernel
theorem dX4_nextLotToSell_110 : decode cX4_nextLotToSell 110 = .ok (.ireturn, 1) := by decide +kernel
theorem dX4_sellFromLotAt_0 : decode cX4_sellFromLotAt 0 = .ok (.aload_n 0, 1) := by decide +kernel
theorem dX4_sellFromLotAt_1 : decode cX4_sellFromLotAt 1 = .ok (.getfield 36, 3) := by decide +kernel
theorem dX4_sellFromLotAt_4 : decode cX4_sellFromLotAt 4 = .ok (.iload_n 1, 1) := by decide +kernel
theorem dX4_sellFromLotAt_5 : decode cX4_sellFromLotAt 5 = .ok (.aaload, 1) := by decide +kernel
theorem dX4_sellFromLotAt_6 : decode cX4_sellFromLotAt 6 = .ok (.astore_n 3, 1) := by decide +kernel
theorem dX4_sellFromLotAt_7 : decode cX4_sellFromLotAt 7 = .ok (.iload_n 2, 1) := by decide +kernel
theorem dX4_sellFromLotAt_8 : decode cX4_sellFromLotAt 8 = .ok (.aload_n 3, 1) := by decide +kernel
theorem dX4_sellFromLotAt_9 : decode cX4_sellFromLotAt 9 = .ok (.getfield 99, 3) := by decide +kernel
theorem dX4_sellFromLotAt_12 : decode cX4_sellFromLotAt 12 = .ok (.invokestatic 156, 3) := by decide +kernel
theorem dX4_sellFromLotAt_15 : decode cX4_sellFromLotAt 15 = .ok (.istore 4, 2) := by decide +kernel
theorem dX4_sellFromLotAt_17 : decode cX4_sellFromLotAt 17 = .ok (.aload_n 0, 1) := by decide +kernel
theorem dX4_sellFromLotAt_18 : decode cX4_sellFromLotAt 18 = .ok (.dup, 1) := by decide +kernel
theorem dX4_sellFromLotAt_19 : decode cX4_sellFromLotAt 19 = .ok (.getfield 66, 3) := by decide +kernel
theorem dX4_sellFromLotAt_22 : decode cX4_sellFromLotAt 22 = .ok (.iload 4, 2) := by decide +kernel
theorem dX4_sellFromLotAt_24 : decode cX4_sellFromLotAt 24 = .ok (.aload_n 0, 1) := by decide +kernel
theorem dX4_sellFromLotAt_25 : decode cX4_sellFromLotAt 25 = .ok (.aload_n 3, 1) := by decide +kernel
theorem dX4_sellFromLotAt_26 : decode cX4_sellFromLotAt 26 = .ok (.invokevirtual 152, 3) := by decide +kernel
theorem dX4_sellFromLotAt_29 : decode cX4_sellFromLotAt 29 = .ok (.invokestatic 126, 3) := by decide +kernel
theorem dX4_sellFromLotAt_32 : decode cX4_sellFromLotAt 32 = .ok (.i2l, 1) := by decide +kernel
theorem dX4_sellFromLotAt_33 : decode cX4_sellFromLotAt 33 = .ok (.ladd, 1) := by decide +kernel
theorem dX4_sellFromLotAt_34 : decode cX4_sellFromLotAt 34 = .ok (.putfield 66, 3) := by decide +kernel
theorem dX4_sellFromLotAt_37 : decode cX4_sellFromLotAt 37 = .ok (.aload_n 0, 1) := by decide +kernel
theorem dX4_sellFromLotAt_38 : decode cX4_sellFromLotAt 38 = .ok (.dup, 1) := by decide +kernel
theorem dX4_sellFromLotAt_39 : decode cX4_sellFromLotAt 39 = .ok (.getfield 57, 3) := by decide +kernel
theorem dX4_sellFromLotAt_42 : decode cX4_sellFromLotAt 42 = .ok (.iload 4, 2) := by decide +kernel
theorem dX4_sellFromLotAt_44 : decode cX4_sellFromLotAt 44 = .ok (.i2l, 1) := by decide +kernel
theorem dX4_sellFromLotAt_45 : decode cX4_sellFromLotAt 45 = .ok (.ladd, 1) := by decide +kernel
theorem dX4_sellFromLotAt_46 : decode cX4_sellFromLotAt 46 = .ok (.putfield 57, 3) := by decide +kernel
theorem dX4_sellFromLotAt_49 : decode cX4_sellFromLotAt 49 = .ok (.aload_n 3, 1) := by decide +kernel
theorem dX4_sellFromLotAt_50 : decode cX4_sellFromLotAt 50 = .ok (.dup, 1) := by decide +kernel
theorem dX4_sellFromLotAt_51 : decode cX4_sellFromLotAt 51 = .ok (.getfield 99, 3) := by decide +kernel
theorem dX4_sellFromLotAt_54 : decode cX4_sellFromLotAt 54 = .ok (.iload 4, 2) := by decide +kernel
theorem dX4_sellFromLotAt_56 : decode cX4_sellFromLotAt 56 = .ok (.isub, 1) := by decide +kernel
theorem dX4_sellFromLotAt_57 : decode cX4_sellFromLotAt 57 = .ok (.putfield 99, 3) := by decide +kernel
theorem dX4_sellFromLotAt_60 : decode cX4_sellFromLotAt 60 = .ok (.aload_n 3, 1) := by decide +kernel
theorem dX4_sellFromLotAt_61 : decode cX4_sellFromLotAt 61 = .ok (.getfield 99, 3) := by decide +kernel
theorem dX4_sellFromLotAt_64 : decode cX4_sellFromLotAt 64 = .ok (.ifCond .ne 8, 3) := by decide +kernel
theorem dX4_sellFromLotAt_67 : decode cX4_sellFromLotAt 67 = .ok (.aload_n 0, 1) := by decide +kernel
theorem dX4_sellFromLotAt_68 : decode cX4_sellFromLotAt 68 = .ok (.iload_n 1, 1) := by decide +kernel
theorem dX4_sellFromLotAt_69 : decode cX4_sellFromLotAt 69 = .ok (.invokevirtual 134, 3) := by decide +kernel
theorem dX4_sellFromLotAt_72 : decode cX4_sellFromLotAt 72 = .ok (.iload 4, 2) := by decide +kernel
theorem dX4_sellFromLotAt_74 : decode cX4_sellFromLotAt 74 = .ok (.ireturn, 1) := by decide +kernel
theorem dX4_passHour_0 : decode cX4_passHour 0 = .ok (.iconst 0, 1) := by decide +kernel
theorem dX4_passHour_1 : decode cX4_passHour 1 = .ok (.istore_n 1, 1) := by decide +kernel
theorem dX4_passHour_2 : decode cX4_passHour 2 = .ok (.iload_n 1, 1) := by decide +kernel
theorem dX4_passHour_3 : decode cX4_passHour 3 = .ok (.aload_n 0, 1) := by decide +kernel
theorem dX4_passHour_4 : decode cX4_passHour 4 = .ok (.getfield 50, 3) := by decide +kernel
theorem dX4_passHour_7 : decode cX4_passHour 7 = .ok (.if_icmp .ge 36, 3) := by decide +kernel
theorem dX4_passHour_10 : decode cX4_passHour 10 = .ok (.aload_n 0, 1) := by decide +kernel
theorem dX4_passHour_11 : decode cX4_passHour 11 = .ok (.getfield 36, 3) := by decide +kernel
theorem dX4_passHour_14 : decode cX4_passHour 14 = .ok (.iload_n 1, 1) := by decide +kernel
theorem dX4_passHour_15 : decode cX4_passHour 15 = .ok (.aaload, 1) := by decide +kernel
theorem dX4_passHour_16 : decode cX4_passHour 16 = .ok (.astore_n 2, 1) := by decide +kernel
theorem dX4_passHour_17 : decode cX4_passHour 17 = .ok (.aload_n 2, 1) := by decide +kernel
theorem dX4_passHour_18 : decode cX4_passHour 18 = .ok (.aload_n 2, 1) := by decide +kernel
theorem dX4_passHour_19 : decode cX4_passHour 19 = .ok (.getfield 105, 3) := by decide +kernel
theorem dX4_passHour_22 : decode cX4_passHour 22 = .ok (.aload_n 2, 1) := by decide +kernel
theorem dX4_passHour_23 : decode cX4_passHour 23 = .ok (.invokevirtual 148, 3) := by decide +kernel
theorem dX4_passHour_26 : decode cX4_passHour 26 = .ok (.aload_n 0, 1) := by decide +kernel
theorem dX4_passHour_27 : decode cX4_passHour 27 = .ok (.aload_n 2, 1) := by decide +kernel
theorem dX4_passHour_28 : decode cX4_passHour 28 = .ok (.invokevirtual 159, 3) := by decide +kernel
theorem dX4_passHour_31 : decode cX4_passHour 31 = .ok (.invokestatic 162, 3) := by decide +kernel
theorem dX4_passHour_34 : decode cX4_passHour 34 = .ok (.putfield 105, 3) := by decide +kernel
theorem dX4_passHour_37 : decode cX4_passHour 37 = .ok (.iinc 1 1, 3) := by decide +kernel
theorem dX4_passHour_40 : decode cX4_passHour 40 = .ok (.goto (-38), 3) := by decide +kernel
theorem dX4_passHour_43 : decode cX4_passHour 43 = .ok (.iconst 0, 1) := by decide +kernel
theorem dX4_passHour_44 : decode cX4_passHour 44 = .ok (.istore_n 1, 1) := by decide +kernel
theorem dX4_passHour_45 : decode cX4_passHour 45 = .ok (.iload_n 1, 1) := by decide +kernel
theorem dX4_passHour_46 : decode cX4_passHour 46 = .ok (.bipush 6, 2) := by decide +kernel
theorem dX4_passHour_48 : decode cX4_passHour 48 = .ok (.if_icmp .ge 29, 3) := by decide +kernel
theorem dX4_passHour_51 : decode cX4_passHour 51 = .ok (.aload_n 0, 1) := by decide +kernel
theorem dX4_passHour_52 : decode cX4_passHour 52 = .ok (.getfield 28, 3) := by decide +kernel
theorem dX4_passHour_55 : decode cX4_passHour 55 = .ok (.iload_n 1, 1) := by decide +kernel
theorem dX4_passHour_56 : decode cX4_passHour 56 = .ok (.aload_n 0, 1) := by decide +kernel
theorem dX4_passHour_57 : decode cX4_passHour 57 = .ok (.getfield 28, 3) := by decide +kernel
theorem dX4_passHour_60 : decode cX4_passHour 60 = .ok (.iload_n 1, 1) := by decide +kernel
theorem dX4_passHour_61 : decode cX4_passHour 61 = .ok (.iaload, 1) := by decide +kernel
theorem dX4_passHour_62 : decode cX4_passHour 62 = .ok (.iconst 0, 1) := by decide +kernel
theorem dX4_passHour_63 : decode cX4_passHour 63 = .ok (.aload_n 0, 1) := by decide +kernel
theorem dX4_passHour_64 : decode cX4_passHour 64 = .ok (.getfield 9, 3) := by decide +kernel
theorem dX4_passHour_67 : decode cX4_passHour 67 = .ok (.invokestatic 166, 3) := by decide +kernel
theorem dX4_passHour_70 : decode cX4_passHour 70 = .ok (.iastore, 1) := by decide +kernel
theorem dX4_passHour_71 : decode cX4_passHour 71 = .ok (.iinc 1 1, 3) := by decide +kernel
theorem dX4_passHour_74 : decode cX4_passHour 74 = .ok (.goto (-29), 3) := by decide +kernel
theorem dX4_passHour_77 : decode cX4_passHour 77 = .ok (.iconst 0, 1) := by decide +kernel
theorem dX4_passHour_78 : decode cX4_passHour 78 = .ok (.istore_n 1, 1) := by decide +kernel
theorem dX4_passHour_79 : decode cX4_passHour 79 = .ok (.iload_n 1, 1) := by decide +kernel
theorem dX4_passHour_80 : decode cX4_passHour 80 = .ok (.iconst 5, 1) := by decide +kernel
theorem dX4_passHour_81 : decode cX4_passHour 81 = .ok (.if_icmp .ge 29, 3) := by decide +kernel
theorem dX4_passHour_84 : decode cX4_passHour 84 = .ok (.aload_n 0, 1) := by decide +kernel
theorem dX4_passHour_85 : decode cX4_passHour 85 = .ok (.getfield 31, 3) := by decide +kernel
theorem dX4_passHour_88 : decode cX4_passHour 88 = .ok (.iload_n 1, 1) := by decide +kernel
theorem dX4_passHour_89 : decode cX4_passHour 89 = .ok (.aload_n 0, 1) := by decide +kernel
theorem dX4_passHour_90 : decode cX4_passHour 90 = .ok (.getfield 31, 3) := by decide +kernel
theorem dX4_passHour_93 : decode cX4_passHour 93 = .ok (.iload_n 1, 1) := by decide +kernel
theorem dX4_passHour_94 : decode cX4_passHour 94 = .ok (.iaload, 1) := by decide +kernel
theorem dX4_passHour_95 : decode cX4_passHour 95 = .ok (.iconst 1, 1) := by decide +kernel
theorem dX4_passHour_96 : decode cX4_passHour 96 = .ok (.aload_n 0, 1) := by decide +kernel
theorem dX4_passHour_97 : decode cX4_passHour 97 = .ok (.getfield 9, 3) := by decide +kernel
theorem dX4_passHour_100 : decode cX4_passHour 100 = .ok (.invokestatic 166, 3) := by decide +kernel
theorem dX4_passHour_103 : decode cX4_passHour 103 = .ok (.iastore, 1) := by decide +kernel
theorem dX4_passHour_104 : decode cX4_passHour 104 = .ok (.iinc 1 1, 3) := by decide +kernel
theorem dX4_passHour_107 : decode cX4_passHour 107 = .ok (.goto (-28), 3) := by decide +kernel
theorem dX4_passHour_110 : decode cX4_passHour 110 = .ok (.aload_n 0, 1) := by decide +kernel
theorem dX4_passHour_111 : decode cX4_passHour 111 = .ok (.dup, 1) := by decide +kernel
theorem dX4_passHour_112 : decode cX4_passHour 112 = .ok (.getfield 44, 3) := by decide +kernel
theorem dX4_passHour_115 : decode cX4_passHour 115 = .ok (.iconst 1, 1) := by decide +kernel
theorem dX4_passHour_116 : decode cX4_passHour 116 = .ok (.iadd, 1) := by decide +kernel
theorem dX4_passHour_117 : decode cX4_passHour 117 = .ok (.putfield 44, 3) := by decide +kernel
theorem dX4_passHour_120 : decode cX4_passHour 120 = .ok (.return_, 1) := by decide +kernel
theorem dX4_closeDay_0 : decode cX4_closeDay 0 = .ok (.aload_n 0, 1) := by decide +kernel
theorem dX4_closeDay_1 : decode cX4_closeDay 1 = .ok (.invokevirtual 169, 3) := by decide +kernel
theorem dX4_closeDay_4 : decode cX4_closeDay 4 = .ok (.istore_n 1, 1) := by decide +kernel
theorem dX4_closeDay_5 : decode cX4_closeDay 5 = .ok (.iconst 0, 1) := by decide +kernel
theorem dX4_closeDay_6 : decode cX4_closeDay 6 = .ok (.istore_n 2, 1) := by decide +kernel
theorem dX4_closeDay_7 : decode cX4_closeDay 7 = .ok (.iload_n 2, 1) := by decide +kernel
theorem dX4_closeDay_8 : decode cX4_closeDay 8 = .ok (.iconst 5, 1) := by decide +kernel
theorem dX4_closeDay_9 : decode cX4_closeDay 9 = .ok (.if_icmp .ge 17, 3) := by decide +kernel
theorem dX4_closeDay_12 : decode cX4_closeDay 12 = .ok (.iload_n 1, 1) := by decide +kernel
theorem dX4_closeDay_13 : decode cX4_closeDay 13 = .ok (.aload_n 0, 1) := by decide +kernel
theorem dX4_closeDay_14 : decode cX4_closeDay 14 = .ok (.iload_n 2, 1) := by decide +kernel
theorem dX4_closeDay_15 : decode cX4_closeDay 15 = .ok (.invokevirtual 173, 3) := by decide +kernel
theorem dX4_closeDay_18 : decode cX4_closeDay 18 = .ok (.iadd, 1) := by decide +kernel
theorem dX4_closeDay_19 : decode cX4_closeDay 19 = .ok (.istore_n 1, 1) := by decide +kernel
theorem dX4_closeDay_20 : decode cX4_closeDay 20 = .ok (.iinc 2 1, 3) := by decide +kernel
theorem dX4_closeDay_23 : decode cX4_closeDay 23 = .ok (.goto (-16), 3) := by decide +kernel
theorem dX4_closeDay_26 : decode cX4_closeDay 26 = .ok (.aload_n 0, 1) := by decide +kernel
theorem dX4_closeDay_27 : decode cX4_closeDay 27 = .ok (.dup, 1) := by decide +kernel
theorem dX4_closeDay_28 : decode cX4_closeDay 28 = .ok (.getfield 41, 3) := by decide +kernel
theorem dX4_closeDay_31 : decode cX4_closeDay 31 = .ok (.iconst 1, 1) := by decide +kernel
theorem dX4_closeDay_32 : decode cX4_closeDay 32 = .ok (.iadd, 1) := by decide +kernel
theorem dX4_closeDay_33 : decode cX4_closeDay 33 = .ok (.putfield 41, 3) := by decide +kernel
theorem dX4_closeDay_36 : decode cX4_closeDay 36 = .ok (.aload_n 0, 1) := by decide +kernel
theorem dX4_closeDay_37 : decode cX4_closeDay 37 = .ok (.iconst 0, 1) := by decide +kernel
theorem dX4_closeDay_38 : decode cX4_closeDay 38 = .ok (.putfield 44, 3) := by decide +kernel
theorem dX4_closeDay_41 : decode cX4_closeDay 41 = .ok (.iload_n 1, 1) := by decide +kernel
theorem dX4_closeDay_42 : decode cX4_closeDay 42 = .ok (.ireturn, 1) := by decide +kernel
theorem dX4_discardLotsBelowLimit_0 : decode cX4_discardLotsBelowLimit 0 = .ok (.iconst 0, 1) := by decide +kernel
theorem dX4_discardLotsBelowLimit_1 : decode cX4_discardLotsBelowLimit 1 = .ok (.istore_n 1, 1) := by decide +kernel
theorem dX4_discardLotsBelowLimit_2 : decode cX4_discardLotsBelowLimit 2 = .ok (.aload_n 0, 1) := by decide +kernel
theorem dX4_discardLotsBelowLimit_3 : decode cX4_discardLotsBelowLimit 3 = .ok (.getfield 50, 3) := by decide +kernel
theorem dX4_discardLotsBelowLimit_6 : decode cX4_discardLotsBelowLimit 6 = .ok (.iconst 1, 1) := by decide +kernel
theorem dX4_discardLotsBelowLimit_7 : decode cX4_discardLotsBelowLimit 7 = .ok (.isub, 1) := by decide +kernel
theorem dX4_discardLotsBelowLimit_8 : decode cX4_discardLotsBelowLimit 8 = .ok (.istore_n 2, 1) := by decide +kernel
theorem dX4_discardLotsBelowLimit_9 : decode cX4_discardLotsBelowLimit 9 = .ok (.iload_n 2, 1) := by decide +kernel
theorem dX4_discardLotsBelowLimit_10 : decode cX4_discardLotsBelowLimit 10 = .ok (.ifCond .lt 33, 3) := by decide +kernel
theorem dX4_discardLotsBelowLimit_13 : decode cX4_discardLotsBelowLimit 13 = .ok (.aload_n 0, 1) := by decide +kernel
theorem dX4_discardLotsBelowLimit_14 : decode cX4_discardLotsBelowLimit 14 = .ok (.getfield 36, 3) := by decide +kernel
theorem dX4_discardLotsBelowLimit_17 : decode cX4_discardLotsBelowLimit 17 = .ok (.iload_n 2, 1) := by decide +kernel
theorem dX4_discardLotsBelowLimit_18 : decode cX4_discardLotsBelowLimit 18 = .ok (.aaload, 1) := by decide +kernel
theorem dX4_discardLotsBelowLimit_19 : decode cX4_discardLotsBelowLimit 19 = .ok (.getfield 105, 3) := by decide +kernel
theorem dX4_discardLotsBelowLimit_22 : decode cX4_discardLotsBelowLimit 22 = .ok (.aload_n 0, 1) := by decide +kernel
theorem dX4_discardLotsBelowLimit_23 : decode cX4_discardLotsBelowLimit 23 = .ok (.getfield 15, 3) := by decide +kernel
theorem dX4_discardLotsBelowLimit_26 : decode cX4_discardLotsBelowLimit 26 = .ok (.if_icmp .ge 11, 3) := by decide +kernel
theorem dX4_discardLotsBelowLimit_29 : decode cX4_discardLotsBelowLimit 29 = .ok (.iload_n 1, 1) := by decide +kernel
theorem dX4_discardLotsBelowLimit_30 : decode cX4_discardLotsBelowLimit 30 = .ok (.aload_n 0, 1) := by decide +kernel
theorem dX4_discardLotsBelowLimit_31 : decode cX4_discardLotsBelowLimit 31 = .ok (.iload_n 2, 1) := by decide +kernel
theorem dX4_discardLotsBelowLimit_32 : decode cX4_discardLotsBelowLimit 32 = .ok (.invokevirtual 176, 3) := by decide +kernel
theorem dX4_discardLotsBelowLimit_35 : decode cX4_discardLotsBelowLimit 35 = .ok (.iadd, 1) := by decide +kernel
theorem dX4_discardLotsBelowLimit_36 : decode cX4_discardLotsBelowLimit 36 = .ok (.istore_n 1, 1) := by decide +kernel
theorem dX4_discardLotsBelowLimit_37 : decode cX4_discardLotsBelowLimit 37 = .ok (.iinc 2 (-1), 3) := by decide +kernel
theorem dX4_discardLotsBelowLimit_40 : decode cX4_discardLotsBelowLimit 40 = .ok (.goto (-31), 3) := by decide +kernel
theorem dX4_discardLotsBelowLimit_43 : decode cX4_discardLotsBelowLimit 43 = .ok (.iload_n 1, 1) := by decide +kernel
theorem dX4_discardLotsBelowLimit_44 : decode cX4_discardLotsBelowLimit 44 = .ok (.ireturn, 1) := by decide +kernel
theorem dX4_clearTray_0 : decode cX4_clearTray 0 = .ok (.aload_n 0, 1) := by decide +kernel
theorem dX4_clearTray_1 : decode cX4_clearTray 1 = .ok (.getfield 31, 3) := by decide +kernel
theorem dX4_clearTray_4 : decode cX4_clearTray 4 = .ok (.iload_n 1, 1) := by decide +kernel
theorem dX4_clearTray_5 : decode cX4_clearTray 5 = .ok (.iconst 0, 1) := by decide +kernel
theorem dX4_clearTray_6 : decode cX4_clearTray 6 = .ok (.iastore, 1) := by decide +kernel
theorem dX4_clearTray_7 : decode cX4_clearTray 7 = .ok (.aload_n 0, 1) := by decide +kernel
theorem dX4_clearTray_8 : decode cX4_clearTray 8 = .ok (.iload_n 1, 1) := by decide +kernel
theorem dX4_clearTray_9 : decode cX4_clearTray 9 = .ok (.invokevirtual 89, 3) := by decide +kernel
theorem dX4_clearTray_12 : decode cX4_clearTray 12 = .ok (.astore_n 2, 1) := by decide +kernel
theorem dX4_clearTray_13 : decode cX4_clearTray 13 = .ok (.aload_n 2, 1) := by decide +kernel
theorem dX4_clearTray_14 : decode cX4_clearTray 14 = .ok (.ifnonnull 5, 3) := by decide +kernel
theorem dX4_clearTray_17 : decode cX4_clearTray 17 = .ok (.iconst 0, 1) := by decide +kernel
theorem dX4_clearTray_18 : decode cX4_clearTray 18 = .ok (.ireturn, 1) := by decide +kernel
theorem dX4_clearTray_19 : decode cX4_clearTray 19 = .ok (.aload_n 0, 1) := by decide +kernel
theorem dX4_clearTray_20 : decode cX4_clearTray 20 = .ok (.invokevirtual 179, 3) := by decide +kernel
theorem dX4_clearTray_23 : decode cX4_clearTray 23 = .ok (.istore_n 3, 1) := by decide +kernel
theorem dX4_clearTray_24 : decode cX4_clearTray 24 = .ok (.iload_n 3, 1) := by decide +kernel
theorem dX4_clearTray_25 : decode cX4_clearTray 25 = .ok (.bipush (-6), 2) := by decide +kernel
theorem dX4_clearTray_27 : decode cX4_clearTray 27 = .ok (.if_icmp .ne 16, 3) := by decide +kernel
theorem dX4_clearTray_30 : decode cX4_clearTray 30 = .ok (.aload_n 0, 1) := by decide +kernel
theorem dX4_clearTray_31 : decode cX4_clearTray 31 = .ok (.aload_n 0, 1) := by decide +kernel
theorem dX4_clearTray_32 : decode cX4_clearTray 32 = .ok (.aload_n 2, 1) := by decide +kernel
theorem dX4_clearTray_33 : decode cX4_clearTray 33 = .ok (.getfield 79, 3) := by decide +kernel
theorem dX4_clearTray_36 : decode cX4_clearTray 36 = .ok (.invokevirtual 82, 3) := by decide +kernel
theorem dX4_clearTray_39 : decode cX4_clearTray 39 = .ok (.invokevirtual 176, 3) := by decide +kernel
theorem dX4_clearTray_42 : decode cX4_clearTray 42 = .ok (.ireturn, 1) := by decide +kernel
theorem dX4_clearTray_43 : decode cX4_clearTray 43 = .ok (.aload_n 2, 1) := by decide +kernel
theorem dX4_clearTray_44 : decode cX4_clearTray 44 = .ok (.iload_n 3, 1) := by decide +kernel
theorem dX4_clearTray_45 : decode cX4_clearTray 45 = .ok (.invokevirtual 122, 3) := by decide +kernel
theorem dX4_clearTray_48 : decode cX4_clearTray 48 = .ok (.iconst 0, 1) := by decide +kernel
theorem dX4_clearTray_49 : decode cX4_clearTray 49 = .ok (.ireturn, 1) := by decide +kernel
theorem dX4_boxForTheNight_0 : decode cX4_boxForTheNight 0 = .ok (.bipush (-6), 2) := by decide +kernel
theorem dX4_boxForTheNight_2 : decode cX4_boxForTheNight 2 = .ok (.istore_n 1, 1) := by decide +kernel
theorem dX4_boxForTheNight_3 : decode cX4_boxForTheNight 3 = .ok (.iconst (-1), 1) := by decide +kernel
theorem dX4_boxForTheNight_4 : decode cX4_boxForTheNight 4 = .ok (.istore_n 2, 1) := by decide +kernel
theorem dX4_boxForTheNight_5 : decode cX4_boxForTheNight 5 = .ok (.iconst 0, 1) := by decide +kernel
theorem dX4_boxForTheNight_6 : decode cX4_boxForTheNight 6 = .ok (.istore_n 3, 1) := by decide +kernel
theorem dX4_boxForTheNight_7 : decode cX4_boxForTheNight 7 = .ok (.iload_n 3, 1) := by decide +kernel
theorem dX4_boxForTheNight_8 : decode cX4_boxForTheNight 8 = .ok (.bipush 6, 2) := by decide +kernel
theorem dX4_boxForTheNight_10 : decode cX4_boxForTheNight 10 = .ok (.if_icmp .ge 36, 3) := by decide +kernel
theorem dX4_boxForTheNight_13 : decode cX4_boxForTheNight 13 = .ok (.aload_n 0, 1) := by decide +kernel
theorem dX4_boxForTheNight_14 : decode cX4_boxForTheNight 14 = .ok (.iload_n 3, 1) := by decide +kernel
theorem dX4_boxForTheNight_15 : decode cX4_boxForTheNight 15 = .ok (.invokevirtual 119, 3) := by decide +kernel
theorem dX4_boxForTheNight_18 : decode cX4_boxForTheNight 18 = .ok (.ifCond .ne 22, 3) := by decide +kernel
theorem dX4_boxForTheNight_21 : decode cX4_boxForTheNight 21 = .ok (.aload_n 0, 1) := by decide +kernel
theorem dX4_boxForTheNight_22 : decode cX4_boxForTheNight 22 = .ok (.getfield 28, 3) := by decide +kernel
theorem dX4_boxForTheNight_25 : decode cX4_boxForTheNight 25 = .ok (.iload_n 3, 1) := by decide +kernel
theorem dX4_boxForTheNight_26 : decode cX4_boxForTheNight 26 = .ok (.iaload, 1) := by decide +kernel
theorem dX4_boxForTheNight_27 : decode cX4_boxForTheNight 27 = .ok (.iload_n 2, 1) := by decide +kernel
theorem dX4_boxForTheNight_28 : decode cX4_boxForTheNight 28 = .ok (.if_icmp .le 12, 3) := by decide +kernel
theorem dX4_boxForTheNight_31 : decode cX4_boxForTheNight 31 = .ok (.aload_n 0, 1) := by decide +kernel
theorem dX4_boxForTheNight_32 : decode cX4_boxForTheNight 32 = .ok (.getfield 28, 3) := by decide +kernel
theorem dX4_boxForTheNight_35 : decode cX4_boxForTheNight 35 = .ok (.iload_n 3, 1) := by decide +kernel
theorem dX4_boxForTheNight_36 : decode cX4_boxForTheNight 36 = .ok (.iaload, 1) := by decide +kernel
theorem dX4_boxForTheNight_37 : decode cX4_boxForTheNight 37 = .ok (.istore_n 2, 1) := by decide +kernel
theorem dX4_boxForTheNight_38 : decode cX4_boxForTheNight 38 = .ok (.iload_n 3, 1) := by decide +kernel
theorem dX4_boxForTheNight_39 : decode cX4_boxForTheNight 39 = .ok (.istore_n 1, 1) := by decide +kernel
theorem dX4_boxForTheNight_40 : decode cX4_boxForTheNight 40 = .ok (.iinc 3 1, 3) := by decide +kernel
theorem dX4_boxForTheNight_43 : decode cX4_boxForTheNight 43 = .ok (.goto (-36), 3) := by decide +kernel
theorem dX4_boxForTheNight_46 : decode cX4_boxForTheNight 46 = .ok (.iload_n 1, 1) := by decide +kernel
theorem dX4_boxForTheNight_47 : decode cX4_boxForTheNight 47 = .ok (.ireturn, 1) := by decide +kernel
theorem dX5_init_0 : decode cX5_init 0 = .ok (.aload_n 0, 1) := by decide +kernel
theorem dX5_init_1 : decode cX5_init 1 = .ok (.invokespecial 1, 3) := by decide +kernel
theorem dX5_init_4 : decode cX5_init 4 = .ok (.aload_n 0, 1) := by decide +kernel
theorem dX5_init_5 : decode cX5_init 5 = .ok (.new 7, 3) := by decide +kernel
theorem dX5_init_8 : decode cX5_init 8 = .ok (.dup, 1) := by decide +kernel
theorem dX5_init_9 : decode cX5_init 9 = .ok (.invokespecial 9, 3) := by decide +kernel
theorem dX5_init_12 : decode cX5_init 12 = .ok (.putfield 10, 3) := by decide +kernel
theorem dX5_init_15 : decode cX5_init 15 = .ok (.aload_n 0, 1) := by decide +kernel
theorem dX5_init_16 : decode cX5_init 16 = .ok (.new 7, 3) := by decide +kernel
theorem dX5_init_19 : decode cX5_init 19 = .ok (.dup, 1) := by decide +kernel
theorem dX5_init_20 : decode cX5_init 20 = .ok (.invokespecial 9, 3) := by decide +kernel
theorem dX5_init_23 : decode cX5_init 23 = .ok (.putfield 16, 3) := by decide +kernel
theorem dX5_init_26 : decode cX5_init 26 = .ok (.aload_n 0, 1) := by decide +kernel
theorem dX5_init_27 : decode cX5_init 27 = .ok (.new 19, 3) := by decide +kernel
theorem dX5_init_30 : decode cX5_init 30 = .ok (.dup, 1) := by decide +kernel
theorem dX5_init_31 : decode cX5_init 31 = .ok (.invokespecial 21, 3) := by decide +kernel
theorem dX5_init_34 : decode cX5_init 34 = .ok (.putfield 22, 3) := by decide +kernel
theorem dX5_init_37 : decode cX5_init 37 = .ok (.aload_n 0, 1) := by decide +kernel
theorem dX5_init_38 : decode cX5_init 38 = .ok (.new 26, 3) := by decide +kernel
theorem dX5_init_41 : decode cX5_init 41 = .ok (.dup, 1) := by decide +kernel
theorem dX5_init_42 : decode cX5_init 42 = .ok (.invokespecial 28, 3) := by decide +kernel
theorem dX5_init_45 : decode cX5_init 45 = .ok (.putfield 29, 3) := by decide +kernel
theorem dX5_init_48 : decode cX5_init 48 = .ok (.aload_n 0, 1) := by decide +kernel
theorem dX5_init_49 : decode cX5_init 49 = .ok (.new 33, 3) := by decide +kernel
theorem dX5_init_52 : decode cX5_init 52 = .ok (.dup, 1) := by decide +kernel
theorem dX5_init_53 : decode cX5_init 53 = .ok (.invokespecial 35, 3) := by decide +kernel
theorem dX5_init_56 : decode cX5_init 56 = .ok (.putfield 36, 3) := by decide +kernel
theorem dX5_init_59 : decode cX5_init 59 = .ok (.return_, 1) := by decide +kernel
theorem dX5_setPrice_0 : decode cX5_setPrice 0 = .ok (.iload_n 1, 1) := by decide +kernel
theorem dX5_setPrice_1 : decode cX5_setPrice 1 = .ok (.invokestatic 40, 3) := by decide +kernel
theorem dX5_setPrice_4 : decode cX5_setPrice 4 = .ok (.ifCond .ne 5, 3) := by decide +kernel
theorem dX5_setPrice_7 : decode cX5_setPrice 7 = .ok (.iconst (-1), 1) := by decide +kernel
theorem dX5_setPrice_8 : decode cX5_setPrice 8 = .ok (.ireturn, 1) := by decide +kernel
theorem dX5_setPrice_9 : decode cX5_setPrice 9 = .ok (.iload_n 2, 1) := by decide +kernel
theorem dX5_setPrice_10 : decode cX5_setPrice 10 = .ok (.iconst 1, 1) := by decide +kernel
theorem dX5_setPrice_11 : decode cX5_setPrice 11 = .ok (.sipush 9999, 3) := by decide +kernel
theorem dX5_setPrice_14 : decode cX5_setPrice 14 = .ok (.invokestatic 44, 3) := by decide +kernel
theorem dX5_setPrice_17 : decode cX5_setPrice 17 = .ok (.ifCond .eq 14, 3) := by decide +kernel
theorem dX5_setPrice_20 : decode cX5_setPrice 20 = .ok (.iload_n 3, 1) := by decide +kernel
theorem dX5_setPrice_21 : decode cX5_setPrice 21 = .ok (.iconst 1, 1) := by decide +kernel
theorem dX5_setPrice_22 : decode cX5_setPrice 22 = .ok (.sipush 9999, 3) := by decide +kernel
theorem dX5_setPrice_25 : decode cX5_setPrice 25 = .ok (.invokestatic 44, 3) := by decide +kernel
theorem dX5_setPrice_28 : decode cX5_setPrice 28 = .ok (.ifCond .ne 6, 3) := by decide +kernel
theorem dX5_setPrice_31 : decode cX5_setPrice 31 = .ok (.bipush (-2), 2) := by decide +kernel
theorem dX5_setPrice_33 : decode cX5_setPrice 33 = .ok (.ireturn, 1) := by decide +kernel
theorem dX5_setPrice_34 : decode cX5_setPrice 34 = .ok (.aload_n 0, 1) := by decide +kernel
theorem dX5_setPrice_35 : decode cX5_setPrice 35 = .ok (.getfield 29, 3) := by decide +kernel
theorem dX5_setPrice_38 : decode cX5_setPrice 38 = .ok (.aload_n 0, 1) := by decide +kernel
theorem dX5_setPrice_39 : decode cX5_setPrice 39 = .ok (.getfield 10, 3) := by decide +kernel
theorem dX5_setPrice_42 : decode cX5_setPrice 42 = .ok (.invokevirtual 48, 3) := by decide +kernel
theorem dX5_setPrice_45 : decode cX5_setPrice 45 = .ok (.aload_n 0, 1) := by decide +kernel
theorem dX5_setPrice_46 : decode cX5_setPrice 46 = .ok (.getfield 10, 3) := by decide +kernel
theorem dX5_setPrice_49 : decode cX5_setPrice 49 = .ok (.getfield 52, 3) := by decide +kernel
theorem dX5_setPrice_52 : decode cX5_setPrice 52 = .ok (.iload_n 1, 1) := by decide +kernel
theorem dX5_setPrice_53 : decode cX5_setPrice 53 = .ok (.iaload, 1) := by decide +kernel
theorem dX5_setPrice_54 : decode cX5_setPrice 54 = .ok (.istore 4, 2) := by decide +kernel
theorem dX5_setPrice_56 : decode cX5_setPrice 56 = .ok (.aload_n 0, 1) := by decide +kernel
theorem dX5_setPrice_57 : decode cX5_setPrice 57 = .ok (.getfield 10, 3) := by decide +kernel
theorem dX5_setPrice_60 : decode cX5_setPrice 60 = .ok (.getfield 52, 3) := by decide +kernel
theorem dX5_setPrice_63 : decode cX5_setPrice 63 = .ok (.iload_n 1, 1) := by decide +kernel
theorem dX5_setPrice_64 : decode cX5_setPrice 64 = .ok (.iload_n 2, 1) := by decide +kernel
theorem dX5_setPrice_65 : decode cX5_setPrice 65 = .ok (.iastore, 1) := by decide +kernel
theorem dX5_setPrice_66 : decode cX5_setPrice 66 = .ok (.aload_n 0, 1) := by decide +kernel
theorem dX5_setPrice_67 : decode cX5_setPrice 67 = .ok (.getfield 10, 3) := by decide +kernel
theorem dX5_setPrice_70 : decode cX5_setPrice 70 = .ok (.getfield 56, 3) := by decide +kernel
theorem dX5_setPrice_73 : decode cX5_setPrice 73 = .ok (.iload_n 1, 1) := by decide +kernel
theorem dX5_setPrice_74 : decode cX5_setPrice 74 = .ok (.iload_n 3, 1) := by decide +kernel
theorem dX5_setPrice_75 : decode cX5_setPrice 75 = .ok (.iastore, 1) := by decide +kernel
theorem dX5_setPrice_76 : decode cX5_setPrice 76 = .ok (.iload 4, 2) := by decide +kernel
theorem dX5_setPrice_78 : decode cX5_setPrice 78 = .ok (.ireturn, 1) := by decide +kernel
theorem dX5_setCut_0 : decode cX5_setCut 0 = .ok (.iload_n 1, 1) := by decide +kernel
theorem dX5_setCut_1 : decode cX5_setCut 1 = .ok (.invokestatic 59, 3) := by decide +kernel
theorem dX5_setCut_4 : decode cX5_setCut 4 = .ok (.ifCond .ne 5, 3) := by decide +kernel
theorem dX5_setCut_7 : decode cX5_setCut 7 = .ok (.iconst (-1), 1) := by decide +kernel
theorem dX5_setCut_8 : decode cX5_setCut 8 = .ok (.ireturn, 1) := by decide +kernel
theorem dX5_setCut_9 : decode cX5_setCut 9 = .ok (.iload_n 2, 1) := by decide +kernel
theorem dX5_setCut_10 : decode cX5_setCut 10 = .ok (.iconst 0, 1) := by decide +kernel
theorem dX5_setCut_11 : decode cX5_setCut 11 = .ok (.bipush 90, 2) := by decide +kernel
theorem dX5_setCut_13 : decode cX5_setCut 13 = .ok (.invokestatic 44, 3) := by decide +kernel
theorem dX5_setCut_16 : decode cX5_setCut 16 = .ok (.ifCond .ne 6, 3) := by decide +kernel
theorem dX5_setCut_19 : decode cX5_setCut 19 = .ok (.bipush (-2), 2) := by decide +kernel
theorem dX5_setCut_21 : decode cX5_setCut 21 = .ok (.ireturn, 1) := by decide +kernel
theorem dX5_setCut_22 : decode cX5_setCut 22 = .ok (.aload_n 0, 1) := by decide +kernel
theorem dX5_setCut_23 : decode cX5_setCut 23 = .ok (.getfield 29, 3) := by decide +kernel
theorem dX5_setCut_26 : decode cX5_setCut 26 = .ok (.aload_n 0, 1) := by decide +kernel
theorem dX5_setCut_27 : decode cX5_setCut 27 = .ok (.getfield 10, 3) := by decide +kernel
theorem dX5_setCut_30 : decode cX5_setCut 30 = .ok (.invokevirtual 48, 3) := by decide +kernel
theorem dX5_setCut_33 : decode cX5_setCut 33 = .ok (.aload_n 0, 1) := by decide +kernel
theorem dX5_setCut_34 : decode cX5_setCut 34 = .ok (.getfield 10, 3) := by decide +kernel
theorem dX5_setCut_37 : decode cX5_setCut 37 = .ok (.getfield 62, 3) := by decide +kernel
theorem dX5_setCut_40 : decode cX5_setCut 40 = .ok (.iload_n 1, 1) := by decide +kernel
theorem dX5_setCut_41 : decode cX5_setCut 41 = .ok (.iaload, 1) := by decide +kernel
theorem dX5_setCut_42 : decode cX5_setCut 42 = .ok (.istore_n 3, 1) := by decide +kernel
theorem dX5_setCut_43 : decode cX5_setCut 43 = .ok (.aload_n 0, 1) := by decide +kernel
theorem dX5_setCut_44 : decode cX5_setCut 44 = .ok (.getfield 10, 3) := by decide +kernel
theorem dX5_setCut_47 : decode cX5_setCut 47 = .ok (.getfield 62, 3) := by decide +kernel
theorem dX5_setCut_50 : decode cX5_setCut 50 = .ok (.iload_n 1, 1) := by decide +kernel
theorem dX5_setCut_51 : decode cX5_setCut 51 = .ok (.iload_n 2, 1) := by decide +kernel
theorem dX5_setCut_52 : decode cX5_setCut 52 = .ok (.iastore, 1) := by decide +kernel
theorem dX5_setCut_53 : decode cX5_setCut 53 = .ok (.iload_n 3, 1) := by decide +kernel
theorem dX5_setCut_54 : decode cX5_setCut 54 = .ok (.ireturn, 1) := by decide +kernel
theorem dX5_setMelting_0 : decode cX5_setMelting 0 = .ok (.iload_n 1, 1) := by decide +kernel
theorem dX5_setMelting_1 : decode cX5_setMelting 1 = .ok (.iconst 0, 1) := by decide +kernel
theorem dX5_setMelting_2 : decode cX5_setMelting 2 = .ok (.sipush 500, 3) := by decide +kernel
theorem dX5_setMelting_5 : decode cX5_setMelting 5 = .ok (.invokestatic 44, 3) := by decide +kernel
theorem dX5_setMelting_8 : decode cX5_setMelting 8 = .ok (.ifCond .eq 13, 3) := by decide +kernel
theorem dX5_setMelting_11 : decode cX5_setMelting 11 = .ok (.iload_n 2, 1) := by decide +kernel
theorem dX5_setMelting_12 : decode cX5_setMelting 12 = .ok (.iconst 0, 1) := by decide +kernel
theorem dX5_setMelting_13 : decode cX5_setMelting 13 = .ok (.bipush 100, 2) := by decide +kernel
theorem dX5_setMelting_15 : decode cX5_setMelting 15 = .ok (.invokestatic 44, 3) := by decide +kernel
theorem dX5_setMelting_18 : decode cX5_setMelting 18 = .ok (.ifCond .ne 6, 3) := by decide +kernel
theorem dX5_setMelting_21 : decode cX5_setMelting 21 = .ok (.bipush (-2), 2) := by decide +kernel
theorem dX5_setMelting_23 : decode cX5_setMelting 23 = .ok (.ireturn, 1) := by decide +kernel
theorem dX5_setMelting_24 : decode cX5_setMelting 24 = .ok (.aload_n 0, 1) := by decide +kernel
theorem dX5_setMelting_25 : decode cX5_setMelting 25 = .ok (.getfield 29, 3) := by decide +kernel
theorem dX5_setMelting_28 : decode cX5_setMelting 28 = .ok (.aload_n 0, 1) := by decide +kernel
theorem dX5_setMelting_29 : decode cX5_setMelting 29 = .ok (.getfield 10, 3) := by decide +kernel
theorem dX5_setMelting_32 : decode cX5_setMelting 32 = .ok (.invokevirtual 48, 3) := by decide +kernel
theorem dX5_setMelting_35 : decode cX5_setMelting 35 = .ok (.aload_n 0, 1) := by decide +kernel
theorem dX5_setMelting_36 : decode cX5_setMelting 36 = .ok (.getfield 10, 3) := by decide +kernel
theorem dX5_setMelting_39 : decode cX5_setMelting 39 = .ok (.getfield 65, 3) := by decide +kernel
theorem dX5_setMelting_42 : decode cX5_setMelting 42 = .ok (.istore_n 3, 1) := by decide +kernel
theorem dX5_setMelting_43 : decode cX5_setMelting 43 = .ok (.aload_n 0, 1) := by decide +kernel
theorem dX5_setMelting_44 : decode cX5_setMelting 44 = .ok (.getfield 10, 3) := by decide +kernel
theorem dX5_setMelting_47 : decode cX5_setMelting 47 = .ok (.iload_n 1, 1) := by decide +kernel
theorem dX5_setMelting_48 : decode cX5_setMelting 48 = .ok (.putfield 69, 3) := by decide +kernel
theorem dX5_setMelting_51 : decode cX5_setMelting 51 = .ok (.aload_n 0, 1) := by decide +kernel
theorem dX5_setMelting_52 : decode cX5_setMelting 52 = .ok (.getfield 10, 3) := by decide +kernel
theorem dX5_setMelting_55 : decode cX5_setMelting 55 = .ok (.iload_n 2, 1) := by decide +kernel
theorem dX5_setMelting_56 : decode cX5_setMelting 56 = .ok (.putfield 65, 3) := by decide +kernel
theorem dX5_setMelting_59 : decode cX5_setMelting 59 = .ok (.iload_n 3, 1) := by decide +kernel
theorem dX5_setMelting_60 : decode cX5_setMelting 60 = .ok (.ireturn, 1) := by decide +kernel
theorem dX5_deliver_0 : decode cX5_deliver 0 = .ok (.iload_n 1, 1) := by decide +kernel
theorem dX5_deliver_1 : decode cX5_deliver 1 = .ok (.invokestatic 40, 3) := by decide +kernel
theorem dX5_deliver_4 : decode cX5_deliver 4 = .ok (.ifCond .eq 11, 3) := by decide +kernel
theorem dX5_deliver_7 : decode cX5_deliver 7 = .ok (.iload 4, 2) := by decide +kernel
theorem dX5_deliver_9 : decode cX5_deliver 9 = .ok (.invokestatic 72, 3) := by decide +kernel
theorem dX5_deliver_12 : decode cX5_deliver 12 = .ok (.ifCond .ne 5, 3) := by decide +kernel
theorem dX5_deliver_15 : decode cX5_deliver 15 = .ok (.iconst (-1), 1) := by decide +kernel
theorem dX5_deliver_16 : decode cX5_deliver 16 = .ok (.ireturn, 1) := by decide +kernel
theorem dX5_deliver_17 : decode cX5_deliver 17 = .ok (.iload_n 2, 1) := by decide +kernel
theorem dX5_deliver_18 : decode cX5_deliver 18 = .ok (.iconst 1, 1) := by decide +kernel
theorem dX5_deliver_19 : decode cX5_deliver 19 = .ok (.sipush 20000, 3) := by decide +kernel
theorem dX5_deliver_22 : decode cX5_deliver 22 = .ok (.invokestatic 44, 3) := by decide +kernel
theorem dX5_deliver_25 : decode cX5_deliver 25 = .ok (.ifCond .eq 13, 3) := by decide +kernel
theorem dX5_deliver_28 : decode cX5_deliver 28 = .ok (.iload_n 3, 1) := by decide +kernel
theorem dX5_deliver_29 : decode cX5_deliver 29 = .ok (.iconst 0, 1) := by decide +kernel
theorem dX5_deliver_30 : decode cX5_deliver 30 = .ok (.bipush 100, 2) := by decide +kernel
theorem dX5_deliver_32 : decode cX5_deliver 32 = .ok (.invokestatic 44, 3) := by decide +kernel
theorem dX5_deliver_35 : decode cX5_deliver 35 = .ok (.ifCond .ne 6, 3) := by decide +kernel
theorem dX5_deliver_38 : decode cX5_deliver 38 = .ok (.bipush (-2), 2) := by decide +kernel
theorem dX5_deliver_40 : decode cX5_deliver 40 = .ok (.ireturn, 1) := by decide +kernel
theorem dX5_deliver_41 : decode cX5_deliver 41 = .ok (.aload_n 0, 1) := by decide +kernel
theorem dX5_deliver_42 : decode cX5_deliver 42 = .ok (.getfield 10, 3) := by decide +kernel
theorem dX5_deliver_45 : decode cX5_deliver 45 = .ok (.iload 4, 2) := by decide +kernel
theorem dX5_deliver_47 : decode cX5_deliver 47 = .ok (.invokevirtual 75, 3) := by decide +kernel
theorem dX5_deliver_50 : decode cX5_deliver 50 = .ok (.istore 5, 2) := by decide +kernel
theorem dX5_deliver_52 : decode cX5_deliver 52 = .ok (.iload 5, 2) := by decide +kernel
theorem dX5_deliver_54 : decode cX5_deliver 54 = .ok (.ifCond .eq 6, 3) := by decide +kernel
theorem dX5_deliver_57 : decode cX5_deliver 57 = .ok (.iload 5, 2) := by decide +kernel
theorem dX5_deliver_59 : decode cX5_deliver 59 = .ok (.ireturn, 1) := by decide +kernel
theorem dX5_deliver_60 : decode cX5_deliver 60 = .ok (.aload_n 0, 1) := by decide +kernel
theorem dX5_deliver_61 : decode cX5_deliver 61 = .ok (.getfield 29, 3) := by decide +kernel
theorem dX5_deliver_64 : decode cX5_deliver 64 = .ok (.aload_n 0, 1) := by decide +kernel
theorem dX5_deliver_65 : decode cX5_deliver 65 = .ok (.getfield 10, 3) := by decide +kernel
theorem dX5_deliver_68 : decode cX5_deliver 68 = .ok (.invokevirtual 48, 3) := by decide +kernel
theorem dX5_deliver_71 : decode cX5_deliver 71 = .ok (.aload_n 0, 1) := by decide +kernel
theorem dX5_deliver_72 : decode cX5_deliver 72 = .ok (.getfield 10, 3) := by decide +kernel
theorem dX5_deliver_75 : decode cX5_deliver 75 = .ok (.iload_n 1, 1) := by decide +kernel
theorem dX5_deliver_76 : decode cX5_deliver 76 = .ok (.iload_n 2, 1) := by decide +kernel
theorem dX5_deliver_77 : decode cX5_deliver 77 = .ok (.iload_n 3, 1) := by decide +kernel
theorem dX5_deliver_78 : decode cX5_deliver 78 = .ok (.iload 4, 2) := by decide +kernel
theorem dX5_deliver_80 : decode cX5_deliver 80 = .ok (.invokevirtual 79, 3) := by decide +kernel
theorem dX5_deliver_83 : decode cX5_deliver 83 = .ok (.ireturn, 1) := by decide +kernel
theorem dX5_iceBox_0 : decode cX5_iceBox 0 = .ok (.iload_n 1, 1) := by decide +kernel
theorem dX5_iceBox_1 : decode cX5_iceBox 1 = .ok (.invokestatic 72, 3) := by decide +kernel
theorem dX5_iceBox_4 : decode cX5_iceBox 4 = .ok (.ifCond .ne 5, 3) := by decide +kernel
theorem dX5_iceBox_7 : decode cX5_iceBox 7 = .ok (.iconst (-1), 1) := by decide +kernel
theorem dX5_iceBox_8 : decode cX5_iceBox 8 = .ok (.ireturn, 1) := by decide +kernel
theorem dX5_iceBox_9 : decode cX5_iceBox 9 = .ok (.iload_n 2, 1) := by decide +kernel
theorem dX5_iceBox_10 : decode cX5_iceBox 10 = .ok (.iconst 1, 1) := by decide +kernel
theorem dX5_iceBox_11 : decode cX5_iceBox 11 = .ok (.sipush 5000, 3) := by decide +kernel
theorem dX5_iceBox_14 : decode cX5_iceBox 14 = .ok (.invokestatic 44, 3) := by decide +kernel
theorem dX5_iceBox_17 : decode cX5_iceBox 17 = .ok (.ifCond .ne 6, 3) := by decide +kernel
theorem dX5_iceBox_20 : decode cX5_iceBox 20 = .ok (.bipush (-2), 2) := by decide +kernel
theorem dX5_iceBox_22 : decode cX5_iceBox 22 = .ok (.ireturn, 1) := by decide +kernel
theorem dX5_iceBox_23 : decode cX5_iceBox 23 = .ok (.aload_n 0, 1) := by decide +kernel
theorem dX5_iceBox_24 : decode cX5_iceBox 24 = .ok (.getfield 29, 3) := by decide +kernel
theorem dX5_iceBox_27 : decode cX5_iceBox 27 = .ok (.aload_n 0, 1) := by decide +kernel
theorem dX5_iceBox_28 : decode cX5_iceBox 28 = .ok (.getfield 10, 3) := by decide +kernel
theorem dX5_iceBox_31 : decode cX5_iceBox 31 = .ok (.invokevirtual 48, 3) := by decide +kernel
theorem dX5_iceBox_34 : decode cX5_iceBox 34 = .ok (.aload_n 0, 1) := by decide +kernel
theorem dX5_iceBox_35 : decode cX5_iceBox 35 = .ok (.getfield 10, 3) := by decide +kernel
theorem dX5_iceBox_38 : decode cX5_iceBox 38 = .ok (.getfield 83, 3) := by decide +kernel
theorem dX5_iceBox_41 : decode cX5_iceBox 41 = .ok (.iload_n 1, 1) := by decide +kernel
theorem dX5_iceBox_42 : decode cX5_iceBox 42 = .ok (.sipush 5000, 3) := by decide +kernel
theorem dX5_iceBox_45 : decode cX5_iceBox 45 = .ok (.aload_n 0, 1) := by decide +kernel
theorem dX5_iceBox_46 : decode cX5_iceBox 46 = .ok (.getfield 10, 3) := by decide +kernel
theorem dX5_iceBox_49 : decode cX5_iceBox 49 = .ok (.getfield 83, 3) := by decide +kernel
theorem dX5_iceBox_52 : decode cX5_iceBox 52 = .ok (.iload_n 1, 1) := by decide +kernel
theorem dX5_iceBox_53 : decode cX5_iceBox 53 = .ok (.iaload, 1) := by decide +kernel
theorem dX5_iceBox_54 : decode cX5_iceBox 54 = .ok (.iload_n 2, 1) := by decide +kernel
theorem dX5_iceBox_55 : decode cX5_iceBox 55 = .ok (.iadd, 1) := by decide +kernel
theorem dX5_iceBox_56 : decode cX5_iceBox 56 = .ok (.invokestatic 86, 3) := by decide +kernel
theorem dX5_iceBox_59 : decode cX5_iceBox 59 = .ok (.iastore, 1) := by decide +kernel
theorem dX5_iceBox_60 : decode cX5_iceBox 60 = .ok (.aload_n 0, 1) := by decide +kernel
theorem dX5_iceBox_61 : decode cX5_iceBox 61 = .ok (.getfield 10, 3) := by decide +kernel
theorem dX5_iceBox_64 : decode cX5_iceBox 64 = .ok (.getfield 83, 3) := by decide +kernel
theorem dX5_iceBox_67 : decode cX5_iceBox 67 = .ok (.iload_n 1, 1) := by decide +kernel
theorem dX5_iceBox_68 : decode cX5_iceBox 68 = .ok (.iaload, 1) := by decide +kernel
theorem dX5_iceBox_69 : decode cX5_iceBox 69 = .ok (.ireturn, 1) := by decide +kernel
theorem dX5_iceTray_0 : decode cX5_iceTray 0 = .ok (.iload_n 1, 1) := by decide +kernel
theorem dX5_iceTray_1 : decode cX5_iceTray 1 = .ok (.invokestatic 92, 3) := by decide +kernel
theorem dX5_iceTray_4 : decode cX5_iceTray 4 = .ok (.ifCond .ne 5, 3) := by decide +kernel
theorem dX5_iceTray_7 : decode cX5_iceTray 7 = .ok (.iconst (-1), 1) := by decide +kernel
theorem dX5_iceTray_8 : decode cX5_iceTray 8 = .ok (.ireturn, 1) := by decide +kernel
theorem dX5_iceTray_9 : decode cX5_iceTray 9 = .ok (.iload_n 2, 1) := by decide +kernel
theorem dX5_iceTray_10 : decode cX5_iceTray 10 = .ok (.iconst 1, 1) := by decide +kernel
theorem dX5_iceTray_11 : decode cX5_iceTray 11 = .ok (.sipush 5000, 3) := by decide +kernel
theorem dX5_iceTray_14 : decode cX5_iceTray 14 = .ok (.invokestatic 44, 3) := by decide +kernel
theorem dX5_iceTray_17 : decode cX5_iceTray 17 = .ok (.ifCond .ne 6, 3) := by decide +kernel
theorem dX5_iceTray_20 : decode cX5_iceTray 20 = .ok (.bipush (-2), 2) := by decide +kernel
theorem dX5_iceTray_22 : decode cX5_iceTray 22 = .ok (.ireturn, 1) := by decide +kernel
theorem dX5_iceTray_23 : decode cX5_iceTray 23 = .ok (.aload_n 0, 1) := by decide +kernel
theorem dX5_iceTray_24 : decode cX5_iceTray 24 = .ok (.getfield 29, 3) := by decide +kernel
theorem dX5_iceTray_27 : decode cX5_iceTray 27 = .ok (.aload_n 0, 1) := by decide +kernel
theorem dX5_iceTray_28 : decode cX5_iceTray 28 = .ok (.getfield 10, 3) := by decide +kernel
theorem dX5_iceTray_31 : decode cX5_iceTray 31 = .ok (.invokevirtual 48, 3) := by decide +kernel
theorem dX5_iceTray_34 : decode cX5_iceTray 34 = .ok (.aload_n 0, 1) := by decide +kernel
theorem dX5_iceTray_35 : decode cX5_iceTray 35 = .ok (.getfield 10, 3) := by decide +kernel
theorem dX5_iceTray_38 : decode cX5_iceTray 38 = .ok (.getfield 95, 3) := by decide +kernel
theorem dX5_iceTray_41 : decode cX5_iceTray 41 = .ok (.iload_n 1, 1) := by decide +kernel
theorem dX5_iceTray_42 : decode cX5_iceTray 42 = .ok (.sipush 5000, 3) := by decide +kernel
theorem dX5_iceTray_45 : decode cX5_iceTray 45 = .ok (.aload_n 0, 1) := by decide +kernel
theorem dX5_iceTray_46 : decode cX5_iceTray 46 = .ok (.getfield 10, 3) := by decide +kernel
theorem dX5_iceTray_49 : decode cX5_iceTray 49 = .ok (.getfield 95, 3) := by decide +kernel
theorem dX5_iceTray_52 : decode cX5_iceTray 52 = .ok (.iload_n 1, 1) := by decide +kernel
theorem dX5_iceTray_53 : decode cX5_iceTray 53 = .ok (.iaload, 1) := by decide +kernel
theorem dX5_iceTray_54 : decode cX5_iceTray 54 = .ok (.iload_n 2, 1) := by decide +kernel
theorem dX5_iceTray_55 : decode cX5_iceTray 55 = .ok (.iadd, 1) := by decide +kernel
theorem dX5_iceTray_56 : decode cX5_iceTray 56 = .ok (.invokestatic 86, 3) := by decide +kernel
theorem dX5_iceTray_59 : decode cX5_iceTray 59 = .ok (.iastore, 1) := by decide +kernel
theorem dX5_iceTray_60 : decode cX5_iceTray 60 = .ok (.aload_n 0, 1) := by decide +kernel
theorem dX5_iceTray_61 : decode cX5_iceTray 61 = .ok (.getfield 10, 3) := by decide +kernel
theorem dX5_iceTray_64 : decode cX5_iceTray 64 = .ok (.getfield 95, 3) := by decide +kernel
theorem dX5_iceTray_67 : decode cX5_iceTray 67 = .ok (.iload_n 1, 1) := by decide +kernel
theorem dX5_iceTray_68 : decode cX5_iceTray 68 = .ok (.iaload, 1) := by decide +kernel
theorem dX5_iceTray_69 : decode cX5_iceTray 69 = .ok (.ireturn, 1) := by decide +kernel
theorem dX5_toTray_0 : decode cX5_toTray 0 = .ok (.aload_n 0, 1) := by decide +kernel
theorem dX5_toTray_1 : decode cX5_toTray 1 = .ok (.getfield 10, 3) := by decide +kernel
theorem dX5_toTray_4 : decode cX5_toTray 4 = .ok (.iload_n 1, 1) := by decide +kernel
theorem dX5_toTray_5 : decode cX5_toTray 5 = .ok (.invokevirtual 98, 3) := by decide +kernel
theorem dX5_toTray_8 : decode cX5_toTray 8 = .ok (.astore_n 3, 1) := by decide +kernel
theorem dX5_toTray_9 : decode cX5_toTray 9 = .ok (.aload_n 3, 1) := by decide +kernel
theorem dX5_toTray_10 : decode cX5_toTray 10 = .ok (.ifnull 10, 3) := by decide +kernel
theorem dX5_toTray_13 : decode cX5_toTray 13 = .ok (.iload_n 2, 1) := by decide +kernel
theorem dX5_toTray_14 : decode cX5_toTray 14 = .ok (.invokestatic 92, 3) := by decide +kernel
theorem dX5_toTray_17 : decode cX5_toTray 17 = .ok (.ifCond .ne 5, 3) := by decide +kernel
theorem dX5_toTray_20 : decode cX5_toTray 20 = .ok (.iconst (-1), 1) := by decide +kernel
theorem dX5_toTray_21 : decode cX5_toTray 21 = .ok (.ireturn, 1) := by decide +kernel
theorem dX5_toTray_22 : decode cX5_toTray 22 = .ok (.aload_n 0, 1) := by decide +kernel
theorem dX5_toTray_23 : decode cX5_toTray 23 = .ok (.getfield 10, 3) := by decide +kernel
theorem dX5_toTray_26 : decode cX5_toTray 26 = .ok (.iload_n 2, 1) := by decide +kernel
theorem dX5_toTray_27 : decode cX5_toTray 27 = .ok (.invokevirtual 102, 3) := by decide +kernel
theorem dX5_toTray_30 : decode cX5_toTray 30 = .ok (.ifnull 6, 3) := by decide +kernel
theorem dX5_toTray_33 : decode cX5_toTray 33 = .ok (.bipush (-3), 2) := by decide +kernel
theorem dX5_toTray_35 : decode cX5_toTray 35 = .ok (.ireturn, 1) := by decide +kernel
theorem dX5_toTray_36 : decode cX5_toTray 36 = .ok (.aload_n 0, 1) := by decide +kernel
theorem dX5_toTray_37 : decode cX5_toTray 37 = .ok (.getfield 29, 3) := by decide +kernel
theorem dX5_toTray_40 : decode cX5_toTray 40 = .ok (.aload_n 0, 1) := by decide +kernel
theorem dX5_toTray_41 : decode cX5_toTray 41 = .ok (.getfield 10, 3) := by decide +kernel
theorem dX5_toTray_44 : decode cX5_toTray 44 = .ok (.invokevirtual 48, 3) := by decide +kernel
theorem dX5_toTray_47 : decode cX5_toTray 47 = .ok (.aload_n 3, 1) := by decide +kernel
theorem dX5_toTray_48 : decode cX5_toTray 48 = .ok (.iload_n 2, 1) := by decide +kernel
theorem dX5_toTray_49 : decode cX5_toTray 49 = .ok (.invokevirtual 105, 3) := by decide +kernel
theorem dX5_toTray_52 : decode cX5_toTray 52 = .ok (.aload_n 0, 1) := by decide +kernel
theorem dX5_toTray_53 : decode cX5_toTray 53 = .ok (.getfield 10, 3) := by decide +kernel
theorem dX5_toTray_56 : decode cX5_toTray 56 = .ok (.aload_n 3, 1) := by decide +kernel
theorem dX5_toTray_57 : decode cX5_toTray 57 = .ok (.invokevirtual 111, 3) := by decide +kernel
theorem dX5_toTray_60 : decode cX5_toTray 60 = .ok (.ireturn, 1) := by decide +kernel
theorem dX5_toBox_0 : decode cX5_toBox 0 = .ok (.aload_n 0, 1) := by decide +kernel
theorem dX5_toBox_1 : decode cX5_toBox 1 = .ok (.getfield 10, 3) := by decide +kernel
theorem dX5_toBox_4 : decode cX5_toBox 4 = .ok (.iload_n 1, 1) := by decide +kernel
theorem dX5_toBox_5 : decode cX5_toBox 5 = .ok (.invokevirtual 98, 3) := by decide +kernel
theorem dX5_toBox_8 : decode cX5_toBox 8 = .ok (.astore_n 3, 1) := by decide +kernel
theorem dX5_toBox_9 : decode cX5_toBox 9 = .ok (.aload_n 3, 1) := by decide +kernel
theorem dX5_toBox_10 : decode cX5_toBox 10 = .ok (.ifnull 10, 3) := by decide +kernel
theorem dX5_toBox_13 : decode cX5_toBox 13 = .ok (.iload_n 2, 1) := by decide +kernel
theorem dX5_toBox_14 : decode cX5_toBox 14 = .ok (.invokestatic 72, 3) := by decide +kernel
theorem dX5_toBox_17 : decode cX5_toBox 17 = .ok (.ifCond .ne 5, 3) := by decide +kernel
theorem dX5_toBox_20 : decode cX5_toBox 20 = .ok (.iconst (-1), 1) := by decide +kernel
theorem dX5_toBox_21 : decode cX5_toBox 21 = .ok (.ireturn, 1) := by decide +kernel
theorem dX5_toBox_22 : decode cX5_toBox 22 = .ok (.aload_n 3, 1) := by decide +kernel
theorem dX5_toBox_23 : decode cX5_toBox 23 = .ok (.getfield 115, 3) := by decide +kernel
theorem dX5_toBox_26 : decode cX5_toBox 26 = .ok (.iload_n 2, 1) := by decide +kernel
theorem dX5_toBox_27 : decode cX5_toBox 27 = .ok (.if_icmp .eq 14, 3) := by decide +kernel
theorem dX5_toBox_30 : decode cX5_toBox 30 = .ok (.aload_n 0, 1) := by decide +kernel
theorem dX5_toBox_31 : decode cX5_toBox 31 = .ok (.getfield 10, 3) := by decide +kernel
theorem dX5_toBox_34 : decode cX5_toBox 34 = .ok (.iload_n 2, 1) := by decide +kernel
theorem dX5_toBox_35 : decode cX5_toBox 35 = .ok (.invokevirtual 118, 3) := by decide +kernel
theorem dX5_toBox_38 : decode cX5_toBox 38 = .ok (.ifCond .eq 6, 3) := by decide +kernel
theorem dX5_toBox_41 : decode cX5_toBox 41 = .ok (.bipush (-3), 2) := by decide +kernel
theorem dX5_toBox_43 : decode cX5_toBox 43 = .ok (.ireturn, 1) := by decide +kernel
theorem dX5_toBox_44 : decode cX5_toBox 44 = .ok (.aload_n 0, 1) := by decide +kernel
theorem dX5_toBox_45 : decode cX5_toBox 45 = .ok (.getfield 29, 3) := by decide +kernel
theorem dX5_toBox_48 : decode cX5_toBox 48 = .ok (.aload_n 0, 1) := by decide +kernel
theorem dX5_toBox_49 : decode cX5_toBox 49 = .ok (.getfield 10, 3) := by decide +kernel
theorem dX5_toBox_52 : decode cX5_toBox 52 = .ok (.invokevirtual 48, 3) := by decide +kernel
theorem dX5_toBox_55 : decode cX5_toBox 55 = .ok (.aload_n 3, 1) := by decide +kernel
theorem dX5_toBox_56 : decode cX5_toBox 56 = .ok (.iload_n 2, 1) := by decide +kernel
theorem dX5_toBox_57 : decode cX5_toBox 57 = .ok (.invokevirtual 121, 3) := by decide +kernel
theorem dX5_toBox_60 : decode cX5_toBox 60 = .ok (.aload_n 0, 1) := by decide +kernel
theorem dX5_toBox_61 : decode cX5_toBox 61 = .ok (.getfield 10, 3) := by decide +kernel
theorem dX5_toBox_64 : decode cX5_toBox 64 = .ok (.iload_n 2, 1) := by decide +kernel
theorem dX5_toBox_65 : decode cX5_toBox 65 = .ok (.invokevirtual 124, 3) := by decide +kernel
theorem dX5_toBox_68 : decode cX5_toBox 68 = .ok (.ireturn, 1) := by decide +kernel
theorem dX5_divide_0 : decode cX5_divide 0 = .ok (.aload_n 0, 1) := by decide +kernel
theorem dX5_divide_1 : decode cX5_divide 1 = .ok (.getfield 10, 3) := by decide +kernel
theorem dX5_divide_4 : decode cX5_divide 4 = .ok (.iload_n 1, 1) := by decide +kernel
theorem dX5_divide_5 : decode cX5_divide 5 = .ok (.invokevirtual 98, 3) := by decide +kernel
theorem dX5_divide_8 : decode cX5_divide 8 = .ok (.astore 4, 2) := by decide +kernel
theorem dX5_divide_10 : decode cX5_divide 10 = .ok (.aload 4, 2) := by decide +kernel
theorem dX5_divide_12 : decode cX5_divide 12 = .ok (.ifnull 10, 3) := by decide +kernel
theorem dX5_divide_15 : decode cX5_divide 15 = .ok (.iload_n 3, 1) := by decide +kernel
theorem dX5_divide_16 : decode cX5_divide 16 = .ok (.invokestatic 72, 3) := by decide +kernel
theorem dX5_divide_19 : decode cX5_divide 19 = .ok (.ifCond .ne 5, 3) := by decide +kernel
theorem dX5_divide_22 : decode cX5_divide 22 = .ok (.iconst (-1), 1) := by decide +kernel
theorem dX5_divide_23 : decode cX5_divide 23 = .ok (.ireturn, 1) := by decide +kernel
theorem dX5_divide_24 : decode cX5_divide 24 = .ok (.iload_n 2, 1) := by decide +kernel
theorem dX5_divide_25 : decode cX5_divide 25 = .ok (.iconst 1, 1) := by decide +kernel
theorem dX5_divide_26 : decode cX5_divide 26 = .ok (.sipush 19999, 3) := by decide +kernel
theorem dX5_divide_29 : decode cX5_divide 29 = .ok (.invokestatic 44, 3) := by decide +kernel
theorem dX5_divide_32 : decode cX5_divide 32 = .ok (.ifCond .ne 6, 3) := by decide +kernel
theorem dX5_divide_35 : decode cX5_divide 35 = .ok (.bipush (-2), 2) := by decide +kernel
theorem dX5_divide_37 : decode cX5_divide 37 = .ok (.ireturn, 1) := by decide +kernel
theorem dX5_divide_38 : decode cX5_divide 38 = .ok (.iload_n 2, 1) := by decide +kernel
theorem dX5_divide_39 : decode cX5_divide 39 = .ok (.aload 4, 2) := by decide +kernel
theorem dX5_divide_41 : decode cX5_divide 41 = .ok (.getfield 127, 3) := by decide +kernel
theorem dX5_divide_44 : decode cX5_divide 44 = .ok (.if_icmp .lt 6, 3) := by decide +kernel
theorem dX5_divide_47 : decode cX5_divide 47 = .ok (.bipush (-3), 2) := by decide +kernel
theorem dX5_divide_49 : decode cX5_divide 49 = .ok (.ireturn, 1) := by decide +kernel
theorem dX5_divide_50 : decode cX5_divide 50 = .ok (.aload_n 0, 1) := by decide +kernel
theorem dX5_divide_51 : decode cX5_divide 51 = .ok (.getfield 10, 3) := by decide +kernel
theorem dX5_divide_54 : decode cX5_divide 54 = .ok (.iload_n 3, 1) := by decide +kernel
theorem dX5_divide_55 : decode cX5_divide 55 = .ok (.invokevirtual 75, 3) := by decide +kernel
theorem dX5_divide_58 : decode cX5_divide 58 = .ok (.istore 5, 2) := by decide +kernel
theorem dX5_divide_60 : decode cX5_divide 60 = .ok (.iload 5, 2) := by decide +kernel
theorem dX5_divide_62 : decode cX5_divide 62 = .ok (.ifCond .eq 6, 3) := by decide +kernel
theorem dX5_divide_65 : decode cX5_divide 65 = .ok (.iload 5, 2) := by decide +kernel
theorem dX5_divide_67 : decode cX5_divide 67 = .ok (.ireturn, 1) := by decide +kernel
theorem dX5_divide_68 : decode cX5_divide 68 = .ok (.aload_n 0, 1) := by decide +kernel
theorem dX5_divide_69 : decode cX5_divide 69 = .ok (.getfield 29, 3) := by decide +kernel
theorem dX5_divide_72 : decode cX5_divide 72 = .ok (.aload_n 0, 1) := by decide +kernel
theorem dX5_divide_73 : decode cX5_divide 73 = .ok (.getfield 10, 3) := by decide +kernel
theorem dX5_divide_76 : decode cX5_divide 76 = .ok (.invokevirtual 48, 3) := by decide +kernel
theorem dX5_divide_79 : decode cX5_divide 79 = .ok (.aload 4, 2) := by decide +kernel
theorem dX5_divide_81 : decode cX5_divide 81 = .ok (.dup, 1) := by decide +kernel
theorem dX5_divide_82 : decode cX5_divide 82 = .ok (.getfield 127, 3) := by decide +kernel
theorem dX5_divide_85 : decode cX5_divide 85 = .ok (.iload_n 2, 1) := by decide +kernel
theorem dX5_divide_86 : decode cX5_divide 86 = .ok (.isub, 1) := by decide +kernel
theorem dX5_divide_87 : decode cX5_divide 87 = .ok (.putfield 127, 3) := by decide +kernel
theorem dX5_divide_90 : decode cX5_divide 90 = .ok (.aload_n 0, 1) := by decide +kernel
theorem dX5_divide_91 : decode cX5_divide 91 = .ok (.getfield 10, 3) := by decide +kernel
theorem dX5_divide_94 : decode cX5_divide 94 = .ok (.aload 4, 2) := by decide +kernel
theorem dX5_divide_96 : decode cX5_divide 96 = .ok (.getfield 130, 3) := by decide +kernel
theorem dX5_divide_99 : decode cX5_divide 99 = .ok (.iload_n 2, 1) := by decide +kernel
theorem dX5_divide_100 : decode cX5_divide 100 = .ok (.aload 4, 2) := by decide +kernel
theorem dX5_divide_102 : decode cX5_divide 102 = .ok (.getfield 133, 3) := by decide +kernel
theorem dX5_divide_105 : decode cX5_divide 105 = .ok (.iload_n 3, 1) := by decide +kernel
theorem dX5_divide_106 : decode cX5_divide 106 = .ok (.invokevirtual 136, 3) := by decide +kernel
theorem dX5_divide_109 : decode cX5_divide 109 = .ok (.ireturn, 1) := by decide +kernel
theorem dX5_throwAway_0 : decode cX5_throwAway 0 = .ok (.aload_n 0, 1) := by decide +kernel
theorem dX5_throwAway_1 : decode cX5_throwAway 1 = .ok (.getfield 10, 3) := by decide +kernel
theorem dX5_throwAway_4 : decode cX5_throwAway 4 = .ok (.iload_n 1, 1) := by decide +kernel
theorem dX5_throwAway_5 : decode cX5_throwAway 5 = .ok (.invokevirtual 139, 3) := by decide +kernel
theorem dX5_throwAway_8 : decode cX5_throwAway 8 = .ok (.istore_n 2, 1) := by decide +kernel
theorem dX5_throwAway_9 : decode cX5_throwAway 9 = .ok (.iload_n 2, 1) := by decide +kernel
theorem dX5_throwAway_10 : decode cX5_throwAway 10 = .ok (.bipush (-6), 2) := by decide +kernel
theorem dX5_throwAway_12 : decode cX5_throwAway 12 = .ok (.if_icmp .ne 5, 3) := by decide +kernel
theorem dX5_throwAway_15 : decode cX5_throwAway 15 = .ok (.iconst (-1), 1) := by decide +kernel
theorem dX5_throwAway_16 : decode cX5_throwAway 16 = .ok (.ireturn, 1) := by decide +kernel
theorem dX5_throwAway_17 : decode cX5_throwAway 17 = .ok (.aload_n 0, 1) := by decide +kernel
theorem dX5_throwAway_18 : decode cX5_throwAway 18 = .ok (.getfield 29, 3) := by decide +kernel
theorem dX5_throwAway_21 : decode cX5_throwAway 21 = .ok (.aload_n 0, 1) := by decide +kernel
theorem dX5_throwAway_22 : decode cX5_throwAway 22 = .ok (.getfield 10, 3) := by decide +kernel
theorem dX5_throwAway_25 : decode cX5_throwAway 25 = .ok (.invokevirtual 48, 3) := by decide +kernel
theorem dX5_throwAway_28 : decode cX5_throwAway 28 = .ok (.aload_n 0, 1) := by decide +kernel
theorem dX5_throwAway_29 : decode cX5_throwAway 29 = .ok (.getfield 10, 3) := by decide +kernel
theorem dX5_throwAway_32 : decode cX5_throwAway 32 = .ok (.iload_n 2, 1) := by decide +kernel
theorem dX5_throwAway_33 : decode cX5_throwAway 33 = .ok (.invokevirtual 142, 3) := by decide +kernel
theorem dX5_throwAway_36 : decode cX5_throwAway 36 = .ok (.ireturn, 1) := by decide +kernel
theorem dX5_order_0 : decode cX5_order 0 = .ok (.iload_n 1, 1) := by decide +kernel
theorem dX5_order_1 : decode cX5_order 1 = .ok (.invokestatic 40, 3) := by decide +kernel
theorem dX5_order_4 : decode cX5_order 4 = .ok (.ifCond .ne 5, 3) := by decide +kernel
theorem dX5_order_7 : decode cX5_order 7 = .ok (.iconst (-1), 1) := by decide +kernel
theorem dX5_order_8 : decode cX5_order 8 = .ok (.ireturn, 1) := by decide +kernel
theorem dX5_order_9 : decode cX5_order 9 = .ok (.iload_n 2, 1) := by decide +kernel
theorem dX5_order_10 : decode cX5_order 10 = .ok (.iconst 1, 1) := by decide +kernel
theorem dX5_order_11 : decode cX5_order 11 = .ok (.sipush 20000, 3) := by decide +kernel
theorem dX5_order_14 : decode cX5_order 14 = .ok (.invokestatic 44, 3) := by decide +kernel
theorem dX5_order_17 : decode cX5_order 17 = .ok (.ifCond .eq 25, 3) := by decide +kernel
theorem dX5_order_20 : decode cX5_order 20 = .ok (.iload_n 3, 1) := by decide +kernel
theorem dX5_order_21 : decode cX5_order 21 = .ok (.iconst 0, 1) := by decide +kernel
theorem dX5_order_22 : decode cX5_order 22 = .ok (.bipush 100, 2) := by decide +kernel
theorem dX5_order_24 : decode cX5_order 24 = .ok (.invokestatic 44, 3) := by decide +kernel
theorem dX5_order_27 : decode cX5_order 27 = .ok (.ifCond .eq 15, 3) := by decide +kernel
theorem dX5_order_30 : decode cX5_order 30 = .ok (.iload 4, 2) := by decide +kernel
theorem dX5_order_32 : decode cX5_order 32 = .ok (.iconst 1, 1) := by decide +kernel
theorem dX5_order_33 : decode cX5_order 33 = .ok (.sipush 9999, 3) := by decide +kernel
theorem dX5_order_36 : decode cX5_order 36 = .ok (.invokestatic 44, 3) := by decide +kernel
theorem dX5_order_39 : decode cX5_order 39 = .ok (.ifCond .ne 6, 3) := by decide +kernel
theorem dX5_order_42 : decode cX5_order 42 = .ok (.bipush (-2), 2) := by decide +kernel
theorem dX5_order_44 : decode cX5_order 44 = .ok (.ireturn, 1) := by decide +kernel
theorem dX5_order_45 : decode cX5_order 45 = .ok (.aload_n 0, 1) := by decide +kernel
theorem dX5_order_46 : decode cX5_order 46 = .ok (.getfield 29, 3) := by decide +kernel
theorem dX5_order_49 : decode cX5_order 49 = .ok (.aload_n 0, 1) := by decide +kernel
theorem dX5_order_50 : decode cX5_order 50 = .ok (.getfield 10, 3) := by decide +kernel
theorem dX5_order_53 : decode cX5_order 53 = .ok (.invokevirtual 48, 3) := by decide +kernel
theorem dX5_order_56 : decode cX5_order 56 = .ok (.aload_n 0, 1) := by decide +kernel
theorem dX5_order_57 : decode cX5_order 57 = .ok (.getfield 10, 3) := by decide +kernel
theorem dX5_order_60 : decode cX5_order 60 = .ok (.iload_n 1, 1) := by decide +kernel
theorem dX5_order_61 : decode cX5_order 61 = .ok (.iload_n 2, 1) := by decide +kernel
theorem dX5_order_62 : decode cX5_order 62 = .ok (.iload_n 3, 1) := by decide +kernel
theorem dX5_order_63 : decode cX5_order 63 = .ok (.iload 4, 2) := by decide +kernel
theorem dX5_order_65 : decode cX5_order 65 = .ok (.invokevirtual 145, 3) := by decide +kernel
theorem dX5_order_68 : decode cX5_order 68 = .ok (.ireturn, 1) := by decide +kernel
theorem dX5_pass_0 : decode cX5_pass 0 = .ok (.aload_n 0, 1) := by decide +kernel
theorem dX5_pass_1 : decode cX5_pass 1 = .ok (.getfield 10, 3) := by decide +kernel
theorem dX5_pass_4 : decode cX5_pass 4 = .ok (.getfield 148, 3) := by decide +kernel
theorem dX5_pass_7 : decode cX5_pass 7 = .ok (.bipush 10, 2) := by decide +kernel
theorem dX5_pass_9 : decode cX5_pass 9 = .ok (.if_icmp .lt 6, 3) := by decide +kernel
theorem dX5_pass_12 : decode cX5_pass 12 = .ok (.bipush (-3), 2) := by decide +kernel
theorem dX5_pass_14 : decode cX5_pass 14 = .ok (.ireturn, 1) := by decide +kernel
theorem dX5_pass_15 : decode cX5_pass 15 = .ok (.aload_n 0, 1) := by decide +kernel
theorem dX5_pass_16 : decode cX5_pass 16 = .ok (.getfield 29, 3) := by decide +kernel
theorem dX5_pass_19 : decode cX5_pass 19 = .ok (.aload_n 0, 1) := by decide +kernel
theorem dX5_pass_20 : decode cX5_pass 20 = .ok (.getfield 10, 3) := by decide +kernel
theorem dX5_pass_23 : decode cX5_pass 23 = .ok (.invokevirtual 48, 3) := by decide +kernel
theorem dX5_pass_26 : decode cX5_pass 26 = .ok (.aload_n 0, 1) := by decide +kernel
theorem dX5_pass_27 : decode cX5_pass 27 = .ok (.getfield 10, 3) := by decide +kernel
theorem dX5_pass_30 : decode cX5_pass 30 = .ok (.invokevirtual 151, 3) := by decide +kernel
theorem dX5_pass_33 : decode cX5_pass 33 = .ok (.aload_n 0, 1) := by decide +kernel
theorem dX5_pass_34 : decode cX5_pass 34 = .ok (.getfield 10, 3) := by decide +kernel
theorem dX5_pass_37 : decode cX5_pass 37 = .ok (.getfield 148, 3) := by decide +kernel
theorem dX5_pass_40 : decode cX5_pass 40 = .ok (.ireturn, 1) := by decide +kernel
theorem dX5_close_0 : decode cX5_close 0 = .ok (.aload_n 0, 1) := by decide +kernel
theorem dX5_close_1 : decode cX5_close 1 = .ok (.getfield 10, 3) := by decide +kernel
theorem dX5_close_4 : decode cX5_close 4 = .ok (.getfield 154, 3) := by decide +kernel
theorem dX5_close_7 : decode cX5_close 7 = .ok (.sipush 999, 3) := by decide +kernel
theorem dX5_close_10 : decode cX5_close 10 = .ok (.if_icmp .lt 6, 3) := by decide +kernel
theorem dX5_close_13 : decode cX5_close 13 = .ok (.bipush (-4), 2) := by decide +kernel
theorem dX5_close_15 : decode cX5_close 15 = .ok (.ireturn, 1) := by decide +kernel
theorem dX5_close_16 : decode cX5_close 16 = .ok (.aload_n 0, 1) := by decide +kernel
theorem dX5_close_17 : decode cX5_close 17 = .ok (.getfield 29, 3) := by decide +kernel
theorem dX5_close_20 : decode cX5_close 20 = .ok (.aload_n 0, 1) := by decide +kernel
theorem dX5_close_21 : decode cX5_close 21 = .ok (.getfield 10, 3) := by decide +kernel
theorem dX5_close_24 : decode cX5_close 24 = .ok (.invokevirtual 48, 3) := by decide +kernel
theorem dX5_close_27 : decode cX5_close 27 = .ok (.aload_n 0, 1) := by decide +kernel
theorem dX5_close_28 : decode cX5_close 28 = .ok (.getfield 10, 3) := by decide +kernel
theorem dX5_close_31 : decode cX5_close 31 = .ok (.invokevirtual 157, 3) := by decide +kernel
theorem dX5_close_34 : decode cX5_close 34 = .ok (.ireturn, 1) := by decide +kernel
theorem dX5_count_0 : decode cX5_count 0 = .ok (.iload_n 1, 1) := by decide +kernel
theorem dX5_count_1 : decode cX5_count 1 = .ok (.tableswitch 153 0 10 #[59, 68, 77, 86, 95, 103, 111, 119, 127, 135, 144], 59) := by decide +kernel
theorem dX5_count_60 : decode cX5_count 60 = .ok (.aload_n 0, 1) := by decide +kernel
theorem dX5_count_61 : decode cX5_count 61 = .ok (.getfield 10, 3) := by decide +kernel
theorem dX5_count_64 : decode cX5_count 64 = .ok (.getfield 154, 3) := by decide +kernel
theorem dX5_count_67 : decode cX5_count 67 = .ok (.i2l, 1) := by decide +kernel
theorem dX5_count_68 : decode cX5_count 68 = .ok (.lreturn, 1) := by decide +kernel
theorem dX5_count_69 : decode cX5_count 69 = .ok (.aload_n 0, 1) := by decide +kernel
theorem dX5_count_70 : decode cX5_count 70 = .ok (.getfield 10, 3) := by decide +kernel
theorem dX5_count_73 : decode cX5_count 73 = .ok (.getfield 148, 3) := by decide +kernel
theorem dX5_count_76 : decode cX5_count 76 = .ok (.i2l, 1) := by decide +kernel
theorem dX5_count_77 : decode cX5_count 77 = .ok (.lreturn, 1) := by decide +kernel
theorem dX5_count_78 : decode cX5_count 78 = .ok (.aload_n 0, 1) := by decide +kernel
theorem dX5_count_79 : decode cX5_count 79 = .ok (.getfield 10, 3) := by decide +kernel
theorem dX5_count_82 : decode cX5_count 82 = .ok (.getfield 161, 3) := by decide +kernel
theorem dX5_count_85 : decode cX5_count 85 = .ok (.i2l, 1) := by decide +kernel
theorem dX5_count_86 : decode cX5_count 86 = .ok (.lreturn, 1) := by decide +kernel
theorem dX5_count_87 : decode cX5_count 87 = .ok (.aload_n 0, 1) := by decide +kernel
theorem dX5_count_88 : decode cX5_count 88 = .ok (.getfield 10, 3) := by decide +kernel
theorem dX5_count_91 : decode cX5_count 91 = .ok (.invokevirtual 164, 3) := by decide +kernel
theorem dX5_count_94 : decode cX5_count 94 = .ok (.i2l, 1) := by decide +kernel
theorem dX5_count_95 : decode cX5_count 95 = .ok (.lreturn, 1) := by decide +kernel
theorem dX5_count_96 : decode cX5_count 96 = .ok (.aload_n 0, 1) := by decide +kernel
theorem dX5_count_97 : decode cX5_count 97 = .ok (.getfield 10, 3) := by decide +kernel
theorem dX5_count_100 : decode cX5_count 100 = .ok (.getfield 167, 3) := by decide +kernel
theorem dX5_count_103 : decode cX5_count 103 = .ok (.lreturn, 1) := by decide +kernel
theorem dX5_count_104 : decode cX5_count 104 = .ok (.aload_n 0, 1) := by decide +kernel
theorem dX5_count_105 : decode cX5_count 105 = .ok (.getfield 10, 3) := by decide +kernel
theorem dX5_count_108 : decode cX5_count 108 = .ok (.getfield 171, 3) := by decide +kernel
theorem dX5_count_111 : decode cX5_count 111 = .ok (.lreturn, 1) := by decide +kernel
theorem dX5_count_112 : decode cX5_count 112 = .ok (.aload_n 0, 1) := by decide +kernel
theorem dX5_count_113 : decode cX5_count 113 = .ok (.getfield 10, 3) := by decide +kernel
theorem dX5_count_116 : decode cX5_count 116 = .ok (.getfield 174, 3) := by decide +kernel
theorem dX5_count_119 : decode cX5_count 119 = .ok (.lreturn, 1) := by decide +kernel
theorem dX5_count_120 : decode cX5_count 120 = .ok (.aload_n 0, 1) := by decide +kernel
theorem dX5_count_121 : decode cX5_count 121 = .ok (.getfield 10, 3) := by decide +kernel
theorem dX5_count_124 : decode cX5_count 124 = .ok (.getfield 177, 3) := by decide +kernel
theorem dX5_count_127 : decode cX5_count 127 = .ok (.lreturn, 1) := by decide +kernel
theorem dX5_count_128 : decode cX5_count 128 = .ok (.aload_n 0, 1) := by decide +kernel
theorem dX5_count_129 : decode cX5_count 129 = .ok (.getfield 10, 3) := by decide +kernel
theorem dX5_count_132 : decode cX5_count 132 = .ok (.getfield 180, 3) := by decide +kernel
theorem dX5_count_135 : decode cX5_count 135 = .ok (.lreturn, 1) := by decide +kernel
theorem dX5_count_136 : decode cX5_count 136 = .ok (.aload_n 0, 1) := by decide +kernel
theorem dX5_count_137 : decode cX5_count 137 = .ok (.getfield 10, 3) := by decide +kernel
theorem dX5_count_140 : decode cX5_count 140 = .ok (.getfield 69, 3) := by decide +kernel
theorem dX5_count_143 : decode cX5_count 143 = .ok (.i2l, 1) := by decide +kernel
theorem dX5_count_144 : decode cX5_count 144 = .ok (.lreturn, 1) := by decide +kernel
theorem dX5_count_145 : decode cX5_count 145 = .ok (.aload_n 0, 1) := by decide +kernel
theorem dX5_count_146 : decode cX5_count 146 = .ok (.getfield 10, 3) := by decide +kernel
theorem dX5_count_149 : decode cX5_count 149 = .ok (.getfield 65, 3) := by decide +kernel
theorem dX5_count_152 : decode cX5_count 152 = .ok (.i2l, 1) := by decide +kernel
theorem dX5_count_153 : decode cX5_count 153 = .ok (.lreturn, 1) := by decide +kernel
theorem dX5_count_154 : decode cX5_count 154 = .ok (.ldc2_w 183, 3) := by decide +kernel
theorem dX5_count_157 : decode cX5_count 157 = .ok (.lreturn, 1) := by decide +kernel
theorem dX5_lot_0 : decode cX5_lot 0 = .ok (.aload_n 0, 1) := by decide +kernel
theorem dX5_lot_1 : decode cX5_lot 1 = .ok (.getfield 10, 3) := by decide +kernel
theorem dX5_lot_4 : decode cX5_lot 4 = .ok (.iload_n 1, 1) := by decide +kernel
theorem dX5_lot_5 : decode cX5_lot 5 = .ok (.invokevirtual 98, 3) := by decide +kernel
theorem dX5_lot_8 : decode cX5_lot 8 = .ok (.astore_n 3, 1) := by decide +kernel
theorem dX5_lot_9 : decode cX5_lot 9 = .ok (.aload_n 3, 1) := by decide +kernel
theorem dX5_lot_10 : decode cX5_lot 10 = .ok (.ifnonnull 5, 3) := by decide +kernel
theorem dX5_lot_13 : decode cX5_lot 13 = .ok (.iconst (-1), 1) := by decide +kernel
theorem dX5_lot_14 : decode cX5_lot 14 = .ok (.ireturn, 1) := by decide +kernel
theorem dX5_lot_15 : decode cX5_lot 15 = .ok (.iload_n 2, 1) := by decide +kernel
theorem dX5_lot_16 : decode cX5_lot 16 = .ok (.tableswitch 94 0 6 #[44, 49, 54, 59, 64, 69, 78], 44) := by decide +kernel
theorem dX5_lot_60 : decode cX5_lot 60 = .ok (.aload_n 3, 1) := by decide +kernel
theorem dX5_lot_61 : decode cX5_lot 61 = .ok (.getfield 130, 3) := by decide +kernel
theorem dX5_lot_64 : decode cX5_lot 64 = .ok (.ireturn, 1) := by decide +kernel
theorem dX5_lot_65 : decode cX5_lot 65 = .ok (.aload_n 3, 1) := by decide +kernel
theorem dX5_lot_66 : decode cX5_lot 66 = .ok (.getfield 127, 3) := by decide +kernel
theorem dX5_lot_69 : decode cX5_lot 69 = .ok (.ireturn, 1) := by decide +kernel
theorem dX5_lot_70 : decode cX5_lot 70 = .ok (.aload_n 3, 1) := by decide +kernel
theorem dX5_lot_71 : decode cX5_lot 71 = .ok (.getfield 133, 3) := by decide +kernel
theorem dX5_lot_74 : decode cX5_lot 74 = .ok (.ireturn, 1) := by decide +kernel
theorem dX5_lot_75 : decode cX5_lot 75 = .ok (.aload_n 3, 1) := by decide +kernel
theorem dX5_lot_76 : decode cX5_lot 76 = .ok (.getfield 115, 3) := by decide +kernel
theorem dX5_lot_79 : decode cX5_lot 79 = .ok (.ireturn, 1) := by decide +kernel
theorem dX5_lot_80 : decode cX5_lot 80 = .ok (.aload_n 3, 1) := by decide +kernel
theorem dX5_lot_81 : decode cX5_lot 81 = .ok (.getfield 185, 3) := by decide +kernel
theorem dX5_lot_84 : decode cX5_lot 84 = .ok (.ireturn, 1) := by decide +kernel
theorem dX5_lot_85 : decode cX5_lot 85 = .ok (.aload_n 0, 1) := by decide +kernel
theorem dX5_lot_86 : decode cX5_lot 86 = .ok (.getfield 10, 3) := by decide +kernel
theorem dX5_lot_89 : decode cX5_lot 89 = .ok (.aload_n 3, 1) := by decide +kernel
theorem dX5_lot_90 : decode cX5_lot 90 = .ok (.invokevirtual 111, 3) := by decide +kernel
theorem dX5_lot_93 : decode cX5_lot 93 = .ok (.ireturn, 1) := by decide +kernel
theorem dX5_lot_94 : decode cX5_lot 94 = .ok (.aload_n 3, 1) := by decide +kernel
theorem dX5_lot_95 : decode cX5_lot 95 = .ok (.getfield 127, 3) := by decide +kernel
theorem dX5_lot_98 : decode cX5_lot 98 = .ok (.aload_n 0, 1) := by decide +kernel
theorem dX5_lot_99 : decode cX5_lot 99 = .ok (.getfield 10, 3) := by decide +kernel
theorem dX5_lot_102 : decode cX5_lot 102 = .ok (.aload_n 3, 1) := by decide +kernel
theorem dX5_lot_103 : decode cX5_lot 103 = .ok (.invokevirtual 111, 3) := by decide +kernel
theorem dX5_lot_106 : decode cX5_lot 106 = .ok (.invokestatic 188, 3) := by decide +kernel
theorem dX5_lot_109 : decode cX5_lot 109 = .ok (.ireturn, 1) := by decide +kernel
theorem dX5_lot_110 : decode cX5_lot 110 = .ok (.bipush (-2), 2) := by decide +kernel
theorem dX5_lot_112 : decode cX5_lot 112 = .ok (.ireturn, 1) := by decide +kernel
theorem dX5_box_0 : decode cX5_box 0 = .ok (.iload_n 1, 1) := by decide +kernel
theorem dX5_box_1 : decode cX5_box 1 = .ok (.invokestatic 72, 3) := by decide +kernel
theorem dX5_box_4 : decode cX5_box 4 = .ok (.ifCond .ne 5, 3) := by decide +kernel
theorem dX5_box_7 : decode cX5_box 7 = .ok (.iconst (-1), 1) := by decide +kernel
theorem dX5_box_8 : decode cX5_box 8 = .ok (.ireturn, 1) := by decide +kernel
theorem dX5_box_9 : decode cX5_box 9 = .ok (.iload_n 2, 1) := by decide +kernel
theorem dX5_box_10 : decode cX5_box 10 = .ok (.tableswitch 67 0 3 #[30, 40, 49, 58], 30) := by decide +kernel
theorem dX5_box_40 : decode cX5_box 40 = .ok (.aload_n 0, 1) := by decide +kernel
theorem dX5_box_41 : decode cX5_box 41 = .ok (.getfield 10, 3) := by decide +kernel
theorem dX5_box_44 : decode cX5_box 44 = .ok (.getfield 83, 3) := by decide +kernel
theorem dX5_box_47 : decode cX5_box 47 = .ok (.iload_n 1, 1) := by decide +kernel
theorem dX5_box_48 : decode cX5_box 48 = .ok (.iaload, 1) := by decide +kernel
theorem dX5_box_49 : decode cX5_box 49 = .ok (.ireturn, 1) := by decide +kernel
theorem dX5_box_50 : decode cX5_box 50 = .ok (.aload_n 0, 1) := by decide +kernel
theorem dX5_box_51 : decode cX5_box 51 = .ok (.getfield 10, 3) := by decide +kernel
theorem dX5_box_54 : decode cX5_box 54 = .ok (.iload_n 1, 1) := by decide +kernel
theorem dX5_box_55 : decode cX5_box 55 = .ok (.invokevirtual 124, 3) := by decide +kernel
theorem dX5_box_58 : decode cX5_box 58 = .ok (.ireturn, 1) := by decide +kernel
theorem dX5_box_59 : decode cX5_box 59 = .ok (.aload_n 0, 1) := by decide +kernel
theorem dX5_box_60 : decode cX5_box 60 = .ok (.getfield 10, 3) := by decide +kernel
theorem dX5_box_63 : decode cX5_box 63 = .ok (.iload_n 1, 1) := by decide +kernel
theorem dX5_box_64 : decode cX5_box 64 = .ok (.invokevirtual 191, 3) := by decide +kernel
theorem dX5_box_67 : decode cX5_box 67 = .ok (.ireturn, 1) := by decide +kernel
theorem dX5_box_68 : decode cX5_box 68 = .ok (.aload_n 0, 1) := by decide +kernel
theorem dX5_box_69 : decode cX5_box 69 = .ok (.getfield 10, 3) := by decide +kernel
theorem dX5_box_72 : decode cX5_box 72 = .ok (.iload_n 1, 1) := by decide +kernel
theorem dX5_box_73 : decode cX5_box 73 = .ok (.invokevirtual 194, 3) := by decide +kernel
theorem dX5_box_76 : decode cX5_box 76 = .ok (.ireturn, 1) := by decide +kernel
theorem dX5_box_77 : decode cX5_box 77 = .ok (.bipush (-2), 2) := by decide +kernel
theorem dX5_box_79 : decode cX5_box 79 = .ok (.ireturn, 1) := by decide +kernel
theorem dX5_tray_0 : decode cX5_tray 0 = .ok (.iload_n 1, 1) := by decide +kernel
theorem dX5_tray_1 : decode cX5_tray 1 = .ok (.invokestatic 92, 3) := by decide +kernel
theorem dX5_tray_4 : decode cX5_tray 4 = .ok (.ifCond .ne 5, 3) := by decide +kernel
theorem dX5_tray_7 : decode cX5_tray 7 = .ok (.iconst (-1), 1) := by decide +kernel
theorem dX5_tray_8 : decode cX5_tray 8 = .ok (.ireturn, 1) := by decide +kernel
theorem dX5_tray_9 : decode cX5_tray 9 = .ok (.iload_n 2, 1) := by decide +kernel
theorem dX5_tray_10 : decode cX5_tray 10 = .ok (.lookupswitch 45 #[(0, 26), (1, 36)], 26) := by decide +kernel
theorem dX5_tray_36 : decode cX5_tray 36 = .ok (.aload_n 0, 1) := by decide +kernel
theorem dX5_tray_37 : decode cX5_tray 37 = .ok (.getfield 10, 3) := by decide +kernel
theorem dX5_tray_40 : decode cX5_tray 40 = .ok (.getfield 95, 3) := by decide +kernel
theorem dX5_tray_43 : decode cX5_tray 43 = .ok (.iload_n 1, 1) := by decide +kernel
theorem dX5_tray_44 : decode cX5_tray 44 = .ok (.iaload, 1) := by decide +kernel
theorem dX5_tray_45 : decode cX5_tray 45 = .ok (.ireturn, 1) := by decide +kernel
theorem dX5_tray_46 : decode cX5_tray 46 = .ok (.aload_n 0, 1) := by decide +kernel
theorem dX5_tray_47 : decode cX5_tray 47 = .ok (.getfield 10, 3) := by decide +kernel
theorem dX5_tray_50 : decode cX5_tray 50 = .ok (.iload_n 1, 1) := by decide +kernel
theorem dX5_tray_51 : decode cX5_tray 51 = .ok (.invokevirtual 197, 3) := by decide +kernel
theorem dX5_tray_54 : decode cX5_tray 54 = .ok (.ireturn, 1) := by decide +kernel
theorem dX5_tray_55 : decode cX5_tray 55 = .ok (.bipush (-2), 2) := by decide +kernel
theorem dX5_tray_57 : decode cX5_tray 57 = .ok (.ireturn, 1) := by decide +kernel
theorem dX5_kind_0 : decode cX5_kind 0 = .ok (.iload_n 1, 1) := by decide +kernel
theorem dX5_kind_1 : decode cX5_kind 1 = .ok (.invokestatic 40, 3) := by decide +kernel
theorem dX5_kind_4 : decode cX5_kind 4 = .ok (.ifCond .ne 5, 3) := by decide +kernel
theorem dX5_kind_7 : decode cX5_kind 7 = .ok (.iconst (-1), 1) := by decide +kernel
theorem dX5_kind_8 : decode cX5_kind 8 = .ok (.ireturn, 1) := by decide +kernel
theorem dX5_kind_9 : decode cX5_kind 9 = .ok (.iload_n 2, 1) := by decide +kernel
theorem dX5_kind_10 : decode cX5_kind 10 = .ok (.tableswitch 68 0 3 #[30, 40, 50, 59], 30) := by decide +kernel
theorem dX5_kind_40 : decode cX5_kind 40 = .ok (.aload_n 0, 1) := by decide +kernel
theorem dX5_kind_41 : decode cX5_kind 41 = .ok (.getfield 10, 3) := by decide +kernel
theorem dX5_kind_44 : decode cX5_kind 44 = .ok (.getfield 52, 3) := by decide +kernel
theorem dX5_kind_47 : decode cX5_kind 47 = .ok (.iload_n 1, 1) := by decide +kernel
theorem dX5_kind_48 : decode cX5_kind 48 = .ok (.iaload, 1) := by decide +kernel
theorem dX5_kind_49 : decode cX5_kind 49 = .ok (.ireturn, 1) := by decide +kernel
theorem dX5_kind_50 : decode cX5_kind 50 = .ok (.aload_n 0, 1) := by decide +kernel
theorem dX5_kind_51 : decode cX5_kind 51 = .ok (.getfield 10, 3) := by decide +kernel
theorem dX5_kind_54 : decode cX5_kind 54 = .ok (.getfield 56, 3) := by decide +kernel
theorem dX5_kind_57 : decode cX5_kind 57 = .ok (.iload_n 1, 1) := by decide +kernel
theorem dX5_kind_58 : decode cX5_kind 58 = .ok (.iaload, 1) := by decide +kernel
theorem dX5_kind_59 : decode cX5_kind 59 = .ok (.ireturn, 1) := by decide +kernel
theorem dX5_kind_60 : decode cX5_kind 60 = .ok (.aload_n 0, 1) := by decide +kernel
theorem dX5_kind_61 : decode cX5_kind 61 = .ok (.getfield 10, 3) := by decide +kernel
theorem dX5_kind_64 : decode cX5_kind 64 = .ok (.iload_n 1, 1) := by decide +kernel
theorem dX5_kind_65 : decode cX5_kind 65 = .ok (.invokevirtual 200, 3) := by decide +kernel
theorem dX5_kind_68 : decode cX5_kind 68 = .ok (.ireturn, 1) := by decide +kernel
theorem dX5_kind_69 : decode cX5_kind 69 = .ok (.aload_n 0, 1) := by decide +kernel
theorem dX5_kind_70 : decode cX5_kind 70 = .ok (.getfield 10, 3) := by decide +kernel
theorem dX5_kind_73 : decode cX5_kind 73 = .ok (.iload_n 1, 1) := by decide +kernel
theorem dX5_kind_74 : decode cX5_kind 74 = .ok (.invokevirtual 203, 3) := by decide +kernel
theorem dX5_kind_77 : decode cX5_kind 77 = .ok (.ireturn, 1) := by decide +kernel
theorem dX5_kind_78 : decode cX5_kind 78 = .ok (.bipush (-2), 2) := by decide +kernel
theorem dX5_kind_80 : decode cX5_kind 80 = .ok (.ireturn, 1) := by decide +kernel
theorem dX5_cut_0 : decode cX5_cut 0 = .ok (.iload_n 1, 1) := by decide +kernel
theorem dX5_cut_1 : decode cX5_cut 1 = .ok (.invokestatic 59, 3) := by decide +kernel
theorem dX5_cut_4 : decode cX5_cut 4 = .ok (.ifCond .ne 5, 3) := by decide +kernel
theorem dX5_cut_7 : decode cX5_cut 7 = .ok (.iconst (-1), 1) := by decide +kernel
theorem dX5_cut_8 : decode cX5_cut 8 = .ok (.ireturn, 1) := by decide +kernel
theorem dX5_cut_9 : decode cX5_cut 9 = .ok (.aload_n 0, 1) := by decide +kernel
theorem dX5_cut_10 : decode cX5_cut 10 = .ok (.getfield 10, 3) := by decide +kernel
theorem dX5_cut_13 : decode cX5_cut 13 = .ok (.getfield 62, 3) := by decide +kernel
theorem dX5_cut_16 : decode cX5_cut 16 = .ok (.iload_n 1, 1) := by decide +kernel
theorem dX5_cut_17 : decode cX5_cut 17 = .ok (.iaload, 1) := by decide +kernel
theorem dX5_cut_18 : decode cX5_cut 18 = .ok (.ireturn, 1) := by decide +kernel
theorem dX5_freshAfter_0 : decode cX5_freshAfter 0 = .ok (.aload_n 0, 1) := by decide +kernel
theorem dX5_freshAfter_1 : decode cX5_freshAfter 1 = .ok (.getfield 10, 3) := by decide +kernel
theorem dX5_freshAfter_4 : decode cX5_freshAfter 4 = .ok (.iload_n 1, 1) := by decide +kernel
theorem dX5_freshAfter_5 : decode cX5_freshAfter 5 = .ok (.invokevirtual 98, 3) := by decide +kernel
theorem dX5_freshAfter_8 : decode cX5_freshAfter 8 = .ok (.astore_n 3, 1) := by decide +kernel
theorem dX5_freshAfter_9 : decode cX5_freshAfter 9 = .ok (.aload_n 3, 1) := by decide +kernel
theorem dX5_freshAfter_10 : decode cX5_freshAfter 10 = .ok (.ifnonnull 5, 3) := by decide +kernel
theorem dX5_freshAfter_13 : decode cX5_freshAfter 13 = .ok (.iconst (-1), 1) := by decide +kernel
theorem dX5_freshAfter_14 : decode cX5_freshAfter 14 = .ok (.ireturn, 1) := by decide +kernel
theorem dX5_freshAfter_15 : decode cX5_freshAfter 15 = .ok (.iload_n 2, 1) := by decide +kernel
theorem dX5_freshAfter_16 : decode cX5_freshAfter 16 = .ok (.iconst 0, 1) := by decide +kernel
theorem dX5_freshAfter_17 : decode cX5_freshAfter 17 = .ok (.bipush 100, 2) := by decide +kernel
theorem dX5_freshAfter_19 : decode cX5_freshAfter 19 = .ok (.invokestatic 44, 3) := by decide +kernel
theorem dX5_freshAfter_22 : decode cX5_freshAfter 22 = .ok (.ifCond .ne 6, 3) := by decide +kernel
theorem dX5_freshAfter_25 : decode cX5_freshAfter 25 = .ok (.bipush (-2), 2) := by decide +kernel
theorem dX5_freshAfter_27 : decode cX5_freshAfter 27 = .ok (.ireturn, 1) := by decide +kernel
theorem dX5_freshAfter_28 : decode cX5_freshAfter 28 = .ok (.aload_n 0, 1) := by decide +kernel
theorem dX5_freshAfter_29 : decode cX5_freshAfter 29 = .ok (.getfield 22, 3) := by decide +kernel
theorem dX5_freshAfter_32 : decode cX5_freshAfter 32 = .ok (.aload_n 0, 1) := by decide +kernel
theorem dX5_freshAfter_33 : decode cX5_freshAfter 33 = .ok (.getfield 10, 3) := by decide +kernel
theorem dX5_freshAfter_36 : decode cX5_freshAfter 36 = .ok (.aload_n 3, 1) := by decide +kernel
theorem dX5_freshAfter_37 : decode cX5_freshAfter 37 = .ok (.invokevirtual 206, 3) := by decide +kernel
theorem dX5_freshAfter_40 : decode cX5_freshAfter 40 = .ok (.iconst 0, 1) := by decide +kernel
theorem dX5_freshAfter_41 : decode cX5_freshAfter 41 = .ok (.istore 4, 2) := by decide +kernel
theorem dX5_freshAfter_43 : decode cX5_freshAfter 43 = .ok (.iload 4, 2) := by decide +kernel
theorem dX5_freshAfter_45 : decode cX5_freshAfter 45 = .ok (.iload_n 2, 1) := by decide +kernel
theorem dX5_freshAfter_46 : decode cX5_freshAfter 46 = .ok (.if_icmp .ge 16, 3) := by decide +kernel
theorem dX5_freshAfter_49 : decode cX5_freshAfter 49 = .ok (.aload_n 0, 1) := by decide +kernel
theorem dX5_freshAfter_50 : decode cX5_freshAfter 50 = .ok (.getfield 22, 3) := by decide +kernel
theorem dX5_freshAfter_53 : decode cX5_freshAfter 53 = .ok (.invokevirtual 210, 3) := by decide +kernel
theorem dX5_freshAfter_56 : decode cX5_freshAfter 56 = .ok (.iinc 4 1, 3) := by decide +kernel
theorem dX5_freshAfter_59 : decode cX5_freshAfter 59 = .ok (.goto (-16), 3) := by decide +kernel
theorem dX5_freshAfter_62 : decode cX5_freshAfter 62 = .ok (.aload_n 0, 1) := by decide +kernel
theorem dX5_freshAfter_63 : decode cX5_freshAfter 63 = .ok (.getfield 22, 3) := by decide +kernel
theorem dX5_freshAfter_66 : decode cX5_freshAfter 66 = .ok (.getfield 211, 3) := by decide +kernel
theorem dX5_freshAfter_69 : decode cX5_freshAfter 69 = .ok (.ireturn, 1) := by decide +kernel
theorem dX5_hoursLeft_0 : decode cX5_hoursLeft 0 = .ok (.aload_n 0, 1) := by decide +kernel
theorem dX5_hoursLeft_1 : decode cX5_hoursLeft 1 = .ok (.getfield 10, 3) := by decide +kernel
theorem dX5_hoursLeft_4 : decode cX5_hoursLeft 4 = .ok (.iload_n 1, 1) := by decide +kernel
theorem dX5_hoursLeft_5 : decode cX5_hoursLeft 5 = .ok (.invokevirtual 98, 3) := by decide +kernel
theorem dX5_hoursLeft_8 : decode cX5_hoursLeft 8 = .ok (.astore_n 2, 1) := by decide +kernel
theorem dX5_hoursLeft_9 : decode cX5_hoursLeft 9 = .ok (.aload_n 2, 1) := by decide +kernel
theorem dX5_hoursLeft_10 : decode cX5_hoursLeft 10 = .ok (.ifnonnull 5, 3) := by decide +kernel
theorem dX5_hoursLeft_13 : decode cX5_hoursLeft 13 = .ok (.iconst (-1), 1) := by decide +kernel
theorem dX5_hoursLeft_14 : decode cX5_hoursLeft 14 = .ok (.ireturn, 1) := by decide +kernel
theorem dX5_hoursLeft_15 : decode cX5_hoursLeft 15 = .ok (.aload_n 2, 1) := by decide +kernel
theorem dX5_hoursLeft_16 : decode cX5_hoursLeft 16 = .ok (.getfield 133, 3) := by decide +kernel
theorem dX5_hoursLeft_19 : decode cX5_hoursLeft 19 = .ok (.aload_n 0, 1) := by decide +kernel
theorem dX5_hoursLeft_20 : decode cX5_hoursLeft 20 = .ok (.getfield 10, 3) := by decide +kernel
theorem dX5_hoursLeft_23 : decode cX5_hoursLeft 23 = .ok (.getfield 65, 3) := by decide +kernel
theorem dX5_hoursLeft_26 : decode cX5_hoursLeft 26 = .ok (.if_icmp .ge 6, 3) := by decide +kernel
theorem dX5_hoursLeft_29 : decode cX5_hoursLeft 29 = .ok (.bipush (-6), 2) := by decide +kernel
theorem dX5_hoursLeft_31 : decode cX5_hoursLeft 31 = .ok (.ireturn, 1) := by decide +kernel
theorem dX5_hoursLeft_32 : decode cX5_hoursLeft 32 = .ok (.aload_n 0, 1) := by decide +kernel
theorem dX5_hoursLeft_33 : decode cX5_hoursLeft 33 = .ok (.getfield 22, 3) := by decide +kernel
theorem dX5_hoursLeft_36 : decode cX5_hoursLeft 36 = .ok (.aload_n 0, 1) := by decide +kernel
theorem dX5_hoursLeft_37 : decode cX5_hoursLeft 37 = .ok (.getfield 10, 3) := by decide +kernel
theorem dX5_hoursLeft_40 : decode cX5_hoursLeft 40 = .ok (.aload_n 2, 1) := by decide +kernel
theorem dX5_hoursLeft_41 : decode cX5_hoursLeft 41 = .ok (.invokevirtual 206, 3) := by decide +kernel
theorem dX5_hoursLeft_44 : decode cX5_hoursLeft 44 = .ok (.iconst 0, 1) := by decide +kernel
theorem dX5_hoursLeft_45 : decode cX5_hoursLeft 45 = .ok (.istore_n 3, 1) := by decide +kernel
theorem dX5_hoursLeft_46 : decode cX5_hoursLeft 46 = .ok (.iload_n 3, 1) := by decide +kernel
theorem dX5_hoursLeft_47 : decode cX5_hoursLeft 47 = .ok (.bipush 100, 2) := by decide +kernel
theorem dX5_hoursLeft_49 : decode cX5_hoursLeft 49 = .ok (.if_icmp .ge 35, 3) := by decide +kernel
theorem dX5_hoursLeft_52 : decode cX5_hoursLeft 52 = .ok (.aload_n 0, 1) := by decide +kernel
theorem dX5_hoursLeft_53 : decode cX5_hoursLeft 53 = .ok (.getfield 22, 3) := by decide +kernel
theorem dX5_hoursLeft_56 : decode cX5_hoursLeft 56 = .ok (.invokevirtual 210, 3) := by decide +kernel
theorem dX5_hoursLeft_59 : decode cX5_hoursLeft 59 = .ok (.aload_n 0, 1) := by decide +kernel
theorem dX5_hoursLeft_60 : decode cX5_hoursLeft 60 = .ok (.getfield 22, 3) := by decide +kernel
theorem dX5_hoursLeft_63 : decode cX5_hoursLeft 63 = .ok (.getfield 211, 3) := by decide +kernel
theorem dX5_hoursLeft_66 : decode cX5_hoursLeft 66 = .ok (.aload_n 0, 1) := by decide +kernel
theorem dX5_hoursLeft_67 : decode cX5_hoursLeft 67 = .ok (.getfield 10, 3) := by decide +kernel
theorem dX5_hoursLeft_70 : decode cX5_hoursLeft 70 = .ok (.getfield 65, 3) := by decide +kernel
theorem dX5_hoursLeft_73 : decode cX5_hoursLeft 73 = .ok (.if_icmp .ge 5, 3) := by decide +kernel
theorem dX5_hoursLeft_76 : decode cX5_hoursLeft 76 = .ok (.iload_n 3, 1) := by decide +kernel
theorem dX5_hoursLeft_77 : decode cX5_hoursLeft 77 = .ok (.ireturn, 1) := by decide +kernel
theorem dX5_hoursLeft_78 : decode cX5_hoursLeft 78 = .ok (.iinc 3 1, 3) := by decide +kernel
theorem dX5_hoursLeft_81 : decode cX5_hoursLeft 81 = .ok (.goto (-35), 3) := by decide +kernel
theorem dX5_hoursLeft_84 : decode cX5_hoursLeft 84 = .ok (.bipush 100, 2) := by decide +kernel
theorem dX5_hoursLeft_86 : decode cX5_hoursLeft 86 = .ok (.ireturn, 1) := by decide +kernel
theorem dX5_bestHour_0 : decode cX5_bestHour 0 = .ok (.aload_n 0, 1) := by decide +kernel
theorem dX5_bestHour_1 : decode cX5_bestHour 1 = .ok (.getfield 10, 3) := by decide +kernel
theorem dX5_bestHour_4 : decode cX5_bestHour 4 = .ok (.iload_n 1, 1) := by decide +kernel
theorem dX5_bestHour_5 : decode cX5_bestHour 5 = .ok (.invokevirtual 98, 3) := by decide +kernel
theorem dX5_bestHour_8 : decode cX5_bestHour 8 = .ok (.astore_n 2, 1) := by decide +kernel
theorem dX5_bestHour_9 : decode cX5_bestHour 9 = .ok (.aload_n 2, 1) := by decide +kernel
theorem dX5_bestHour_10 : decode cX5_bestHour 10 = .ok (.ifnonnull 5, 3) := by decide +kernel
theorem dX5_bestHour_13 : decode cX5_bestHour 13 = .ok (.iconst (-1), 1) := by decide +kernel
theorem dX5_bestHour_14 : decode cX5_bestHour 14 = .ok (.ireturn, 1) := by decide +kernel
theorem dX5_bestHour_15 : decode cX5_bestHour 15 = .ok (.aload_n 0, 1) := by decide +kernel
theorem dX5_bestHour_16 : decode cX5_bestHour 16 = .ok (.getfield 10, 3) := by decide +kernel
theorem dX5_bestHour_19 : decode cX5_bestHour 19 = .ok (.getfield 148, 3) := by decide +kernel
theorem dX5_bestHour_22 : decode cX5_bestHour 22 = .ok (.istore_n 3, 1) := by decide +kernel
theorem dX5_bestHour_23 : decode cX5_bestHour 23 = .ok (.iconst (-1), 1) := by decide +kernel
theorem dX5_bestHour_24 : decode cX5_bestHour 24 = .ok (.istore 4, 2) := by decide +kernel
theorem dX5_bestHour_26 : decode cX5_bestHour 26 = .ok (.aload_n 0, 1) := by decide +kernel
theorem dX5_bestHour_27 : decode cX5_bestHour 27 = .ok (.getfield 22, 3) := by decide +kernel
theorem dX5_bestHour_30 : decode cX5_bestHour 30 = .ok (.aload_n 0, 1) := by decide +kernel
theorem dX5_bestHour_31 : decode cX5_bestHour 31 = .ok (.getfield 10, 3) := by decide +kernel
theorem dX5_bestHour_34 : decode cX5_bestHour 34 = .ok (.aload_n 2, 1) := by decide +kernel
theorem dX5_bestHour_35 : decode cX5_bestHour 35 = .ok (.invokevirtual 206, 3) := by decide +kernel
theorem dX5_bestHour_38 : decode cX5_bestHour 38 = .ok (.aload_n 0, 1) := by decide +kernel
theorem dX5_bestHour_39 : decode cX5_bestHour 39 = .ok (.getfield 10, 3) := by decide +kernel
theorem dX5_bestHour_42 : decode cX5_bestHour 42 = .ok (.getfield 148, 3) := by decide +kernel
theorem dX5_bestHour_45 : decode cX5_bestHour 45 = .ok (.istore 5, 2) := by decide +kernel
theorem dX5_bestHour_47 : decode cX5_bestHour 47 = .ok (.iload 5, 2) := by decide +kernel
theorem dX5_bestHour_49 : decode cX5_bestHour 49 = .ok (.bipush 10, 2) := by decide +kernel
theorem dX5_bestHour_51 : decode cX5_bestHour 51 = .ok (.if_icmp .gt 59, 3) := by decide +kernel
theorem dX5_bestHour_54 : decode cX5_bestHour 54 = .ok (.aload_n 2, 1) := by decide +kernel
theorem dX5_bestHour_55 : decode cX5_bestHour 55 = .ok (.getfield 127, 3) := by decide +kernel
theorem dX5_bestHour_58 : decode cX5_bestHour 58 = .ok (.aload_n 0, 1) := by decide +kernel
theorem dX5_bestHour_59 : decode cX5_bestHour 59 = .ok (.getfield 10, 3) := by decide +kernel
theorem dX5_bestHour_62 : decode cX5_bestHour 62 = .ok (.aload_n 2, 1) := by decide +kernel
theorem dX5_bestHour_63 : decode cX5_bestHour 63 = .ok (.getfield 130, 3) := by decide +kernel
theorem dX5_bestHour_66 : decode cX5_bestHour 66 = .ok (.aload_n 0, 1) := by decide +kernel
theorem dX5_bestHour_67 : decode cX5_bestHour 67 = .ok (.getfield 22, 3) := by decide +kernel
theorem dX5_bestHour_70 : decode cX5_bestHour 70 = .ok (.getfield 211, 3) := by decide +kernel
theorem dX5_bestHour_73 : decode cX5_bestHour 73 = .ok (.iload 5, 2) := by decide +kernel
theorem dX5_bestHour_75 : decode cX5_bestHour 75 = .ok (.invokevirtual 212, 3) := by decide +kernel
theorem dX5_bestHour_78 : decode cX5_bestHour 78 = .ok (.invokestatic 188, 3) := by decide +kernel
theorem dX5_bestHour_81 : decode cX5_bestHour 81 = .ok (.istore 6, 2) := by decide +kernel
theorem dX5_bestHour_83 : decode cX5_bestHour 83 = .ok (.iload 6, 2) := by decide +kernel
theorem dX5_bestHour_85 : decode cX5_bestHour 85 = .ok (.iload 4, 2) := by decide +kernel
theorem dX5_bestHour_87 : decode cX5_bestHour 87 = .ok (.if_icmp .le 10, 3) := by decide +kernel
theorem dX5_bestHour_90 : decode cX5_bestHour 90 = .ok (.iload 6, 2) := by decide +kernel
theorem dX5_bestHour_92 : decode cX5_bestHour 92 = .ok (.istore 4, 2) := by decide +kernel
theorem dX5_bestHour_94 : decode cX5_bestHour 94 = .ok (.iload 5, 2) := by decide +kernel
theorem dX5_bestHour_96 : decode cX5_bestHour 96 = .ok (.istore_n 3, 1) := by decide +kernel
theorem dX5_bestHour_97 : decode cX5_bestHour 97 = .ok (.aload_n 0, 1) := by decide +kernel
theorem dX5_bestHour_98 : decode cX5_bestHour 98 = .ok (.getfield 22, 3) := by decide +kernel
theorem dX5_bestHour_101 : decode cX5_bestHour 101 = .ok (.invokevirtual 210, 3) := by decide +kernel
theorem dX5_bestHour_104 : decode cX5_bestHour 104 = .ok (.iinc 5 1, 3) := by decide +kernel
theorem dX5_bestHour_107 : decode cX5_bestHour 107 = .ok (.goto (-60), 3) := by decide +kernel
theorem dX5_bestHour_110 : decode cX5_bestHour 110 = .ok (.iload_n 3, 1) := by decide +kernel
theorem dX5_bestHour_111 : decode cX5_bestHour 111 = .ok (.ireturn, 1) := by decide +kernel
theorem dX5_ifClosed_0 : decode cX5_ifClosed 0 = .ok (.iload_n 1, 1) := by decide +kernel
theorem dX5_ifClosed_1 : decode cX5_ifClosed 1 = .ok (.iconst 0, 1) := by decide +kernel
theorem dX5_ifClosed_2 : decode cX5_ifClosed 2 = .ok (.bipush 10, 2) := by decide +kernel
theorem dX5_ifClosed_4 : decode cX5_ifClosed 4 = .ok (.invokestatic 44, 3) := by decide +kernel
theorem dX5_ifClosed_7 : decode cX5_ifClosed 7 = .ok (.ifCond .ne 6, 3) := by decide +kernel
theorem dX5_ifClosed_10 : decode cX5_ifClosed 10 = .ok (.bipush (-2), 2) := by decide +kernel
theorem dX5_ifClosed_12 : decode cX5_ifClosed 12 = .ok (.ireturn, 1) := by decide +kernel
theorem dX5_ifClosed_13 : decode cX5_ifClosed 13 = .ok (.aload_n 0, 1) := by decide +kernel
theorem dX5_ifClosed_14 : decode cX5_ifClosed 14 = .ok (.getfield 16, 3) := by decide +kernel
theorem dX5_ifClosed_17 : decode cX5_ifClosed 17 = .ok (.aload_n 0, 1) := by decide +kernel
theorem dX5_ifClosed_18 : decode cX5_ifClosed 18 = .ok (.getfield 10, 3) := by decide +kernel
theorem dX5_ifClosed_21 : decode cX5_ifClosed 21 = .ok (.invokevirtual 216, 3) := by decide +kernel
theorem dX5_ifClosed_24 : decode cX5_ifClosed 24 = .ok (.iconst 0, 1) := by decide +kernel
theorem dX5_ifClosed_25 : decode cX5_ifClosed 25 = .ok (.istore_n 2, 1) := by decide +kernel
theorem dX5_ifClosed_26 : decode cX5_ifClosed 26 = .ok (.iload_n 2, 1) := by decide +kernel
theorem dX5_ifClosed_27 : decode cX5_ifClosed 27 = .ok (.iload_n 1, 1) := by decide +kernel
theorem dX5_ifClosed_28 : decode cX5_ifClosed 28 = .ok (.if_icmp .ge 28, 3) := by decide +kernel
theorem dX5_ifClosed_31 : decode cX5_ifClosed 31 = .ok (.aload_n 0, 1) := by decide +kernel
theorem dX5_ifClosed_32 : decode cX5_ifClosed 32 = .ok (.getfield 16, 3) := by decide +kernel
theorem dX5_ifClosed_35 : decode cX5_ifClosed 35 = .ok (.getfield 148, 3) := by decide +kernel
theorem dX5_ifClosed_38 : decode cX5_ifClosed 38 = .ok (.bipush 10, 2) := by decide +kernel
theorem dX5_ifClosed_40 : decode cX5_ifClosed 40 = .ok (.if_icmp .ge 16, 3) := by decide +kernel
theorem dX5_ifClosed_43 : decode cX5_ifClosed 43 = .ok (.aload_n 0, 1) := by decide +kernel
theorem dX5_ifClosed_44 : decode cX5_ifClosed 44 = .ok (.getfield 16, 3) := by decide +kernel
theorem dX5_ifClosed_47 : decode cX5_ifClosed 47 = .ok (.invokevirtual 151, 3) := by decide +kernel
theorem dX5_ifClosed_50 : decode cX5_ifClosed 50 = .ok (.iinc 2 1, 3) := by decide +kernel
theorem dX5_ifClosed_53 : decode cX5_ifClosed 53 = .ok (.goto (-27), 3) := by decide +kernel
theorem dX5_ifClosed_56 : decode cX5_ifClosed 56 = .ok (.aload_n 0, 1) := by decide +kernel
theorem dX5_ifClosed_57 : decode cX5_ifClosed 57 = .ok (.getfield 16, 3) := by decide +kernel
theorem dX5_ifClosed_60 : decode cX5_ifClosed 60 = .ok (.invokevirtual 157, 3) := by decide +kernel
theorem dX5_ifClosed_63 : decode cX5_ifClosed 63 = .ok (.ireturn, 1) := by decide +kernel
theorem dX5_worth_0 : decode cX5_worth 0 = .ok (.lconst 0, 1) := by decide +kernel
theorem dX5_worth_1 : decode cX5_worth 1 = .ok (.lstore_n 1, 1) := by decide +kernel
theorem dX5_worth_2 : decode cX5_worth 2 = .ok (.iconst 0, 1) := by decide +kernel
theorem dX5_worth_3 : decode cX5_worth 3 = .ok (.istore_n 3, 1) := by decide +kernel
theorem dX5_worth_4 : decode cX5_worth 4 = .ok (.iload_n 3, 1) := by decide +kernel
theorem dX5_worth_5 : decode cX5_worth 5 = .ok (.aload_n 0, 1) := by decide +kernel
theorem dX5_worth_6 : decode cX5_worth 6 = .ok (.getfield 10, 3) := by decide +kernel
theorem dX5_worth_9 : decode cX5_worth 9 = .ok (.getfield 161, 3) := by decide +kernel
theorem dX5_worth_12 : decode cX5_worth 12 = .ok (.if_icmp .ge 56, 3) := by decide +kernel
theorem dX5_worth_15 : decode cX5_worth 15 = .ok (.aload_n 0, 1) := by decide +kernel
theorem dX5_worth_16 : decode cX5_worth 16 = .ok (.getfield 10, 3) := by decide +kernel
theorem dX5_worth_19 : decode cX5_worth 19 = .ok (.getfield 219, 3) := by decide +kernel
theorem dX5_worth_22 : decode cX5_worth 22 = .ok (.iload_n 3, 1) := by decide +kernel
theorem dX5_worth_23 : decode cX5_worth 23 = .ok (.aaload, 1) := by decide +kernel
theorem dX5_worth_24 : decode cX5_worth 24 = .ok (.astore 4, 2) := by decide +kernel
theorem dX5_worth_26 : decode cX5_worth 26 = .ok (.aload 4, 2) := by decide +kernel
theorem dX5_worth_28 : decode cX5_worth 28 = .ok (.getfield 133, 3) := by decide +kernel
theorem dX5_worth_31 : decode cX5_worth 31 = .ok (.aload_n 0, 1) := by decide +kernel
theorem dX5_worth_32 : decode cX5_worth 32 = .ok (.getfield 10, 3) := by decide +kernel
theorem dX5_worth_35 : decode cX5_worth 35 = .ok (.getfield 65, 3) := by decide +kernel
theorem dX5_worth_38 : decode cX5_worth 38 = .ok (.if_icmp .lt 24, 3) := by decide +kernel
theorem dX5_worth_41 : decode cX5_worth 41 = .ok (.lload_n 1, 1) := by decide +kernel
theorem dX5_worth_42 : decode cX5_worth 42 = .ok (.aload 4, 2) := by decide +kernel
theorem dX5_worth_44 : decode cX5_worth 44 = .ok (.getfield 127, 3) := by decide +kernel
theorem dX5_worth_47 : decode cX5_worth 47 = .ok (.aload_n 0, 1) := by decide +kernel
theorem dX5_worth_48 : decode cX5_worth 48 = .ok (.getfield 10, 3) := by decide +kernel
theorem dX5_worth_51 : decode cX5_worth 51 = .ok (.aload 4, 2) := by decide +kernel
theorem dX5_worth_53 : decode cX5_worth 53 = .ok (.invokevirtual 111, 3) := by decide +kernel
theorem dX5_worth_56 : decode cX5_worth 56 = .ok (.invokestatic 188, 3) := by decide +kernel
theorem dX5_worth_59 : decode cX5_worth 59 = .ok (.i2l, 1) := by decide +kernel
theorem dX5_worth_60 : decode cX5_worth 60 = .ok (.ladd, 1) := by decide +kernel
theorem dX5_worth_61 : decode cX5_worth 61 = .ok (.lstore_n 1, 1) := by decide +kernel
theorem dX5_worth_62 : decode cX5_worth 62 = .ok (.iinc 3 1, 3) := by decide +kernel
theorem dX5_worth_65 : decode cX5_worth 65 = .ok (.goto (-61), 3) := by decide +kernel
theorem dX5_worth_68 : decode cX5_worth 68 = .ok (.lload_n 1, 1) := by decide +kernel
theorem dX5_worth_69 : decode cX5_worth 69 = .ok (.lreturn, 1) := by decide +kernel
theorem dX5_type_0 : decode cX5_type 0 = .ok (.iload_n 1, 1) := by decide +kernel
theorem dX5_type_1 : decode cX5_type 1 = .ok (.bipush 33, 2) := by decide +kernel
theorem dX5_type_3 : decode cX5_type 3 = .ok (.bipush 126, 2) := by decide +kernel
theorem dX5_type_5 : decode cX5_type 5 = .ok (.invokestatic 44, 3) := by decide +kernel
theorem dX5_type_8 : decode cX5_type 8 = .ok (.ifCond .ne 6, 3) := by decide +kernel
theorem dX5_type_11 : decode cX5_type 11 = .ok (.bipush (-2), 2) := by decide +kernel
theorem dX5_type_13 : decode cX5_type 13 = .ok (.ireturn, 1) := by decide +kernel
theorem dX5_type_14 : decode cX5_type 14 = .ok (.aload_n 0, 1) := by decide +kernel
theorem dX5_type_15 : decode cX5_type 15 = .ok (.getfield 36, 3) := by decide +kernel
theorem dX5_type_18 : decode cX5_type 18 = .ok (.getfield 223, 3) := by decide +kernel
theorem dX5_type_21 : decode cX5_type 21 = .ok (.bipush 80, 2) := by decide +kernel
theorem dX5_type_23 : decode cX5_type 23 = .ok (.if_icmp .lt 6, 3) := by decide +kernel
theorem dX5_type_26 : decode cX5_type 26 = .ok (.bipush (-4), 2) := by decide +kernel
theorem dX5_type_28 : decode cX5_type 28 = .ok (.ireturn, 1) := by decide +kernel
theorem dX5_type_29 : decode cX5_type 29 = .ok (.aload_n 0, 1) := by decide +kernel
theorem dX5_type_30 : decode cX5_type 30 = .ok (.getfield 36, 3) := by decide +kernel
theorem dX5_type_33 : decode cX5_type 33 = .ok (.iload_n 1, 1) := by decide +kernel
theorem dX5_type_34 : decode cX5_type 34 = .ok (.i2c, 1) := by decide +kernel
theorem dX5_type_35 : decode cX5_type 35 = .ok (.invokevirtual 226, 3) := by decide +kernel
theorem dX5_type_38 : decode cX5_type 38 = .ok (.aload_n 0, 1) := by decide +kernel
theorem dX5_type_39 : decode cX5_type 39 = .ok (.getfield 36, 3) := by decide +kernel
theorem dX5_type_42 : decode cX5_type 42 = .ok (.getfield 223, 3) := by decide +kernel
theorem dX5_type_45 : decode cX5_type 45 = .ok (.ireturn, 1) := by decide +kernel
theorem dX5_clearText_0 : decode cX5_clearText 0 = .ok (.aload_n 0, 1) := by decide +kernel
theorem dX5_clearText_1 : decode cX5_clearText 1 = .ok (.getfield 36, 3) := by decide +kernel
theorem dX5_clearText_4 : decode cX5_clearText 4 = .ok (.getfield 223, 3) := by decide +kernel
theorem dX5_clearText_7 : decode cX5_clearText 7 = .ok (.istore_n 1, 1) := by decide +kernel
theorem dX5_clearText_8 : decode cX5_clearText 8 = .ok (.aload_n 0, 1) := by decide +kernel
theorem dX5_clearText_9 : decode cX5_clearText 9 = .ok (.getfield 36, 3) := by decide +kernel
theorem dX5_clearText_12 : decode cX5_clearText 12 = .ok (.iconst 0, 1) := by decide +kernel
theorem dX5_clearText_13 : decode cX5_clearText 13 = .ok (.putfield 223, 3) := by decide +kernel
theorem dX5_clearText_16 : decode cX5_clearText 16 = .ok (.iload_n 1, 1) := by decide +kernel
theorem dX5_clearText_17 : decode cX5_clearText 17 = .ok (.ireturn, 1) := by decide +kernel
theorem dX5_syntaxError_0 : decode cX5_syntaxError 0 = .ok (.aload_n 0, 1) := by decide +kernel
theorem dX5_syntaxError_1 : decode cX5_syntaxError 1 = .ok (.getfield 36, 3) := by decide +kernel
theorem dX5_syntaxError_4 : decode cX5_syntaxError 4 = .ok (.invokevirtual 230, 3) := by decide +kernel
theorem dX5_syntaxError_7 : decode cX5_syntaxError 7 = .ok (.ireturn, 1) := by decide +kernel
theorem dX5_deliverAll_0 : decode cX5_deliverAll 0 = .ok (.aload_n 0, 1) := by decide +kernel
theorem dX5_deliverAll_1 : decode cX5_deliverAll 1 = .ok (.getfield 36, 3) := by decide +kernel
theorem dX5_deliverAll_4 : decode cX5_deliverAll 4 = .ok (.invokevirtual 230, 3) := by decide +kernel
theorem dX5_deliverAll_7 : decode cX5_deliverAll 7 = .ok (.bipush (-6), 2) := by decide +kernel
theorem dX5_deliverAll_9 : decode cX5_deliverAll 9 = .ok (.if_icmp .eq 6, 3) := by decide +kernel
theorem dX5_deliverAll_12 : decode cX5_deliverAll 12 = .ok (.bipush (-5), 2) := by decide +kernel
theorem dX5_deliverAll_14 : decode cX5_deliverAll 14 = .ok (.ireturn, 1) := by decide +kernel
theorem dX5_deliverAll_15 : decode cX5_deliverAll 15 = .ok (.aload_n 0, 1) := by decide +kernel
theorem dX5_deliverAll_16 : decode cX5_deliverAll 16 = .ok (.getfield 29, 3) := by decide +kernel
theorem dX5_deliverAll_19 : decode cX5_deliverAll 19 = .ok (.aload_n 0, 1) := by decide +kernel
theorem dX5_deliverAll_20 : decode cX5_deliverAll 20 = .ok (.getfield 10, 3) := by decide +kernel
theorem dX5_deliverAll_23 : decode cX5_deliverAll 23 = .ok (.invokevirtual 48, 3) := by decide +kernel
theorem dX5_deliverAll_26 : decode cX5_deliverAll 26 = .ok (.iconst 0, 1) := by decide +kernel
theorem dX5_deliverAll_27 : decode cX5_deliverAll 27 = .ok (.istore_n 1, 1) := by decide +kernel
theorem dX5_deliverAll_28 : decode cX5_deliverAll 28 = .ok (.aload_n 0, 1) := by decide +kernel
theorem dX5_deliverAll_29 : decode cX5_deliverAll 29 = .ok (.getfield 36, 3) := by decide +kernel
theorem dX5_deliverAll_32 : decode cX5_deliverAll 32 = .ok (.invokevirtual 233, 3) := by decide +kernel
theorem dX5_deliverAll_35 : decode cX5_deliverAll 35 = .ok (.iload_n 1, 1) := by decide +kernel
theorem dX5_deliverAll_36 : decode cX5_deliverAll 36 = .ok (.bipush 16, 2) := by decide +kernel
theorem dX5_deliverAll_38 : decode cX5_deliverAll 38 = .ok (.if_icmp .ge 85, 3) := by decide +kernel
theorem dX5_deliverAll_41 : decode cX5_deliverAll 41 = .ok (.aload_n 0, 1) := by decide +kernel
theorem dX5_deliverAll_42 : decode cX5_deliverAll 42 = .ok (.getfield 36, 3) := by decide +kernel
theorem dX5_deliverAll_45 : decode cX5_deliverAll 45 = .ok (.invokevirtual 236, 3) := by decide +kernel
theorem dX5_deliverAll_48 : decode cX5_deliverAll 48 = .ok (.ifCond .eq 75, 3) := by decide +kernel
theorem dX5_deliverAll_51 : decode cX5_deliverAll 51 = .ok (.aload_n 0, 1) := by decide +kernel
theorem dX5_deliverAll_52 : decode cX5_deliverAll 52 = .ok (.getfield 10, 3) := by decide +kernel
theorem dX5_deliverAll_55 : decode cX5_deliverAll 55 = .ok (.aload_n 0, 1) := by decide +kernel
theorem dX5_deliverAll_56 : decode cX5_deliverAll 56 = .ok (.getfield 36, 3) := by decide +kernel
theorem dX5_deliverAll_59 : decode cX5_deliverAll 59 = .ok (.getfield 240, 3) := by decide +kernel
theorem dX5_deliverAll_62 : decode cX5_deliverAll 62 = .ok (.invokevirtual 75, 3) := by decide +kernel
theorem dX5_deliverAll_65 : decode cX5_deliverAll 65 = .ok (.ifCond .eq 6, 3) := by decide +kernel
theorem dX5_deliverAll_68 : decode cX5_deliverAll 68 = .ok (.goto 55, 3) := by decide +kernel
theorem dX5_deliverAll_71 : decode cX5_deliverAll 71 = .ok (.aload_n 0, 1) := by decide +kernel
theorem dX5_deliverAll_72 : decode cX5_deliverAll 72 = .ok (.getfield 10, 3) := by decide +kernel
theorem dX5_deliverAll_75 : decode cX5_deliverAll 75 = .ok (.aload_n 0, 1) := by decide +kernel
theorem dX5_deliverAll_76 : decode cX5_deliverAll 76 = .ok (.getfield 36, 3) := by decide +kernel
theorem dX5_deliverAll_79 : decode cX5_deliverAll 79 = .ok (.getfield 241, 3) := by decide +kernel
theorem dX5_deliverAll_82 : decode cX5_deliverAll 82 = .ok (.aload_n 0, 1) := by decide +kernel
theorem dX5_deliverAll_83 : decode cX5_deliverAll 83 = .ok (.getfield 36, 3) := by decide +kernel
theorem dX5_deliverAll_86 : decode cX5_deliverAll 86 = .ok (.getfield 242, 3) := by decide +kernel
theorem dX5_deliverAll_89 : decode cX5_deliverAll 89 = .ok (.aload_n 0, 1) := by decide +kernel
theorem dX5_deliverAll_90 : decode cX5_deliverAll 90 = .ok (.getfield 36, 3) := by decide +kernel
theorem dX5_deliverAll_93 : decode cX5_deliverAll 93 = .ok (.getfield 243, 3) := by decide +kernel
theorem dX5_deliverAll_96 : decode cX5_deliverAll 96 = .ok (.aload_n 0, 1) := by decide +kernel
theorem dX5_deliverAll_97 : decode cX5_deliverAll 97 = .ok (.getfield 36, 3) := by decide +kernel
theorem dX5_deliverAll_100 : decode cX5_deliverAll 100 = .ok (.getfield 240, 3) := by decide +kernel
theorem dX5_deliverAll_103 : decode cX5_deliverAll 103 = .ok (.invokevirtual 79, 3) := by decide +kernel
theorem dX5_deliverAll_106 : decode cX5_deliverAll 106 = .ok (.pop, 1) := by decide +kernel
theorem dX5_deliverAll_107 : decode cX5_deliverAll 107 = .ok (.iinc 1 1, 3) := by decide +kernel
theorem dX5_deliverAll_110 : decode cX5_deliverAll 110 = .ok (.aload_n 0, 1) := by decide +kernel
theorem dX5_deliverAll_111 : decode cX5_deliverAll 111 = .ok (.getfield 36, 3) := by decide +kernel
theorem dX5_deliverAll_114 : decode cX5_deliverAll 114 = .ok (.bipush 59, 2) := by decide +kernel
theorem dX5_deliverAll_116 : decode cX5_deliverAll 116 = .ok (.invokevirtual 244, 3) := by decide +kernel
theorem dX5_deliverAll_119 : decode cX5_deliverAll 119 = .ok (.pop, 1) := by decide +kernel
theorem dX5_deliverAll_120 : decode cX5_deliverAll 120 = .ok (.goto (-85), 3) := by decide +kernel
theorem dX5_deliverAll_123 : decode cX5_deliverAll 123 = .ok (.aload_n 0, 1) := by decide +kernel
theorem dX5_deliverAll_124 : decode cX5_deliverAll 124 = .ok (.getfield 36, 3) := by decide +kernel
theorem dX5_deliverAll_127 : decode cX5_deliverAll 127 = .ok (.iconst 0, 1) := by decide +kernel
theorem dX5_deliverAll_128 : decode cX5_deliverAll 128 = .ok (.putfield 223, 3) := by decide +kernel
theorem dX5_deliverAll_131 : decode cX5_deliverAll 131 = .ok (.iload_n 1, 1) := by decide +kernel
theorem dX5_deliverAll_132 : decode cX5_deliverAll 132 = .ok (.ireturn, 1) := by decide +kernel
theorem dX5_undo_0 : decode cX5_undo 0 = .ok (.aload_n 0, 1) := by decide +kernel
theorem dX5_undo_1 : decode cX5_undo 1 = .ok (.getfield 29, 3) := by decide +kernel
theorem dX5_undo_4 : decode cX5_undo 4 = .ok (.getfield 248, 3) := by decide +kernel
theorem dX5_undo_7 : decode cX5_undo 7 = .ok (.ifCond .ne 6, 3) := by decide +kernel
theorem dX5_undo_10 : decode cX5_undo 10 = .ok (.bipush (-3), 2) := by decide +kernel
theorem dX5_undo_12 : decode cX5_undo 12 = .ok (.ireturn, 1) := by decide +kernel
theorem dX5_undo_13 : decode cX5_undo 13 = .ok (.aload_n 0, 1) := by decide +kernel
theorem dX5_undo_14 : decode cX5_undo 14 = .ok (.getfield 29, 3) := by decide +kernel
theorem dX5_undo_17 : decode cX5_undo 17 = .ok (.aload_n 0, 1) := by decide +kernel
theorem dX5_undo_18 : decode cX5_undo 18 = .ok (.getfield 10, 3) := by decide +kernel
theorem dX5_undo_21 : decode cX5_undo 21 = .ok (.invokevirtual 251, 3) := by decide +kernel
theorem dX5_undo_24 : decode cX5_undo 24 = .ok (.aload_n 0, 1) := by decide +kernel
theorem dX5_undo_25 : decode cX5_undo 25 = .ok (.getfield 29, 3) := by decide +kernel
theorem dX5_undo_28 : decode cX5_undo 28 = .ok (.getfield 248, 3) := by decide +kernel
theorem dX5_undo_31 : decode cX5_undo 31 = .ok (.ireturn, 1) := by decide +kernel
theorem dX5_digest_0 : decode cX5_digest 0 = .ok (.ldc2_w 254, 3) := by decide +kernel
theorem dX5_digest_3 : decode cX5_digest 3 = .ok (.lstore_n 1, 1) := by decide +kernel
theorem dX5_digest_4 : decode cX5_digest 4 = .ok (.iconst 0, 1) := by decide +kernel
theorem dX5_digest_5 : decode cX5_digest 5 = .ok (.istore_n 3, 1) := by decide +kernel
theorem dX5_digest_6 : decode cX5_digest 6 = .ok (.iload_n 3, 1) := by decide +kernel
theorem dX5_digest_7 : decode cX5_digest 7 = .ok (.bipush 11, 2) := by decide +kernel
theorem dX5_digest_9 : decode cX5_digest 9 = .ok (.if_icmp .ge 19, 3) := by decide +kernel
theorem dX5_digest_12 : decode cX5_digest 12 = .ok (.lload_n 1, 1) := by decide +kernel
theorem dX5_digest_13 : decode cX5_digest 13 = .ok (.aload_n 0, 1) := by decide +kernel
theorem dX5_digest_14 : decode cX5_digest 14 = .ok (.iload_n 3, 1) := by decide +kernel
theorem dX5_digest_15 : decode cX5_digest 15 = .ok (.invokevirtual 256, 3) := by decide +kernel
theorem dX5_digest_18 : decode cX5_digest 18 = .ok (.invokestatic 259, 3) := by decide +kernel
theorem dX5_digest_21 : decode cX5_digest 21 = .ok (.lstore_n 1, 1) := by decide +kernel
theorem dX5_digest_22 : decode cX5_digest 22 = .ok (.iinc 3 1, 3) := by decide +kernel
theorem dX5_digest_25 : decode cX5_digest 25 = .ok (.goto (-19), 3) := by decide +kernel
theorem dX5_digest_28 : decode cX5_digest 28 = .ok (.iconst 0, 1) := by decide +kernel
theorem dX5_digest_29 : decode cX5_digest 29 = .ok (.istore_n 3, 1) := by decide +kernel
theorem dX5_digest_30 : decode cX5_digest 30 = .ok (.iload_n 3, 1) := by decide +kernel
theorem dX5_digest_31 : decode cX5_digest 31 = .ok (.aload_n 0, 1) := by decide +kernel
theorem dX5_digest_32 : decode cX5_digest 32 = .ok (.getfield 10, 3) := by decide +kernel
theorem dX5_digest_35 : decode cX5_digest 35 = .ok (.getfield 161, 3) := by decide +kernel
theorem dX5_digest_38 : decode cX5_digest 38 = .ok (.if_icmp .ge 27, 3) := by decide +kernel
theorem dX5_digest_41 : decode cX5_digest 41 = .ok (.aload_n 0, 1) := by decide +kernel
theorem dX5_digest_42 : decode cX5_digest 42 = .ok (.lload_n 1, 1) := by decide +kernel
theorem dX5_digest_43 : decode cX5_digest 43 = .ok (.aload_n 0, 1) := by decide +kernel
theorem dX5_digest_44 : decode cX5_digest 44 = .ok (.getfield 10, 3) := by decide +kernel
theorem dX5_digest_47 : decode cX5_digest 47 = .ok (.getfield 219, 3) := by decide +kernel
theorem dX5_digest_50 : decode cX5_digest 50 = .ok (.iload_n 3, 1) := by decide +kernel
theorem dX5_digest_51 : decode cX5_digest 51 = .ok (.aaload, 1) := by decide +kernel
theorem dX5_digest_52 : decode cX5_digest 52 = .ok (.getfield 263, 3) := by decide +kernel
theorem dX5_digest_55 : decode cX5_digest 55 = .ok (.invokevirtual 266, 3) := by decide +kernel
theorem dX5_digest_58 : decode cX5_digest 58 = .ok (.lstore_n 1, 1) := by decide +kernel
theorem dX5_digest_59 : decode cX5_digest 59 = .ok (.iinc 3 1, 3) := by decide +kernel
theorem dX5_digest_62 : decode cX5_digest 62 = .ok (.goto (-32), 3) := by decide +kernel
theorem dX5_digest_65 : decode cX5_digest 65 = .ok (.aload_n 0, 1) := by decide +kernel
theorem dX5_digest_66 : decode cX5_digest 66 = .ok (.lload_n 1, 1) := by decide +kernel
theorem dX5_digest_67 : decode cX5_digest 67 = .ok (.invokevirtual 270, 3) := by decide +kernel
theorem dX5_digest_70 : decode cX5_digest 70 = .ok (.lstore_n 1, 1) := by decide +kernel
theorem dX5_digest_71 : decode cX5_digest 71 = .ok (.iconst 0, 1) := by decide +kernel
theorem dX5_digest_72 : decode cX5_digest 72 = .ok (.istore_n 3, 1) := by decide +kernel
theorem dX5_digest_73 : decode cX5_digest 73 = .ok (.iload_n 3, 1) := by decide +kernel
theorem dX5_digest_74 : decode cX5_digest 74 = .ok (.bipush 6, 2) := by decide +kernel
theorem dX5_digest_76 : decode cX5_digest 76 = .ok (.if_icmp .ge 37, 3) := by decide +kernel
theorem dX5_digest_79 : decode cX5_digest 79 = .ok (.iconst 0, 1) := by decide +kernel
theorem dX5_digest_80 : decode cX5_digest 80 = .ok (.istore 4, 2) := by decide +kernel
theorem dX5_digest_82 : decode cX5_digest 82 = .ok (.iload 4, 2) := by decide +kernel
theorem dX5_digest_84 : decode cX5_digest 84 = .ok (.iconst 4, 1) := by decide +kernel
theorem dX5_digest_85 : decode cX5_digest 85 = .ok (.if_icmp .ge 22, 3) := by decide +kernel
theorem dX5_digest_88 : decode cX5_digest 88 = .ok (.lload_n 1, 1) := by decide +kernel
theorem dX5_digest_89 : decode cX5_digest 89 = .ok (.aload_n 0, 1) := by decide +kernel
theorem dX5_digest_90 : decode cX5_digest 90 = .ok (.iload_n 3, 1) := by decide +kernel
theorem dX5_digest_91 : decode cX5_digest 91 = .ok (.iload 4, 2) := by decide +kernel
theorem dX5_digest_93 : decode cX5_digest 93 = .ok (.invokevirtual 274, 3) := by decide +kernel
theorem dX5_digest_96 : decode cX5_digest 96 = .ok (.i2l, 1) := by decide +kernel
theorem dX5_digest_97 : decode cX5_digest 97 = .ok (.invokestatic 259, 3) := by decide +kernel
theorem dX5_digest_100 : decode cX5_digest 100 = .ok (.lstore_n 1, 1) := by decide +kernel
theorem dX5_digest_101 : decode cX5_digest 101 = .ok (.iinc 4 1, 3) := by decide +kernel
theorem dX5_digest_104 : decode cX5_digest 104 = .ok (.goto (-22), 3) := by decide +kernel
theorem dX5_digest_107 : decode cX5_digest 107 = .ok (.iinc 3 1, 3) := by decide +kernel
theorem dX5_digest_110 : decode cX5_digest 110 = .ok (.goto (-37), 3) := by decide +kernel
theorem dX5_digest_113 : decode cX5_digest 113 = .ok (.iconst 0, 1) := by decide +kernel
theorem dX5_digest_114 : decode cX5_digest 114 = .ok (.istore_n 3, 1) := by decide +kernel
theorem dX5_digest_115 : decode cX5_digest 115 = .ok (.iload_n 3, 1) := by decide +kernel
theorem dX5_digest_116 : decode cX5_digest 116 = .ok (.bipush 10, 2) := by decide +kernel
theorem dX5_digest_118 : decode cX5_digest 118 = .ok (.if_icmp .gt 20, 3) := by decide +kernel
theorem dX5_digest_121 : decode cX5_digest 121 = .ok (.lload_n 1, 1) := by decide +kernel
theorem dX5_digest_122 : decode cX5_digest 122 = .ok (.aload_n 0, 1) := by decide +kernel
theorem dX5_digest_123 : decode cX5_digest 123 = .ok (.iload_n 3, 1) := by decide +kernel
theorem dX5_digest_124 : decode cX5_digest 124 = .ok (.invokevirtual 276, 3) := by decide +kernel
theorem dX5_digest_127 : decode cX5_digest 127 = .ok (.i2l, 1) := by decide +kernel
theorem dX5_digest_128 : decode cX5_digest 128 = .ok (.invokestatic 259, 3) := by decide +kernel
theorem dX5_digest_131 : decode cX5_digest 131 = .ok (.lstore_n 1, 1) := by decide +kernel
theorem dX5_digest_132 : decode cX5_digest 132 = .ok (.iinc 3 1, 3) := by decide +kernel
theorem dX5_digest_135 : decode cX5_digest 135 = .ok (.goto (-20), 3) := by decide +kernel
theorem dX5_digest_138 : decode cX5_digest 138 = .ok (.lload_n 1, 1) := by decide +kernel
theorem dX5_digest_139 : decode cX5_digest 139 = .ok (.aload_n 0, 1) := by decide +kernel
theorem dX5_digest_140 : decode cX5_digest 140 = .ok (.invokevirtual 279, 3) := by decide +kernel
theorem dX5_digest_143 : decode cX5_digest 143 = .ok (.invokestatic 259, 3) := by decide +kernel
theorem dX5_digest_146 : decode cX5_digest 146 = .ok (.lreturn, 1) := by decide +kernel
theorem dX5_mixedWithLot_0 : decode cX5_mixedWithLot 0 = .ok (.lload_n 1, 1) := by decide +kernel
theorem dX5_mixedWithLot_1 : decode cX5_mixedWithLot 1 = .ok (.iload_n 3, 1) := by decide +kernel
theorem dX5_mixedWithLot_2 : decode cX5_mixedWithLot 2 = .ok (.i2l, 1) := by decide +kernel
theorem dX5_mixedWithLot_3 : decode cX5_mixedWithLot 3 = .ok (.invokestatic 259, 3) := by decide +kernel
theorem dX5_mixedWithLot_6 : decode cX5_mixedWithLot 6 = .ok (.lstore 4, 2) := by decide +kernel
theorem dX5_mixedWithLot_8 : decode cX5_mixedWithLot 8 = .ok (.iconst 0, 1) := by decide +kernel
theorem dX5_mixedWithLot_9 : decode cX5_mixedWithLot 9 = .ok (.istore 6, 2) := by decide +kernel
theorem dX5_mixedWithLot_11 : decode cX5_mixedWithLot 11 = .ok (.iload 6, 2) := by decide +kernel
theorem dX5_mixedWithLot_13 : decode cX5_mixedWithLot 13 = .ok (.bipush 7, 2) := by decide +kernel
theorem dX5_mixedWithLot_15 : decode cX5_mixedWithLot 15 = .ok (.if_icmp .ge 24, 3) := by decide +kernel
theorem dX5_mixedWithLot_18 : decode cX5_mixedWithLot 18 = .ok (.lload 4, 2) := by decide +kernel
theorem dX5_mixedWithLot_20 : decode cX5_mixedWithLot 20 = .ok (.aload_n 0, 1) := by decide +kernel
theorem dX5_mixedWithLot_21 : decode cX5_mixedWithLot 21 = .ok (.iload_n 3, 1) := by decide +kernel
theorem dX5_mixedWithLot_22 : decode cX5_mixedWithLot 22 = .ok (.iload 6, 2) := by decide +kernel
theorem dX5_mixedWithLot_24 : decode cX5_mixedWithLot 24 = .ok (.invokevirtual 283, 3) := by decide +kernel
theorem dX5_mixedWithLot_27 : decode cX5_mixedWithLot 27 = .ok (.i2l, 1) := by decide +kernel
theorem dX5_mixedWithLot_28 : decode cX5_mixedWithLot 28 = .ok (.invokestatic 259, 3) := by decide +kernel
theorem dX5_mixedWithLot_31 : decode cX5_mixedWithLot 31 = .ok (.lstore 4, 2) := by decide +kernel
theorem dX5_mixedWithLot_33 : decode cX5_mixedWithLot 33 = .ok (.iinc 6 1, 3) := by decide +kernel
theorem dX5_mixedWithLot_36 : decode cX5_mixedWithLot 36 = .ok (.goto (-25), 3) := by decide +kernel
theorem dX5_mixedWithLot_39 : decode cX5_mixedWithLot 39 = .ok (.lload 4, 2) := by decide +kernel
theorem dX5_mixedWithLot_41 : decode cX5_mixedWithLot 41 = .ok (.aload_n 0, 1) := by decide +kernel
theorem dX5_mixedWithLot_42 : decode cX5_mixedWithLot 42 = .ok (.iload_n 3, 1) := by decide +kernel
theorem dX5_mixedWithLot_43 : decode cX5_mixedWithLot 43 = .ok (.invokevirtual 286, 3) := by decide +kernel
theorem dX5_mixedWithLot_46 : decode cX5_mixedWithLot 46 = .ok (.i2l, 1) := by decide +kernel
theorem dX5_mixedWithLot_47 : decode cX5_mixedWithLot 47 = .ok (.invokestatic 259, 3) := by decide +kernel
theorem dX5_mixedWithLot_50 : decode cX5_mixedWithLot 50 = .ok (.lstore 4, 2) := by decide +kernel
theorem dX5_mixedWithLot_52 : decode cX5_mixedWithLot 52 = .ok (.lload 4, 2) := by decide +kernel
theorem dX5_mixedWithLot_54 : decode cX5_mixedWithLot 54 = .ok (.aload_n 0, 1) := by decide +kernel
theorem dX5_mixedWithLot_55 : decode cX5_mixedWithLot 55 = .ok (.iload_n 3, 1) := by decide +kernel
theorem dX5_mixedWithLot_56 : decode cX5_mixedWithLot 56 = .ok (.invokevirtual 289, 3) := by decide +kernel
theorem dX5_mixedWithLot_59 : decode cX5_mixedWithLot 59 = .ok (.i2l, 1) := by decide +kernel
theorem dX5_mixedWithLot_60 : decode cX5_mixedWithLot 60 = .ok (.invokestatic 259, 3) := by decide +kernel
theorem dX5_mixedWithLot_63 : decode cX5_mixedWithLot 63 = .ok (.lreturn, 1) := by decide +kernel
theorem dX5_mixedWithPlaces_0 : decode cX5_mixedWithPlaces 0 = .ok (.lload_n 1, 1) := by decide +kernel
theorem dX5_mixedWithPlaces_1 : decode cX5_mixedWithPlaces 1 = .ok (.lstore_n 3, 1) := by decide +kernel
theorem dX5_mixedWithPlaces_2 : decode cX5_mixedWithPlaces 2 = .ok (.iconst 0, 1) := by decide +kernel
theorem dX5_mixedWithPlaces_3 : decode cX5_mixedWithPlaces 3 = .ok (.istore 5, 2) := by decide +kernel
theorem dX5_mixedWithPlaces_5 : decode cX5_mixedWithPlaces 5 = .ok (.iload 5, 2) := by decide +kernel
theorem dX5_mixedWithPlaces_7 : decode cX5_mixedWithPlaces 7 = .ok (.bipush 6, 2) := by decide +kernel
theorem dX5_mixedWithPlaces_9 : decode cX5_mixedWithPlaces 9 = .ok (.if_icmp .ge 38, 3) := by decide +kernel
theorem dX5_mixedWithPlaces_12 : decode cX5_mixedWithPlaces 12 = .ok (.iconst 0, 1) := by decide +kernel
theorem dX5_mixedWithPlaces_13 : decode cX5_mixedWithPlaces 13 = .ok (.istore 6, 2) := by decide +kernel
theorem dX5_mixedWithPlaces_15 : decode cX5_mixedWithPlaces 15 = .ok (.iload 6, 2) := by decide +kernel
theorem dX5_mixedWithPlaces_17 : decode cX5_mixedWithPlaces 17 = .ok (.iconst 4, 1) := by decide +kernel
theorem dX5_mixedWithPlaces_18 : decode cX5_mixedWithPlaces 18 = .ok (.if_icmp .ge 23, 3) := by decide +kernel
theorem dX5_mixedWithPlaces_21 : decode cX5_mixedWithPlaces 21 = .ok (.lload_n 3, 1) := by decide +kernel
theorem dX5_mixedWithPlaces_22 : decode cX5_mixedWithPlaces 22 = .ok (.aload_n 0, 1) := by decide +kernel
theorem dX5_mixedWithPlaces_23 : decode cX5_mixedWithPlaces 23 = .ok (.iload 5, 2) := by decide +kernel
theorem dX5_mixedWithPlaces_25 : decode cX5_mixedWithPlaces 25 = .ok (.iload 6, 2) := by decide +kernel
theorem dX5_mixedWithPlaces_27 : decode cX5_mixedWithPlaces 27 = .ok (.invokevirtual 292, 3) := by decide +kernel
theorem dX5_mixedWithPlaces_30 : decode cX5_mixedWithPlaces 30 = .ok (.i2l, 1) := by decide +kernel
theorem dX5_mixedWithPlaces_31 : decode cX5_mixedWithPlaces 31 = .ok (.invokestatic 259, 3) := by decide +kernel
theorem dX5_mixedWithPlaces_34 : decode cX5_mixedWithPlaces 34 = .ok (.lstore_n 3, 1) := by decide +kernel
theorem dX5_mixedWithPlaces_35 : decode cX5_mixedWithPlaces 35 = .ok (.iinc 6 1, 3) := by decide +kernel
theorem dX5_mixedWithPlaces_38 : decode cX5_mixedWithPlaces 38 = .ok (.goto (-23), 3) := by decide +kernel
theorem dX5_mixedWithPlaces_41 : decode cX5_mixedWithPlaces 41 = .ok (.iinc 5 1, 3) := by decide +kernel
theorem dX5_mixedWithPlaces_44 : decode cX5_mixedWithPlaces 44 = .ok (.goto (-39), 3) := by decide +kernel
theorem dX5_mixedWithPlaces_47 : decode cX5_mixedWithPlaces 47 = .ok (.iconst 0, 1) := by decide +kernel
theorem dX5_mixedWithPlaces_48 : decode cX5_mixedWithPlaces 48 = .ok (.istore 5, 2) := by decide +kernel
theorem dX5_mixedWithPlaces_50 : decode cX5_mixedWithPlaces 50 = .ok (.iload 5, 2) := by decide +kernel
theorem dX5_mixedWithPlaces_52 : decode cX5_mixedWithPlaces 52 = .ok (.iconst 5, 1) := by decide +kernel
theorem dX5_mixedWithPlaces_53 : decode cX5_mixedWithPlaces 53 = .ok (.if_icmp .ge 38, 3) := by decide +kernel
theorem dX5_mixedWithPlaces_56 : decode cX5_mixedWithPlaces 56 = .ok (.iconst 0, 1) := by decide +kernel
theorem dX5_mixedWithPlaces_57 : decode cX5_mixedWithPlaces 57 = .ok (.istore 6, 2) := by decide +kernel
theorem dX5_mixedWithPlaces_59 : decode cX5_mixedWithPlaces 59 = .ok (.iload 6, 2) := by decide +kernel
theorem dX5_mixedWithPlaces_61 : decode cX5_mixedWithPlaces 61 = .ok (.iconst 2, 1) := by decide +kernel
theorem dX5_mixedWithPlaces_62 : decode cX5_mixedWithPlaces 62 = .ok (.if_icmp .ge 23, 3) := by decide +kernel
theorem dX5_mixedWithPlaces_65 : decode cX5_mixedWithPlaces 65 = .ok (.lload_n 3, 1) := by decide +kernel
theorem dX5_mixedWithPlaces_66 : decode cX5_mixedWithPlaces 66 = .ok (.aload_n 0, 1) := by decide +kernel
theorem dX5_mixedWithPlaces_67 : decode cX5_mixedWithPlaces 67 = .ok (.iload 5, 2) := by decide +kernel
theorem dX5_mixedWithPlaces_69 : decode cX5_mixedWithPlaces 69 = .ok (.iload 6, 2) := by decide +kernel
theorem dX5_mixedWithPlaces_71 : decode cX5_mixedWithPlaces 71 = .ok (.invokevirtual 294, 3) := by decide +kernel
theorem dX5_mixedWithPlaces_74 : decode cX5_mixedWithPlaces 74 = .ok (.i2l, 1) := by decide +kernel
theorem dX5_mixedWithPlaces_75 : decode cX5_mixedWithPlaces 75 = .ok (.invokestatic 259, 3) := by decide +kernel
theorem dX5_mixedWithPlaces_78 : decode cX5_mixedWithPlaces 78 = .ok (.lstore_n 3, 1) := by decide +kernel
theorem dX5_mixedWithPlaces_79 : decode cX5_mixedWithPlaces 79 = .ok (.iinc 6 1, 3) := by decide +kernel
theorem dX5_mixedWithPlaces_82 : decode cX5_mixedWithPlaces 82 = .ok (.goto (-23), 3) := by decide +kernel
theorem dX5_mixedWithPlaces_85 : decode cX5_mixedWithPlaces 85 = .ok (.iinc 5 1, 3) := by decide +kernel
theorem dX5_mixedWithPlaces_88 : decode cX5_mixedWithPlaces 88 = .ok (.goto (-38), 3) := by decide +kernel
theorem dX5_mixedWithPlaces_91 : decode cX5_mixedWithPlaces 91 = .ok (.lload_n 3, 1) := by decide +kernel
theorem dX5_mixedWithPlaces_92 : decode cX5_mixedWithPlaces 92 = .ok (.lreturn, 1) := by decide +kernel
theorem dX5_mixed_0 : decode cX5_mixed 0 = .ok (.ldc2_w 296, 3) := by decide +kernel
theorem dX5_mixed_3 : decode cX5_mixed 3 = .ok (.lload_n 0, 1) := by decide +kernel
theorem dX5_mixed_4 : decode cX5_mixed 4 = .ok (.lmul, 1) := by decide +kernel
theorem dX5_mixed_5 : decode cX5_mixed 5 = .ok (.lload_n 2, 1) := by decide +kernel
theorem dX5_mixed_6 : decode cX5_mixed 6 = .ok (.ladd, 1) := by decide +kernel
theorem dX5_mixed_7 : decode cX5_mixed 7 = .ok (.lreturn, 1) := by decide +kernel
theorem dX5_within_0 : decode cX5_within 0 = .ok (.iload_n 1, 1) := by decide +kernel
theorem dX5_within_1 : decode cX5_within 1 = .ok (.iload_n 0, 1) := by decide +kernel
theorem dX5_within_2 : decode cX5_within 2 = .ok (.if_icmp .gt 12, 3) := by decide +kernel
theorem dX5_within_5 : decode cX5_within 5 = .ok (.iload_n 0, 1) := by decide +kernel
theorem dX5_within_6 : decode cX5_within 6 = .ok (.iload_n 2, 1) := by decide +kernel
theorem dX5_within_7 : decode cX5_within 7 = .ok (.if_icmp .gt 7, 3) := by decide +kernel
theorem dX5_within_10 : decode cX5_within 10 = .ok (.iconst 1, 1) := by decide +kernel
theorem dX5_within_11 : decode cX5_within 11 = .ok (.goto 4, 3) := by decide +kernel
theorem dX5_within_14 : decode cX5_within 14 = .ok (.iconst 0, 1) := by decide +kernel
theorem dX5_within_15 : decode cX5_within 15 = .ok (.ireturn, 1) := by decide +kernel
theorem dX5_isKind_0 : decode cX5_isKind 0 = .ok (.iload_n 0, 1) := by decide +kernel
theorem dX5_isKind_1 : decode cX5_isKind 1 = .ok (.iconst 0, 1) := by decide +kernel
theorem dX5_isKind_2 : decode cX5_isKind 2 = .ok (.iconst 5, 1) := by decide +kernel
theorem dX5_isKind_3 : decode cX5_isKind 3 = .ok (.invokestatic 44, 3) := by decide +kernel
theorem dX5_isKind_6 : decode cX5_isKind 6 = .ok (.ireturn, 1) := by decide +kernel
theorem dX5_isBox_0 : decode cX5_isBox 0 = .ok (.iload_n 0, 1) := by decide +kernel
theorem dX5_isBox_1 : decode cX5_isBox 1 = .ok (.iconst 0, 1) := by decide +kernel
theorem dX5_isBox_2 : decode cX5_isBox 2 = .ok (.iconst 5, 1) := by decide +kernel
theorem dX5_isBox_3 : decode cX5_isBox 3 = .ok (.invokestatic 44, 3) := by decide +kernel
theorem dX5_isBox_6 : decode cX5_isBox 6 = .ok (.ireturn, 1) := by decide +kernel
theorem dX5_isTray_0 : decode cX5_isTray 0 = .ok (.iload_n 0, 1) := by decide +kernel
theorem dX5_isTray_1 : decode cX5_isTray 1 = .ok (.iconst 0, 1) := by decide +kernel
theorem dX5_isTray_2 : decode cX5_isTray 2 = .ok (.iconst 4, 1) := by decide +kernel
theorem dX5_isTray_3 : decode cX5_isTray 3 = .ok (.invokestatic 44, 3) := by decide +kernel
theorem dX5_isTray_6 : decode cX5_isTray 6 = .ok (.ireturn, 1) := by decide +kernel
theorem dX5_isHour_0 : decode cX5_isHour 0 = .ok (.iload_n 0, 1) := by decide +kernel
theorem dX5_isHour_1 : decode cX5_isHour 1 = .ok (.iconst 0, 1) := by decide +kernel
theorem dX5_isHour_2 : decode cX5_isHour 2 = .ok (.bipush 10, 2) := by decide +kernel
theorem dX5_isHour_4 : decode cX5_isHour 4 = .ok (.invokestatic 44, 3) := by decide +kernel
theorem dX5_isHour_7 : decode cX5_isHour 7 = .ok (.ireturn, 1) := by decide +kernel
theorem dX5_moneyFor_0 : decode cX5_moneyFor 0 = .ok (.iload_n 0, 1) := by decide +kernel
theorem dX5_moneyFor_1 : decode cX5_moneyFor 1 = .ok (.iload_n 1, 1) := by decide +kernel
theorem dX5_moneyFor_2 : decode cX5_moneyFor 2 = .ok (.imul, 1) := by decide +kernel
theorem dX5_moneyFor_3 : decode cX5_moneyFor 3 = .ok (.sipush 1000, 3) := by decide +kernel
theorem dX5_moneyFor_6 : decode cX5_moneyFor 6 = .ok (.idiv, 1) := by decide +kernel
theorem dX5_moneyFor_7 : decode cX5_moneyFor 7 = .ok (.ireturn, 1) := by decide +kernel
theorem dX5_freshAnHourLater_0 : decode cX5_freshAnHourLater 0 = .ok (.iload_n 1, 1) := by decide +kernel
theorem dX5_freshAnHourLater_1 : decode cX5_freshAnHourLater 1 = .ok (.ifCond .eq 17, 3) := by decide +kernel
theorem dX5_freshAnHourLater_4 : decode cX5_freshAnHourLater 4 = .ok (.iload_n 2, 1) := by decide +kernel
theorem dX5_freshAnHourLater_5 : decode cX5_freshAnHourLater 5 = .ok (.ifCond .le 7, 3) := by decide +kernel
theorem dX5_freshAnHourLater_8 : decode cX5_freshAnHourLater 8 = .ok (.iconst 2, 1) := by decide +kernel
theorem dX5_freshAnHourLater_9 : decode cX5_freshAnHourLater 9 = .ok (.goto 5, 3) := by decide +kernel
theorem dX5_freshAnHourLater_12 : decode cX5_freshAnHourLater 12 = .ok (.bipush 9, 2) := by decide +kernel
theorem dX5_freshAnHourLater_14 : decode cX5_freshAnHourLater 14 = .ok (.istore_n 3, 1) := by decide +kernel
theorem dX5_freshAnHourLater_15 : decode cX5_freshAnHourLater 15 = .ok (.goto 14, 3) := by decide +kernel
theorem dX5_freshAnHourLater_18 : decode cX5_freshAnHourLater 18 = .ok (.iload_n 2, 1) := by decide +kernel
theorem dX5_freshAnHourLater_19 : decode cX5_freshAnHourLater 19 = .ok (.ifCond .le 7, 3) := by decide +kernel
theorem dX5_freshAnHourLater_22 : decode cX5_freshAnHourLater 22 = .ok (.iconst 1, 1) := by decide +kernel
theorem dX5_freshAnHourLater_23 : decode cX5_freshAnHourLater 23 = .ok (.goto 5, 3) := by decide +kernel
theorem dX5_freshAnHourLater_26 : decode cX5_freshAnHourLater 26 = .ok (.bipush 6, 2) := by decide +kernel
theorem dX5_freshAnHourLater_28 : decode cX5_freshAnHourLater 28 = .ok (.istore_n 3, 1) := by decide +kernel
theorem dX5_freshAnHourLater_29 : decode cX5_freshAnHourLater 29 = .ok (.iconst 0, 1) := by decide +kernel
theorem dX5_freshAnHourLater_30 : decode cX5_freshAnHourLater 30 = .ok (.iload_n 0, 1) := by decide +kernel
theorem dX5_freshAnHourLater_31 : decode cX5_freshAnHourLater 31 = .ok (.iload_n 3, 1) := by decide +kernel
theorem dX5_freshAnHourLater_32 : decode cX5_freshAnHourLater 32 = .ok (.isub, 1) := by decide +kernel
theorem dX5_freshAnHourLater_33 : decode cX5_freshAnHourLater 33 = .ok (.invokestatic 298, 3) := by decide +kernel
theorem dX5_freshAnHourLater_36 : decode cX5_freshAnHourLater 36 = .ok (.ireturn, 1) := by decide +kernel
theorem dX5_iceAnHourLater_0 : decode cX5_iceAnHourLater 0 = .ok (.iconst 0, 1) := by decide +kernel
theorem dX5_iceAnHourLater_1 : decode cX5_iceAnHourLater 1 = .ok (.iload_n 0, 1) := by decide +kernel
theorem dX5_iceAnHourLater_2 : decode cX5_iceAnHourLater 2 = .ok (.iload_n 1, 1) := by decide +kernel
theorem dX5_iceAnHourLater_3 : decode cX5_iceAnHourLater 3 = .ok (.ifCond .eq 9, 3) := by decide +kernel
theorem dX5_iceAnHourLater_6 : decode cX5_iceAnHourLater 6 = .ok (.iconst 2, 1) := by decide +kernel
theorem dX5_iceAnHourLater_7 : decode cX5_iceAnHourLater 7 = .ok (.iload_n 2, 1) := by decide +kernel
theorem dX5_iceAnHourLater_8 : decode cX5_iceAnHourLater 8 = .ok (.imul, 1) := by decide +kernel
theorem dX5_iceAnHourLater_9 : decode cX5_iceAnHourLater 9 = .ok (.goto 4, 3) := by decide +kernel
theorem dX5_iceAnHourLater_12 : decode cX5_iceAnHourLater 12 = .ok (.iload_n 2, 1) := by decide +kernel
theorem dX5_iceAnHourLater_13 : decode cX5_iceAnHourLater 13 = .ok (.isub, 1) := by decide +kernel
theorem dX5_iceAnHourLater_14 : decode cX5_iceAnHourLater 14 = .ok (.invokestatic 298, 3) := by decide +kernel
theorem dX5_iceAnHourLater_17 : decode cX5_iceAnHourLater 17 = .ok (.ireturn, 1) := by decide +kernel
theorem dJ9_max_7cf53_0 : decode cJ9_max_7cf53 0 = .ok (.iload_n 0, 1) := by decide +kernel
theorem dJ9_max_7cf53_1 : decode cJ9_max_7cf53 1 = .ok (.iload_n 1, 1) := by decide +kernel
theorem dJ9_max_7cf53_2 : decode cJ9_max_7cf53 2 = .ok (.if_icmp .lt 7, 3) := by decide +kernel
theorem dJ9_max_7cf53_5 : decode cJ9_max_7cf53 5 = .ok (.iload_n 0, 1) := by decide +kernel
theorem dJ9_max_7cf53_6 : decode cJ9_max_7cf53 6 = .ok (.goto 4, 3) := by decide +kernel
theorem dJ9_max_7cf53_9 : decode cJ9_max_7cf53 9 = .ok (.iload_n 1, 1) := by decide +kernel
theorem dJ9_max_7cf53_10 : decode cJ9_max_7cf53 10 = .ok (.ireturn, 1) := by decide +kernel
theorem dJ9_min_7cf53_0 : decode cJ9_min_7cf53 0 = .ok (.iload_n 0, 1) := by decide +kernel
theorem dJ9_min_7cf53_1 : decode cJ9_min_7cf53 1 = .ok (.iload_n 1, 1) := by decide +kernel
theorem dJ9_min_7cf53_2 : decode cJ9_min_7cf53 2 = .ok (.if_icmp .gt 7, 3) := by decide +kernel
theorem dJ9_min_7cf53_5 : decode cJ9_min_7cf53 5 = .ok (.iload_n 0, 1) := by decide +kernel
theorem dJ9_min_7cf53_6 : decode cJ9_min_7cf53 6 = .ok (.goto 4, 3) := by decide +kernel
theorem dJ9_min_7cf53_9 : decode cJ9_min_7cf53 9 = .ok (.iload_n 1, 1) := by decide +kernel
theorem dJ9_min_7cf53_10 : decode cJ9_min_7cf53 10 = .ok (.ireturn, 1) := by decide +kernel
theorem dL_law_0 : decode cL_law 0 = .ok (.new 7, 3) := by decide +kernel
theorem dL_law_3 : decode cL_law 3 = .ok (.dup, 1) := by decide +kernel
theorem dL_law_4 : decode cL_law 4 = .ok (.invokespecial 9, 3) := by decide +kernel
theorem dL_law_7 : decode cL_law 7 = .ok (.astore_n 1, 1) := by decide +kernel
theorem dL_law_8 : decode cL_law 8 = .ok (.new 10, 3) := by decide +kernel
theorem dL_law_11 : decode cL_law 11 = .ok (.dup, 1) := by decide +kernel
theorem dL_law_12 : decode cL_law 12 = .ok (.invokespecial 12, 3) := by decide +kernel
theorem dL_law_15 : decode cL_law 15 = .ok (.astore_n 2, 1) := by decide +kernel
theorem dL_law_16 : decode cL_law 16 = .ok (.iconst 0, 1) := by decide +kernel
theorem dL_law_17 : decode cL_law 17 = .ok (.istore_n 3, 1) := by decide +kernel
theorem dL_law_18 : decode cL_law 18 = .ok (.iload_n 3, 1) := by decide +kernel
theorem dL_law_19 : decode cL_law 19 = .ok (.aload_n 0, 1) := by decide +kernel
theorem dL_law_20 : decode cL_law 20 = .ok (.arraylength, 1) := by decide +kernel
theorem dL_law_21 : decode cL_law 21 = .ok (.iconst 5, 1) := by decide +kernel
theorem dL_law_22 : decode cL_law 22 = .ok (.isub, 1) := by decide +kernel
theorem dL_law_23 : decode cL_law 23 = .ok (.if_icmp .gt 974, 3) := by decide +kernel
theorem dL_law_26 : decode cL_law 26 = .ok (.aload_n 0, 1) := by decide +kernel
theorem dL_law_27 : decode cL_law 27 = .ok (.iload_n 3, 1) := by decide +kernel
theorem dL_law_28 : decode cL_law 28 = .ok (.iaload, 1) := by decide +kernel
theorem dL_law_29 : decode cL_law 29 = .ok (.bipush 31, 2) := by decide +kernel
theorem dL_law_31 : decode cL_law 31 = .ok (.iand, 1) := by decide +kernel
theorem dL_law_32 : decode cL_law 32 = .ok (.tableswitch 959 0 29 #[136, 179, 212, 245, 298, 331, 364, 397, 430, 473, 496, 549, 562, 575, 599, 632, 665, 698, 731, 754, 787, 810, 833, 856, 870, 893, 906, 919, 932, 945], 136) := by decide +kernel
theorem dL_law_168 : decode cL_law 168 = .ok (.aload_n 1, 1) := by decide +kernel
theorem dL_law_169 : decode cL_law 169 = .ok (.aload_n 0, 1) := by decide +kernel
theorem dL_law_170 : decode cL_law 170 = .ok (.iload_n 3, 1) := by decide +kernel
theorem dL_law_171 : decode cL_law 171 = .ok (.iconst 1, 1) := by decide +kernel
theorem dL_law_172 : decode cL_law 172 = .ok (.iadd, 1) := by decide +kernel
theorem dL_law_173 : decode cL_law 173 = .ok (.iaload, 1) := by decide +kernel
theorem dL_law_174 : decode cL_law 174 = .ok (.aload_n 0, 1) := by decide +kernel
theorem dL_law_175 : decode cL_law 175 = .ok (.iload_n 3, 1) := by decide +kernel
theorem dL_law_176 : decode cL_law 176 = .ok (.iconst 2, 1) := by decide +kernel
theorem dL_law_177 : decode cL_law 177 = .ok (.iadd, 1) := by decide +kernel
theorem dL_law_178 : decode cL_law 178 = .ok (.iaload, 1) := by decide +kernel
theorem dL_law_179 : decode cL_law 179 = .ok (.aload_n 0, 1) := by decide +kernel
theorem dL_law_180 : decode cL_law 180 = .ok (.iload_n 3, 1) := by decide +kernel
theorem dL_law_181 : decode cL_law 181 = .ok (.iconst 3, 1) := by decide +kernel
theorem dL_law_182 : decode cL_law 182 = .ok (.iadd, 1) := by decide +kernel
theorem dL_law_183 : decode cL_law 183 = .ok (.iaload, 1) := by decide +kernel
theorem dL_law_184 : decode cL_law 184 = .ok (.invokevirtual 13, 3) := by decide +kernel
theorem dL_law_187 : decode cL_law 187 = .ok (.aload_n 2, 1) := by decide +kernel
theorem dL_law_188 : decode cL_law 188 = .ok (.aload_n 0, 1) := by decide +kernel
theorem dL_law_189 : decode cL_law 189 = .ok (.iload_n 3, 1) := by decide +kernel
theorem dL_law_190 : decode cL_law 190 = .ok (.iconst 1, 1) := by decide +kernel
theorem dL_law_191 : decode cL_law 191 = .ok (.iadd, 1) := by decide +kernel
theorem dL_law_192 : decode cL_law 192 = .ok (.iaload, 1) := by decide +kernel
theorem dL_law_193 : decode cL_law 193 = .ok (.aload_n 0, 1) := by decide +kernel
theorem dL_law_194 : decode cL_law 194 = .ok (.iload_n 3, 1) := by decide +kernel
theorem dL_law_195 : decode cL_law 195 = .ok (.iconst 2, 1) := by decide +kernel
theorem dL_law_196 : decode cL_law 196 = .ok (.iadd, 1) := by decide +kernel
theorem dL_law_197 : decode cL_law 197 = .ok (.iaload, 1) := by decide +kernel
theorem dL_law_198 : decode cL_law 198 = .ok (.aload_n 0, 1) := by decide +kernel
theorem dL_law_199 : decode cL_law 199 = .ok (.iload_n 3, 1) := by decide +kernel
theorem dL_law_200 : decode cL_law 200 = .ok (.iconst 3, 1) := by decide +kernel
theorem dL_law_201 : decode cL_law 201 = .ok (.iadd, 1) := by decide +kernel
theorem dL_law_202 : decode cL_law 202 = .ok (.iaload, 1) := by decide +kernel
theorem dL_law_203 : decode cL_law 203 = .ok (.invokevirtual 17, 3) := by decide +kernel
theorem dL_law_206 : decode cL_law 206 = .ok (.if_icmp .eq 785, 3) := by decide +kernel
theorem dL_law_209 : decode cL_law 209 = .ok (.iconst 0, 1) := by decide +kernel
theorem dL_law_210 : decode cL_law 210 = .ok (.ireturn, 1) := by decide +kernel
theorem dL_law_211 : decode cL_law 211 = .ok (.aload_n 1, 1) := by decide +kernel
theorem dL_law_212 : decode cL_law 212 = .ok (.aload_n 0, 1) := by decide +kernel
theorem dL_law_213 : decode cL_law 213 = .ok (.iload_n 3, 1) := by decide +kernel
theorem dL_law_214 : decode cL_law 214 = .ok (.iconst 1, 1) := by decide +kernel
theorem dL_law_215 : decode cL_law 215 = .ok (.iadd, 1) := by decide +kernel
theorem dL_law_216 : decode cL_law 216 = .ok (.iaload, 1) := by decide +kernel
theorem dL_law_217 : decode cL_law 217 = .ok (.aload_n 0, 1) := by decide +kernel
theorem dL_law_218 : decode cL_law 218 = .ok (.iload_n 3, 1) := by decide +kernel
theorem dL_law_219 : decode cL_law 219 = .ok (.iconst 2, 1) := by decide +kernel
theorem dL_law_220 : decode cL_law 220 = .ok (.iadd, 1) := by decide +kernel
theorem dL_law_221 : decode cL_law 221 = .ok (.iaload, 1) := by decide +kernel
theorem dL_law_222 : decode cL_law 222 = .ok (.invokevirtual 18, 3) := by decide +kernel
theorem dL_law_225 : decode cL_law 225 = .ok (.aload_n 2, 1) := by decide +kernel
theorem dL_law_226 : decode cL_law 226 = .ok (.aload_n 0, 1) := by decide +kernel
theorem dL_law_227 : decode cL_law 227 = .ok (.iload_n 3, 1) := by decide +kernel
theorem dL_law_228 : decode cL_law 228 = .ok (.iconst 1, 1) := by decide +kernel
theorem dL_law_229 : decode cL_law 229 = .ok (.iadd, 1) := by decide +kernel
theorem dL_law_230 : decode cL_law 230 = .ok (.iaload, 1) := by decide +kernel
theorem dL_law_231 : decode cL_law 231 = .ok (.aload_n 0, 1) := by decide +kernel
theorem dL_law_232 : decode cL_law 232 = .ok (.iload_n 3, 1) := by decide +kernel
theorem dL_law_233 : decode cL_law 233 = .ok (.iconst 2, 1) := by decide +kernel
theorem dL_law_234 : decode cL_law 234 = .ok (.iadd, 1) := by decide +kernel
theorem dL_law_235 : decode cL_law 235 = .ok (.iaload, 1) := by decide +kernel
theorem dL_law_236 : decode cL_law 236 = .ok (.invokevirtual 22, 3) := by decide +kernel
theorem dL_law_239 : decode cL_law 239 = .ok (.if_icmp .eq 752, 3) := by decide +kernel
theorem dL_law_242 : decode cL_law 242 = .ok (.iconst 0, 1) := by decide +kernel
theorem dL_law_243 : decode cL_law 243 = .ok (.ireturn, 1) := by decide +kernel
theorem dL_law_244 : decode cL_law 244 = .ok (.aload_n 1, 1) := by decide +kernel
theorem dL_law_245 : decode cL_law 245 = .ok (.aload_n 0, 1) := by decide +kernel
theorem dL_law_246 : decode cL_law 246 = .ok (.iload_n 3, 1) := by decide +kernel
theorem dL_law_247 : decode cL_law 247 = .ok (.iconst 1, 1) := by decide +kernel
theorem dL_law_248 : decode cL_law 248 = .ok (.iadd, 1) := by decide +kernel
theorem dL_law_249 : decode cL_law 249 = .ok (.iaload, 1) := by decide +kernel
theorem dL_law_250 : decode cL_law 250 = .ok (.aload_n 0, 1) := by decide +kernel
theorem dL_law_251 : decode cL_law 251 = .ok (.iload_n 3, 1) := by decide +kernel
theorem dL_law_252 : decode cL_law 252 = .ok (.iconst 2, 1) := by decide +kernel
theorem dL_law_253 : decode cL_law 253 = .ok (.iadd, 1) := by decide +kernel
theorem dL_law_254 : decode cL_law 254 = .ok (.iaload, 1) := by decide +kernel
theorem dL_law_255 : decode cL_law 255 = .ok (.invokevirtual 23, 3) := by decide +kernel
theorem dL_law_258 : decode cL_law 258 = .ok (.aload_n 2, 1) := by decide +kernel
theorem dL_law_259 : decode cL_law 259 = .ok (.aload_n 0, 1) := by decide +kernel
theorem dL_law_260 : decode cL_law 260 = .ok (.iload_n 3, 1) := by decide +kernel
theorem dL_law_261 : decode cL_law 261 = .ok (.iconst 1, 1) := by decide +kernel
theorem dL_law_262 : decode cL_law 262 = .ok (.iadd, 1) := by decide +kernel
theorem dL_law_263 : decode cL_law 263 = .ok (.iaload, 1) := by decide +kernel
theorem dL_law_264 : decode cL_law 264 = .ok (.aload_n 0, 1) := by decide +kernel
theorem dL_law_265 : decode cL_law 265 = .ok (.iload_n 3, 1) := by decide +kernel
theorem dL_law_266 : decode cL_law 266 = .ok (.iconst 2, 1) := by decide +kernel
theorem dL_law_267 : decode cL_law 267 = .ok (.iadd, 1) := by decide +kernel
theorem dL_law_268 : decode cL_law 268 = .ok (.iaload, 1) := by decide +kernel
theorem dL_law_269 : decode cL_law 269 = .ok (.invokevirtual 26, 3) := by decide +kernel
theorem dL_law_272 : decode cL_law 272 = .ok (.if_icmp .eq 719, 3) := by decide +kernel
theorem dL_law_275 : decode cL_law 275 = .ok (.iconst 0, 1) := by decide +kernel
theorem dL_law_276 : decode cL_law 276 = .ok (.ireturn, 1) := by decide +kernel
theorem dL_law_277 : decode cL_law 277 = .ok (.aload_n 1, 1) := by decide +kernel
theorem dL_law_278 : decode cL_law 278 = .ok (.aload_n 0, 1) := by decide +kernel
theorem dL_law_279 : decode cL_law 279 = .ok (.iload_n 3, 1) := by decide +kernel
theorem dL_law_280 : decode cL_law 280 = .ok (.iconst 1, 1) := by decide +kernel
theorem dL_law_281 : decode cL_law 281 = .ok (.iadd, 1) := by decide +kernel
theorem dL_law_282 : decode cL_law 282 = .ok (.iaload, 1) := by decide +kernel
theorem dL_law_283 : decode cL_law 283 = .ok (.aload_n 0, 1) := by decide +kernel
theorem dL_law_284 : decode cL_law 284 = .ok (.iload_n 3, 1) := by decide +kernel
theorem dL_law_285 : decode cL_law 285 = .ok (.iconst 2, 1) := by decide +kernel
theorem dL_law_286 : decode cL_law 286 = .ok (.iadd, 1) := by decide +kernel
theorem dL_law_287 : decode cL_law 287 = .ok (.iaload, 1) := by decide +kernel
theorem dL_law_288 : decode cL_law 288 = .ok (.aload_n 0, 1) := by decide +kernel
theorem dL_law_289 : decode cL_law 289 = .ok (.iload_n 3, 1) := by decide +kernel
theorem dL_law_290 : decode cL_law 290 = .ok (.iconst 3, 1) := by decide +kernel
theorem dL_law_291 : decode cL_law 291 = .ok (.iadd, 1) := by decide +kernel
theorem dL_law_292 : decode cL_law 292 = .ok (.iaload, 1) := by decide +kernel
theorem dL_law_293 : decode cL_law 293 = .ok (.aload_n 0, 1) := by decide +kernel
theorem dL_law_294 : decode cL_law 294 = .ok (.iload_n 3, 1) := by decide +kernel
theorem dL_law_295 : decode cL_law 295 = .ok (.iconst 4, 1) := by decide +kernel
theorem dL_law_296 : decode cL_law 296 = .ok (.iadd, 1) := by decide +kernel
theorem dL_law_297 : decode cL_law 297 = .ok (.iaload, 1) := by decide +kernel
theorem dL_law_298 : decode cL_law 298 = .ok (.invokevirtual 27, 3) := by decide +kernel
theorem dL_law_301 : decode cL_law 301 = .ok (.aload_n 2, 1) := by decide +kernel
theorem dL_law_302 : decode cL_law 302 = .ok (.aload_n 0, 1) := by decide +kernel
theorem dL_law_303 : decode cL_law 303 = .ok (.iload_n 3, 1) := by decide +kernel
theorem dL_law_304 : decode cL_law 304 = .ok (.iconst 1, 1) := by decide +kernel
theorem dL_law_305 : decode cL_law 305 = .ok (.iadd, 1) := by decide +kernel
theorem dL_law_306 : decode cL_law 306 = .ok (.iaload, 1) := by decide +kernel
theorem dL_law_307 : decode cL_law 307 = .ok (.aload_n 0, 1) := by decide +kernel
theorem dL_law_308 : decode cL_law 308 = .ok (.iload_n 3, 1) := by decide +kernel
theorem dL_law_309 : decode cL_law 309 = .ok (.iconst 2, 1) := by decide +kernel
theorem dL_law_310 : decode cL_law 310 = .ok (.iadd, 1) := by decide +kernel
theorem dL_law_311 : decode cL_law 311 = .ok (.iaload, 1) := by decide +kernel
theorem dL_law_312 : decode cL_law 312 = .ok (.aload_n 0, 1) := by decide +kernel
theorem dL_law_313 : decode cL_law 313 = .ok (.iload_n 3, 1) := by decide +kernel
theorem dL_law_314 : decode cL_law 314 = .ok (.iconst 3, 1) := by decide +kernel
theorem dL_law_315 : decode cL_law 315 = .ok (.iadd, 1) := by decide +kernel
theorem dL_law_316 : decode cL_law 316 = .ok (.iaload, 1) := by decide +kernel
theorem dL_law_317 : decode cL_law 317 = .ok (.aload_n 0, 1) := by decide +kernel
theorem dL_law_318 : decode cL_law 318 = .ok (.iload_n 3, 1) := by decide +kernel
theorem dL_law_319 : decode cL_law 319 = .ok (.iconst 4, 1) := by decide +kernel
theorem dL_law_320 : decode cL_law 320 = .ok (.iadd, 1) := by decide +kernel
theorem dL_law_321 : decode cL_law 321 = .ok (.iaload, 1) := by decide +kernel
theorem dL_law_322 : decode cL_law 322 = .ok (.invokevirtual 31, 3) := by decide +kernel
theorem dL_law_325 : decode cL_law 325 = .ok (.if_icmp .eq 666, 3) := by decide +kernel
theorem dL_law_328 : decode cL_law 328 = .ok (.iconst 0, 1) := by decide +kernel
theorem dL_law_329 : decode cL_law 329 = .ok (.ireturn, 1) := by decide +kernel
theorem dL_law_330 : decode cL_law 330 = .ok (.aload_n 1, 1) := by decide +kernel
theorem dL_law_331 : decode cL_law 331 = .ok (.aload_n 0, 1) := by decide +kernel
theorem dL_law_332 : decode cL_law 332 = .ok (.iload_n 3, 1) := by decide +kernel
theorem dL_law_333 : decode cL_law 333 = .ok (.iconst 1, 1) := by decide +kernel
theorem dL_law_334 : decode cL_law 334 = .ok (.iadd, 1) := by decide +kernel
theorem dL_law_335 : decode cL_law 335 = .ok (.iaload, 1) := by decide +kernel
theorem dL_law_336 : decode cL_law 336 = .ok (.aload_n 0, 1) := by decide +kernel
theorem dL_law_337 : decode cL_law 337 = .ok (.iload_n 3, 1) := by decide +kernel
theorem dL_law_338 : decode cL_law 338 = .ok (.iconst 2, 1) := by decide +kernel
theorem dL_law_339 : decode cL_law 339 = .ok (.iadd, 1) := by decide +kernel
theorem dL_law_340 : decode cL_law 340 = .ok (.iaload, 1) := by decide +kernel
theorem dL_law_341 : decode cL_law 341 = .ok (.invokevirtual 32, 3) := by decide +kernel
theorem dL_law_344 : decode cL_law 344 = .ok (.aload_n 2, 1) := by decide +kernel
theorem dL_law_345 : decode cL_law 345 = .ok (.aload_n 0, 1) := by decide +kernel
theorem dL_law_346 : decode cL_law 346 = .ok (.iload_n 3, 1) := by decide +kernel
theorem dL_law_347 : decode cL_law 347 = .ok (.iconst 1, 1) := by decide +kernel
theorem dL_law_348 : decode cL_law 348 = .ok (.iadd, 1) := by decide +kernel
theorem dL_law_349 : decode cL_law 349 = .ok (.iaload, 1) := by decide +kernel
theorem dL_law_350 : decode cL_law 350 = .ok (.aload_n 0, 1) := by decide +kernel
theorem dL_law_351 : decode cL_law 351 = .ok (.iload_n 3, 1) := by decide +kernel
theorem dL_law_352 : decode cL_law 352 = .ok (.iconst 2, 1) := by decide +kernel
theorem dL_law_353 : decode cL_law 353 = .ok (.iadd, 1) := by decide +kernel
theorem dL_law_354 : decode cL_law 354 = .ok (.iaload, 1) := by decide +kernel
theorem dL_law_355 : decode cL_law 355 = .ok (.invokevirtual 35, 3) := by decide +kernel
theorem dL_law_358 : decode cL_law 358 = .ok (.if_icmp .eq 633, 3) := by decide +kernel
theorem dL_law_361 : decode cL_law 361 = .ok (.iconst 0, 1) := by decide +kernel
theorem dL_law_362 : decode cL_law 362 = .ok (.ireturn, 1) := by decide +kernel
theorem dL_law_363 : decode cL_law 363 = .ok (.aload_n 1, 1) := by decide +kernel
theorem dL_law_364 : decode cL_law 364 = .ok (.aload_n 0, 1) := by decide +kernel
theorem dL_law_365 : decode cL_law 365 = .ok (.iload_n 3, 1) := by decide +kernel
theorem dL_law_366 : decode cL_law 366 = .ok (.iconst 1, 1) := by decide +kernel
theorem dL_law_367 : decode cL_law 367 = .ok (.iadd, 1) := by decide +kernel
theorem dL_law_368 : decode cL_law 368 = .ok (.iaload, 1) := by decide +kernel
theorem dL_law_369 : decode cL_law 369 = .ok (.aload_n 0, 1) := by decide +kernel
theorem dL_law_370 : decode cL_law 370 = .ok (.iload_n 3, 1) := by decide +kernel
theorem dL_law_371 : decode cL_law 371 = .ok (.iconst 2, 1) := by decide +kernel
theorem dL_law_372 : decode cL_law 372 = .ok (.iadd, 1) := by decide +kernel
theorem dL_law_373 : decode cL_law 373 = .ok (.iaload, 1) := by decide +kernel
theorem dL_law_374 : decode cL_law 374 = .ok (.invokevirtual 36, 3) := by decide +kernel
theorem dL_law_377 : decode cL_law 377 = .ok (.aload_n 2, 1) := by decide +kernel
theorem dL_law_378 : decode cL_law 378 = .ok (.aload_n 0, 1) := by decide +kernel
theorem dL_law_379 : decode cL_law 379 = .ok (.iload_n 3, 1) := by decide +kernel
theorem dL_law_380 : decode cL_law 380 = .ok (.iconst 1, 1) := by decide +kernel
theorem dL_law_381 : decode cL_law 381 = .ok (.iadd, 1) := by decide +kernel
theorem dL_law_382 : decode cL_law 382 = .ok (.iaload, 1) := by decide +kernel
theorem dL_law_383 : decode cL_law 383 = .ok (.aload_n 0, 1) := by decide +kernel
theorem dL_law_384 : decode cL_law 384 = .ok (.iload_n 3, 1) := by decide +kernel
theorem dL_law_385 : decode cL_law 385 = .ok (.iconst 2, 1) := by decide +kernel
theorem dL_law_386 : decode cL_law 386 = .ok (.iadd, 1) := by decide +kernel
theorem dL_law_387 : decode cL_law 387 = .ok (.iaload, 1) := by decide +kernel
theorem dL_law_388 : decode cL_law 388 = .ok (.invokevirtual 39, 3) := by decide +kernel
theorem dL_law_391 : decode cL_law 391 = .ok (.if_icmp .eq 600, 3) := by decide +kernel
theorem dL_law_394 : decode cL_law 394 = .ok (.iconst 0, 1) := by decide +kernel
theorem dL_law_395 : decode cL_law 395 = .ok (.ireturn, 1) := by decide +kernel
theorem dL_law_396 : decode cL_law 396 = .ok (.aload_n 1, 1) := by decide +kernel
theorem dL_law_397 : decode cL_law 397 = .ok (.aload_n 0, 1) := by decide +kernel
theorem dL_law_398 : decode cL_law 398 = .ok (.iload_n 3, 1) := by decide +kernel
theorem dL_law_399 : decode cL_law 399 = .ok (.iconst 1, 1) := by decide +kernel
theorem dL_law_400 : decode cL_law 400 = .ok (.iadd, 1) := by decide +kernel
theorem dL_law_401 : decode cL_law 401 = .ok (.iaload, 1) := by decide +kernel
theorem dL_law_402 : decode cL_law 402 = .ok (.aload_n 0, 1) := by decide +kernel
theorem dL_law_403 : decode cL_law 403 = .ok (.iload_n 3, 1) := by decide +kernel
theorem dL_law_404 : decode cL_law 404 = .ok (.iconst 2, 1) := by decide +kernel
theorem dL_law_405 : decode cL_law 405 = .ok (.iadd, 1) := by decide +kernel
theorem dL_law_406 : decode cL_law 406 = .ok (.iaload, 1) := by decide +kernel
theorem dL_law_407 : decode cL_law 407 = .ok (.invokevirtual 40, 3) := by decide +kernel
theorem dL_law_410 : decode cL_law 410 = .ok (.aload_n 2, 1) := by decide +kernel
theorem dL_law_411 : decode cL_law 411 = .ok (.aload_n 0, 1) := by decide +kernel
theorem dL_law_412 : decode cL_law 412 = .ok (.iload_n 3, 1) := by decide +kernel
theorem dL_law_413 : decode cL_law 413 = .ok (.iconst 1, 1) := by decide +kernel
theorem dL_law_414 : decode cL_law 414 = .ok (.iadd, 1) := by decide +kernel
theorem dL_law_415 : decode cL_law 415 = .ok (.iaload, 1) := by decide +kernel
theorem dL_law_416 : decode cL_law 416 = .ok (.aload_n 0, 1) := by decide +kernel
theorem dL_law_417 : decode cL_law 417 = .ok (.iload_n 3, 1) := by decide +kernel
theorem dL_law_418 : decode cL_law 418 = .ok (.iconst 2, 1) := by decide +kernel
theorem dL_law_419 : decode cL_law 419 = .ok (.iadd, 1) := by decide +kernel
theorem dL_law_420 : decode cL_law 420 = .ok (.iaload, 1) := by decide +kernel
theorem dL_law_421 : decode cL_law 421 = .ok (.invokevirtual 43, 3) := by decide +kernel
theorem dL_law_424 : decode cL_law 424 = .ok (.if_icmp .eq 567, 3) := by decide +kernel
theorem dL_law_427 : decode cL_law 427 = .ok (.iconst 0, 1) := by decide +kernel
theorem dL_law_428 : decode cL_law 428 = .ok (.ireturn, 1) := by decide +kernel
theorem dL_law_429 : decode cL_law 429 = .ok (.aload_n 1, 1) := by decide +kernel
theorem dL_law_430 : decode cL_law 430 = .ok (.aload_n 0, 1) := by decide +kernel
theorem dL_law_431 : decode cL_law 431 = .ok (.iload_n 3, 1) := by decide +kernel
theorem dL_law_432 : decode cL_law 432 = .ok (.iconst 1, 1) := by decide +kernel
theorem dL_law_433 : decode cL_law 433 = .ok (.iadd, 1) := by decide +kernel
theorem dL_law_434 : decode cL_law 434 = .ok (.iaload, 1) := by decide +kernel
theorem dL_law_435 : decode cL_law 435 = .ok (.aload_n 0, 1) := by decide +kernel
theorem dL_law_436 : decode cL_law 436 = .ok (.iload_n 3, 1) := by decide +kernel
theorem dL_law_437 : decode cL_law 437 = .ok (.iconst 2, 1) := by decide +kernel
theorem dL_law_438 : decode cL_law 438 = .ok (.iadd, 1) := by decide +kernel
theorem dL_law_439 : decode cL_law 439 = .ok (.iaload, 1) := by decide +kernel
theorem dL_law_440 : decode cL_law 440 = .ok (.invokevirtual 44, 3) := by decide +kernel
theorem dL_law_443 : decode cL_law 443 = .ok (.aload_n 2, 1) := by decide +kernel
theorem dL_law_444 : decode cL_law 444 = .ok (.aload_n 0, 1) := by decide +kernel
theorem dL_law_445 : decode cL_law 445 = .ok (.iload_n 3, 1) := by decide +kernel
theorem dL_law_446 : decode cL_law 446 = .ok (.iconst 1, 1) := by decide +kernel
theorem dL_law_447 : decode cL_law 447 = .ok (.iadd, 1) := by decide +kernel
theorem dL_law_448 : decode cL_law 448 = .ok (.iaload, 1) := by decide +kernel
theorem dL_law_449 : decode cL_law 449 = .ok (.aload_n 0, 1) := by decide +kernel
theorem dL_law_450 : decode cL_law 450 = .ok (.iload_n 3, 1) := by decide +kernel
theorem dL_law_451 : decode cL_law 451 = .ok (.iconst 2, 1) := by decide +kernel
theorem dL_law_452 : decode cL_law 452 = .ok (.iadd, 1) := by decide +kernel
theorem dL_law_453 : decode cL_law 453 = .ok (.iaload, 1) := by decide +kernel
theorem dL_law_454 : decode cL_law 454 = .ok (.invokevirtual 47, 3) := by decide +kernel
theorem dL_law_457 : decode cL_law 457 = .ok (.if_icmp .eq 534, 3) := by decide +kernel
theorem dL_law_460 : decode cL_law 460 = .ok (.iconst 0, 1) := by decide +kernel
theorem dL_law_461 : decode cL_law 461 = .ok (.ireturn, 1) := by decide +kernel
theorem dL_law_462 : decode cL_law 462 = .ok (.aload_n 1, 1) := by decide +kernel
theorem dL_law_463 : decode cL_law 463 = .ok (.aload_n 0, 1) := by decide +kernel
theorem dL_law_464 : decode cL_law 464 = .ok (.iload_n 3, 1) := by decide +kernel
theorem dL_law_465 : decode cL_law 465 = .ok (.iconst 1, 1) := by decide +kernel
theorem dL_law_466 : decode cL_law 466 = .ok (.iadd, 1) := by decide +kernel
theorem dL_law_467 : decode cL_law 467 = .ok (.iaload, 1) := by decide +kernel
theorem dL_law_468 : decode cL_law 468 = .ok (.aload_n 0, 1) := by decide +kernel
theorem dL_law_469 : decode cL_law 469 = .ok (.iload_n 3, 1) := by decide +kernel
theorem dL_law_470 : decode cL_law 470 = .ok (.iconst 2, 1) := by decide +kernel
theorem dL_law_471 : decode cL_law 471 = .ok (.iadd, 1) := by decide +kernel
theorem dL_law_472 : decode cL_law 472 = .ok (.iaload, 1) := by decide +kernel
theorem dL_law_473 : decode cL_law 473 = .ok (.aload_n 0, 1) := by decide +kernel
theorem dL_law_474 : decode cL_law 474 = .ok (.iload_n 3, 1) := by decide +kernel
theorem dL_law_475 : decode cL_law 475 = .ok (.iconst 3, 1) := by decide +kernel
theorem dL_law_476 : decode cL_law 476 = .ok (.iadd, 1) := by decide +kernel
theorem dL_law_477 : decode cL_law 477 = .ok (.iaload, 1) := by decide +kernel
theorem dL_law_478 : decode cL_law 478 = .ok (.invokevirtual 48, 3) := by decide +kernel
theorem dL_law_481 : decode cL_law 481 = .ok (.aload_n 2, 1) := by decide +kernel
theorem dL_law_482 : decode cL_law 482 = .ok (.aload_n 0, 1) := by decide +kernel
theorem dL_law_483 : decode cL_law 483 = .ok (.iload_n 3, 1) := by decide +kernel
theorem dL_law_484 : decode cL_law 484 = .ok (.iconst 1, 1) := by decide +kernel
theorem dL_law_485 : decode cL_law 485 = .ok (.iadd, 1) := by decide +kernel
theorem dL_law_486 : decode cL_law 486 = .ok (.iaload, 1) := by decide +kernel
theorem dL_law_487 : decode cL_law 487 = .ok (.aload_n 0, 1) := by decide +kernel
theorem dL_law_488 : decode cL_law 488 = .ok (.iload_n 3, 1) := by decide +kernel
theorem dL_law_489 : decode cL_law 489 = .ok (.iconst 2, 1) := by decide +kernel
theorem dL_law_490 : decode cL_law 490 = .ok (.iadd, 1) := by decide +kernel
theorem dL_law_491 : decode cL_law 491 = .ok (.iaload, 1) := by decide +kernel
theorem dL_law_492 : decode cL_law 492 = .ok (.aload_n 0, 1) := by decide +kernel
theorem dL_law_493 : decode cL_law 493 = .ok (.iload_n 3, 1) := by decide +kernel
theorem dL_law_494 : decode cL_law 494 = .ok (.iconst 3, 1) := by decide +kernel
theorem dL_law_495 : decode cL_law 495 = .ok (.iadd, 1) := by decide +kernel
theorem dL_law_496 : decode cL_law 496 = .ok (.iaload, 1) := by decide +kernel
theorem dL_law_497 : decode cL_law 497 = .ok (.invokevirtual 51, 3) := by decide +kernel
theorem dL_law_500 : decode cL_law 500 = .ok (.if_icmp .eq 491, 3) := by decide +kernel
theorem dL_law_503 : decode cL_law 503 = .ok (.iconst 0, 1) := by decide +kernel
theorem dL_law_504 : decode cL_law 504 = .ok (.ireturn, 1) := by decide +kernel
theorem dL_law_505 : decode cL_law 505 = .ok (.aload_n 1, 1) := by decide +kernel
theorem dL_law_506 : decode cL_law 506 = .ok (.aload_n 0, 1) := by decide +kernel
theorem dL_law_507 : decode cL_law 507 = .ok (.iload_n 3, 1) := by decide +kernel
theorem dL_law_508 : decode cL_law 508 = .ok (.iconst 1, 1) := by decide +kernel
theorem dL_law_509 : decode cL_law 509 = .ok (.iadd, 1) := by decide +kernel
theorem dL_law_510 : decode cL_law 510 = .ok (.iaload, 1) := by decide +kernel
theorem dL_law_511 : decode cL_law 511 = .ok (.invokevirtual 52, 3) := by decide +kernel
theorem dL_law_514 : decode cL_law 514 = .ok (.aload_n 2, 1) := by decide +kernel
theorem dL_law_515 : decode cL_law 515 = .ok (.aload_n 0, 1) := by decide +kernel
theorem dL_law_516 : decode cL_law 516 = .ok (.iload_n 3, 1) := by decide +kernel
theorem dL_law_517 : decode cL_law 517 = .ok (.iconst 1, 1) := by decide +kernel
theorem dL_law_518 : decode cL_law 518 = .ok (.iadd, 1) := by decide +kernel
theorem dL_law_519 : decode cL_law 519 = .ok (.iaload, 1) := by decide +kernel
theorem dL_law_520 : decode cL_law 520 = .ok (.invokevirtual 56, 3) := by decide +kernel
theorem dL_law_523 : decode cL_law 523 = .ok (.if_icmp .eq 468, 3) := by decide +kernel
theorem dL_law_526 : decode cL_law 526 = .ok (.iconst 0, 1) := by decide +kernel
theorem dL_law_527 : decode cL_law 527 = .ok (.ireturn, 1) := by decide +kernel
theorem dL_law_528 : decode cL_law 528 = .ok (.aload_n 1, 1) := by decide +kernel
theorem dL_law_529 : decode cL_law 529 = .ok (.aload_n 0, 1) := by decide +kernel
theorem dL_law_530 : decode cL_law 530 = .ok (.iload_n 3, 1) := by decide +kernel
theorem dL_law_531 : decode cL_law 531 = .ok (.iconst 1, 1) := by decide +kernel
theorem dL_law_532 : decode cL_law 532 = .ok (.iadd, 1) := by decide +kernel
theorem dL_law_533 : decode cL_law 533 = .ok (.iaload, 1) := by decide +kernel
theorem dL_law_534 : decode cL_law 534 = .ok (.aload_n 0, 1) := by decide +kernel
theorem dL_law_535 : decode cL_law 535 = .ok (.iload_n 3, 1) := by decide +kernel
theorem dL_law_536 : decode cL_law 536 = .ok (.iconst 2, 1) := by decide +kernel
theorem dL_law_537 : decode cL_law 537 = .ok (.iadd, 1) := by decide +kernel
theorem dL_law_538 : decode cL_law 538 = .ok (.iaload, 1) := by decide +kernel
theorem dL_law_539 : decode cL_law 539 = .ok (.aload_n 0, 1) := by decide +kernel
theorem dL_law_540 : decode cL_law 540 = .ok (.iload_n 3, 1) := by decide +kernel
theorem dL_law_541 : decode cL_law 541 = .ok (.iconst 3, 1) := by decide +kernel
theorem dL_law_542 : decode cL_law 542 = .ok (.iadd, 1) := by decide +kernel
theorem dL_law_543 : decode cL_law 543 = .ok (.iaload, 1) := by decide +kernel
theorem dL_law_544 : decode cL_law 544 = .ok (.aload_n 0, 1) := by decide +kernel
theorem dL_law_545 : decode cL_law 545 = .ok (.iload_n 3, 1) := by decide +kernel
theorem dL_law_546 : decode cL_law 546 = .ok (.iconst 4, 1) := by decide +kernel
theorem dL_law_547 : decode cL_law 547 = .ok (.iadd, 1) := by decide +kernel
theorem dL_law_548 : decode cL_law 548 = .ok (.iaload, 1) := by decide +kernel
theorem dL_law_549 : decode cL_law 549 = .ok (.invokevirtual 57, 3) := by decide +kernel
theorem dL_law_552 : decode cL_law 552 = .ok (.aload_n 2, 1) := by decide +kernel
theorem dL_law_553 : decode cL_law 553 = .ok (.aload_n 0, 1) := by decide +kernel
theorem dL_law_554 : decode cL_law 554 = .ok (.iload_n 3, 1) := by decide +kernel
theorem dL_law_555 : decode cL_law 555 = .ok (.iconst 1, 1) := by decide +kernel
theorem dL_law_556 : decode cL_law 556 = .ok (.iadd, 1) := by decide +kernel
theorem dL_law_557 : decode cL_law 557 = .ok (.iaload, 1) := by decide +kernel
theorem dL_law_558 : decode cL_law 558 = .ok (.aload_n 0, 1) := by decide +kernel
theorem dL_law_559 : decode cL_law 559 = .ok (.iload_n 3, 1) := by decide +kernel
theorem dL_law_560 : decode cL_law 560 = .ok (.iconst 2, 1) := by decide +kernel
theorem dL_law_561 : decode cL_law 561 = .ok (.iadd, 1) := by decide +kernel
theorem dL_law_562 : decode cL_law 562 = .ok (.iaload, 1) := by decide +kernel
theorem dL_law_563 : decode cL_law 563 = .ok (.aload_n 0, 1) := by decide +kernel
theorem dL_law_564 : decode cL_law 564 = .ok (.iload_n 3, 1) := by decide +kernel
theorem dL_law_565 : decode cL_law 565 = .ok (.iconst 3, 1) := by decide +kernel
theorem dL_law_566 : decode cL_law 566 = .ok (.iadd, 1) := by decide +kernel
theorem dL_law_567 : decode cL_law 567 = .ok (.iaload, 1) := by decide +kernel
theorem dL_law_568 : decode cL_law 568 = .ok (.aload_n 0, 1) := by decide +kernel
theorem dL_law_569 : decode cL_law 569 = .ok (.iload_n 3, 1) := by decide +kernel
theorem dL_law_570 : decode cL_law 570 = .ok (.iconst 4, 1) := by decide +kernel
theorem dL_law_571 : decode cL_law 571 = .ok (.iadd, 1) := by decide +kernel
theorem dL_law_572 : decode cL_law 572 = .ok (.iaload, 1) := by decide +kernel
theorem dL_law_573 : decode cL_law 573 = .ok (.invokevirtual 60, 3) := by decide +kernel
theorem dL_law_576 : decode cL_law 576 = .ok (.if_icmp .eq 415, 3) := by decide +kernel
theorem dL_law_579 : decode cL_law 579 = .ok (.iconst 0, 1) := by decide +kernel
theorem dL_law_580 : decode cL_law 580 = .ok (.ireturn, 1) := by decide +kernel
theorem dL_law_581 : decode cL_law 581 = .ok (.aload_n 1, 1) := by decide +kernel
theorem dL_law_582 : decode cL_law 582 = .ok (.invokevirtual 61, 3) := by decide +kernel
theorem dL_law_585 : decode cL_law 585 = .ok (.aload_n 2, 1) := by decide +kernel
theorem dL_law_586 : decode cL_law 586 = .ok (.invokevirtual 65, 3) := by decide +kernel
theorem dL_law_589 : decode cL_law 589 = .ok (.if_icmp .eq 402, 3) := by decide +kernel
theorem dL_law_592 : decode cL_law 592 = .ok (.iconst 0, 1) := by decide +kernel
theorem dL_law_593 : decode cL_law 593 = .ok (.ireturn, 1) := by decide +kernel
theorem dL_law_594 : decode cL_law 594 = .ok (.aload_n 1, 1) := by decide +kernel
theorem dL_law_595 : decode cL_law 595 = .ok (.invokevirtual 66, 3) := by decide +kernel
theorem dL_law_598 : decode cL_law 598 = .ok (.aload_n 2, 1) := by decide +kernel
theorem dL_law_599 : decode cL_law 599 = .ok (.invokevirtual 69, 3) := by decide +kernel
theorem dL_law_602 : decode cL_law 602 = .ok (.if_icmp .eq 389, 3) := by decide +kernel
theorem dL_law_605 : decode cL_law 605 = .ok (.iconst 0, 1) := by decide +kernel
theorem dL_law_606 : decode cL_law 606 = .ok (.ireturn, 1) := by decide +kernel
theorem dL_law_607 : decode cL_law 607 = .ok (.aload_n 1, 1) := by decide +kernel
theorem dL_law_608 : decode cL_law 608 = .ok (.aload_n 0, 1) := by decide +kernel
theorem dL_law_609 : decode cL_law 609 = .ok (.iload_n 3, 1) := by decide +kernel
theorem dL_law_610 : decode cL_law 610 = .ok (.iconst 1, 1) := by decide +kernel
theorem dL_law_611 : decode cL_law 611 = .ok (.iadd, 1) := by decide +kernel
theorem dL_law_612 : decode cL_law 612 = .ok (.iaload, 1) := by decide +kernel
theorem dL_law_613 : decode cL_law 613 = .ok (.invokevirtual 70, 3) := by decide +kernel
theorem dL_law_616 : decode cL_law 616 = .ok (.aload_n 2, 1) := by decide +kernel
theorem dL_law_617 : decode cL_law 617 = .ok (.aload_n 0, 1) := by decide +kernel
theorem dL_law_618 : decode cL_law 618 = .ok (.iload_n 3, 1) := by decide +kernel
theorem dL_law_619 : decode cL_law 619 = .ok (.iconst 1, 1) := by decide +kernel
theorem dL_law_620 : decode cL_law 620 = .ok (.iadd, 1) := by decide +kernel
theorem dL_law_621 : decode cL_law 621 = .ok (.iaload, 1) := by decide +kernel
theorem dL_law_622 : decode cL_law 622 = .ok (.invokevirtual 74, 3) := by decide +kernel
theorem dL_law_625 : decode cL_law 625 = .ok (.lcmp, 1) := by decide +kernel
theorem dL_law_626 : decode cL_law 626 = .ok (.ifCond .eq 365, 3) := by decide +kernel
theorem dL_law_629 : decode cL_law 629 = .ok (.iconst 0, 1) := by decide +kernel
theorem dL_law_630 : decode cL_law 630 = .ok (.ireturn, 1) := by decide +kernel
theorem dL_law_631 : decode cL_law 631 = .ok (.aload_n 1, 1) := by decide +kernel
theorem dL_law_632 : decode cL_law 632 = .ok (.aload_n 0, 1) := by decide +kernel
theorem dL_law_633 : decode cL_law 633 = .ok (.iload_n 3, 1) := by decide +kernel
theorem dL_law_634 : decode cL_law 634 = .ok (.iconst 1, 1) := by decide +kernel
theorem dL_law_635 : decode cL_law 635 = .ok (.iadd, 1) := by decide +kernel
theorem dL_law_636 : decode cL_law 636 = .ok (.iaload, 1) := by decide +kernel
theorem dL_law_637 : decode cL_law 637 = .ok (.aload_n 0, 1) := by decide +kernel
theorem dL_law_638 : decode cL_law 638 = .ok (.iload_n 3, 1) := by decide +kernel
theorem dL_law_639 : decode cL_law 639 = .ok (.iconst 2, 1) := by decide +kernel
theorem dL_law_640 : decode cL_law 640 = .ok (.iadd, 1) := by decide +kernel
theorem dL_law_641 : decode cL_law 641 = .ok (.iaload, 1) := by decide +kernel
theorem dL_law_642 : decode cL_law 642 = .ok (.invokevirtual 75, 3) := by decide +kernel
theorem dL_law_645 : decode cL_law 645 = .ok (.aload_n 2, 1) := by decide +kernel
theorem dL_law_646 : decode cL_law 646 = .ok (.aload_n 0, 1) := by decide +kernel
theorem dL_law_647 : decode cL_law 647 = .ok (.iload_n 3, 1) := by decide +kernel
theorem dL_law_648 : decode cL_law 648 = .ok (.iconst 1, 1) := by decide +kernel
theorem dL_law_649 : decode cL_law 649 = .ok (.iadd, 1) := by decide +kernel
theorem dL_law_650 : decode cL_law 650 = .ok (.iaload, 1) := by decide +kernel
theorem dL_law_651 : decode cL_law 651 = .ok (.aload_n 0, 1) := by decide +kernel
theorem dL_law_652 : decode cL_law 652 = .ok (.iload_n 3, 1) := by decide +kernel
theorem dL_law_653 : decode cL_law 653 = .ok (.iconst 2, 1) := by decide +kernel
theorem dL_law_654 : decode cL_law 654 = .ok (.iadd, 1) := by decide +kernel
theorem dL_law_655 : decode cL_law 655 = .ok (.iaload, 1) := by decide +kernel
theorem dL_law_656 : decode cL_law 656 = .ok (.invokevirtual 78, 3) := by decide +kernel
theorem dL_law_659 : decode cL_law 659 = .ok (.if_icmp .eq 332, 3) := by decide +kernel
theorem dL_law_662 : decode cL_law 662 = .ok (.iconst 0, 1) := by decide +kernel
theorem dL_law_663 : decode cL_law 663 = .ok (.ireturn, 1) := by decide +kernel
theorem dL_law_664 : decode cL_law 664 = .ok (.aload_n 1, 1) := by decide +kernel
theorem dL_law_665 : decode cL_law 665 = .ok (.aload_n 0, 1) := by decide +kernel
theorem dL_law_666 : decode cL_law 666 = .ok (.iload_n 3, 1) := by decide +kernel
theorem dL_law_667 : decode cL_law 667 = .ok (.iconst 1, 1) := by decide +kernel
theorem dL_law_668 : decode cL_law 668 = .ok (.iadd, 1) := by decide +kernel
theorem dL_law_669 : decode cL_law 669 = .ok (.iaload, 1) := by decide +kernel
theorem dL_law_670 : decode cL_law 670 = .ok (.aload_n 0, 1) := by decide +kernel
theorem dL_law_671 : decode cL_law 671 = .ok (.iload_n 3, 1) := by decide +kernel
theorem dL_law_672 : decode cL_law 672 = .ok (.iconst 2, 1) := by decide +kernel
theorem dL_law_673 : decode cL_law 673 = .ok (.iadd, 1) := by decide +kernel
theorem dL_law_674 : decode cL_law 674 = .ok (.iaload, 1) := by decide +kernel
theorem dL_law_675 : decode cL_law 675 = .ok (.invokevirtual 79, 3) := by decide +kernel
theorem dL_law_678 : decode cL_law 678 = .ok (.aload_n 2, 1) := by decide +kernel
theorem dL_law_679 : decode cL_law 679 = .ok (.aload_n 0, 1) := by decide +kernel
theorem dL_law_680 : decode cL_law 680 = .ok (.iload_n 3, 1) := by decide +kernel
theorem dL_law_681 : decode cL_law 681 = .ok (.iconst 1, 1) := by decide +kernel
theorem dL_law_682 : decode cL_law 682 = .ok (.iadd, 1) := by decide +kernel
theorem dL_law_683 : decode cL_law 683 = .ok (.iaload, 1) := by decide +kernel
theorem dL_law_684 : decode cL_law 684 = .ok (.aload_n 0, 1) := by decide +kernel
theorem dL_law_685 : decode cL_law 685 = .ok (.iload_n 3, 1) := by decide +kernel
theorem dL_law_686 : decode cL_law 686 = .ok (.iconst 2, 1) := by decide +kernel
theorem dL_law_687 : decode cL_law 687 = .ok (.iadd, 1) := by decide +kernel
theorem dL_law_688 : decode cL_law 688 = .ok (.iaload, 1) := by decide +kernel
theorem dL_law_689 : decode cL_law 689 = .ok (.invokevirtual 82, 3) := by decide +kernel
theorem dL_law_692 : decode cL_law 692 = .ok (.if_icmp .eq 299, 3) := by decide +kernel
theorem dL_law_695 : decode cL_law 695 = .ok (.iconst 0, 1) := by decide +kernel
theorem dL_law_696 : decode cL_law 696 = .ok (.ireturn, 1) := by decide +kernel
theorem dL_law_697 : decode cL_law 697 = .ok (.aload_n 1, 1) := by decide +kernel
theorem dL_law_698 : decode cL_law 698 = .ok (.aload_n 0, 1) := by decide +kernel
theorem dL_law_699 : decode cL_law 699 = .ok (.iload_n 3, 1) := by decide +kernel
theorem dL_law_700 : decode cL_law 700 = .ok (.iconst 1, 1) := by decide +kernel
theorem dL_law_701 : decode cL_law 701 = .ok (.iadd, 1) := by decide +kernel
theorem dL_law_702 : decode cL_law 702 = .ok (.iaload, 1) := by decide +kernel
theorem dL_law_703 : decode cL_law 703 = .ok (.aload_n 0, 1) := by decide +kernel
theorem dL_law_704 : decode cL_law 704 = .ok (.iload_n 3, 1) := by decide +kernel
theorem dL_law_705 : decode cL_law 705 = .ok (.iconst 2, 1) := by decide +kernel
theorem dL_law_706 : decode cL_law 706 = .ok (.iadd, 1) := by decide +kernel
theorem dL_law_707 : decode cL_law 707 = .ok (.iaload, 1) := by decide +kernel
theorem dL_law_708 : decode cL_law 708 = .ok (.invokevirtual 83, 3) := by decide +kernel
theorem dL_law_711 : decode cL_law 711 = .ok (.aload_n 2, 1) := by decide +kernel
theorem dL_law_712 : decode cL_law 712 = .ok (.aload_n 0, 1) := by decide +kernel
theorem dL_law_713 : decode cL_law 713 = .ok (.iload_n 3, 1) := by decide +kernel
theorem dL_law_714 : decode cL_law 714 = .ok (.iconst 1, 1) := by decide +kernel
theorem dL_law_715 : decode cL_law 715 = .ok (.iadd, 1) := by decide +kernel
theorem dL_law_716 : decode cL_law 716 = .ok (.iaload, 1) := by decide +kernel
theorem dL_law_717 : decode cL_law 717 = .ok (.aload_n 0, 1) := by decide +kernel
theorem dL_law_718 : decode cL_law 718 = .ok (.iload_n 3, 1) := by decide +kernel
theorem dL_law_719 : decode cL_law 719 = .ok (.iconst 2, 1) := by decide +kernel
theorem dL_law_720 : decode cL_law 720 = .ok (.iadd, 1) := by decide +kernel
theorem dL_law_721 : decode cL_law 721 = .ok (.iaload, 1) := by decide +kernel
theorem dL_law_722 : decode cL_law 722 = .ok (.invokevirtual 86, 3) := by decide +kernel
theorem dL_law_725 : decode cL_law 725 = .ok (.if_icmp .eq 266, 3) := by decide +kernel
theorem dL_law_728 : decode cL_law 728 = .ok (.iconst 0, 1) := by decide +kernel
theorem dL_law_729 : decode cL_law 729 = .ok (.ireturn, 1) := by decide +kernel
theorem dL_law_730 : decode cL_law 730 = .ok (.aload_n 1, 1) := by decide +kernel
theorem dL_law_731 : decode cL_law 731 = .ok (.aload_n 0, 1) := by decide +kernel
theorem dL_law_732 : decode cL_law 732 = .ok (.iload_n 3, 1) := by decide +kernel
theorem dL_law_733 : decode cL_law 733 = .ok (.iconst 1, 1) := by decide +kernel
theorem dL_law_734 : decode cL_law 734 = .ok (.iadd, 1) := by decide +kernel
theorem dL_law_735 : decode cL_law 735 = .ok (.iaload, 1) := by decide +kernel
theorem dL_law_736 : decode cL_law 736 = .ok (.aload_n 0, 1) := by decide +kernel
theorem dL_law_737 : decode cL_law 737 = .ok (.iload_n 3, 1) := by decide +kernel
theorem dL_law_738 : decode cL_law 738 = .ok (.iconst 2, 1) := by decide +kernel
theorem dL_law_739 : decode cL_law 739 = .ok (.iadd, 1) := by decide +kernel
theorem dL_law_740 : decode cL_law 740 = .ok (.iaload, 1) := by decide +kernel
theorem dL_law_741 : decode cL_law 741 = .ok (.invokevirtual 87, 3) := by decide +kernel
theorem dL_law_744 : decode cL_law 744 = .ok (.aload_n 2, 1) := by decide +kernel
theorem dL_law_745 : decode cL_law 745 = .ok (.aload_n 0, 1) := by decide +kernel
theorem dL_law_746 : decode cL_law 746 = .ok (.iload_n 3, 1) := by decide +kernel
theorem dL_law_747 : decode cL_law 747 = .ok (.iconst 1, 1) := by decide +kernel
theorem dL_law_748 : decode cL_law 748 = .ok (.iadd, 1) := by decide +kernel
theorem dL_law_749 : decode cL_law 749 = .ok (.iaload, 1) := by decide +kernel
theorem dL_law_750 : decode cL_law 750 = .ok (.aload_n 0, 1) := by decide +kernel
theorem dL_law_751 : decode cL_law 751 = .ok (.iload_n 3, 1) := by decide +kernel
theorem dL_law_752 : decode cL_law 752 = .ok (.iconst 2, 1) := by decide +kernel
theorem dL_law_753 : decode cL_law 753 = .ok (.iadd, 1) := by decide +kernel
theorem dL_law_754 : decode cL_law 754 = .ok (.iaload, 1) := by decide +kernel
theorem dL_law_755 : decode cL_law 755 = .ok (.invokevirtual 90, 3) := by decide +kernel
theorem dL_law_758 : decode cL_law 758 = .ok (.if_icmp .eq 233, 3) := by decide +kernel
theorem dL_law_761 : decode cL_law 761 = .ok (.iconst 0, 1) := by decide +kernel
theorem dL_law_762 : decode cL_law 762 = .ok (.ireturn, 1) := by decide +kernel
theorem dL_law_763 : decode cL_law 763 = .ok (.aload_n 1, 1) := by decide +kernel
theorem dL_law_764 : decode cL_law 764 = .ok (.aload_n 0, 1) := by decide +kernel
theorem dL_law_765 : decode cL_law 765 = .ok (.iload_n 3, 1) := by decide +kernel
theorem dL_law_766 : decode cL_law 766 = .ok (.iconst 1, 1) := by decide +kernel
theorem dL_law_767 : decode cL_law 767 = .ok (.iadd, 1) := by decide +kernel
theorem dL_law_768 : decode cL_law 768 = .ok (.iaload, 1) := by decide +kernel
theorem dL_law_769 : decode cL_law 769 = .ok (.invokevirtual 91, 3) := by decide +kernel
theorem dL_law_772 : decode cL_law 772 = .ok (.aload_n 2, 1) := by decide +kernel
theorem dL_law_773 : decode cL_law 773 = .ok (.aload_n 0, 1) := by decide +kernel
theorem dL_law_774 : decode cL_law 774 = .ok (.iload_n 3, 1) := by decide +kernel
theorem dL_law_775 : decode cL_law 775 = .ok (.iconst 1, 1) := by decide +kernel
theorem dL_law_776 : decode cL_law 776 = .ok (.iadd, 1) := by decide +kernel
theorem dL_law_777 : decode cL_law 777 = .ok (.iaload, 1) := by decide +kernel
theorem dL_law_778 : decode cL_law 778 = .ok (.invokevirtual 94, 3) := by decide +kernel
theorem dL_law_781 : decode cL_law 781 = .ok (.if_icmp .eq 210, 3) := by decide +kernel
theorem dL_law_784 : decode cL_law 784 = .ok (.iconst 0, 1) := by decide +kernel
theorem dL_law_785 : decode cL_law 785 = .ok (.ireturn, 1) := by decide +kernel
theorem dL_law_786 : decode cL_law 786 = .ok (.aload_n 1, 1) := by decide +kernel
theorem dL_law_787 : decode cL_law 787 = .ok (.aload_n 0, 1) := by decide +kernel
theorem dL_law_788 : decode cL_law 788 = .ok (.iload_n 3, 1) := by decide +kernel
theorem dL_law_789 : decode cL_law 789 = .ok (.iconst 1, 1) := by decide +kernel
theorem dL_law_790 : decode cL_law 790 = .ok (.iadd, 1) := by decide +kernel
theorem dL_law_791 : decode cL_law 791 = .ok (.iaload, 1) := by decide +kernel
theorem dL_law_792 : decode cL_law 792 = .ok (.aload_n 0, 1) := by decide +kernel
theorem dL_law_793 : decode cL_law 793 = .ok (.iload_n 3, 1) := by decide +kernel
theorem dL_law_794 : decode cL_law 794 = .ok (.iconst 2, 1) := by decide +kernel
theorem dL_law_795 : decode cL_law 795 = .ok (.iadd, 1) := by decide +kernel
theorem dL_law_796 : decode cL_law 796 = .ok (.iaload, 1) := by decide +kernel
theorem dL_law_797 : decode cL_law 797 = .ok (.invokevirtual 95, 3) := by decide +kernel
theorem dL_law_800 : decode cL_law 800 = .ok (.aload_n 2, 1) := by decide +kernel
theorem dL_law_801 : decode cL_law 801 = .ok (.aload_n 0, 1) := by decide +kernel
theorem dL_law_802 : decode cL_law 802 = .ok (.iload_n 3, 1) := by decide +kernel
theorem dL_law_803 : decode cL_law 803 = .ok (.iconst 1, 1) := by decide +kernel
theorem dL_law_804 : decode cL_law 804 = .ok (.iadd, 1) := by decide +kernel
theorem dL_law_805 : decode cL_law 805 = .ok (.iaload, 1) := by decide +kernel
theorem dL_law_806 : decode cL_law 806 = .ok (.aload_n 0, 1) := by decide +kernel
theorem dL_law_807 : decode cL_law 807 = .ok (.iload_n 3, 1) := by decide +kernel
theorem dL_law_808 : decode cL_law 808 = .ok (.iconst 2, 1) := by decide +kernel
theorem dL_law_809 : decode cL_law 809 = .ok (.iadd, 1) := by decide +kernel
theorem dL_law_810 : decode cL_law 810 = .ok (.iaload, 1) := by decide +kernel
theorem dL_law_811 : decode cL_law 811 = .ok (.invokevirtual 98, 3) := by decide +kernel
theorem dL_law_814 : decode cL_law 814 = .ok (.if_icmp .eq 177, 3) := by decide +kernel
theorem dL_law_817 : decode cL_law 817 = .ok (.iconst 0, 1) := by decide +kernel
theorem dL_law_818 : decode cL_law 818 = .ok (.ireturn, 1) := by decide +kernel
theorem dL_law_819 : decode cL_law 819 = .ok (.aload_n 1, 1) := by decide +kernel
theorem dL_law_820 : decode cL_law 820 = .ok (.aload_n 0, 1) := by decide +kernel
theorem dL_law_821 : decode cL_law 821 = .ok (.iload_n 3, 1) := by decide +kernel
theorem dL_law_822 : decode cL_law 822 = .ok (.iconst 1, 1) := by decide +kernel
theorem dL_law_823 : decode cL_law 823 = .ok (.iadd, 1) := by decide +kernel
theorem dL_law_824 : decode cL_law 824 = .ok (.iaload, 1) := by decide +kernel
theorem dL_law_825 : decode cL_law 825 = .ok (.invokevirtual 99, 3) := by decide +kernel
theorem dL_law_828 : decode cL_law 828 = .ok (.aload_n 2, 1) := by decide +kernel
theorem dL_law_829 : decode cL_law 829 = .ok (.aload_n 0, 1) := by decide +kernel
theorem dL_law_830 : decode cL_law 830 = .ok (.iload_n 3, 1) := by decide +kernel
theorem dL_law_831 : decode cL_law 831 = .ok (.iconst 1, 1) := by decide +kernel
theorem dL_law_832 : decode cL_law 832 = .ok (.iadd, 1) := by decide +kernel
theorem dL_law_833 : decode cL_law 833 = .ok (.iaload, 1) := by decide +kernel
theorem dL_law_834 : decode cL_law 834 = .ok (.invokevirtual 102, 3) := by decide +kernel
theorem dL_law_837 : decode cL_law 837 = .ok (.if_icmp .eq 154, 3) := by decide +kernel
theorem dL_law_840 : decode cL_law 840 = .ok (.iconst 0, 1) := by decide +kernel
theorem dL_law_841 : decode cL_law 841 = .ok (.ireturn, 1) := by decide +kernel
theorem dL_law_842 : decode cL_law 842 = .ok (.aload_n 1, 1) := by decide +kernel
theorem dL_law_843 : decode cL_law 843 = .ok (.aload_n 0, 1) := by decide +kernel
theorem dL_law_844 : decode cL_law 844 = .ok (.iload_n 3, 1) := by decide +kernel
theorem dL_law_845 : decode cL_law 845 = .ok (.iconst 1, 1) := by decide +kernel
theorem dL_law_846 : decode cL_law 846 = .ok (.iadd, 1) := by decide +kernel
theorem dL_law_847 : decode cL_law 847 = .ok (.iaload, 1) := by decide +kernel
theorem dL_law_848 : decode cL_law 848 = .ok (.invokevirtual 103, 3) := by decide +kernel
theorem dL_law_851 : decode cL_law 851 = .ok (.aload_n 2, 1) := by decide +kernel
theorem dL_law_852 : decode cL_law 852 = .ok (.aload_n 0, 1) := by decide +kernel
theorem dL_law_853 : decode cL_law 853 = .ok (.iload_n 3, 1) := by decide +kernel
theorem dL_law_854 : decode cL_law 854 = .ok (.iconst 1, 1) := by decide +kernel
theorem dL_law_855 : decode cL_law 855 = .ok (.iadd, 1) := by decide +kernel
theorem dL_law_856 : decode cL_law 856 = .ok (.iaload, 1) := by decide +kernel
theorem dL_law_857 : decode cL_law 857 = .ok (.invokevirtual 106, 3) := by decide +kernel
theorem dL_law_860 : decode cL_law 860 = .ok (.if_icmp .eq 131, 3) := by decide +kernel
theorem dL_law_863 : decode cL_law 863 = .ok (.iconst 0, 1) := by decide +kernel
theorem dL_law_864 : decode cL_law 864 = .ok (.ireturn, 1) := by decide +kernel
theorem dL_law_865 : decode cL_law 865 = .ok (.aload_n 1, 1) := by decide +kernel
theorem dL_law_866 : decode cL_law 866 = .ok (.aload_n 0, 1) := by decide +kernel
theorem dL_law_867 : decode cL_law 867 = .ok (.iload_n 3, 1) := by decide +kernel
theorem dL_law_868 : decode cL_law 868 = .ok (.iconst 1, 1) := by decide +kernel
theorem dL_law_869 : decode cL_law 869 = .ok (.iadd, 1) := by decide +kernel
theorem dL_law_870 : decode cL_law 870 = .ok (.iaload, 1) := by decide +kernel
theorem dL_law_871 : decode cL_law 871 = .ok (.invokevirtual 107, 3) := by decide +kernel
theorem dL_law_874 : decode cL_law 874 = .ok (.aload_n 2, 1) := by decide +kernel
theorem dL_law_875 : decode cL_law 875 = .ok (.aload_n 0, 1) := by decide +kernel
theorem dL_law_876 : decode cL_law 876 = .ok (.iload_n 3, 1) := by decide +kernel
theorem dL_law_877 : decode cL_law 877 = .ok (.iconst 1, 1) := by decide +kernel
theorem dL_law_878 : decode cL_law 878 = .ok (.iadd, 1) := by decide +kernel
theorem dL_law_879 : decode cL_law 879 = .ok (.iaload, 1) := by decide +kernel
theorem dL_law_880 : decode cL_law 880 = .ok (.invokevirtual 110, 3) := by decide +kernel
theorem dL_law_883 : decode cL_law 883 = .ok (.if_icmp .eq 108, 3) := by decide +kernel
theorem dL_law_886 : decode cL_law 886 = .ok (.iconst 0, 1) := by decide +kernel
theorem dL_law_887 : decode cL_law 887 = .ok (.ireturn, 1) := by decide +kernel
theorem dL_law_888 : decode cL_law 888 = .ok (.aload_n 1, 1) := by decide +kernel
theorem dL_law_889 : decode cL_law 889 = .ok (.invokevirtual 111, 3) := by decide +kernel
theorem dL_law_892 : decode cL_law 892 = .ok (.aload_n 2, 1) := by decide +kernel
theorem dL_law_893 : decode cL_law 893 = .ok (.invokevirtual 115, 3) := by decide +kernel
theorem dL_law_896 : decode cL_law 896 = .ok (.lcmp, 1) := by decide +kernel
theorem dL_law_897 : decode cL_law 897 = .ok (.ifCond .eq 94, 3) := by decide +kernel
theorem dL_law_900 : decode cL_law 900 = .ok (.iconst 0, 1) := by decide +kernel
theorem dL_law_901 : decode cL_law 901 = .ok (.ireturn, 1) := by decide +kernel
theorem dL_law_902 : decode cL_law 902 = .ok (.aload_n 1, 1) := by decide +kernel
theorem dL_law_903 : decode cL_law 903 = .ok (.aload_n 0, 1) := by decide +kernel
theorem dL_law_904 : decode cL_law 904 = .ok (.iload_n 3, 1) := by decide +kernel
theorem dL_law_905 : decode cL_law 905 = .ok (.iconst 1, 1) := by decide +kernel
theorem dL_law_906 : decode cL_law 906 = .ok (.iadd, 1) := by decide +kernel
theorem dL_law_907 : decode cL_law 907 = .ok (.iaload, 1) := by decide +kernel
theorem dL_law_908 : decode cL_law 908 = .ok (.invokevirtual 116, 3) := by decide +kernel
theorem dL_law_911 : decode cL_law 911 = .ok (.aload_n 2, 1) := by decide +kernel
theorem dL_law_912 : decode cL_law 912 = .ok (.aload_n 0, 1) := by decide +kernel
theorem dL_law_913 : decode cL_law 913 = .ok (.iload_n 3, 1) := by decide +kernel
theorem dL_law_914 : decode cL_law 914 = .ok (.iconst 1, 1) := by decide +kernel
theorem dL_law_915 : decode cL_law 915 = .ok (.iadd, 1) := by decide +kernel
theorem dL_law_916 : decode cL_law 916 = .ok (.iaload, 1) := by decide +kernel
theorem dL_law_917 : decode cL_law 917 = .ok (.invokevirtual 119, 3) := by decide +kernel
theorem dL_law_920 : decode cL_law 920 = .ok (.if_icmp .eq 71, 3) := by decide +kernel
theorem dL_law_923 : decode cL_law 923 = .ok (.iconst 0, 1) := by decide +kernel
theorem dL_law_924 : decode cL_law 924 = .ok (.ireturn, 1) := by decide +kernel
theorem dL_law_925 : decode cL_law 925 = .ok (.aload_n 1, 1) := by decide +kernel
theorem dL_law_926 : decode cL_law 926 = .ok (.invokevirtual 120, 3) := by decide +kernel
theorem dL_law_929 : decode cL_law 929 = .ok (.aload_n 2, 1) := by decide +kernel
theorem dL_law_930 : decode cL_law 930 = .ok (.invokevirtual 123, 3) := by decide +kernel
theorem dL_law_933 : decode cL_law 933 = .ok (.if_icmp .eq 58, 3) := by decide +kernel
theorem dL_law_936 : decode cL_law 936 = .ok (.iconst 0, 1) := by decide +kernel
theorem dL_law_937 : decode cL_law 937 = .ok (.ireturn, 1) := by decide +kernel
theorem dL_law_938 : decode cL_law 938 = .ok (.aload_n 1, 1) := by decide +kernel
theorem dL_law_939 : decode cL_law 939 = .ok (.invokevirtual 124, 3) := by decide +kernel
theorem dL_law_942 : decode cL_law 942 = .ok (.aload_n 2, 1) := by decide +kernel
theorem dL_law_943 : decode cL_law 943 = .ok (.invokevirtual 127, 3) := by decide +kernel
theorem dL_law_946 : decode cL_law 946 = .ok (.if_icmp .eq 45, 3) := by decide +kernel
theorem dL_law_949 : decode cL_law 949 = .ok (.iconst 0, 1) := by decide +kernel
theorem dL_law_950 : decode cL_law 950 = .ok (.ireturn, 1) := by decide +kernel
theorem dL_law_951 : decode cL_law 951 = .ok (.aload_n 1, 1) := by decide +kernel
theorem dL_law_952 : decode cL_law 952 = .ok (.invokevirtual 128, 3) := by decide +kernel
theorem dL_law_955 : decode cL_law 955 = .ok (.aload_n 2, 1) := by decide +kernel
theorem dL_law_956 : decode cL_law 956 = .ok (.invokevirtual 131, 3) := by decide +kernel
theorem dL_law_959 : decode cL_law 959 = .ok (.if_icmp .eq 32, 3) := by decide +kernel
theorem dL_law_962 : decode cL_law 962 = .ok (.iconst 0, 1) := by decide +kernel
theorem dL_law_963 : decode cL_law 963 = .ok (.ireturn, 1) := by decide +kernel
theorem dL_law_964 : decode cL_law 964 = .ok (.aload_n 1, 1) := by decide +kernel
theorem dL_law_965 : decode cL_law 965 = .ok (.invokevirtual 132, 3) := by decide +kernel
theorem dL_law_968 : decode cL_law 968 = .ok (.aload_n 2, 1) := by decide +kernel
theorem dL_law_969 : decode cL_law 969 = .ok (.invokevirtual 135, 3) := by decide +kernel
theorem dL_law_972 : decode cL_law 972 = .ok (.if_icmp .eq 19, 3) := by decide +kernel
theorem dL_law_975 : decode cL_law 975 = .ok (.iconst 0, 1) := by decide +kernel
theorem dL_law_976 : decode cL_law 976 = .ok (.ireturn, 1) := by decide +kernel
theorem dL_law_977 : decode cL_law 977 = .ok (.aload_n 1, 1) := by decide +kernel
theorem dL_law_978 : decode cL_law 978 = .ok (.invokevirtual 136, 3) := by decide +kernel
theorem dL_law_981 : decode cL_law 981 = .ok (.aload_n 2, 1) := by decide +kernel
theorem dL_law_982 : decode cL_law 982 = .ok (.invokevirtual 139, 3) := by decide +kernel
theorem dL_law_985 : decode cL_law 985 = .ok (.lcmp, 1) := by decide +kernel
theorem dL_law_986 : decode cL_law 986 = .ok (.ifCond .eq 5, 3) := by decide +kernel
theorem dL_law_989 : decode cL_law 989 = .ok (.iconst 0, 1) := by decide +kernel
theorem dL_law_990 : decode cL_law 990 = .ok (.ireturn, 1) := by decide +kernel
theorem dL_law_991 : decode cL_law 991 = .ok (.iinc 3 5, 3) := by decide +kernel
theorem dL_law_994 : decode cL_law 994 = .ok (.goto (-976), 3) := by decide +kernel
theorem dL_law_997 : decode cL_law 997 = .ok (.iconst 1, 1) := by decide +kernel
theorem dL_law_998 : decode cL_law 998 = .ok (.ireturn, 1) := by decide +kernel
end
section
/-! how each instruction of the reference decodes -/
theorem dX6_init_0 : decode cX6_init 0 = .ok (.aload_n 0, 1) := by decide +kernel
theorem dX6_init_1 : decode cX6_init 1 = .ok (.invokespecial 1, 3) := by decide +kernel
theorem dX6_init_4 : decode cX6_init 4 = .ok (.aload_n 0, 1) := by decide +kernel
theorem dX6_init_5 : decode cX6_init 5 = .ok (.bipush 125, 2) := by decide +kernel
theorem dX6_init_7 : decode cX6_init 7 = .ok (.newarray .int, 2) := by decide +kernel
theorem dX6_init_9 : decode cX6_init 9 = .ok (.putfield 7, 3) := by decide +kernel
theorem dX6_init_12 : decode cX6_init 12 = .ok (.aload_n 0, 1) := by decide +kernel
theorem dX6_init_13 : decode cX6_init 13 = .ok (.bipush 125, 2) := by decide +kernel
theorem dX6_init_15 : decode cX6_init 15 = .ok (.newarray .int, 2) := by decide +kernel
theorem dX6_init_17 : decode cX6_init 17 = .ok (.putfield 13, 3) := by decide +kernel
theorem dX6_init_20 : decode cX6_init 20 = .ok (.aload_n 0, 1) := by decide +kernel
theorem dX6_init_21 : decode cX6_init 21 = .ok (.sipush 750, 3) := by decide +kernel
theorem dX6_init_24 : decode cX6_init 24 = .ok (.newarray .int, 2) := by decide +kernel
theorem dX6_init_26 : decode cX6_init 26 = .ok (.putfield 16, 3) := by decide +kernel
theorem dX6_init_29 : decode cX6_init 29 = .ok (.aload_n 0, 1) := by decide +kernel
theorem dX6_init_30 : decode cX6_init 30 = .ok (.bipush 80, 2) := by decide +kernel
theorem dX6_init_32 : decode cX6_init 32 = .ok (.newarray .int, 2) := by decide +kernel
theorem dX6_init_34 : decode cX6_init 34 = .ok (.putfield 19, 3) := by decide +kernel
theorem dX6_init_37 : decode cX6_init 37 = .ok (.iconst 0, 1) := by decide +kernel
theorem dX6_init_38 : decode cX6_init 38 = .ok (.istore_n 1, 1) := by decide +kernel
theorem dX6_init_39 : decode cX6_init 39 = .ok (.iload_n 1, 1) := by decide +kernel
theorem dX6_init_40 : decode cX6_init 40 = .ok (.bipush 6, 2) := by decide +kernel
theorem dX6_init_42 : decode cX6_init 42 = .ok (.if_icmp .ge 44, 3) := by decide +kernel
theorem dX6_init_45 : decode cX6_init 45 = .ok (.aload_n 0, 1) := by decide +kernel
theorem dX6_init_46 : decode cX6_init 46 = .ok (.getfield 7, 3) := by decide +kernel
theorem dX6_init_49 : decode cX6_init 49 = .ok (.bipush 11, 2) := by decide +kernel
theorem dX6_init_51 : decode cX6_init 51 = .ok (.iload_n 1, 1) := by decide +kernel
theorem dX6_init_52 : decode cX6_init 52 = .ok (.iadd, 1) := by decide +kernel
theorem dX6_init_53 : decode cX6_init 53 = .ok (.sipush 1000, 3) := by decide +kernel
theorem dX6_init_56 : decode cX6_init 56 = .ok (.sipush 200, 3) := by decide +kernel
theorem dX6_init_59 : decode cX6_init 59 = .ok (.iload_n 1, 1) := by decide +kernel
theorem dX6_init_60 : decode cX6_init 60 = .ok (.imul, 1) := by decide +kernel
theorem dX6_init_61 : decode cX6_init 61 = .ok (.iadd, 1) := by decide +kernel
theorem dX6_init_62 : decode cX6_init 62 = .ok (.iastore, 1) := by decide +kernel
theorem dX6_init_63 : decode cX6_init 63 = .ok (.aload_n 0, 1) := by decide +kernel
theorem dX6_init_64 : decode cX6_init 64 = .ok (.getfield 7, 3) := by decide +kernel
theorem dX6_init_67 : decode cX6_init 67 = .ok (.bipush 17, 2) := by decide +kernel
theorem dX6_init_69 : decode cX6_init 69 = .ok (.iload_n 1, 1) := by decide +kernel
theorem dX6_init_70 : decode cX6_init 70 = .ok (.iadd, 1) := by decide +kernel
theorem dX6_init_71 : decode cX6_init 71 = .ok (.sipush 400, 3) := by decide +kernel
theorem dX6_init_74 : decode cX6_init 74 = .ok (.bipush 100, 2) := by decide +kernel
theorem dX6_init_76 : decode cX6_init 76 = .ok (.iload_n 1, 1) := by decide +kernel
theorem dX6_init_77 : decode cX6_init 77 = .ok (.imul, 1) := by decide +kernel
theorem dX6_init_78 : decode cX6_init 78 = .ok (.iadd, 1) := by decide +kernel
theorem dX6_init_79 : decode cX6_init 79 = .ok (.iastore, 1) := by decide +kernel
theorem dX6_init_80 : decode cX6_init 80 = .ok (.iinc 1 1, 3) := by decide +kernel
theorem dX6_init_83 : decode cX6_init 83 = .ok (.goto (-44), 3) := by decide +kernel
theorem dX6_init_86 : decode cX6_init 86 = .ok (.aload_n 0, 1) := by decide +kernel
theorem dX6_init_87 : decode cX6_init 87 = .ok (.getfield 7, 3) := by decide +kernel
theorem dX6_init_90 : decode cX6_init 90 = .ok (.bipush 8, 2) := by decide +kernel
theorem dX6_init_92 : decode cX6_init 92 = .ok (.bipush 100, 2) := by decide +kernel
theorem dX6_init_94 : decode cX6_init 94 = .ok (.iastore, 1) := by decide +kernel
theorem dX6_init_95 : decode cX6_init 95 = .ok (.aload_n 0, 1) := by decide +kernel
theorem dX6_init_96 : decode cX6_init 96 = .ok (.getfield 7, 3) := by decide +kernel
theorem dX6_init_99 : decode cX6_init 99 = .ok (.bipush 9, 2) := by decide +kernel
theorem dX6_init_101 : decode cX6_init 101 = .ok (.bipush 30, 2) := by decide +kernel
theorem dX6_init_103 : decode cX6_init 103 = .ok (.iastore, 1) := by decide +kernel
theorem dX6_init_104 : decode cX6_init 104 = .ok (.return_, 1) := by decide +kernel
theorem dX6_within_0 : decode cX6_within 0 = .ok (.iload_n 0, 1) := by decide +kernel
theorem dX6_within_1 : decode cX6_within 1 = .ok (.iload_n 1, 1) := by decide +kernel
theorem dX6_within_2 : decode cX6_within 2 = .ok (.if_icmp .lt 12, 3) := by decide +kernel
theorem dX6_within_5 : decode cX6_within 5 = .ok (.iload_n 0, 1) := by decide +kernel
theorem dX6_within_6 : decode cX6_within 6 = .ok (.iload_n 2, 1) := by decide +kernel
theorem dX6_within_7 : decode cX6_within 7 = .ok (.if_icmp .gt 7, 3) := by decide +kernel
theorem dX6_within_10 : decode cX6_within 10 = .ok (.iconst 1, 1) := by decide +kernel
theorem dX6_within_11 : decode cX6_within 11 = .ok (.goto 4, 3) := by decide +kernel
theorem dX6_within_14 : decode cX6_within 14 = .ok (.iconst 0, 1) := by decide +kernel
theorem dX6_within_15 : decode cX6_within 15 = .ok (.ireturn, 1) := by decide +kernel
theorem dX6_copies_0 : decode cX6_copies 0 = .ok (.iconst 0, 1) := by decide +kernel
theorem dX6_copies_1 : decode cX6_copies 1 = .ok (.istore 4, 2) := by decide +kernel
theorem dX6_copies_3 : decode cX6_copies 3 = .ok (.iload 4, 2) := by decide +kernel
theorem dX6_copies_5 : decode cX6_copies 5 = .ok (.bipush 125, 2) := by decide +kernel
theorem dX6_copies_7 : decode cX6_copies 7 = .ok (.if_icmp .ge 21, 3) := by decide +kernel
theorem dX6_copies_10 : decode cX6_copies 10 = .ok (.aload_n 2, 1) := by decide +kernel
theorem dX6_copies_11 : decode cX6_copies 11 = .ok (.iload_n 3, 1) := by decide +kernel
theorem dX6_copies_12 : decode cX6_copies 12 = .ok (.iload 4, 2) := by decide +kernel
theorem dX6_copies_14 : decode cX6_copies 14 = .ok (.iadd, 1) := by decide +kernel
theorem dX6_copies_15 : decode cX6_copies 15 = .ok (.aload_n 0, 1) := by decide +kernel
theorem dX6_copies_16 : decode cX6_copies 16 = .ok (.iload_n 1, 1) := by decide +kernel
theorem dX6_copies_17 : decode cX6_copies 17 = .ok (.iload 4, 2) := by decide +kernel
theorem dX6_copies_19 : decode cX6_copies 19 = .ok (.iadd, 1) := by decide +kernel
theorem dX6_copies_20 : decode cX6_copies 20 = .ok (.iaload, 1) := by decide +kernel
theorem dX6_copies_21 : decode cX6_copies 21 = .ok (.iastore, 1) := by decide +kernel
theorem dX6_copies_22 : decode cX6_copies 22 = .ok (.iinc 4 1, 3) := by decide +kernel
theorem dX6_copies_25 : decode cX6_copies 25 = .ok (.goto (-22), 3) := by decide +kernel
theorem dX6_copies_28 : decode cX6_copies 28 = .ok (.return_, 1) := by decide +kernel
theorem dX6_record_0 : decode cX6_record 0 = .ok (.aload_n 0, 1) := by decide +kernel
theorem dX6_record_1 : decode cX6_record 1 = .ok (.getfield 22, 3) := by decide +kernel
theorem dX6_record_4 : decode cX6_record 4 = .ok (.bipush 6, 2) := by decide +kernel
theorem dX6_record_6 : decode cX6_record 6 = .ok (.if_icmp .ne 43, 3) := by decide +kernel
theorem dX6_record_9 : decode cX6_record 9 = .ok (.iconst 0, 1) := by decide +kernel
theorem dX6_record_10 : decode cX6_record 10 = .ok (.istore_n 1, 1) := by decide +kernel
theorem dX6_record_11 : decode cX6_record 11 = .ok (.iload_n 1, 1) := by decide +kernel
theorem dX6_record_12 : decode cX6_record 12 = .ok (.sipush 625, 3) := by decide +kernel
theorem dX6_record_15 : decode cX6_record 15 = .ok (.if_icmp .ge 24, 3) := by decide +kernel
theorem dX6_record_18 : decode cX6_record 18 = .ok (.aload_n 0, 1) := by decide +kernel
theorem dX6_record_19 : decode cX6_record 19 = .ok (.getfield 16, 3) := by decide +kernel
theorem dX6_record_22 : decode cX6_record 22 = .ok (.iload_n 1, 1) := by decide +kernel
theorem dX6_record_23 : decode cX6_record 23 = .ok (.aload_n 0, 1) := by decide +kernel
theorem dX6_record_24 : decode cX6_record 24 = .ok (.getfield 16, 3) := by decide +kernel
theorem dX6_record_27 : decode cX6_record 27 = .ok (.iload_n 1, 1) := by decide +kernel
theorem dX6_record_28 : decode cX6_record 28 = .ok (.bipush 125, 2) := by decide +kernel
theorem dX6_record_30 : decode cX6_record 30 = .ok (.iadd, 1) := by decide +kernel
theorem dX6_record_31 : decode cX6_record 31 = .ok (.iaload, 1) := by decide +kernel
theorem dX6_record_32 : decode cX6_record 32 = .ok (.iastore, 1) := by decide +kernel
theorem dX6_record_33 : decode cX6_record 33 = .ok (.iinc 1 1, 3) := by decide +kernel
theorem dX6_record_36 : decode cX6_record 36 = .ok (.goto (-25), 3) := by decide +kernel
theorem dX6_record_39 : decode cX6_record 39 = .ok (.aload_n 0, 1) := by decide +kernel
theorem dX6_record_40 : decode cX6_record 40 = .ok (.dup, 1) := by decide +kernel
theorem dX6_record_41 : decode cX6_record 41 = .ok (.getfield 22, 3) := by decide +kernel
theorem dX6_record_44 : decode cX6_record 44 = .ok (.iconst 1, 1) := by decide +kernel
theorem dX6_record_45 : decode cX6_record 45 = .ok (.isub, 1) := by decide +kernel
theorem dX6_record_46 : decode cX6_record 46 = .ok (.putfield 22, 3) := by decide +kernel
theorem dX6_record_49 : decode cX6_record 49 = .ok (.aload_n 0, 1) := by decide +kernel
theorem dX6_record_50 : decode cX6_record 50 = .ok (.getfield 7, 3) := by decide +kernel
theorem dX6_record_53 : decode cX6_record 53 = .ok (.iconst 0, 1) := by decide +kernel
theorem dX6_record_54 : decode cX6_record 54 = .ok (.aload_n 0, 1) := by decide +kernel
theorem dX6_record_55 : decode cX6_record 55 = .ok (.getfield 16, 3) := by decide +kernel
theorem dX6_record_58 : decode cX6_record 58 = .ok (.aload_n 0, 1) := by decide +kernel
theorem dX6_record_59 : decode cX6_record 59 = .ok (.getfield 22, 3) := by decide +kernel
theorem dX6_record_62 : decode cX6_record 62 = .ok (.bipush 125, 2) := by decide +kernel
theorem dX6_record_64 : decode cX6_record 64 = .ok (.imul, 1) := by decide +kernel
theorem dX6_record_65 : decode cX6_record 65 = .ok (.invokestatic 26, 3) := by decide +kernel
theorem dX6_record_68 : decode cX6_record 68 = .ok (.aload_n 0, 1) := by decide +kernel
theorem dX6_record_69 : decode cX6_record 69 = .ok (.dup, 1) := by decide +kernel
theorem dX6_record_70 : decode cX6_record 70 = .ok (.getfield 22, 3) := by decide +kernel
theorem dX6_record_73 : decode cX6_record 73 = .ok (.iconst 1, 1) := by decide +kernel
theorem dX6_record_74 : decode cX6_record 74 = .ok (.iadd, 1) := by decide +kernel
theorem dX6_record_75 : decode cX6_record 75 = .ok (.putfield 22, 3) := by decide +kernel
theorem dX6_record_78 : decode cX6_record 78 = .ok (.return_, 1) := by decide +kernel
theorem dX6_part_0 : decode cX6_part 0 = .ok (.aload_n 0, 1) := by decide +kernel
theorem dX6_part_1 : decode cX6_part 1 = .ok (.getfield 7, 3) := by decide +kernel
theorem dX6_part_4 : decode cX6_part 4 = .ok (.bipush 45, 2) := by decide +kernel
theorem dX6_part_6 : decode cX6_part 6 = .ok (.iconst 5, 1) := by decide +kernel
theorem dX6_part_7 : decode cX6_part 7 = .ok (.iload_n 1, 1) := by decide +kernel
theorem dX6_part_8 : decode cX6_part 8 = .ok (.imul, 1) := by decide +kernel
theorem dX6_part_9 : decode cX6_part 9 = .ok (.iadd, 1) := by decide +kernel
theorem dX6_part_10 : decode cX6_part 10 = .ok (.iload_n 2, 1) := by decide +kernel
theorem dX6_part_11 : decode cX6_part 11 = .ok (.iadd, 1) := by decide +kernel
theorem dX6_part_12 : decode cX6_part 12 = .ok (.iaload, 1) := by decide +kernel
theorem dX6_part_13 : decode cX6_part 13 = .ok (.ireturn, 1) := by decide +kernel
theorem dX6_setPart_0 : decode cX6_setPart 0 = .ok (.aload_n 0, 1) := by decide +kernel
theorem dX6_setPart_1 : decode cX6_setPart 1 = .ok (.getfield 7, 3) := by decide +kernel
theorem dX6_setPart_4 : decode cX6_setPart 4 = .ok (.bipush 45, 2) := by decide +kernel
theorem dX6_setPart_6 : decode cX6_setPart 6 = .ok (.iconst 5, 1) := by decide +kernel
theorem dX6_setPart_7 : decode cX6_setPart 7 = .ok (.iload_n 1, 1) := by decide +kernel
theorem dX6_setPart_8 : decode cX6_setPart 8 = .ok (.imul, 1) := by decide +kernel
theorem dX6_setPart_9 : decode cX6_setPart 9 = .ok (.iadd, 1) := by decide +kernel
theorem dX6_setPart_10 : decode cX6_setPart 10 = .ok (.iload_n 2, 1) := by decide +kernel
theorem dX6_setPart_11 : decode cX6_setPart 11 = .ok (.iadd, 1) := by decide +kernel
theorem dX6_setPart_12 : decode cX6_setPart 12 = .ok (.iload_n 3, 1) := by decide +kernel
theorem dX6_setPart_13 : decode cX6_setPart 13 = .ok (.iastore, 1) := by decide +kernel
theorem dX6_setPart_14 : decode cX6_setPart 14 = .ok (.return_, 1) := by decide +kernel
theorem dX6_find_0 : decode cX6_find 0 = .ok (.bipush (-6), 2) := by decide +kernel
theorem dX6_find_2 : decode cX6_find 2 = .ok (.istore_n 2, 1) := by decide +kernel
theorem dX6_find_3 : decode cX6_find 3 = .ok (.iconst 0, 1) := by decide +kernel
theorem dX6_find_4 : decode cX6_find 4 = .ok (.istore_n 3, 1) := by decide +kernel
theorem dX6_find_5 : decode cX6_find 5 = .ok (.iload_n 3, 1) := by decide +kernel
theorem dX6_find_6 : decode cX6_find 6 = .ok (.aload_n 0, 1) := by decide +kernel
theorem dX6_find_7 : decode cX6_find 7 = .ok (.getfield 7, 3) := by decide +kernel
theorem dX6_find_10 : decode cX6_find 10 = .ok (.iconst 2, 1) := by decide +kernel
theorem dX6_find_11 : decode cX6_find 11 = .ok (.iaload, 1) := by decide +kernel
theorem dX6_find_12 : decode cX6_find 12 = .ok (.if_icmp .ge 25, 3) := by decide +kernel
theorem dX6_find_15 : decode cX6_find 15 = .ok (.aload_n 0, 1) := by decide +kernel
theorem dX6_find_16 : decode cX6_find 16 = .ok (.iload_n 3, 1) := by decide +kernel
theorem dX6_find_17 : decode cX6_find 17 = .ok (.iconst 0, 1) := by decide +kernel
theorem dX6_find_18 : decode cX6_find 18 = .ok (.invokevirtual 30, 3) := by decide +kernel
theorem dX6_find_21 : decode cX6_find 21 = .ok (.iload_n 1, 1) := by decide +kernel
theorem dX6_find_22 : decode cX6_find 22 = .ok (.if_icmp .ne 7, 3) := by decide +kernel
theorem dX6_find_25 : decode cX6_find 25 = .ok (.iload_n 3, 1) := by decide +kernel
theorem dX6_find_26 : decode cX6_find 26 = .ok (.goto 4, 3) := by decide +kernel
theorem dX6_find_29 : decode cX6_find 29 = .ok (.iload_n 2, 1) := by decide +kernel
theorem dX6_find_30 : decode cX6_find 30 = .ok (.istore_n 2, 1) := by decide +kernel
theorem dX6_find_31 : decode cX6_find 31 = .ok (.iinc 3 1, 3) := by decide +kernel
theorem dX6_find_34 : decode cX6_find 34 = .ok (.goto (-29), 3) := by decide +kernel
theorem dX6_find_37 : decode cX6_find 37 = .ok (.iload_n 2, 1) := by decide +kernel
theorem dX6_find_38 : decode cX6_find 38 = .ok (.ireturn, 1) := by decide +kernel
theorem dX6_drops_0 : decode cX6_drops 0 = .ok (.aload_n 0, 1) := by decide +kernel
theorem dX6_drops_1 : decode cX6_drops 1 = .ok (.getfield 7, 3) := by decide +kernel
theorem dX6_drops_4 : decode cX6_drops 4 = .ok (.iconst 2, 1) := by decide +kernel
theorem dX6_drops_5 : decode cX6_drops 5 = .ok (.dup2, 1) := by decide +kernel
theorem dX6_drops_6 : decode cX6_drops 6 = .ok (.iaload, 1) := by decide +kernel
theorem dX6_drops_7 : decode cX6_drops 7 = .ok (.iconst 1, 1) := by decide +kernel
theorem dX6_drops_8 : decode cX6_drops 8 = .ok (.isub, 1) := by decide +kernel
theorem dX6_drops_9 : decode cX6_drops 9 = .ok (.iastore, 1) := by decide +kernel
theorem dX6_drops_10 : decode cX6_drops 10 = .ok (.bipush 45, 2) := by decide +kernel
theorem dX6_drops_12 : decode cX6_drops 12 = .ok (.iconst 5, 1) := by decide +kernel
theorem dX6_drops_13 : decode cX6_drops 13 = .ok (.iload_n 1, 1) := by decide +kernel
theorem dX6_drops_14 : decode cX6_drops 14 = .ok (.imul, 1) := by decide +kernel
theorem dX6_drops_15 : decode cX6_drops 15 = .ok (.iadd, 1) := by decide +kernel
theorem dX6_drops_16 : decode cX6_drops 16 = .ok (.istore_n 2, 1) := by decide +kernel
theorem dX6_drops_17 : decode cX6_drops 17 = .ok (.iload_n 2, 1) := by decide +kernel
theorem dX6_drops_18 : decode cX6_drops 18 = .ok (.bipush 45, 2) := by decide +kernel
theorem dX6_drops_20 : decode cX6_drops 20 = .ok (.iconst 5, 1) := by decide +kernel
theorem dX6_drops_21 : decode cX6_drops 21 = .ok (.aload_n 0, 1) := by decide +kernel
theorem dX6_drops_22 : decode cX6_drops 22 = .ok (.getfield 7, 3) := by decide +kernel
theorem dX6_drops_25 : decode cX6_drops 25 = .ok (.iconst 2, 1) := by decide +kernel
theorem dX6_drops_26 : decode cX6_drops 26 = .ok (.iaload, 1) := by decide +kernel
theorem dX6_drops_27 : decode cX6_drops 27 = .ok (.imul, 1) := by decide +kernel
theorem dX6_drops_28 : decode cX6_drops 28 = .ok (.iadd, 1) := by decide +kernel
theorem dX6_drops_29 : decode cX6_drops 29 = .ok (.if_icmp .ge 23, 3) := by decide +kernel
theorem dX6_drops_32 : decode cX6_drops 32 = .ok (.aload_n 0, 1) := by decide +kernel
theorem dX6_drops_33 : decode cX6_drops 33 = .ok (.getfield 7, 3) := by decide +kernel
theorem dX6_drops_36 : decode cX6_drops 36 = .ok (.iload_n 2, 1) := by decide +kernel
theorem dX6_drops_37 : decode cX6_drops 37 = .ok (.aload_n 0, 1) := by decide +kernel
theorem dX6_drops_38 : decode cX6_drops 38 = .ok (.getfield 7, 3) := by decide +kernel
theorem dX6_drops_41 : decode cX6_drops 41 = .ok (.iload_n 2, 1) := by decide +kernel
theorem dX6_drops_42 : decode cX6_drops 42 = .ok (.iconst 5, 1) := by decide +kernel
theorem dX6_drops_43 : decode cX6_drops 43 = .ok (.iadd, 1) := by decide +kernel
theorem dX6_drops_44 : decode cX6_drops 44 = .ok (.iaload, 1) := by decide +kernel
theorem dX6_drops_45 : decode cX6_drops 45 = .ok (.iastore, 1) := by decide +kernel
theorem dX6_drops_46 : decode cX6_drops 46 = .ok (.iinc 2 1, 3) := by decide +kernel
theorem dX6_drops_49 : decode cX6_drops 49 = .ok (.goto (-32), 3) := by decide +kernel
theorem dX6_drops_52 : decode cX6_drops 52 = .ok (.iconst 0, 1) := by decide +kernel
theorem dX6_drops_53 : decode cX6_drops 53 = .ok (.istore_n 2, 1) := by decide +kernel
theorem dX6_drops_54 : decode cX6_drops 54 = .ok (.iload_n 2, 1) := by decide +kernel
theorem dX6_drops_55 : decode cX6_drops 55 = .ok (.iconst 5, 1) := by decide +kernel
theorem dX6_drops_56 : decode cX6_drops 56 = .ok (.if_icmp .ge 28, 3) := by decide +kernel
theorem dX6_drops_59 : decode cX6_drops 59 = .ok (.aload_n 0, 1) := by decide +kernel
theorem dX6_drops_60 : decode cX6_drops 60 = .ok (.getfield 7, 3) := by decide +kernel
theorem dX6_drops_63 : decode cX6_drops 63 = .ok (.bipush 45, 2) := by decide +kernel
theorem dX6_drops_65 : decode cX6_drops 65 = .ok (.iconst 5, 1) := by decide +kernel
theorem dX6_drops_66 : decode cX6_drops 66 = .ok (.aload_n 0, 1) := by decide +kernel
theorem dX6_drops_67 : decode cX6_drops 67 = .ok (.getfield 7, 3) := by decide +kernel
theorem dX6_drops_70 : decode cX6_drops 70 = .ok (.iconst 2, 1) := by decide +kernel
theorem dX6_drops_71 : decode cX6_drops 71 = .ok (.iaload, 1) := by decide +kernel
theorem dX6_drops_72 : decode cX6_drops 72 = .ok (.imul, 1) := by decide +kernel
theorem dX6_drops_73 : decode cX6_drops 73 = .ok (.iadd, 1) := by decide +kernel
theorem dX6_drops_74 : decode cX6_drops 74 = .ok (.iload_n 2, 1) := by decide +kernel
theorem dX6_drops_75 : decode cX6_drops 75 = .ok (.iadd, 1) := by decide +kernel
theorem dX6_drops_76 : decode cX6_drops 76 = .ok (.iconst 0, 1) := by decide +kernel
theorem dX6_drops_77 : decode cX6_drops 77 = .ok (.iastore, 1) := by decide +kernel
theorem dX6_drops_78 : decode cX6_drops 78 = .ok (.iinc 2 1, 3) := by decide +kernel
theorem dX6_drops_81 : decode cX6_drops 81 = .ok (.goto (-27), 3) := by decide +kernel
theorem dX6_drops_84 : decode cX6_drops 84 = .ok (.return_, 1) := by decide +kernel
theorem dX6_throwsAway_0 : decode cX6_throwsAway 0 = .ok (.aload_n 0, 1) := by decide +kernel
theorem dX6_throwsAway_1 : decode cX6_throwsAway 1 = .ok (.getfield 7, 3) := by decide +kernel
theorem dX6_throwsAway_4 : decode cX6_throwsAway 4 = .ok (.iconst 5, 1) := by decide +kernel
theorem dX6_throwsAway_5 : decode cX6_throwsAway 5 = .ok (.dup2, 1) := by decide +kernel
theorem dX6_throwsAway_6 : decode cX6_throwsAway 6 = .ok (.iaload, 1) := by decide +kernel
theorem dX6_throwsAway_7 : decode cX6_throwsAway 7 = .ok (.aload_n 0, 1) := by decide +kernel
theorem dX6_throwsAway_8 : decode cX6_throwsAway 8 = .ok (.iload_n 1, 1) := by decide +kernel
theorem dX6_throwsAway_9 : decode cX6_throwsAway 9 = .ok (.iconst 2, 1) := by decide +kernel
theorem dX6_throwsAway_10 : decode cX6_throwsAway 10 = .ok (.invokevirtual 30, 3) := by decide +kernel
theorem dX6_throwsAway_13 : decode cX6_throwsAway 13 = .ok (.iadd, 1) := by decide +kernel
theorem dX6_throwsAway_14 : decode cX6_throwsAway 14 = .ok (.iastore, 1) := by decide +kernel
theorem dX6_throwsAway_15 : decode cX6_throwsAway 15 = .ok (.aload_n 0, 1) := by decide +kernel
theorem dX6_throwsAway_16 : decode cX6_throwsAway 16 = .ok (.iload_n 1, 1) := by decide +kernel
theorem dX6_throwsAway_17 : decode cX6_throwsAway 17 = .ok (.invokevirtual 34, 3) := by decide +kernel
theorem dX6_throwsAway_20 : decode cX6_throwsAway 20 = .ok (.return_, 1) := by decide +kernel
theorem dX6_isKind_0 : decode cX6_isKind 0 = .ok (.iload_n 0, 1) := by decide +kernel
theorem dX6_isKind_1 : decode cX6_isKind 1 = .ok (.iconst 0, 1) := by decide +kernel
theorem dX6_isKind_2 : decode cX6_isKind 2 = .ok (.iconst 5, 1) := by decide +kernel
theorem dX6_isKind_3 : decode cX6_isKind 3 = .ok (.invokestatic 38, 3) := by decide +kernel
theorem dX6_isKind_6 : decode cX6_isKind 6 = .ok (.ireturn, 1) := by decide +kernel
theorem dX6_isBox_0 : decode cX6_isBox 0 = .ok (.iload_n 0, 1) := by decide +kernel
theorem dX6_isBox_1 : decode cX6_isBox 1 = .ok (.iconst 0, 1) := by decide +kernel
theorem dX6_isBox_2 : decode cX6_isBox 2 = .ok (.iconst 5, 1) := by decide +kernel
theorem dX6_isBox_3 : decode cX6_isBox 3 = .ok (.invokestatic 38, 3) := by decide +kernel
theorem dX6_isBox_6 : decode cX6_isBox 6 = .ok (.ireturn, 1) := by decide +kernel
theorem dX6_isTray_0 : decode cX6_isTray 0 = .ok (.iload_n 0, 1) := by decide +kernel
theorem dX6_isTray_1 : decode cX6_isTray 1 = .ok (.iconst 0, 1) := by decide +kernel
theorem dX6_isTray_2 : decode cX6_isTray 2 = .ok (.iconst 4, 1) := by decide +kernel
theorem dX6_isTray_3 : decode cX6_isTray 3 = .ok (.invokestatic 38, 3) := by decide +kernel
theorem dX6_isTray_6 : decode cX6_isTray 6 = .ok (.ireturn, 1) := by decide +kernel
theorem dX6_isTrayPlace_0 : decode cX6_isTrayPlace 0 = .ok (.iload_n 0, 1) := by decide +kernel
theorem dX6_isTrayPlace_1 : decode cX6_isTrayPlace 1 = .ok (.bipush 6, 2) := by decide +kernel
theorem dX6_isTrayPlace_3 : decode cX6_isTrayPlace 3 = .ok (.if_icmp .lt 7, 3) := by decide +kernel
theorem dX6_isTrayPlace_6 : decode cX6_isTrayPlace 6 = .ok (.iconst 1, 1) := by decide +kernel
theorem dX6_isTrayPlace_7 : decode cX6_isTrayPlace 7 = .ok (.goto 4, 3) := by decide +kernel
theorem dX6_isTrayPlace_10 : decode cX6_isTrayPlace 10 = .ok (.iconst 0, 1) := by decide +kernel
theorem dX6_isTrayPlace_11 : decode cX6_isTrayPlace 11 = .ok (.ireturn, 1) := by decide +kernel
theorem dX6_lotsAt_0 : decode cX6_lotsAt 0 = .ok (.iconst 0, 1) := by decide +kernel
theorem dX6_lotsAt_1 : decode cX6_lotsAt 1 = .ok (.istore_n 2, 1) := by decide +kernel
theorem dX6_lotsAt_2 : decode cX6_lotsAt 2 = .ok (.iconst 0, 1) := by decide +kernel
theorem dX6_lotsAt_3 : decode cX6_lotsAt 3 = .ok (.istore_n 3, 1) := by decide +kernel
theorem dX6_lotsAt_4 : decode cX6_lotsAt 4 = .ok (.iload_n 3, 1) := by decide +kernel
theorem dX6_lotsAt_5 : decode cX6_lotsAt 5 = .ok (.aload_n 0, 1) := by decide +kernel
theorem dX6_lotsAt_6 : decode cX6_lotsAt 6 = .ok (.getfield 7, 3) := by decide +kernel
theorem dX6_lotsAt_9 : decode cX6_lotsAt 9 = .ok (.iconst 2, 1) := by decide +kernel
theorem dX6_lotsAt_10 : decode cX6_lotsAt 10 = .ok (.iaload, 1) := by decide +kernel
theorem dX6_lotsAt_11 : decode cX6_lotsAt 11 = .ok (.if_icmp .ge 27, 3) := by decide +kernel
theorem dX6_lotsAt_14 : decode cX6_lotsAt 14 = .ok (.iload_n 2, 1) := by decide +kernel
theorem dX6_lotsAt_15 : decode cX6_lotsAt 15 = .ok (.aload_n 0, 1) := by decide +kernel
theorem dX6_lotsAt_16 : decode cX6_lotsAt 16 = .ok (.iload_n 3, 1) := by decide +kernel
theorem dX6_lotsAt_17 : decode cX6_lotsAt 17 = .ok (.iconst 4, 1) := by decide +kernel
theorem dX6_lotsAt_18 : decode cX6_lotsAt 18 = .ok (.invokevirtual 30, 3) := by decide +kernel
theorem dX6_lotsAt_21 : decode cX6_lotsAt 21 = .ok (.iload_n 1, 1) := by decide +kernel
theorem dX6_lotsAt_22 : decode cX6_lotsAt 22 = .ok (.if_icmp .ne 7, 3) := by decide +kernel
theorem dX6_lotsAt_25 : decode cX6_lotsAt 25 = .ok (.iconst 1, 1) := by decide +kernel
theorem dX6_lotsAt_26 : decode cX6_lotsAt 26 = .ok (.goto 4, 3) := by decide +kernel
theorem dX6_lotsAt_29 : decode cX6_lotsAt 29 = .ok (.iconst 0, 1) := by decide +kernel
theorem dX6_lotsAt_30 : decode cX6_lotsAt 30 = .ok (.iadd, 1) := by decide +kernel
theorem dX6_lotsAt_31 : decode cX6_lotsAt 31 = .ok (.istore_n 2, 1) := by decide +kernel
theorem dX6_lotsAt_32 : decode cX6_lotsAt 32 = .ok (.iinc 3 1, 3) := by decide +kernel
theorem dX6_lotsAt_35 : decode cX6_lotsAt 35 = .ok (.goto (-31), 3) := by decide +kernel
theorem dX6_lotsAt_38 : decode cX6_lotsAt 38 = .ok (.iload_n 2, 1) := by decide +kernel
theorem dX6_lotsAt_39 : decode cX6_lotsAt 39 = .ok (.ireturn, 1) := by decide +kernel
theorem dX6_firstAt_0 : decode cX6_firstAt 0 = .ok (.bipush (-6), 2) := by decide +kernel
theorem dX6_firstAt_2 : decode cX6_firstAt 2 = .ok (.istore_n 2, 1) := by decide +kernel
theorem dX6_firstAt_3 : decode cX6_firstAt 3 = .ok (.aload_n 0, 1) := by decide +kernel
theorem dX6_firstAt_4 : decode cX6_firstAt 4 = .ok (.getfield 7, 3) := by decide +kernel
theorem dX6_firstAt_7 : decode cX6_firstAt 7 = .ok (.iconst 2, 1) := by decide +kernel
theorem dX6_firstAt_8 : decode cX6_firstAt 8 = .ok (.iaload, 1) := by decide +kernel
theorem dX6_firstAt_9 : decode cX6_firstAt 9 = .ok (.iconst 1, 1) := by decide +kernel
theorem dX6_firstAt_10 : decode cX6_firstAt 10 = .ok (.isub, 1) := by decide +kernel
theorem dX6_firstAt_11 : decode cX6_firstAt 11 = .ok (.istore_n 3, 1) := by decide +kernel
theorem dX6_firstAt_12 : decode cX6_firstAt 12 = .ok (.iload_n 3, 1) := by decide +kernel
theorem dX6_firstAt_13 : decode cX6_firstAt 13 = .ok (.ifCond .lt 25, 3) := by decide +kernel
theorem dX6_firstAt_16 : decode cX6_firstAt 16 = .ok (.aload_n 0, 1) := by decide +kernel
theorem dX6_firstAt_17 : decode cX6_firstAt 17 = .ok (.iload_n 3, 1) := by decide +kernel
theorem dX6_firstAt_18 : decode cX6_firstAt 18 = .ok (.iconst 4, 1) := by decide +kernel
theorem dX6_firstAt_19 : decode cX6_firstAt 19 = .ok (.invokevirtual 30, 3) := by decide +kernel
theorem dX6_firstAt_22 : decode cX6_firstAt 22 = .ok (.iload_n 1, 1) := by decide +kernel
theorem dX6_firstAt_23 : decode cX6_firstAt 23 = .ok (.if_icmp .ne 7, 3) := by decide +kernel
theorem dX6_firstAt_26 : decode cX6_firstAt 26 = .ok (.iload_n 3, 1) := by decide +kernel
theorem dX6_firstAt_27 : decode cX6_firstAt 27 = .ok (.goto 4, 3) := by decide +kernel
theorem dX6_firstAt_30 : decode cX6_firstAt 30 = .ok (.iload_n 2, 1) := by decide +kernel
theorem dX6_firstAt_31 : decode cX6_firstAt 31 = .ok (.istore_n 2, 1) := by decide +kernel
theorem dX6_firstAt_32 : decode cX6_firstAt 32 = .ok (.iinc 3 (-1), 3) := by decide +kernel
theorem dX6_firstAt_35 : decode cX6_firstAt 35 = .ok (.goto (-23), 3) := by decide +kernel
theorem dX6_firstAt_38 : decode cX6_firstAt 38 = .ok (.iload_n 2, 1) := by decide +kernel
theorem dX6_firstAt_39 : decode cX6_firstAt 39 = .ok (.ireturn, 1) := by decide +kernel
theorem dX6_priceWith_0 : decode cX6_priceWith 0 = .ok (.aload_n 0, 1) := by decide +kernel
theorem dX6_priceWith_1 : decode cX6_priceWith 1 = .ok (.getfield 7, 3) := by decide +kernel
theorem dX6_priceWith_4 : decode cX6_priceWith 4 = .ok (.bipush 11, 2) := by decide +kernel
theorem dX6_priceWith_6 : decode cX6_priceWith 6 = .ok (.iload_n 1, 1) := by decide +kernel
theorem dX6_priceWith_7 : decode cX6_priceWith 7 = .ok (.iadd, 1) := by decide +kernel
theorem dX6_priceWith_8 : decode cX6_priceWith 8 = .ok (.iaload, 1) := by decide +kernel
theorem dX6_priceWith_9 : decode cX6_priceWith 9 = .ok (.bipush 50, 2) := by decide +kernel
theorem dX6_priceWith_11 : decode cX6_priceWith 11 = .ok (.iload_n 2, 1) := by decide +kernel
theorem dX6_priceWith_12 : decode cX6_priceWith 12 = .ok (.iconst 2, 1) := by decide +kernel
theorem dX6_priceWith_13 : decode cX6_priceWith 13 = .ok (.idiv, 1) := by decide +kernel
theorem dX6_priceWith_14 : decode cX6_priceWith 14 = .ok (.iadd, 1) := by decide +kernel
theorem dX6_priceWith_15 : decode cX6_priceWith 15 = .ok (.imul, 1) := by decide +kernel
theorem dX6_priceWith_16 : decode cX6_priceWith 16 = .ok (.bipush 100, 2) := by decide +kernel
theorem dX6_priceWith_18 : decode cX6_priceWith 18 = .ok (.idiv, 1) := by decide +kernel
theorem dX6_priceWith_19 : decode cX6_priceWith 19 = .ok (.istore 4, 2) := by decide +kernel
theorem dX6_priceWith_21 : decode cX6_priceWith 21 = .ok (.iload 4, 2) := by decide +kernel
theorem dX6_priceWith_23 : decode cX6_priceWith 23 = .ok (.bipush 100, 2) := by decide +kernel
theorem dX6_priceWith_25 : decode cX6_priceWith 25 = .ok (.aload_n 0, 1) := by decide +kernel
theorem dX6_priceWith_26 : decode cX6_priceWith 26 = .ok (.getfield 7, 3) := by decide +kernel
theorem dX6_priceWith_29 : decode cX6_priceWith 29 = .ok (.bipush 23, 2) := by decide +kernel
theorem dX6_priceWith_31 : decode cX6_priceWith 31 = .ok (.iload_n 3, 1) := by decide +kernel
theorem dX6_priceWith_32 : decode cX6_priceWith 32 = .ok (.iadd, 1) := by decide +kernel
theorem dX6_priceWith_33 : decode cX6_priceWith 33 = .ok (.iaload, 1) := by decide +kernel
theorem dX6_priceWith_34 : decode cX6_priceWith 34 = .ok (.isub, 1) := by decide +kernel
theorem dX6_priceWith_35 : decode cX6_priceWith 35 = .ok (.imul, 1) := by decide +kernel
theorem dX6_priceWith_36 : decode cX6_priceWith 36 = .ok (.bipush 100, 2) := by decide +kernel
theorem dX6_priceWith_38 : decode cX6_priceWith 38 = .ok (.idiv, 1) := by decide +kernel
theorem dX6_priceWith_39 : decode cX6_priceWith 39 = .ok (.ireturn, 1) := by decide +kernel
theorem dX6_priceOf_0 : decode cX6_priceOf 0 = .ok (.aload_n 0, 1) := by decide +kernel
theorem dX6_priceOf_1 : decode cX6_priceOf 1 = .ok (.aload_n 0, 1) := by decide +kernel
theorem dX6_priceOf_2 : decode cX6_priceOf 2 = .ok (.iload_n 1, 1) := by decide +kernel
theorem dX6_priceOf_3 : decode cX6_priceOf 3 = .ok (.iconst 1, 1) := by decide +kernel
theorem dX6_priceOf_4 : decode cX6_priceOf 4 = .ok (.invokevirtual 30, 3) := by decide +kernel
theorem dX6_priceOf_7 : decode cX6_priceOf 7 = .ok (.aload_n 0, 1) := by decide +kernel
theorem dX6_priceOf_8 : decode cX6_priceOf 8 = .ok (.iload_n 1, 1) := by decide +kernel
theorem dX6_priceOf_9 : decode cX6_priceOf 9 = .ok (.iconst 3, 1) := by decide +kernel
theorem dX6_priceOf_10 : decode cX6_priceOf 10 = .ok (.invokevirtual 30, 3) := by decide +kernel
theorem dX6_priceOf_13 : decode cX6_priceOf 13 = .ok (.aload_n 0, 1) := by decide +kernel
theorem dX6_priceOf_14 : decode cX6_priceOf 14 = .ok (.getfield 7, 3) := by decide +kernel
theorem dX6_priceOf_17 : decode cX6_priceOf 17 = .ok (.iconst 1, 1) := by decide +kernel
theorem dX6_priceOf_18 : decode cX6_priceOf 18 = .ok (.iaload, 1) := by decide +kernel
theorem dX6_priceOf_19 : decode cX6_priceOf 19 = .ok (.invokevirtual 42, 3) := by decide +kernel
theorem dX6_priceOf_22 : decode cX6_priceOf 22 = .ok (.ireturn, 1) := by decide +kernel
theorem dX6_worthOf_0 : decode cX6_worthOf 0 = .ok (.iload_n 0, 1) := by decide +kernel
theorem dX6_worthOf_1 : decode cX6_worthOf 1 = .ok (.iload_n 1, 1) := by decide +kernel
theorem dX6_worthOf_2 : decode cX6_worthOf 2 = .ok (.imul, 1) := by decide +kernel
theorem dX6_worthOf_3 : decode cX6_worthOf 3 = .ok (.sipush 1000, 3) := by decide +kernel
theorem dX6_worthOf_6 : decode cX6_worthOf 6 = .ok (.idiv, 1) := by decide +kernel
theorem dX6_worthOf_7 : decode cX6_worthOf 7 = .ok (.ireturn, 1) := by decide +kernel
theorem dX6_isSold_0 : decode cX6_isSold 0 = .ok (.aload_n 0, 1) := by decide +kernel
theorem dX6_isSold_1 : decode cX6_isSold 1 = .ok (.iload_n 1, 1) := by decide +kernel
theorem dX6_isSold_2 : decode cX6_isSold 2 = .ok (.iconst 3, 1) := by decide +kernel
theorem dX6_isSold_3 : decode cX6_isSold 3 = .ok (.invokevirtual 30, 3) := by decide +kernel
theorem dX6_isSold_6 : decode cX6_isSold 6 = .ok (.aload_n 0, 1) := by decide +kernel
theorem dX6_isSold_7 : decode cX6_isSold 7 = .ok (.getfield 7, 3) := by decide +kernel
theorem dX6_isSold_10 : decode cX6_isSold 10 = .ok (.bipush 9, 2) := by decide +kernel
theorem dX6_isSold_12 : decode cX6_isSold 12 = .ok (.iaload, 1) := by decide +kernel
theorem dX6_isSold_13 : decode cX6_isSold 13 = .ok (.if_icmp .lt 7, 3) := by decide +kernel
theorem dX6_isSold_16 : decode cX6_isSold 16 = .ok (.iconst 1, 1) := by decide +kernel
theorem dX6_isSold_17 : decode cX6_isSold 17 = .ok (.goto 4, 3) := by decide +kernel
theorem dX6_isSold_20 : decode cX6_isSold 20 = .ok (.iconst 0, 1) := by decide +kernel
theorem dX6_isSold_21 : decode cX6_isSold 21 = .ok (.ireturn, 1) := by decide +kernel
theorem dX6_setPrice_0 : decode cX6_setPrice 0 = .ok (.iload_n 1, 1) := by decide +kernel
theorem dX6_setPrice_1 : decode cX6_setPrice 1 = .ok (.invokestatic 46, 3) := by decide +kernel
theorem dX6_setPrice_4 : decode cX6_setPrice 4 = .ok (.ifCond .ne 5, 3) := by decide +kernel
theorem dX6_setPrice_7 : decode cX6_setPrice 7 = .ok (.iconst (-1), 1) := by decide +kernel
theorem dX6_setPrice_8 : decode cX6_setPrice 8 = .ok (.ireturn, 1) := by decide +kernel
theorem dX6_setPrice_9 : decode cX6_setPrice 9 = .ok (.iload_n 2, 1) := by decide +kernel
theorem dX6_setPrice_10 : decode cX6_setPrice 10 = .ok (.iconst 1, 1) := by decide +kernel
theorem dX6_setPrice_11 : decode cX6_setPrice 11 = .ok (.sipush 9999, 3) := by decide +kernel
theorem dX6_setPrice_14 : decode cX6_setPrice 14 = .ok (.invokestatic 38, 3) := by decide +kernel
theorem dX6_setPrice_17 : decode cX6_setPrice 17 = .ok (.ifCond .eq 14, 3) := by decide +kernel
theorem dX6_setPrice_20 : decode cX6_setPrice 20 = .ok (.iload_n 3, 1) := by decide +kernel
theorem dX6_setPrice_21 : decode cX6_setPrice 21 = .ok (.iconst 1, 1) := by decide +kernel
theorem dX6_setPrice_22 : decode cX6_setPrice 22 = .ok (.sipush 9999, 3) := by decide +kernel
theorem dX6_setPrice_25 : decode cX6_setPrice 25 = .ok (.invokestatic 38, 3) := by decide +kernel
theorem dX6_setPrice_28 : decode cX6_setPrice 28 = .ok (.ifCond .ne 6, 3) := by decide +kernel
theorem dX6_setPrice_31 : decode cX6_setPrice 31 = .ok (.bipush (-2), 2) := by decide +kernel
theorem dX6_setPrice_33 : decode cX6_setPrice 33 = .ok (.ireturn, 1) := by decide +kernel
theorem dX6_setPrice_34 : decode cX6_setPrice 34 = .ok (.aload_n 0, 1) := by decide +kernel
theorem dX6_setPrice_35 : decode cX6_setPrice 35 = .ok (.invokevirtual 50, 3) := by decide +kernel
theorem dX6_setPrice_38 : decode cX6_setPrice 38 = .ok (.aload_n 0, 1) := by decide +kernel
theorem dX6_setPrice_39 : decode cX6_setPrice 39 = .ok (.getfield 7, 3) := by decide +kernel
theorem dX6_setPrice_42 : decode cX6_setPrice 42 = .ok (.bipush 11, 2) := by decide +kernel
theorem dX6_setPrice_44 : decode cX6_setPrice 44 = .ok (.iload_n 1, 1) := by decide +kernel
theorem dX6_setPrice_45 : decode cX6_setPrice 45 = .ok (.iadd, 1) := by decide +kernel
theorem dX6_setPrice_46 : decode cX6_setPrice 46 = .ok (.iaload, 1) := by decide +kernel
theorem dX6_setPrice_47 : decode cX6_setPrice 47 = .ok (.istore 4, 2) := by decide +kernel
theorem dX6_setPrice_49 : decode cX6_setPrice 49 = .ok (.aload_n 0, 1) := by decide +kernel
theorem dX6_setPrice_50 : decode cX6_setPrice 50 = .ok (.getfield 7, 3) := by decide +kernel
theorem dX6_setPrice_53 : decode cX6_setPrice 53 = .ok (.bipush 11, 2) := by decide +kernel
theorem dX6_setPrice_55 : decode cX6_setPrice 55 = .ok (.iload_n 1, 1) := by decide +kernel
theorem dX6_setPrice_56 : decode cX6_setPrice 56 = .ok (.iadd, 1) := by decide +kernel
theorem dX6_setPrice_57 : decode cX6_setPrice 57 = .ok (.iload_n 2, 1) := by decide +kernel
theorem dX6_setPrice_58 : decode cX6_setPrice 58 = .ok (.iastore, 1) := by decide +kernel
theorem dX6_setPrice_59 : decode cX6_setPrice 59 = .ok (.aload_n 0, 1) := by decide +kernel
theorem dX6_setPrice_60 : decode cX6_setPrice 60 = .ok (.getfield 7, 3) := by decide +kernel
theorem dX6_setPrice_63 : decode cX6_setPrice 63 = .ok (.bipush 17, 2) := by decide +kernel
theorem dX6_setPrice_65 : decode cX6_setPrice 65 = .ok (.iload_n 1, 1) := by decide +kernel
theorem dX6_setPrice_66 : decode cX6_setPrice 66 = .ok (.iadd, 1) := by decide +kernel
theorem dX6_setPrice_67 : decode cX6_setPrice 67 = .ok (.iload_n 3, 1) := by decide +kernel
theorem dX6_setPrice_68 : decode cX6_setPrice 68 = .ok (.iastore, 1) := by decide +kernel
theorem dX6_setPrice_69 : decode cX6_setPrice 69 = .ok (.iload 4, 2) := by decide +kernel
theorem dX6_setPrice_71 : decode cX6_setPrice 71 = .ok (.ireturn, 1) := by decide +kernel
theorem dX6_isHour_0 : decode cX6_isHour 0 = .ok (.iload_n 0, 1) := by decide +kernel
theorem dX6_isHour_1 : decode cX6_isHour 1 = .ok (.iconst 0, 1) := by decide +kernel
theorem dX6_isHour_2 : decode cX6_isHour 2 = .ok (.bipush 10, 2) := by decide +kernel
theorem dX6_isHour_4 : decode cX6_isHour 4 = .ok (.invokestatic 38, 3) := by decide +kernel
theorem dX6_isHour_7 : decode cX6_isHour 7 = .ok (.ireturn, 1) := by decide +kernel
theorem dX6_setCut_0 : decode cX6_setCut 0 = .ok (.iload_n 1, 1) := by decide +kernel
theorem dX6_setCut_1 : decode cX6_setCut 1 = .ok (.invokestatic 53, 3) := by decide +kernel
theorem dX6_setCut_4 : decode cX6_setCut 4 = .ok (.ifCond .ne 5, 3) := by decide +kernel
theorem dX6_setCut_7 : decode cX6_setCut 7 = .ok (.iconst (-1), 1) := by decide +kernel
theorem dX6_setCut_8 : decode cX6_setCut 8 = .ok (.ireturn, 1) := by decide +kernel
theorem dX6_setCut_9 : decode cX6_setCut 9 = .ok (.iload_n 2, 1) := by decide +kernel
theorem dX6_setCut_10 : decode cX6_setCut 10 = .ok (.iconst 0, 1) := by decide +kernel
theorem dX6_setCut_11 : decode cX6_setCut 11 = .ok (.bipush 90, 2) := by decide +kernel
theorem dX6_setCut_13 : decode cX6_setCut 13 = .ok (.invokestatic 38, 3) := by decide +kernel
theorem dX6_setCut_16 : decode cX6_setCut 16 = .ok (.ifCond .ne 6, 3) := by decide +kernel
theorem dX6_setCut_19 : decode cX6_setCut 19 = .ok (.bipush (-2), 2) := by decide +kernel
theorem dX6_setCut_21 : decode cX6_setCut 21 = .ok (.ireturn, 1) := by decide +kernel
theorem dX6_setCut_22 : decode cX6_setCut 22 = .ok (.aload_n 0, 1) := by decide +kernel
theorem dX6_setCut_23 : decode cX6_setCut 23 = .ok (.invokevirtual 50, 3) := by decide +kernel
theorem dX6_setCut_26 : decode cX6_setCut 26 = .ok (.aload_n 0, 1) := by decide +kernel
theorem dX6_setCut_27 : decode cX6_setCut 27 = .ok (.getfield 7, 3) := by decide +kernel
theorem dX6_setCut_30 : decode cX6_setCut 30 = .ok (.bipush 23, 2) := by decide +kernel
theorem dX6_setCut_32 : decode cX6_setCut 32 = .ok (.iload_n 1, 1) := by decide +kernel
theorem dX6_setCut_33 : decode cX6_setCut 33 = .ok (.iadd, 1) := by decide +kernel
theorem dX6_setCut_34 : decode cX6_setCut 34 = .ok (.iaload, 1) := by decide +kernel
theorem dX6_setCut_35 : decode cX6_setCut 35 = .ok (.istore_n 3, 1) := by decide +kernel
theorem dX6_setCut_36 : decode cX6_setCut 36 = .ok (.aload_n 0, 1) := by decide +kernel
theorem dX6_setCut_37 : decode cX6_setCut 37 = .ok (.getfield 7, 3) := by decide +kernel
theorem dX6_setCut_40 : decode cX6_setCut 40 = .ok (.bipush 23, 2) := by decide +kernel
theorem dX6_setCut_42 : decode cX6_setCut 42 = .ok (.iload_n 1, 1) := by decide +kernel
theorem dX6_setCut_43 : decode cX6_setCut 43 = .ok (.iadd, 1) := by decide +kernel
theorem dX6_setCut_44 : decode cX6_setCut 44 = .ok (.iload_n 2, 1) := by decide +kernel
theorem dX6_setCut_45 : decode cX6_setCut 45 = .ok (.iastore, 1) := by decide +kernel
theorem dX6_setCut_46 : decode cX6_setCut 46 = .ok (.iload_n 3, 1) := by decide +kernel
theorem dX6_setCut_47 : decode cX6_setCut 47 = .ok (.ireturn, 1) := by decide +kernel
theorem dX6_setMelting_0 : decode cX6_setMelting 0 = .ok (.iload_n 1, 1) := by decide +kernel
theorem dX6_setMelting_1 : decode cX6_setMelting 1 = .ok (.iconst 0, 1) := by decide +kernel
theorem dX6_setMelting_2 : decode cX6_setMelting 2 = .ok (.sipush 500, 3) := by decide +kernel
theorem dX6_setMelting_5 : decode cX6_setMelting 5 = .ok (.invokestatic 38, 3) := by decide +kernel
theorem dX6_setMelting_8 : decode cX6_setMelting 8 = .ok (.ifCond .eq 13, 3) := by decide +kernel
theorem dX6_setMelting_11 : decode cX6_setMelting 11 = .ok (.iload_n 2, 1) := by decide +kernel
theorem dX6_setMelting_12 : decode cX6_setMelting 12 = .ok (.iconst 0, 1) := by decide +kernel
theorem dX6_setMelting_13 : decode cX6_setMelting 13 = .ok (.bipush 100, 2) := by decide +kernel
theorem dX6_setMelting_15 : decode cX6_setMelting 15 = .ok (.invokestatic 38, 3) := by decide +kernel
theorem dX6_setMelting_18 : decode cX6_setMelting 18 = .ok (.ifCond .ne 6, 3) := by decide +kernel
theorem dX6_setMelting_21 : decode cX6_setMelting 21 = .ok (.bipush (-2), 2) := by decide +kernel
theorem dX6_setMelting_23 : decode cX6_setMelting 23 = .ok (.ireturn, 1) := by decide +kernel
theorem dX6_setMelting_24 : decode cX6_setMelting 24 = .ok (.aload_n 0, 1) := by decide +kernel
theorem dX6_setMelting_25 : decode cX6_setMelting 25 = .ok (.invokevirtual 50, 3) := by decide +kernel
theorem dX6_setMelting_28 : decode cX6_setMelting 28 = .ok (.aload_n 0, 1) := by decide +kernel
theorem dX6_setMelting_29 : decode cX6_setMelting 29 = .ok (.getfield 7, 3) := by decide +kernel
theorem dX6_setMelting_32 : decode cX6_setMelting 32 = .ok (.bipush 9, 2) := by decide +kernel
theorem dX6_setMelting_34 : decode cX6_setMelting 34 = .ok (.iaload, 1) := by decide +kernel
theorem dX6_setMelting_35 : decode cX6_setMelting 35 = .ok (.istore_n 3, 1) := by decide +kernel
theorem dX6_setMelting_36 : decode cX6_setMelting 36 = .ok (.aload_n 0, 1) := by decide +kernel
theorem dX6_setMelting_37 : decode cX6_setMelting 37 = .ok (.getfield 7, 3) := by decide +kernel
theorem dX6_setMelting_40 : decode cX6_setMelting 40 = .ok (.bipush 8, 2) := by decide +kernel
theorem dX6_setMelting_42 : decode cX6_setMelting 42 = .ok (.iload_n 1, 1) := by decide +kernel
theorem dX6_setMelting_43 : decode cX6_setMelting 43 = .ok (.iastore, 1) := by decide +kernel
theorem dX6_setMelting_44 : decode cX6_setMelting 44 = .ok (.aload_n 0, 1) := by decide +kernel
theorem dX6_setMelting_45 : decode cX6_setMelting 45 = .ok (.getfield 7, 3) := by decide +kernel
theorem dX6_setMelting_48 : decode cX6_setMelting 48 = .ok (.bipush 9, 2) := by decide +kernel
theorem dX6_setMelting_50 : decode cX6_setMelting 50 = .ok (.iload_n 2, 1) := by decide +kernel
theorem dX6_setMelting_51 : decode cX6_setMelting 51 = .ok (.iastore, 1) := by decide +kernel
theorem dX6_setMelting_52 : decode cX6_setMelting 52 = .ok (.iload_n 3, 1) := by decide +kernel
theorem dX6_setMelting_53 : decode cX6_setMelting 53 = .ok (.ireturn, 1) := by decide +kernel
theorem dX6_adds_0 : decode cX6_adds 0 = .ok (.aload_n 0, 1) := by decide +kernel
theorem dX6_adds_1 : decode cX6_adds 1 = .ok (.getfield 7, 3) := by decide +kernel
theorem dX6_adds_4 : decode cX6_adds 4 = .ok (.iconst 2, 1) := by decide +kernel
theorem dX6_adds_5 : decode cX6_adds 5 = .ok (.iaload, 1) := by decide +kernel
theorem dX6_adds_6 : decode cX6_adds 6 = .ok (.istore 5, 2) := by decide +kernel
theorem dX6_adds_8 : decode cX6_adds 8 = .ok (.aload_n 0, 1) := by decide +kernel
theorem dX6_adds_9 : decode cX6_adds 9 = .ok (.getfield 7, 3) := by decide +kernel
theorem dX6_adds_12 : decode cX6_adds 12 = .ok (.iconst 2, 1) := by decide +kernel
theorem dX6_adds_13 : decode cX6_adds 13 = .ok (.dup2, 1) := by decide +kernel
theorem dX6_adds_14 : decode cX6_adds 14 = .ok (.iaload, 1) := by decide +kernel
theorem dX6_adds_15 : decode cX6_adds 15 = .ok (.iconst 1, 1) := by decide +kernel
theorem dX6_adds_16 : decode cX6_adds 16 = .ok (.iadd, 1) := by decide +kernel
theorem dX6_adds_17 : decode cX6_adds 17 = .ok (.iastore, 1) := by decide +kernel
theorem dX6_adds_18 : decode cX6_adds 18 = .ok (.aload_n 0, 1) := by decide +kernel
theorem dX6_adds_19 : decode cX6_adds 19 = .ok (.getfield 7, 3) := by decide +kernel
theorem dX6_adds_22 : decode cX6_adds 22 = .ok (.bipush 10, 2) := by decide +kernel
theorem dX6_adds_24 : decode cX6_adds 24 = .ok (.dup2, 1) := by decide +kernel
theorem dX6_adds_25 : decode cX6_adds 25 = .ok (.iaload, 1) := by decide +kernel
theorem dX6_adds_26 : decode cX6_adds 26 = .ok (.iconst 1, 1) := by decide +kernel
theorem dX6_adds_27 : decode cX6_adds 27 = .ok (.iadd, 1) := by decide +kernel
theorem dX6_adds_28 : decode cX6_adds 28 = .ok (.iastore, 1) := by decide +kernel
theorem dX6_adds_29 : decode cX6_adds 29 = .ok (.aload_n 0, 1) := by decide +kernel
theorem dX6_adds_30 : decode cX6_adds 30 = .ok (.iload 5, 2) := by decide +kernel
theorem dX6_adds_32 : decode cX6_adds 32 = .ok (.iconst 0, 1) := by decide +kernel
theorem dX6_adds_33 : decode cX6_adds 33 = .ok (.aload_n 0, 1) := by decide +kernel
theorem dX6_adds_34 : decode cX6_adds 34 = .ok (.getfield 7, 3) := by decide +kernel
theorem dX6_adds_37 : decode cX6_adds 37 = .ok (.bipush 10, 2) := by decide +kernel
theorem dX6_adds_39 : decode cX6_adds 39 = .ok (.iaload, 1) := by decide +kernel
theorem dX6_adds_40 : decode cX6_adds 40 = .ok (.invokevirtual 56, 3) := by decide +kernel
theorem dX6_adds_43 : decode cX6_adds 43 = .ok (.aload_n 0, 1) := by decide +kernel
theorem dX6_adds_44 : decode cX6_adds 44 = .ok (.iload 5, 2) := by decide +kernel
theorem dX6_adds_46 : decode cX6_adds 46 = .ok (.iconst 1, 1) := by decide +kernel
theorem dX6_adds_47 : decode cX6_adds 47 = .ok (.iload_n 1, 1) := by decide +kernel
theorem dX6_adds_48 : decode cX6_adds 48 = .ok (.invokevirtual 56, 3) := by decide +kernel
theorem dX6_adds_51 : decode cX6_adds 51 = .ok (.aload_n 0, 1) := by decide +kernel
theorem dX6_adds_52 : decode cX6_adds 52 = .ok (.iload 5, 2) := by decide +kernel
theorem dX6_adds_54 : decode cX6_adds 54 = .ok (.iconst 2, 1) := by decide +kernel
theorem dX6_adds_55 : decode cX6_adds 55 = .ok (.iload_n 2, 1) := by decide +kernel
theorem dX6_adds_56 : decode cX6_adds 56 = .ok (.invokevirtual 56, 3) := by decide +kernel
theorem dX6_adds_59 : decode cX6_adds 59 = .ok (.aload_n 0, 1) := by decide +kernel
theorem dX6_adds_60 : decode cX6_adds 60 = .ok (.iload 5, 2) := by decide +kernel
theorem dX6_adds_62 : decode cX6_adds 62 = .ok (.iconst 3, 1) := by decide +kernel
theorem dX6_adds_63 : decode cX6_adds 63 = .ok (.iload_n 3, 1) := by decide +kernel
theorem dX6_adds_64 : decode cX6_adds 64 = .ok (.invokevirtual 56, 3) := by decide +kernel
theorem dX6_adds_67 : decode cX6_adds 67 = .ok (.aload_n 0, 1) := by decide +kernel
theorem dX6_adds_68 : decode cX6_adds 68 = .ok (.iload 5, 2) := by decide +kernel
theorem dX6_adds_70 : decode cX6_adds 70 = .ok (.iconst 4, 1) := by decide +kernel
theorem dX6_adds_71 : decode cX6_adds 71 = .ok (.iload 4, 2) := by decide +kernel
theorem dX6_adds_73 : decode cX6_adds 73 = .ok (.invokevirtual 56, 3) := by decide +kernel
theorem dX6_adds_76 : decode cX6_adds 76 = .ok (.aload_n 0, 1) := by decide +kernel
theorem dX6_adds_77 : decode cX6_adds 77 = .ok (.getfield 7, 3) := by decide +kernel
theorem dX6_adds_80 : decode cX6_adds 80 = .ok (.bipush 10, 2) := by decide +kernel
theorem dX6_adds_82 : decode cX6_adds 82 = .ok (.iaload, 1) := by decide +kernel
theorem dX6_adds_83 : decode cX6_adds 83 = .ok (.ireturn, 1) := by decide +kernel
theorem dX6_whyNotRoom_0 : decode cX6_whyNotRoom 0 = .ok (.aload_n 0, 1) := by decide +kernel
theorem dX6_whyNotRoom_1 : decode cX6_whyNotRoom 1 = .ok (.iload_n 1, 1) := by decide +kernel
theorem dX6_whyNotRoom_2 : decode cX6_whyNotRoom 2 = .ok (.invokevirtual 60, 3) := by decide +kernel
theorem dX6_whyNotRoom_5 : decode cX6_whyNotRoom 5 = .ok (.iconst 3, 1) := by decide +kernel
theorem dX6_whyNotRoom_6 : decode cX6_whyNotRoom 6 = .ok (.if_icmp .ne 8, 3) := by decide +kernel
theorem dX6_whyNotRoom_9 : decode cX6_whyNotRoom 9 = .ok (.bipush (-3), 2) := by decide +kernel
theorem dX6_whyNotRoom_11 : decode cX6_whyNotRoom 11 = .ok (.goto 20, 3) := by decide +kernel
theorem dX6_whyNotRoom_14 : decode cX6_whyNotRoom 14 = .ok (.aload_n 0, 1) := by decide +kernel
theorem dX6_whyNotRoom_15 : decode cX6_whyNotRoom 15 = .ok (.getfield 7, 3) := by decide +kernel
theorem dX6_whyNotRoom_18 : decode cX6_whyNotRoom 18 = .ok (.iconst 2, 1) := by decide +kernel
theorem dX6_whyNotRoom_19 : decode cX6_whyNotRoom 19 = .ok (.iaload, 1) := by decide +kernel
theorem dX6_whyNotRoom_20 : decode cX6_whyNotRoom 20 = .ok (.bipush 16, 2) := by decide +kernel
theorem dX6_whyNotRoom_22 : decode cX6_whyNotRoom 22 = .ok (.if_icmp .ne 8, 3) := by decide +kernel
theorem dX6_whyNotRoom_25 : decode cX6_whyNotRoom 25 = .ok (.bipush (-4), 2) := by decide +kernel
theorem dX6_whyNotRoom_27 : decode cX6_whyNotRoom 27 = .ok (.goto 4, 3) := by decide +kernel
theorem dX6_whyNotRoom_30 : decode cX6_whyNotRoom 30 = .ok (.iconst 0, 1) := by decide +kernel
theorem dX6_whyNotRoom_31 : decode cX6_whyNotRoom 31 = .ok (.ireturn, 1) := by decide +kernel
theorem dX6_whyNotDelivered_0 : decode cX6_whyNotDelivered 0 = .ok (.iload_n 1, 1) := by decide +kernel
theorem dX6_whyNotDelivered_1 : decode cX6_whyNotDelivered 1 = .ok (.invokestatic 46, 3) := by decide +kernel
theorem dX6_whyNotDelivered_4 : decode cX6_whyNotDelivered 4 = .ok (.ifCond .eq 11, 3) := by decide +kernel
theorem dX6_whyNotDelivered_7 : decode cX6_whyNotDelivered 7 = .ok (.iload 4, 2) := by decide +kernel
theorem dX6_whyNotDelivered_9 : decode cX6_whyNotDelivered 9 = .ok (.invokestatic 64, 3) := by decide +kernel
theorem dX6_whyNotDelivered_12 : decode cX6_whyNotDelivered 12 = .ok (.ifCond .ne 5, 3) := by decide +kernel
theorem dX6_whyNotDelivered_15 : decode cX6_whyNotDelivered 15 = .ok (.iconst (-1), 1) := by decide +kernel
theorem dX6_whyNotDelivered_16 : decode cX6_whyNotDelivered 16 = .ok (.ireturn, 1) := by decide +kernel
theorem dX6_whyNotDelivered_17 : decode cX6_whyNotDelivered 17 = .ok (.iload_n 2, 1) := by decide +kernel
theorem dX6_whyNotDelivered_18 : decode cX6_whyNotDelivered 18 = .ok (.iconst 1, 1) := by decide +kernel
theorem dX6_whyNotDelivered_19 : decode cX6_whyNotDelivered 19 = .ok (.sipush 20000, 3) := by decide +kernel
theorem dX6_whyNotDelivered_22 : decode cX6_whyNotDelivered 22 = .ok (.invokestatic 38, 3) := by decide +kernel
theorem dX6_whyNotDelivered_25 : decode cX6_whyNotDelivered 25 = .ok (.ifCond .eq 22, 3) := by decide +kernel
theorem dX6_whyNotDelivered_28 : decode cX6_whyNotDelivered 28 = .ok (.iload_n 3, 1) := by decide +kernel
theorem dX6_whyNotDelivered_29 : decode cX6_whyNotDelivered 29 = .ok (.iconst 0, 1) := by decide +kernel
theorem dX6_whyNotDelivered_30 : decode cX6_whyNotDelivered 30 = .ok (.bipush 100, 2) := by decide +kernel
theorem dX6_whyNotDelivered_32 : decode cX6_whyNotDelivered 32 = .ok (.invokestatic 38, 3) := by decide +kernel
theorem dX6_whyNotDelivered_35 : decode cX6_whyNotDelivered 35 = .ok (.ifCond .eq 12, 3) := by decide +kernel
theorem dX6_whyNotDelivered_38 : decode cX6_whyNotDelivered 38 = .ok (.aload_n 0, 1) := by decide +kernel
theorem dX6_whyNotDelivered_39 : decode cX6_whyNotDelivered 39 = .ok (.iload 4, 2) := by decide +kernel
theorem dX6_whyNotDelivered_41 : decode cX6_whyNotDelivered 41 = .ok (.invokevirtual 67, 3) := by decide +kernel
theorem dX6_whyNotDelivered_44 : decode cX6_whyNotDelivered 44 = .ok (.goto 5, 3) := by decide +kernel
theorem dX6_whyNotDelivered_47 : decode cX6_whyNotDelivered 47 = .ok (.bipush (-2), 2) := by decide +kernel
theorem dX6_whyNotDelivered_49 : decode cX6_whyNotDelivered 49 = .ok (.ireturn, 1) := by decide +kernel
theorem dX6_delivers_0 : decode cX6_delivers 0 = .ok (.aload_n 0, 1) := by decide +kernel
theorem dX6_delivers_1 : decode cX6_delivers 1 = .ok (.getfield 7, 3) := by decide +kernel
theorem dX6_delivers_4 : decode cX6_delivers 4 = .ok (.iconst 3, 1) := by decide +kernel
theorem dX6_delivers_5 : decode cX6_delivers 5 = .ok (.dup2, 1) := by decide +kernel
theorem dX6_delivers_6 : decode cX6_delivers 6 = .ok (.iaload, 1) := by decide +kernel
theorem dX6_delivers_7 : decode cX6_delivers 7 = .ok (.iload_n 2, 1) := by decide +kernel
theorem dX6_delivers_8 : decode cX6_delivers 8 = .ok (.iadd, 1) := by decide +kernel
theorem dX6_delivers_9 : decode cX6_delivers 9 = .ok (.iastore, 1) := by decide +kernel
theorem dX6_delivers_10 : decode cX6_delivers 10 = .ok (.aload_n 0, 1) := by decide +kernel
theorem dX6_delivers_11 : decode cX6_delivers 11 = .ok (.getfield 7, 3) := by decide +kernel
theorem dX6_delivers_14 : decode cX6_delivers 14 = .ok (.bipush 6, 2) := by decide +kernel
theorem dX6_delivers_16 : decode cX6_delivers 16 = .ok (.dup2, 1) := by decide +kernel
theorem dX6_delivers_17 : decode cX6_delivers 17 = .ok (.iaload, 1) := by decide +kernel
theorem dX6_delivers_18 : decode cX6_delivers 18 = .ok (.iload_n 2, 1) := by decide +kernel
theorem dX6_delivers_19 : decode cX6_delivers 19 = .ok (.aload_n 0, 1) := by decide +kernel
theorem dX6_delivers_20 : decode cX6_delivers 20 = .ok (.getfield 7, 3) := by decide +kernel
theorem dX6_delivers_23 : decode cX6_delivers 23 = .ok (.bipush 17, 2) := by decide +kernel
theorem dX6_delivers_25 : decode cX6_delivers 25 = .ok (.iload_n 1, 1) := by decide +kernel
theorem dX6_delivers_26 : decode cX6_delivers 26 = .ok (.iadd, 1) := by decide +kernel
theorem dX6_delivers_27 : decode cX6_delivers 27 = .ok (.iaload, 1) := by decide +kernel
theorem dX6_delivers_28 : decode cX6_delivers 28 = .ok (.invokestatic 70, 3) := by decide +kernel
theorem dX6_delivers_31 : decode cX6_delivers 31 = .ok (.iadd, 1) := by decide +kernel
theorem dX6_delivers_32 : decode cX6_delivers 32 = .ok (.iastore, 1) := by decide +kernel
theorem dX6_delivers_33 : decode cX6_delivers 33 = .ok (.aload_n 0, 1) := by decide +kernel
theorem dX6_delivers_34 : decode cX6_delivers 34 = .ok (.iload_n 1, 1) := by decide +kernel
theorem dX6_delivers_35 : decode cX6_delivers 35 = .ok (.iload_n 2, 1) := by decide +kernel
theorem dX6_delivers_36 : decode cX6_delivers 36 = .ok (.iload_n 3, 1) := by decide +kernel
theorem dX6_delivers_37 : decode cX6_delivers 37 = .ok (.iload 4, 2) := by decide +kernel
theorem dX6_delivers_39 : decode cX6_delivers 39 = .ok (.invokevirtual 73, 3) := by decide +kernel
theorem dX6_delivers_42 : decode cX6_delivers 42 = .ok (.ireturn, 1) := by decide +kernel
theorem dX6_deliver_0 : decode cX6_deliver 0 = .ok (.aload_n 0, 1) := by decide +kernel
theorem dX6_deliver_1 : decode cX6_deliver 1 = .ok (.iload_n 1, 1) := by decide +kernel
theorem dX6_deliver_2 : decode cX6_deliver 2 = .ok (.iload_n 2, 1) := by decide +kernel
theorem dX6_deliver_3 : decode cX6_deliver 3 = .ok (.iload_n 3, 1) := by decide +kernel
theorem dX6_deliver_4 : decode cX6_deliver 4 = .ok (.iload 4, 2) := by decide +kernel
theorem dX6_deliver_6 : decode cX6_deliver 6 = .ok (.invokevirtual 77, 3) := by decide +kernel
theorem dX6_deliver_9 : decode cX6_deliver 9 = .ok (.istore 5, 2) := by decide +kernel
theorem dX6_deliver_11 : decode cX6_deliver 11 = .ok (.iload 5, 2) := by decide +kernel
theorem dX6_deliver_13 : decode cX6_deliver 13 = .ok (.ifCond .ge 6, 3) := by decide +kernel
theorem dX6_deliver_16 : decode cX6_deliver 16 = .ok (.iload 5, 2) := by decide +kernel
theorem dX6_deliver_18 : decode cX6_deliver 18 = .ok (.ireturn, 1) := by decide +kernel
theorem dX6_deliver_19 : decode cX6_deliver 19 = .ok (.aload_n 0, 1) := by decide +kernel
theorem dX6_deliver_20 : decode cX6_deliver 20 = .ok (.invokevirtual 50, 3) := by decide +kernel
theorem dX6_deliver_23 : decode cX6_deliver 23 = .ok (.aload_n 0, 1) := by decide +kernel
theorem dX6_deliver_24 : decode cX6_deliver 24 = .ok (.iload_n 1, 1) := by decide +kernel
theorem dX6_deliver_25 : decode cX6_deliver 25 = .ok (.iload_n 2, 1) := by decide +kernel
theorem dX6_deliver_26 : decode cX6_deliver 26 = .ok (.iload_n 3, 1) := by decide +kernel
theorem dX6_deliver_27 : decode cX6_deliver 27 = .ok (.iload 4, 2) := by decide +kernel
theorem dX6_deliver_29 : decode cX6_deliver 29 = .ok (.invokevirtual 80, 3) := by decide +kernel
theorem dX6_deliver_32 : decode cX6_deliver 32 = .ok (.ireturn, 1) := by decide +kernel
theorem dX6_ices_0 : decode cX6_ices 0 = .ok (.iload_n 2, 1) := by decide +kernel
theorem dX6_ices_1 : decode cX6_ices 1 = .ok (.iconst 1, 1) := by decide +kernel
theorem dX6_ices_2 : decode cX6_ices 2 = .ok (.sipush 5000, 3) := by decide +kernel
theorem dX6_ices_5 : decode cX6_ices 5 = .ok (.invokestatic 38, 3) := by decide +kernel
theorem dX6_ices_8 : decode cX6_ices 8 = .ok (.ifCond .ne 6, 3) := by decide +kernel
theorem dX6_ices_11 : decode cX6_ices 11 = .ok (.bipush (-2), 2) := by decide +kernel
theorem dX6_ices_13 : decode cX6_ices 13 = .ok (.ireturn, 1) := by decide +kernel
theorem dX6_ices_14 : decode cX6_ices 14 = .ok (.aload_n 0, 1) := by decide +kernel
theorem dX6_ices_15 : decode cX6_ices 15 = .ok (.invokevirtual 50, 3) := by decide +kernel
theorem dX6_ices_18 : decode cX6_ices 18 = .ok (.aload_n 0, 1) := by decide +kernel
theorem dX6_ices_19 : decode cX6_ices 19 = .ok (.getfield 7, 3) := by decide +kernel
theorem dX6_ices_22 : decode cX6_ices 22 = .ok (.bipush 34, 2) := by decide +kernel
theorem dX6_ices_24 : decode cX6_ices 24 = .ok (.iload_n 1, 1) := by decide +kernel
theorem dX6_ices_25 : decode cX6_ices 25 = .ok (.iadd, 1) := by decide +kernel
theorem dX6_ices_26 : decode cX6_ices 26 = .ok (.iaload, 1) := by decide +kernel
theorem dX6_ices_27 : decode cX6_ices 27 = .ok (.iload_n 2, 1) := by decide +kernel
theorem dX6_ices_28 : decode cX6_ices 28 = .ok (.iadd, 1) := by decide +kernel
theorem dX6_ices_29 : decode cX6_ices 29 = .ok (.istore_n 3, 1) := by decide +kernel
theorem dX6_ices_30 : decode cX6_ices 30 = .ok (.aload_n 0, 1) := by decide +kernel
theorem dX6_ices_31 : decode cX6_ices 31 = .ok (.getfield 7, 3) := by decide +kernel
theorem dX6_ices_34 : decode cX6_ices 34 = .ok (.bipush 34, 2) := by decide +kernel
theorem dX6_ices_36 : decode cX6_ices 36 = .ok (.iload_n 1, 1) := by decide +kernel
theorem dX6_ices_37 : decode cX6_ices 37 = .ok (.iadd, 1) := by decide +kernel
theorem dX6_ices_38 : decode cX6_ices 38 = .ok (.iload_n 3, 1) := by decide +kernel
theorem dX6_ices_39 : decode cX6_ices 39 = .ok (.sipush 5000, 3) := by decide +kernel
theorem dX6_ices_42 : decode cX6_ices 42 = .ok (.if_icmp .le 9, 3) := by decide +kernel
theorem dX6_ices_45 : decode cX6_ices 45 = .ok (.sipush 5000, 3) := by decide +kernel
theorem dX6_ices_48 : decode cX6_ices 48 = .ok (.goto 4, 3) := by decide +kernel
theorem dX6_ices_51 : decode cX6_ices 51 = .ok (.iload_n 3, 1) := by decide +kernel
theorem dX6_ices_52 : decode cX6_ices 52 = .ok (.iastore, 1) := by decide +kernel
theorem dX6_ices_53 : decode cX6_ices 53 = .ok (.aload_n 0, 1) := by decide +kernel
theorem dX6_ices_54 : decode cX6_ices 54 = .ok (.getfield 7, 3) := by decide +kernel
theorem dX6_ices_57 : decode cX6_ices 57 = .ok (.bipush 34, 2) := by decide +kernel
theorem dX6_ices_59 : decode cX6_ices 59 = .ok (.iload_n 1, 1) := by decide +kernel
theorem dX6_ices_60 : decode cX6_ices 60 = .ok (.iadd, 1) := by decide +kernel
theorem dX6_ices_61 : decode cX6_ices 61 = .ok (.iaload, 1) := by decide +kernel
theorem dX6_ices_62 : decode cX6_ices 62 = .ok (.ireturn, 1) := by decide +kernel
theorem dX6_iceBox_0 : decode cX6_iceBox 0 = .ok (.iload_n 1, 1) := by decide +kernel
theorem dX6_iceBox_1 : decode cX6_iceBox 1 = .ok (.invokestatic 64, 3) := by decide +kernel
theorem dX6_iceBox_4 : decode cX6_iceBox 4 = .ok (.ifCond .eq 12, 3) := by decide +kernel
theorem dX6_iceBox_7 : decode cX6_iceBox 7 = .ok (.aload_n 0, 1) := by decide +kernel
theorem dX6_iceBox_8 : decode cX6_iceBox 8 = .ok (.iload_n 1, 1) := by decide +kernel
theorem dX6_iceBox_9 : decode cX6_iceBox 9 = .ok (.iload_n 2, 1) := by decide +kernel
theorem dX6_iceBox_10 : decode cX6_iceBox 10 = .ok (.invokevirtual 83, 3) := by decide +kernel
theorem dX6_iceBox_13 : decode cX6_iceBox 13 = .ok (.goto 4, 3) := by decide +kernel
theorem dX6_iceBox_16 : decode cX6_iceBox 16 = .ok (.iconst (-1), 1) := by decide +kernel
theorem dX6_iceBox_17 : decode cX6_iceBox 17 = .ok (.ireturn, 1) := by decide +kernel
theorem dX6_iceTray_0 : decode cX6_iceTray 0 = .ok (.iload_n 1, 1) := by decide +kernel
theorem dX6_iceTray_1 : decode cX6_iceTray 1 = .ok (.invokestatic 86, 3) := by decide +kernel
theorem dX6_iceTray_4 : decode cX6_iceTray 4 = .ok (.ifCond .eq 15, 3) := by decide +kernel
theorem dX6_iceTray_7 : decode cX6_iceTray 7 = .ok (.aload_n 0, 1) := by decide +kernel
theorem dX6_iceTray_8 : decode cX6_iceTray 8 = .ok (.bipush 6, 2) := by decide +kernel
theorem dX6_iceTray_10 : decode cX6_iceTray 10 = .ok (.iload_n 1, 1) := by decide +kernel
theorem dX6_iceTray_11 : decode cX6_iceTray 11 = .ok (.iadd, 1) := by decide +kernel
theorem dX6_iceTray_12 : decode cX6_iceTray 12 = .ok (.iload_n 2, 1) := by decide +kernel
theorem dX6_iceTray_13 : decode cX6_iceTray 13 = .ok (.invokevirtual 83, 3) := by decide +kernel
theorem dX6_iceTray_16 : decode cX6_iceTray 16 = .ok (.goto 4, 3) := by decide +kernel
theorem dX6_iceTray_19 : decode cX6_iceTray 19 = .ok (.iconst (-1), 1) := by decide +kernel
theorem dX6_iceTray_20 : decode cX6_iceTray 20 = .ok (.ireturn, 1) := by decide +kernel
theorem dX6_toTray_0 : decode cX6_toTray 0 = .ok (.aload_n 0, 1) := by decide +kernel
theorem dX6_toTray_1 : decode cX6_toTray 1 = .ok (.iload_n 1, 1) := by decide +kernel
theorem dX6_toTray_2 : decode cX6_toTray 2 = .ok (.invokevirtual 89, 3) := by decide +kernel
theorem dX6_toTray_5 : decode cX6_toTray 5 = .ok (.istore_n 3, 1) := by decide +kernel
theorem dX6_toTray_6 : decode cX6_toTray 6 = .ok (.iload_n 3, 1) := by decide +kernel
theorem dX6_toTray_7 : decode cX6_toTray 7 = .ok (.bipush (-6), 2) := by decide +kernel
theorem dX6_toTray_9 : decode cX6_toTray 9 = .ok (.if_icmp .eq 10, 3) := by decide +kernel
theorem dX6_toTray_12 : decode cX6_toTray 12 = .ok (.iload_n 2, 1) := by decide +kernel
theorem dX6_toTray_13 : decode cX6_toTray 13 = .ok (.invokestatic 86, 3) := by decide +kernel
theorem dX6_toTray_16 : decode cX6_toTray 16 = .ok (.ifCond .ne 5, 3) := by decide +kernel
theorem dX6_toTray_19 : decode cX6_toTray 19 = .ok (.iconst (-1), 1) := by decide +kernel
theorem dX6_toTray_20 : decode cX6_toTray 20 = .ok (.ireturn, 1) := by decide +kernel
theorem dX6_toTray_21 : decode cX6_toTray 21 = .ok (.aload_n 0, 1) := by decide +kernel
theorem dX6_toTray_22 : decode cX6_toTray 22 = .ok (.bipush 6, 2) := by decide +kernel
theorem dX6_toTray_24 : decode cX6_toTray 24 = .ok (.iload_n 2, 1) := by decide +kernel
theorem dX6_toTray_25 : decode cX6_toTray 25 = .ok (.iadd, 1) := by decide +kernel
theorem dX6_toTray_26 : decode cX6_toTray 26 = .ok (.invokevirtual 60, 3) := by decide +kernel
theorem dX6_toTray_29 : decode cX6_toTray 29 = .ok (.ifCond .le 6, 3) := by decide +kernel
theorem dX6_toTray_32 : decode cX6_toTray 32 = .ok (.bipush (-3), 2) := by decide +kernel
theorem dX6_toTray_34 : decode cX6_toTray 34 = .ok (.ireturn, 1) := by decide +kernel
theorem dX6_toTray_35 : decode cX6_toTray 35 = .ok (.aload_n 0, 1) := by decide +kernel
theorem dX6_toTray_36 : decode cX6_toTray 36 = .ok (.invokevirtual 50, 3) := by decide +kernel
theorem dX6_toTray_39 : decode cX6_toTray 39 = .ok (.aload_n 0, 1) := by decide +kernel
theorem dX6_toTray_40 : decode cX6_toTray 40 = .ok (.iload_n 3, 1) := by decide +kernel
theorem dX6_toTray_41 : decode cX6_toTray 41 = .ok (.iconst 4, 1) := by decide +kernel
theorem dX6_toTray_42 : decode cX6_toTray 42 = .ok (.bipush 6, 2) := by decide +kernel
theorem dX6_toTray_44 : decode cX6_toTray 44 = .ok (.iload_n 2, 1) := by decide +kernel
theorem dX6_toTray_45 : decode cX6_toTray 45 = .ok (.iadd, 1) := by decide +kernel
theorem dX6_toTray_46 : decode cX6_toTray 46 = .ok (.invokevirtual 56, 3) := by decide +kernel
theorem dX6_toTray_49 : decode cX6_toTray 49 = .ok (.aload_n 0, 1) := by decide +kernel
theorem dX6_toTray_50 : decode cX6_toTray 50 = .ok (.iload_n 3, 1) := by decide +kernel
theorem dX6_toTray_51 : decode cX6_toTray 51 = .ok (.invokevirtual 92, 3) := by decide +kernel
theorem dX6_toTray_54 : decode cX6_toTray 54 = .ok (.ireturn, 1) := by decide +kernel
theorem dX6_toBox_0 : decode cX6_toBox 0 = .ok (.aload_n 0, 1) := by decide +kernel
theorem dX6_toBox_1 : decode cX6_toBox 1 = .ok (.iload_n 1, 1) := by decide +kernel
theorem dX6_toBox_2 : decode cX6_toBox 2 = .ok (.invokevirtual 89, 3) := by decide +kernel
theorem dX6_toBox_5 : decode cX6_toBox 5 = .ok (.istore_n 3, 1) := by decide +kernel
theorem dX6_toBox_6 : decode cX6_toBox 6 = .ok (.iload_n 3, 1) := by decide +kernel
theorem dX6_toBox_7 : decode cX6_toBox 7 = .ok (.bipush (-6), 2) := by decide +kernel
theorem dX6_toBox_9 : decode cX6_toBox 9 = .ok (.if_icmp .eq 10, 3) := by decide +kernel
theorem dX6_toBox_12 : decode cX6_toBox 12 = .ok (.iload_n 2, 1) := by decide +kernel
theorem dX6_toBox_13 : decode cX6_toBox 13 = .ok (.invokestatic 64, 3) := by decide +kernel
theorem dX6_toBox_16 : decode cX6_toBox 16 = .ok (.ifCond .ne 5, 3) := by decide +kernel
theorem dX6_toBox_19 : decode cX6_toBox 19 = .ok (.iconst (-1), 1) := by decide +kernel
theorem dX6_toBox_20 : decode cX6_toBox 20 = .ok (.ireturn, 1) := by decide +kernel
theorem dX6_toBox_21 : decode cX6_toBox 21 = .ok (.aload_n 0, 1) := by decide +kernel
theorem dX6_toBox_22 : decode cX6_toBox 22 = .ok (.iload_n 3, 1) := by decide +kernel
theorem dX6_toBox_23 : decode cX6_toBox 23 = .ok (.iconst 4, 1) := by decide +kernel
theorem dX6_toBox_24 : decode cX6_toBox 24 = .ok (.invokevirtual 30, 3) := by decide +kernel
theorem dX6_toBox_27 : decode cX6_toBox 27 = .ok (.iload_n 2, 1) := by decide +kernel
theorem dX6_toBox_28 : decode cX6_toBox 28 = .ok (.if_icmp .eq 12, 3) := by decide +kernel
theorem dX6_toBox_31 : decode cX6_toBox 31 = .ok (.aload_n 0, 1) := by decide +kernel
theorem dX6_toBox_32 : decode cX6_toBox 32 = .ok (.iload_n 2, 1) := by decide +kernel
theorem dX6_toBox_33 : decode cX6_toBox 33 = .ok (.invokevirtual 60, 3) := by decide +kernel
theorem dX6_toBox_36 : decode cX6_toBox 36 = .ok (.iconst 3, 1) := by decide +kernel
theorem dX6_toBox_37 : decode cX6_toBox 37 = .ok (.if_icmp .ne 6, 3) := by decide +kernel
theorem dX6_toBox_40 : decode cX6_toBox 40 = .ok (.bipush (-3), 2) := by decide +kernel
theorem dX6_toBox_42 : decode cX6_toBox 42 = .ok (.ireturn, 1) := by decide +kernel
theorem dX6_toBox_43 : decode cX6_toBox 43 = .ok (.aload_n 0, 1) := by decide +kernel
theorem dX6_toBox_44 : decode cX6_toBox 44 = .ok (.invokevirtual 50, 3) := by decide +kernel
theorem dX6_toBox_47 : decode cX6_toBox 47 = .ok (.aload_n 0, 1) := by decide +kernel
theorem dX6_toBox_48 : decode cX6_toBox 48 = .ok (.iload_n 3, 1) := by decide +kernel
theorem dX6_toBox_49 : decode cX6_toBox 49 = .ok (.iconst 4, 1) := by decide +kernel
theorem dX6_toBox_50 : decode cX6_toBox 50 = .ok (.iload_n 2, 1) := by decide +kernel
theorem dX6_toBox_51 : decode cX6_toBox 51 = .ok (.invokevirtual 56, 3) := by decide +kernel
theorem dX6_toBox_54 : decode cX6_toBox 54 = .ok (.aload_n 0, 1) := by decide +kernel
theorem dX6_toBox_55 : decode cX6_toBox 55 = .ok (.iload_n 2, 1) := by decide +kernel
theorem dX6_toBox_56 : decode cX6_toBox 56 = .ok (.invokevirtual 60, 3) := by decide +kernel
theorem dX6_toBox_59 : decode cX6_toBox 59 = .ok (.ireturn, 1) := by decide +kernel
theorem dX6_divide_0 : decode cX6_divide 0 = .ok (.aload_n 0, 1) := by decide +kernel
theorem dX6_divide_1 : decode cX6_divide 1 = .ok (.iload_n 1, 1) := by decide +kernel
theorem dX6_divide_2 : decode cX6_divide 2 = .ok (.invokevirtual 89, 3) := by decide +kernel
theorem dX6_divide_5 : decode cX6_divide 5 = .ok (.istore 4, 2) := by decide +kernel
theorem dX6_divide_7 : decode cX6_divide 7 = .ok (.iload 4, 2) := by decide +kernel
theorem dX6_divide_9 : decode cX6_divide 9 = .ok (.bipush (-6), 2) := by decide +kernel
theorem dX6_divide_11 : decode cX6_divide 11 = .ok (.if_icmp .eq 10, 3) := by decide +kernel
theorem dX6_divide_14 : decode cX6_divide 14 = .ok (.iload_n 3, 1) := by decide +kernel
theorem dX6_divide_15 : decode cX6_divide 15 = .ok (.invokestatic 64, 3) := by decide +kernel
theorem dX6_divide_18 : decode cX6_divide 18 = .ok (.ifCond .ne 5, 3) := by decide +kernel
theorem dX6_divide_21 : decode cX6_divide 21 = .ok (.iconst (-1), 1) := by decide +kernel
theorem dX6_divide_22 : decode cX6_divide 22 = .ok (.ireturn, 1) := by decide +kernel
theorem dX6_divide_23 : decode cX6_divide 23 = .ok (.iload_n 2, 1) := by decide +kernel
theorem dX6_divide_24 : decode cX6_divide 24 = .ok (.iconst 1, 1) := by decide +kernel
theorem dX6_divide_25 : decode cX6_divide 25 = .ok (.sipush 19999, 3) := by decide +kernel
theorem dX6_divide_28 : decode cX6_divide 28 = .ok (.invokestatic 38, 3) := by decide +kernel
theorem dX6_divide_31 : decode cX6_divide 31 = .ok (.ifCond .ne 6, 3) := by decide +kernel
theorem dX6_divide_34 : decode cX6_divide 34 = .ok (.bipush (-2), 2) := by decide +kernel
theorem dX6_divide_36 : decode cX6_divide 36 = .ok (.ireturn, 1) := by decide +kernel
theorem dX6_divide_37 : decode cX6_divide 37 = .ok (.iload_n 2, 1) := by decide +kernel
theorem dX6_divide_38 : decode cX6_divide 38 = .ok (.aload_n 0, 1) := by decide +kernel
theorem dX6_divide_39 : decode cX6_divide 39 = .ok (.iload 4, 2) := by decide +kernel
theorem dX6_divide_41 : decode cX6_divide 41 = .ok (.iconst 2, 1) := by decide +kernel
theorem dX6_divide_42 : decode cX6_divide 42 = .ok (.invokevirtual 30, 3) := by decide +kernel
theorem dX6_divide_45 : decode cX6_divide 45 = .ok (.if_icmp .lt 8, 3) := by decide +kernel
theorem dX6_divide_48 : decode cX6_divide 48 = .ok (.bipush (-3), 2) := by decide +kernel
theorem dX6_divide_50 : decode cX6_divide 50 = .ok (.goto 8, 3) := by decide +kernel
theorem dX6_divide_53 : decode cX6_divide 53 = .ok (.aload_n 0, 1) := by decide +kernel
theorem dX6_divide_54 : decode cX6_divide 54 = .ok (.iload_n 3, 1) := by decide +kernel
theorem dX6_divide_55 : decode cX6_divide 55 = .ok (.invokevirtual 67, 3) := by decide +kernel
theorem dX6_divide_58 : decode cX6_divide 58 = .ok (.istore 5, 2) := by decide +kernel
theorem dX6_divide_60 : decode cX6_divide 60 = .ok (.iload 5, 2) := by decide +kernel
theorem dX6_divide_62 : decode cX6_divide 62 = .ok (.ifCond .ge 6, 3) := by decide +kernel
theorem dX6_divide_65 : decode cX6_divide 65 = .ok (.iload 5, 2) := by decide +kernel
theorem dX6_divide_67 : decode cX6_divide 67 = .ok (.ireturn, 1) := by decide +kernel
theorem dX6_divide_68 : decode cX6_divide 68 = .ok (.aload_n 0, 1) := by decide +kernel
theorem dX6_divide_69 : decode cX6_divide 69 = .ok (.invokevirtual 50, 3) := by decide +kernel
theorem dX6_divide_72 : decode cX6_divide 72 = .ok (.aload_n 0, 1) := by decide +kernel
theorem dX6_divide_73 : decode cX6_divide 73 = .ok (.iload 4, 2) := by decide +kernel
theorem dX6_divide_75 : decode cX6_divide 75 = .ok (.iconst 2, 1) := by decide +kernel
theorem dX6_divide_76 : decode cX6_divide 76 = .ok (.aload_n 0, 1) := by decide +kernel
theorem dX6_divide_77 : decode cX6_divide 77 = .ok (.iload 4, 2) := by decide +kernel
theorem dX6_divide_79 : decode cX6_divide 79 = .ok (.iconst 2, 1) := by decide +kernel
theorem dX6_divide_80 : decode cX6_divide 80 = .ok (.invokevirtual 30, 3) := by decide +kernel
theorem dX6_divide_83 : decode cX6_divide 83 = .ok (.iload_n 2, 1) := by decide +kernel
theorem dX6_divide_84 : decode cX6_divide 84 = .ok (.isub, 1) := by decide +kernel
theorem dX6_divide_85 : decode cX6_divide 85 = .ok (.invokevirtual 56, 3) := by decide +kernel
theorem dX6_divide_88 : decode cX6_divide 88 = .ok (.aload_n 0, 1) := by decide +kernel
theorem dX6_divide_89 : decode cX6_divide 89 = .ok (.aload_n 0, 1) := by decide +kernel
theorem dX6_divide_90 : decode cX6_divide 90 = .ok (.iload 4, 2) := by decide +kernel
theorem dX6_divide_92 : decode cX6_divide 92 = .ok (.iconst 1, 1) := by decide +kernel
theorem dX6_divide_93 : decode cX6_divide 93 = .ok (.invokevirtual 30, 3) := by decide +kernel
theorem dX6_divide_96 : decode cX6_divide 96 = .ok (.iload_n 2, 1) := by decide +kernel
theorem dX6_divide_97 : decode cX6_divide 97 = .ok (.aload_n 0, 1) := by decide +kernel
theorem dX6_divide_98 : decode cX6_divide 98 = .ok (.iload 4, 2) := by decide +kernel
theorem dX6_divide_100 : decode cX6_divide 100 = .ok (.iconst 3, 1) := by decide +kernel
theorem dX6_divide_101 : decode cX6_divide 101 = .ok (.invokevirtual 30, 3) := by decide +kernel
theorem dX6_divide_104 : decode cX6_divide 104 = .ok (.iload_n 3, 1) := by decide +kernel
theorem dX6_divide_105 : decode cX6_divide 105 = .ok (.invokevirtual 73, 3) := by decide +kernel
theorem dX6_divide_108 : decode cX6_divide 108 = .ok (.ireturn, 1) := by decide +kernel
theorem dX6_throwAway_0 : decode cX6_throwAway 0 = .ok (.aload_n 0, 1) := by decide +kernel
theorem dX6_throwAway_1 : decode cX6_throwAway 1 = .ok (.iload_n 1, 1) := by decide +kernel
theorem dX6_throwAway_2 : decode cX6_throwAway 2 = .ok (.invokevirtual 89, 3) := by decide +kernel
theorem dX6_throwAway_5 : decode cX6_throwAway 5 = .ok (.istore_n 2, 1) := by decide +kernel
theorem dX6_throwAway_6 : decode cX6_throwAway 6 = .ok (.iload_n 2, 1) := by decide +kernel
theorem dX6_throwAway_7 : decode cX6_throwAway 7 = .ok (.bipush (-6), 2) := by decide +kernel
theorem dX6_throwAway_9 : decode cX6_throwAway 9 = .ok (.if_icmp .ne 5, 3) := by decide +kernel
theorem dX6_throwAway_12 : decode cX6_throwAway 12 = .ok (.iconst (-1), 1) := by decide +kernel
theorem dX6_throwAway_13 : decode cX6_throwAway 13 = .ok (.ireturn, 1) := by decide +kernel
theorem dX6_throwAway_14 : decode cX6_throwAway 14 = .ok (.aload_n 0, 1) := by decide +kernel
theorem dX6_throwAway_15 : decode cX6_throwAway 15 = .ok (.invokevirtual 50, 3) := by decide +kernel
theorem dX6_throwAway_18 : decode cX6_throwAway 18 = .ok (.aload_n 0, 1) := by decide +kernel
theorem dX6_throwAway_19 : decode cX6_throwAway 19 = .ok (.iload_n 2, 1) := by decide +kernel
theorem dX6_throwAway_20 : decode cX6_throwAway 20 = .ok (.iconst 2, 1) := by decide +kernel
theorem dX6_throwAway_21 : decode cX6_throwAway 21 = .ok (.invokevirtual 30, 3) := by decide +kernel
theorem dX6_throwAway_24 : decode cX6_throwAway 24 = .ok (.istore_n 3, 1) := by decide +kernel
theorem dX6_throwAway_25 : decode cX6_throwAway 25 = .ok (.aload_n 0, 1) := by decide +kernel
theorem dX6_throwAway_26 : decode cX6_throwAway 26 = .ok (.iload_n 2, 1) := by decide +kernel
theorem dX6_throwAway_27 : decode cX6_throwAway 27 = .ok (.invokevirtual 95, 3) := by decide +kernel
theorem dX6_throwAway_30 : decode cX6_throwAway 30 = .ok (.iload_n 3, 1) := by decide +kernel
theorem dX6_throwAway_31 : decode cX6_throwAway 31 = .ok (.ireturn, 1) := by decide +kernel
theorem dX6_nextFor_0 : decode cX6_nextFor 0 = .ok (.bipush (-6), 2) := by decide +kernel
theorem dX6_nextFor_2 : decode cX6_nextFor 2 = .ok (.istore 4, 2) := by decide +kernel
theorem dX6_nextFor_4 : decode cX6_nextFor 4 = .ok (.iconst 0, 1) := by decide +kernel
theorem dX6_nextFor_5 : decode cX6_nextFor 5 = .ok (.istore 5, 2) := by decide +kernel
theorem dX6_nextFor_7 : decode cX6_nextFor 7 = .ok (.iload 5, 2) := by decide +kernel
theorem dX6_nextFor_9 : decode cX6_nextFor 9 = .ok (.aload_n 0, 1) := by decide +kernel
theorem dX6_nextFor_10 : decode cX6_nextFor 10 = .ok (.getfield 7, 3) := by decide +kernel
theorem dX6_nextFor_13 : decode cX6_nextFor 13 = .ok (.iconst 2, 1) := by decide +kernel
theorem dX6_nextFor_14 : decode cX6_nextFor 14 = .ok (.iaload, 1) := by decide +kernel
theorem dX6_nextFor_15 : decode cX6_nextFor 15 = .ok (.if_icmp .ge 108, 3) := by decide +kernel
theorem dX6_nextFor_18 : decode cX6_nextFor 18 = .ok (.aload_n 0, 1) := by decide +kernel
theorem dX6_nextFor_19 : decode cX6_nextFor 19 = .ok (.iload 5, 2) := by decide +kernel
theorem dX6_nextFor_21 : decode cX6_nextFor 21 = .ok (.iconst 1, 1) := by decide +kernel
theorem dX6_nextFor_22 : decode cX6_nextFor 22 = .ok (.invokevirtual 30, 3) := by decide +kernel
theorem dX6_nextFor_25 : decode cX6_nextFor 25 = .ok (.iload_n 1, 1) := by decide +kernel
theorem dX6_nextFor_26 : decode cX6_nextFor 26 = .ok (.if_icmp .ne 50, 3) := by decide +kernel
theorem dX6_nextFor_29 : decode cX6_nextFor 29 = .ok (.aload_n 0, 1) := by decide +kernel
theorem dX6_nextFor_30 : decode cX6_nextFor 30 = .ok (.iload 5, 2) := by decide +kernel
theorem dX6_nextFor_32 : decode cX6_nextFor 32 = .ok (.iconst 4, 1) := by decide +kernel
theorem dX6_nextFor_33 : decode cX6_nextFor 33 = .ok (.invokevirtual 30, 3) := by decide +kernel
theorem dX6_nextFor_36 : decode cX6_nextFor 36 = .ok (.invokestatic 98, 3) := by decide +kernel
theorem dX6_nextFor_39 : decode cX6_nextFor 39 = .ok (.ifCond .eq 37, 3) := by decide +kernel
theorem dX6_nextFor_42 : decode cX6_nextFor 42 = .ok (.aload_n 0, 1) := by decide +kernel
theorem dX6_nextFor_43 : decode cX6_nextFor 43 = .ok (.iload 5, 2) := by decide +kernel
theorem dX6_nextFor_45 : decode cX6_nextFor 45 = .ok (.invokevirtual 101, 3) := by decide +kernel
theorem dX6_nextFor_48 : decode cX6_nextFor 48 = .ok (.ifCond .eq 28, 3) := by decide +kernel
theorem dX6_nextFor_51 : decode cX6_nextFor 51 = .ok (.aload_n 0, 1) := by decide +kernel
theorem dX6_nextFor_52 : decode cX6_nextFor 52 = .ok (.iload 5, 2) := by decide +kernel
theorem dX6_nextFor_54 : decode cX6_nextFor 54 = .ok (.iconst 3, 1) := by decide +kernel
theorem dX6_nextFor_55 : decode cX6_nextFor 55 = .ok (.invokevirtual 30, 3) := by decide +kernel
theorem dX6_nextFor_58 : decode cX6_nextFor 58 = .ok (.iload_n 2, 1) := by decide +kernel
theorem dX6_nextFor_59 : decode cX6_nextFor 59 = .ok (.if_icmp .lt 17, 3) := by decide +kernel
theorem dX6_nextFor_62 : decode cX6_nextFor 62 = .ok (.aload_n 0, 1) := by decide +kernel
theorem dX6_nextFor_63 : decode cX6_nextFor 63 = .ok (.iload 5, 2) := by decide +kernel
theorem dX6_nextFor_65 : decode cX6_nextFor 65 = .ok (.invokevirtual 92, 3) := by decide +kernel
theorem dX6_nextFor_68 : decode cX6_nextFor 68 = .ok (.iload_n 3, 1) := by decide +kernel
theorem dX6_nextFor_69 : decode cX6_nextFor 69 = .ok (.if_icmp .gt 7, 3) := by decide +kernel
theorem dX6_nextFor_72 : decode cX6_nextFor 72 = .ok (.iconst 1, 1) := by decide +kernel
theorem dX6_nextFor_73 : decode cX6_nextFor 73 = .ok (.goto 4, 3) := by decide +kernel
theorem dX6_nextFor_76 : decode cX6_nextFor 76 = .ok (.iconst 0, 1) := by decide +kernel
theorem dX6_nextFor_77 : decode cX6_nextFor 77 = .ok (.istore 6, 2) := by decide +kernel
theorem dX6_nextFor_79 : decode cX6_nextFor 79 = .ok (.iload 6, 2) := by decide +kernel
theorem dX6_nextFor_81 : decode cX6_nextFor 81 = .ok (.ifCond .eq 32, 3) := by decide +kernel
theorem dX6_nextFor_84 : decode cX6_nextFor 84 = .ok (.iload 4, 2) := by decide +kernel
theorem dX6_nextFor_86 : decode cX6_nextFor 86 = .ok (.bipush (-6), 2) := by decide +kernel
theorem dX6_nextFor_88 : decode cX6_nextFor 88 = .ok (.if_icmp .eq 20, 3) := by decide +kernel
theorem dX6_nextFor_91 : decode cX6_nextFor 91 = .ok (.aload_n 0, 1) := by decide +kernel
theorem dX6_nextFor_92 : decode cX6_nextFor 92 = .ok (.iload 5, 2) := by decide +kernel
theorem dX6_nextFor_94 : decode cX6_nextFor 94 = .ok (.iconst 3, 1) := by decide +kernel
theorem dX6_nextFor_95 : decode cX6_nextFor 95 = .ok (.invokevirtual 30, 3) := by decide +kernel
theorem dX6_nextFor_98 : decode cX6_nextFor 98 = .ok (.aload_n 0, 1) := by decide +kernel
theorem dX6_nextFor_99 : decode cX6_nextFor 99 = .ok (.iload 4, 2) := by decide +kernel
theorem dX6_nextFor_101 : decode cX6_nextFor 101 = .ok (.iconst 3, 1) := by decide +kernel
theorem dX6_nextFor_102 : decode cX6_nextFor 102 = .ok (.invokevirtual 30, 3) := by decide +kernel
theorem dX6_nextFor_105 : decode cX6_nextFor 105 = .ok (.if_icmp .ge 8, 3) := by decide +kernel
theorem dX6_nextFor_108 : decode cX6_nextFor 108 = .ok (.iload 5, 2) := by decide +kernel
theorem dX6_nextFor_110 : decode cX6_nextFor 110 = .ok (.goto 5, 3) := by decide +kernel
theorem dX6_nextFor_113 : decode cX6_nextFor 113 = .ok (.iload 4, 2) := by decide +kernel
theorem dX6_nextFor_115 : decode cX6_nextFor 115 = .ok (.istore 4, 2) := by decide +kernel
theorem dX6_nextFor_117 : decode cX6_nextFor 117 = .ok (.iinc 5 1, 3) := by decide +kernel
theorem dX6_nextFor_120 : decode cX6_nextFor 120 = .ok (.goto (-113), 3) := by decide +kernel
theorem dX6_nextFor_123 : decode cX6_nextFor 123 = .ok (.iload 4, 2) := by decide +kernel
theorem dX6_nextFor_125 : decode cX6_nextFor 125 = .ok (.ireturn, 1) := by decide +kernel
theorem dX6_order_0 : decode cX6_order 0 = .ok (.iload_n 1, 1) := by decide +kernel
theorem dX6_order_1 : decode cX6_order 1 = .ok (.invokestatic 46, 3) := by decide +kernel
theorem dX6_order_4 : decode cX6_order 4 = .ok (.ifCond .ne 5, 3) := by decide +kernel
theorem dX6_order_7 : decode cX6_order 7 = .ok (.iconst (-1), 1) := by decide +kernel
theorem dX6_order_8 : decode cX6_order 8 = .ok (.ireturn, 1) := by decide +kernel
theorem dX6_order_9 : decode cX6_order 9 = .ok (.iload_n 2, 1) := by decide +kernel
theorem dX6_order_10 : decode cX6_order 10 = .ok (.iconst 1, 1) := by decide +kernel
theorem dX6_order_11 : decode cX6_order 11 = .ok (.sipush 20000, 3) := by decide +kernel
theorem dX6_order_14 : decode cX6_order 14 = .ok (.invokestatic 38, 3) := by decide +kernel
theorem dX6_order_17 : decode cX6_order 17 = .ok (.ifCond .eq 25, 3) := by decide +kernel
theorem dX6_order_20 : decode cX6_order 20 = .ok (.iload_n 3, 1) := by decide +kernel
theorem dX6_order_21 : decode cX6_order 21 = .ok (.iconst 0, 1) := by decide +kernel
theorem dX6_order_22 : decode cX6_order 22 = .ok (.bipush 100, 2) := by decide +kernel
theorem dX6_order_24 : decode cX6_order 24 = .ok (.invokestatic 38, 3) := by decide +kernel
theorem dX6_order_27 : decode cX6_order 27 = .ok (.ifCond .eq 15, 3) := by decide +kernel
theorem dX6_order_30 : decode cX6_order 30 = .ok (.iload 4, 2) := by decide +kernel
theorem dX6_order_32 : decode cX6_order 32 = .ok (.iconst 1, 1) := by decide +kernel
theorem dX6_order_33 : decode cX6_order 33 = .ok (.sipush 9999, 3) := by decide +kernel
theorem dX6_order_36 : decode cX6_order 36 = .ok (.invokestatic 38, 3) := by decide +kernel
theorem dX6_order_39 : decode cX6_order 39 = .ok (.ifCond .ne 6, 3) := by decide +kernel
theorem dX6_order_42 : decode cX6_order 42 = .ok (.bipush (-2), 2) := by decide +kernel
theorem dX6_order_44 : decode cX6_order 44 = .ok (.ireturn, 1) := by decide +kernel
theorem dX6_order_45 : decode cX6_order 45 = .ok (.aload_n 0, 1) := by decide +kernel
theorem dX6_order_46 : decode cX6_order 46 = .ok (.invokevirtual 50, 3) := by decide +kernel
theorem dX6_order_49 : decode cX6_order 49 = .ok (.iconst 0, 1) := by decide +kernel
theorem dX6_order_50 : decode cX6_order 50 = .ok (.istore 5, 2) := by decide +kernel
theorem dX6_order_52 : decode cX6_order 52 = .ok (.aload_n 0, 1) := by decide +kernel
theorem dX6_order_53 : decode cX6_order 53 = .ok (.iload_n 1, 1) := by decide +kernel
theorem dX6_order_54 : decode cX6_order 54 = .ok (.iload_n 3, 1) := by decide +kernel
theorem dX6_order_55 : decode cX6_order 55 = .ok (.iload 4, 2) := by decide +kernel
theorem dX6_order_57 : decode cX6_order 57 = .ok (.invokevirtual 104, 3) := by decide +kernel
theorem dX6_order_60 : decode cX6_order 60 = .ok (.istore 6, 2) := by decide +kernel
theorem dX6_order_62 : decode cX6_order 62 = .ok (.iload 6, 2) := by decide +kernel
theorem dX6_order_64 : decode cX6_order 64 = .ok (.bipush (-6), 2) := by decide +kernel
theorem dX6_order_66 : decode cX6_order 66 = .ok (.if_icmp .eq 124, 3) := by decide +kernel
theorem dX6_order_69 : decode cX6_order 69 = .ok (.iload 5, 2) := by decide +kernel
theorem dX6_order_71 : decode cX6_order 71 = .ok (.iload_n 2, 1) := by decide +kernel
theorem dX6_order_72 : decode cX6_order 72 = .ok (.if_icmp .ge 118, 3) := by decide +kernel
theorem dX6_order_75 : decode cX6_order 75 = .ok (.aload_n 0, 1) := by decide +kernel
theorem dX6_order_76 : decode cX6_order 76 = .ok (.iload 6, 2) := by decide +kernel
theorem dX6_order_78 : decode cX6_order 78 = .ok (.iconst 2, 1) := by decide +kernel
theorem dX6_order_79 : decode cX6_order 79 = .ok (.invokevirtual 30, 3) := by decide +kernel
theorem dX6_order_82 : decode cX6_order 82 = .ok (.iload_n 2, 1) := by decide +kernel
theorem dX6_order_83 : decode cX6_order 83 = .ok (.iload 5, 2) := by decide +kernel
theorem dX6_order_85 : decode cX6_order 85 = .ok (.isub, 1) := by decide +kernel
theorem dX6_order_86 : decode cX6_order 86 = .ok (.if_icmp .ge 13, 3) := by decide +kernel
theorem dX6_order_89 : decode cX6_order 89 = .ok (.aload_n 0, 1) := by decide +kernel
theorem dX6_order_90 : decode cX6_order 90 = .ok (.iload 6, 2) := by decide +kernel
theorem dX6_order_92 : decode cX6_order 92 = .ok (.iconst 2, 1) := by decide +kernel
theorem dX6_order_93 : decode cX6_order 93 = .ok (.invokevirtual 30, 3) := by decide +kernel
theorem dX6_order_96 : decode cX6_order 96 = .ok (.goto 7, 3) := by decide +kernel
theorem dX6_order_99 : decode cX6_order 99 = .ok (.iload_n 2, 1) := by decide +kernel
theorem dX6_order_100 : decode cX6_order 100 = .ok (.iload 5, 2) := by decide +kernel
theorem dX6_order_102 : decode cX6_order 102 = .ok (.isub, 1) := by decide +kernel
theorem dX6_order_103 : decode cX6_order 103 = .ok (.istore 7, 2) := by decide +kernel
theorem dX6_order_105 : decode cX6_order 105 = .ok (.iload 5, 2) := by decide +kernel
theorem dX6_order_107 : decode cX6_order 107 = .ok (.iload 7, 2) := by decide +kernel
theorem dX6_order_109 : decode cX6_order 109 = .ok (.iadd, 1) := by decide +kernel
theorem dX6_order_110 : decode cX6_order 110 = .ok (.istore 5, 2) := by decide +kernel
theorem dX6_order_112 : decode cX6_order 112 = .ok (.aload_n 0, 1) := by decide +kernel
theorem dX6_order_113 : decode cX6_order 113 = .ok (.getfield 7, 3) := by decide +kernel
theorem dX6_order_116 : decode cX6_order 116 = .ok (.iconst 4, 1) := by decide +kernel
theorem dX6_order_117 : decode cX6_order 117 = .ok (.dup2, 1) := by decide +kernel
theorem dX6_order_118 : decode cX6_order 118 = .ok (.iaload, 1) := by decide +kernel
theorem dX6_order_119 : decode cX6_order 119 = .ok (.iload 7, 2) := by decide +kernel
theorem dX6_order_121 : decode cX6_order 121 = .ok (.iadd, 1) := by decide +kernel
theorem dX6_order_122 : decode cX6_order 122 = .ok (.iastore, 1) := by decide +kernel
theorem dX6_order_123 : decode cX6_order 123 = .ok (.aload_n 0, 1) := by decide +kernel
theorem dX6_order_124 : decode cX6_order 124 = .ok (.getfield 7, 3) := by decide +kernel
theorem dX6_order_127 : decode cX6_order 127 = .ok (.bipush 7, 2) := by decide +kernel
theorem dX6_order_129 : decode cX6_order 129 = .ok (.dup2, 1) := by decide +kernel
theorem dX6_order_130 : decode cX6_order 130 = .ok (.iaload, 1) := by decide +kernel
theorem dX6_order_131 : decode cX6_order 131 = .ok (.iload 7, 2) := by decide +kernel
theorem dX6_order_133 : decode cX6_order 133 = .ok (.aload_n 0, 1) := by decide +kernel
theorem dX6_order_134 : decode cX6_order 134 = .ok (.iload 6, 2) := by decide +kernel
theorem dX6_order_136 : decode cX6_order 136 = .ok (.invokevirtual 92, 3) := by decide +kernel
theorem dX6_order_139 : decode cX6_order 139 = .ok (.invokestatic 70, 3) := by decide +kernel
theorem dX6_order_142 : decode cX6_order 142 = .ok (.iadd, 1) := by decide +kernel
theorem dX6_order_143 : decode cX6_order 143 = .ok (.iastore, 1) := by decide +kernel
theorem dX6_order_144 : decode cX6_order 144 = .ok (.aload_n 0, 1) := by decide +kernel
theorem dX6_order_145 : decode cX6_order 145 = .ok (.iload 6, 2) := by decide +kernel
theorem dX6_order_147 : decode cX6_order 147 = .ok (.iconst 2, 1) := by decide +kernel
theorem dX6_order_148 : decode cX6_order 148 = .ok (.aload_n 0, 1) := by decide +kernel
theorem dX6_order_149 : decode cX6_order 149 = .ok (.iload 6, 2) := by decide +kernel
theorem dX6_order_151 : decode cX6_order 151 = .ok (.iconst 2, 1) := by decide +kernel
theorem dX6_order_152 : decode cX6_order 152 = .ok (.invokevirtual 30, 3) := by decide +kernel
theorem dX6_order_155 : decode cX6_order 155 = .ok (.iload 7, 2) := by decide +kernel
theorem dX6_order_157 : decode cX6_order 157 = .ok (.isub, 1) := by decide +kernel
theorem dX6_order_158 : decode cX6_order 158 = .ok (.invokevirtual 56, 3) := by decide +kernel
theorem dX6_order_161 : decode cX6_order 161 = .ok (.aload_n 0, 1) := by decide +kernel
theorem dX6_order_162 : decode cX6_order 162 = .ok (.iload 6, 2) := by decide +kernel
theorem dX6_order_164 : decode cX6_order 164 = .ok (.iconst 2, 1) := by decide +kernel
theorem dX6_order_165 : decode cX6_order 165 = .ok (.invokevirtual 30, 3) := by decide +kernel
theorem dX6_order_168 : decode cX6_order 168 = .ok (.ifCond .ne 9, 3) := by decide +kernel
theorem dX6_order_171 : decode cX6_order 171 = .ok (.aload_n 0, 1) := by decide +kernel
theorem dX6_order_172 : decode cX6_order 172 = .ok (.iload 6, 2) := by decide +kernel
theorem dX6_order_174 : decode cX6_order 174 = .ok (.invokevirtual 34, 3) := by decide +kernel
theorem dX6_order_177 : decode cX6_order 177 = .ok (.aload_n 0, 1) := by decide +kernel
theorem dX6_order_178 : decode cX6_order 178 = .ok (.iload_n 1, 1) := by decide +kernel
theorem dX6_order_179 : decode cX6_order 179 = .ok (.iload_n 3, 1) := by decide +kernel
theorem dX6_order_180 : decode cX6_order 180 = .ok (.iload 4, 2) := by decide +kernel
theorem dX6_order_182 : decode cX6_order 182 = .ok (.invokevirtual 104, 3) := by decide +kernel
theorem dX6_order_185 : decode cX6_order 185 = .ok (.istore 6, 2) := by decide +kernel
theorem dX6_order_187 : decode cX6_order 187 = .ok (.goto (-125), 3) := by decide +kernel
theorem dX6_order_190 : decode cX6_order 190 = .ok (.iload 5, 2) := by decide +kernel
theorem dX6_order_192 : decode cX6_order 192 = .ok (.ireturn, 1) := by decide +kernel
theorem dX6_loss_0 : decode cX6_loss 0 = .ok (.iload_n 0, 1) := by decide +kernel
theorem dX6_loss_1 : decode cX6_loss 1 = .ok (.invokestatic 98, 3) := by decide +kernel
theorem dX6_loss_4 : decode cX6_loss 4 = .ok (.ifCond .eq 16, 3) := by decide +kernel
theorem dX6_loss_7 : decode cX6_loss 7 = .ok (.iload_n 1, 1) := by decide +kernel
theorem dX6_loss_8 : decode cX6_loss 8 = .ok (.ifCond .le 7, 3) := by decide +kernel
theorem dX6_loss_11 : decode cX6_loss 11 = .ok (.iconst 2, 1) := by decide +kernel
theorem dX6_loss_12 : decode cX6_loss 12 = .ok (.goto 18, 3) := by decide +kernel
theorem dX6_loss_15 : decode cX6_loss 15 = .ok (.bipush 9, 2) := by decide +kernel
theorem dX6_loss_17 : decode cX6_loss 17 = .ok (.goto 13, 3) := by decide +kernel
theorem dX6_loss_20 : decode cX6_loss 20 = .ok (.iload_n 1, 1) := by decide +kernel
theorem dX6_loss_21 : decode cX6_loss 21 = .ok (.ifCond .le 7, 3) := by decide +kernel
theorem dX6_loss_24 : decode cX6_loss 24 = .ok (.iconst 1, 1) := by decide +kernel
theorem dX6_loss_25 : decode cX6_loss 25 = .ok (.goto 5, 3) := by decide +kernel
theorem dX6_loss_28 : decode cX6_loss 28 = .ok (.bipush 6, 2) := by decide +kernel
theorem dX6_loss_30 : decode cX6_loss 30 = .ok (.ireturn, 1) := by decide +kernel
theorem dX6_iceThen_0 : decode cX6_iceThen 0 = .ok (.iload_n 2, 1) := by decide +kernel
theorem dX6_iceThen_1 : decode cX6_iceThen 1 = .ok (.iload_n 1, 1) := by decide +kernel
theorem dX6_iceThen_2 : decode cX6_iceThen 2 = .ok (.invokestatic 98, 3) := by decide +kernel
theorem dX6_iceThen_5 : decode cX6_iceThen 5 = .ok (.ifCond .eq 15, 3) := by decide +kernel
theorem dX6_iceThen_8 : decode cX6_iceThen 8 = .ok (.iconst 2, 1) := by decide +kernel
theorem dX6_iceThen_9 : decode cX6_iceThen 9 = .ok (.aload_n 0, 1) := by decide +kernel
theorem dX6_iceThen_10 : decode cX6_iceThen 10 = .ok (.getfield 7, 3) := by decide +kernel
theorem dX6_iceThen_13 : decode cX6_iceThen 13 = .ok (.bipush 8, 2) := by decide +kernel
theorem dX6_iceThen_15 : decode cX6_iceThen 15 = .ok (.iaload, 1) := by decide +kernel
theorem dX6_iceThen_16 : decode cX6_iceThen 16 = .ok (.imul, 1) := by decide +kernel
theorem dX6_iceThen_17 : decode cX6_iceThen 17 = .ok (.goto 10, 3) := by decide +kernel
theorem dX6_iceThen_20 : decode cX6_iceThen 20 = .ok (.aload_n 0, 1) := by decide +kernel
theorem dX6_iceThen_21 : decode cX6_iceThen 21 = .ok (.getfield 7, 3) := by decide +kernel
theorem dX6_iceThen_24 : decode cX6_iceThen 24 = .ok (.bipush 8, 2) := by decide +kernel
theorem dX6_iceThen_26 : decode cX6_iceThen 26 = .ok (.iaload, 1) := by decide +kernel
theorem dX6_iceThen_27 : decode cX6_iceThen 27 = .ok (.isub, 1) := by decide +kernel
theorem dX6_iceThen_28 : decode cX6_iceThen 28 = .ok (.istore_n 3, 1) := by decide +kernel
theorem dX6_iceThen_29 : decode cX6_iceThen 29 = .ok (.iload_n 3, 1) := by decide +kernel
theorem dX6_iceThen_30 : decode cX6_iceThen 30 = .ok (.ifCond .ge 7, 3) := by decide +kernel
theorem dX6_iceThen_33 : decode cX6_iceThen 33 = .ok (.iconst 0, 1) := by decide +kernel
theorem dX6_iceThen_34 : decode cX6_iceThen 34 = .ok (.goto 4, 3) := by decide +kernel
theorem dX6_iceThen_37 : decode cX6_iceThen 37 = .ok (.iload_n 3, 1) := by decide +kernel
theorem dX6_iceThen_38 : decode cX6_iceThen 38 = .ok (.ireturn, 1) := by decide +kernel
theorem dX6_freshThen_0 : decode cX6_freshThen 0 = .ok (.iload_n 0, 1) := by decide +kernel
theorem dX6_freshThen_1 : decode cX6_freshThen 1 = .ok (.iload_n 1, 1) := by decide +kernel
theorem dX6_freshThen_2 : decode cX6_freshThen 2 = .ok (.if_icmp .ge 7, 3) := by decide +kernel
theorem dX6_freshThen_5 : decode cX6_freshThen 5 = .ok (.iconst 0, 1) := by decide +kernel
theorem dX6_freshThen_6 : decode cX6_freshThen 6 = .ok (.goto 6, 3) := by decide +kernel
theorem dX6_freshThen_9 : decode cX6_freshThen 9 = .ok (.iload_n 0, 1) := by decide +kernel
theorem dX6_freshThen_10 : decode cX6_freshThen 10 = .ok (.iload_n 1, 1) := by decide +kernel
theorem dX6_freshThen_11 : decode cX6_freshThen 11 = .ok (.isub, 1) := by decide +kernel
theorem dX6_freshThen_12 : decode cX6_freshThen 12 = .ok (.ireturn, 1) := by decide +kernel
theorem dX6_passesHour_0 : decode cX6_passesHour 0 = .ok (.iconst 0, 1) := by decide +kernel
theorem dX6_passesHour_1 : decode cX6_passesHour 1 = .ok (.istore_n 1, 1) := by decide +kernel
theorem dX6_passesHour_2 : decode cX6_passesHour 2 = .ok (.iload_n 1, 1) := by decide +kernel
theorem dX6_passesHour_3 : decode cX6_passesHour 3 = .ok (.aload_n 0, 1) := by decide +kernel
theorem dX6_passesHour_4 : decode cX6_passesHour 4 = .ok (.getfield 7, 3) := by decide +kernel
theorem dX6_passesHour_7 : decode cX6_passesHour 7 = .ok (.iconst 2, 1) := by decide +kernel
theorem dX6_passesHour_8 : decode cX6_passesHour 8 = .ok (.iaload, 1) := by decide +kernel
theorem dX6_passesHour_9 : decode cX6_passesHour 9 = .ok (.if_icmp .ge 47, 3) := by decide +kernel
theorem dX6_passesHour_12 : decode cX6_passesHour 12 = .ok (.aload_n 0, 1) := by decide +kernel
theorem dX6_passesHour_13 : decode cX6_passesHour 13 = .ok (.iload_n 1, 1) := by decide +kernel
theorem dX6_passesHour_14 : decode cX6_passesHour 14 = .ok (.iconst 3, 1) := by decide +kernel
theorem dX6_passesHour_15 : decode cX6_passesHour 15 = .ok (.aload_n 0, 1) := by decide +kernel
theorem dX6_passesHour_16 : decode cX6_passesHour 16 = .ok (.iload_n 1, 1) := by decide +kernel
theorem dX6_passesHour_17 : decode cX6_passesHour 17 = .ok (.iconst 3, 1) := by decide +kernel
theorem dX6_passesHour_18 : decode cX6_passesHour 18 = .ok (.invokevirtual 30, 3) := by decide +kernel
theorem dX6_passesHour_21 : decode cX6_passesHour 21 = .ok (.aload_n 0, 1) := by decide +kernel
theorem dX6_passesHour_22 : decode cX6_passesHour 22 = .ok (.iload_n 1, 1) := by decide +kernel
theorem dX6_passesHour_23 : decode cX6_passesHour 23 = .ok (.iconst 4, 1) := by decide +kernel
theorem dX6_passesHour_24 : decode cX6_passesHour 24 = .ok (.invokevirtual 30, 3) := by decide +kernel
theorem dX6_passesHour_27 : decode cX6_passesHour 27 = .ok (.aload_n 0, 1) := by decide +kernel
theorem dX6_passesHour_28 : decode cX6_passesHour 28 = .ok (.getfield 7, 3) := by decide +kernel
theorem dX6_passesHour_31 : decode cX6_passesHour 31 = .ok (.bipush 34, 2) := by decide +kernel
theorem dX6_passesHour_33 : decode cX6_passesHour 33 = .ok (.aload_n 0, 1) := by decide +kernel
theorem dX6_passesHour_34 : decode cX6_passesHour 34 = .ok (.iload_n 1, 1) := by decide +kernel
theorem dX6_passesHour_35 : decode cX6_passesHour 35 = .ok (.iconst 4, 1) := by decide +kernel
theorem dX6_passesHour_36 : decode cX6_passesHour 36 = .ok (.invokevirtual 30, 3) := by decide +kernel
theorem dX6_passesHour_39 : decode cX6_passesHour 39 = .ok (.iadd, 1) := by decide +kernel
theorem dX6_passesHour_40 : decode cX6_passesHour 40 = .ok (.iaload, 1) := by decide +kernel
theorem dX6_passesHour_41 : decode cX6_passesHour 41 = .ok (.invokestatic 107, 3) := by decide +kernel
theorem dX6_passesHour_44 : decode cX6_passesHour 44 = .ok (.invokestatic 110, 3) := by decide +kernel
theorem dX6_passesHour_47 : decode cX6_passesHour 47 = .ok (.invokevirtual 56, 3) := by decide +kernel
theorem dX6_passesHour_50 : decode cX6_passesHour 50 = .ok (.iinc 1 1, 3) := by decide +kernel
theorem dX6_passesHour_53 : decode cX6_passesHour 53 = .ok (.goto (-51), 3) := by decide +kernel
theorem dX6_passesHour_56 : decode cX6_passesHour 56 = .ok (.iconst 0, 1) := by decide +kernel
theorem dX6_passesHour_57 : decode cX6_passesHour 57 = .ok (.istore_n 1, 1) := by decide +kernel
theorem dX6_passesHour_58 : decode cX6_passesHour 58 = .ok (.iload_n 1, 1) := by decide +kernel
theorem dX6_passesHour_59 : decode cX6_passesHour 59 = .ok (.bipush 11, 2) := by decide +kernel
theorem dX6_passesHour_61 : decode cX6_passesHour 61 = .ok (.if_icmp .ge 32, 3) := by decide +kernel
theorem dX6_passesHour_64 : decode cX6_passesHour 64 = .ok (.aload_n 0, 1) := by decide +kernel
theorem dX6_passesHour_65 : decode cX6_passesHour 65 = .ok (.getfield 7, 3) := by decide +kernel
theorem dX6_passesHour_68 : decode cX6_passesHour 68 = .ok (.bipush 34, 2) := by decide +kernel
theorem dX6_passesHour_70 : decode cX6_passesHour 70 = .ok (.iload_n 1, 1) := by decide +kernel
theorem dX6_passesHour_71 : decode cX6_passesHour 71 = .ok (.iadd, 1) := by decide +kernel
theorem dX6_passesHour_72 : decode cX6_passesHour 72 = .ok (.aload_n 0, 1) := by decide +kernel
theorem dX6_passesHour_73 : decode cX6_passesHour 73 = .ok (.iload_n 1, 1) := by decide +kernel
theorem dX6_passesHour_74 : decode cX6_passesHour 74 = .ok (.aload_n 0, 1) := by decide +kernel
theorem dX6_passesHour_75 : decode cX6_passesHour 75 = .ok (.getfield 7, 3) := by decide +kernel
theorem dX6_passesHour_78 : decode cX6_passesHour 78 = .ok (.bipush 34, 2) := by decide +kernel
theorem dX6_passesHour_80 : decode cX6_passesHour 80 = .ok (.iload_n 1, 1) := by decide +kernel
theorem dX6_passesHour_81 : decode cX6_passesHour 81 = .ok (.iadd, 1) := by decide +kernel
theorem dX6_passesHour_82 : decode cX6_passesHour 82 = .ok (.iaload, 1) := by decide +kernel
theorem dX6_passesHour_83 : decode cX6_passesHour 83 = .ok (.invokevirtual 113, 3) := by decide +kernel
theorem dX6_passesHour_86 : decode cX6_passesHour 86 = .ok (.iastore, 1) := by decide +kernel
theorem dX6_passesHour_87 : decode cX6_passesHour 87 = .ok (.iinc 1 1, 3) := by decide +kernel
theorem dX6_passesHour_90 : decode cX6_passesHour 90 = .ok (.goto (-32), 3) := by decide +kernel
theorem dX6_passesHour_93 : decode cX6_passesHour 93 = .ok (.aload_n 0, 1) := by decide +kernel
theorem dX6_passesHour_94 : decode cX6_passesHour 94 = .ok (.getfield 7, 3) := by decide +kernel
theorem dX6_passesHour_97 : decode cX6_passesHour 97 = .ok (.iconst 1, 1) := by decide +kernel
theorem dX6_passesHour_98 : decode cX6_passesHour 98 = .ok (.dup2, 1) := by decide +kernel
theorem dX6_passesHour_99 : decode cX6_passesHour 99 = .ok (.iaload, 1) := by decide +kernel
theorem dX6_passesHour_100 : decode cX6_passesHour 100 = .ok (.iconst 1, 1) := by decide +kernel
theorem dX6_passesHour_101 : decode cX6_passesHour 101 = .ok (.iadd, 1) := by decide +kernel
theorem dX6_passesHour_102 : decode cX6_passesHour 102 = .ok (.iastore, 1) := by decide +kernel
theorem dX6_passesHour_103 : decode cX6_passesHour 103 = .ok (.return_, 1) := by decide +kernel
theorem dX6_pass_0 : decode cX6_pass 0 = .ok (.aload_n 0, 1) := by decide +kernel
theorem dX6_pass_1 : decode cX6_pass 1 = .ok (.getfield 7, 3) := by decide +kernel
theorem dX6_pass_4 : decode cX6_pass 4 = .ok (.iconst 1, 1) := by decide +kernel
theorem dX6_pass_5 : decode cX6_pass 5 = .ok (.iaload, 1) := by decide +kernel
theorem dX6_pass_6 : decode cX6_pass 6 = .ok (.bipush 10, 2) := by decide +kernel
theorem dX6_pass_8 : decode cX6_pass 8 = .ok (.if_icmp .ne 6, 3) := by decide +kernel
theorem dX6_pass_11 : decode cX6_pass 11 = .ok (.bipush (-3), 2) := by decide +kernel
theorem dX6_pass_13 : decode cX6_pass 13 = .ok (.ireturn, 1) := by decide +kernel
theorem dX6_pass_14 : decode cX6_pass 14 = .ok (.aload_n 0, 1) := by decide +kernel
theorem dX6_pass_15 : decode cX6_pass 15 = .ok (.invokevirtual 50, 3) := by decide +kernel
theorem dX6_pass_18 : decode cX6_pass 18 = .ok (.aload_n 0, 1) := by decide +kernel
theorem dX6_pass_19 : decode cX6_pass 19 = .ok (.invokevirtual 116, 3) := by decide +kernel
theorem dX6_pass_22 : decode cX6_pass 22 = .ok (.aload_n 0, 1) := by decide +kernel
theorem dX6_pass_23 : decode cX6_pass 23 = .ok (.getfield 7, 3) := by decide +kernel
theorem dX6_pass_26 : decode cX6_pass 26 = .ok (.iconst 1, 1) := by decide +kernel
theorem dX6_pass_27 : decode cX6_pass 27 = .ok (.iaload, 1) := by decide +kernel
theorem dX6_pass_28 : decode cX6_pass 28 = .ok (.ireturn, 1) := by decide +kernel
theorem dX6_coldest_0 : decode cX6_coldest 0 = .ok (.bipush (-6), 2) := by decide +kernel
theorem dX6_coldest_2 : decode cX6_coldest 2 = .ok (.istore_n 1, 1) := by decide +kernel
theorem dX6_coldest_3 : decode cX6_coldest 3 = .ok (.iconst 0, 1) := by decide +kernel
theorem dX6_coldest_4 : decode cX6_coldest 4 = .ok (.istore_n 2, 1) := by decide +kernel
theorem dX6_coldest_5 : decode cX6_coldest 5 = .ok (.iload_n 2, 1) := by decide +kernel
theorem dX6_coldest_6 : decode cX6_coldest 6 = .ok (.bipush 6, 2) := by decide +kernel
theorem dX6_coldest_8 : decode cX6_coldest 8 = .ok (.if_icmp .ge 61, 3) := by decide +kernel
theorem dX6_coldest_11 : decode cX6_coldest 11 = .ok (.aload_n 0, 1) := by decide +kernel
theorem dX6_coldest_12 : decode cX6_coldest 12 = .ok (.iload_n 2, 1) := by decide +kernel
theorem dX6_coldest_13 : decode cX6_coldest 13 = .ok (.invokevirtual 60, 3) := by decide +kernel
theorem dX6_coldest_16 : decode cX6_coldest 16 = .ok (.iconst 3, 1) := by decide +kernel
theorem dX6_coldest_17 : decode cX6_coldest 17 = .ok (.if_icmp .ge 7, 3) := by decide +kernel
theorem dX6_coldest_20 : decode cX6_coldest 20 = .ok (.iconst 1, 1) := by decide +kernel
theorem dX6_coldest_21 : decode cX6_coldest 21 = .ok (.goto 4, 3) := by decide +kernel
theorem dX6_coldest_24 : decode cX6_coldest 24 = .ok (.iconst 0, 1) := by decide +kernel
theorem dX6_coldest_25 : decode cX6_coldest 25 = .ok (.istore_n 3, 1) := by decide +kernel
theorem dX6_coldest_26 : decode cX6_coldest 26 = .ok (.iload_n 3, 1) := by decide +kernel
theorem dX6_coldest_27 : decode cX6_coldest 27 = .ok (.ifCond .eq 34, 3) := by decide +kernel
theorem dX6_coldest_30 : decode cX6_coldest 30 = .ok (.iload_n 1, 1) := by decide +kernel
theorem dX6_coldest_31 : decode cX6_coldest 31 = .ok (.bipush (-6), 2) := by decide +kernel
theorem dX6_coldest_33 : decode cX6_coldest 33 = .ok (.if_icmp .eq 24, 3) := by decide +kernel
theorem dX6_coldest_36 : decode cX6_coldest 36 = .ok (.aload_n 0, 1) := by decide +kernel
theorem dX6_coldest_37 : decode cX6_coldest 37 = .ok (.getfield 7, 3) := by decide +kernel
theorem dX6_coldest_40 : decode cX6_coldest 40 = .ok (.bipush 34, 2) := by decide +kernel
theorem dX6_coldest_42 : decode cX6_coldest 42 = .ok (.iload_n 2, 1) := by decide +kernel
theorem dX6_coldest_43 : decode cX6_coldest 43 = .ok (.iadd, 1) := by decide +kernel
theorem dX6_coldest_44 : decode cX6_coldest 44 = .ok (.iaload, 1) := by decide +kernel
theorem dX6_coldest_45 : decode cX6_coldest 45 = .ok (.aload_n 0, 1) := by decide +kernel
theorem dX6_coldest_46 : decode cX6_coldest 46 = .ok (.getfield 7, 3) := by decide +kernel
theorem dX6_coldest_49 : decode cX6_coldest 49 = .ok (.bipush 34, 2) := by decide +kernel
theorem dX6_coldest_51 : decode cX6_coldest 51 = .ok (.iload_n 1, 1) := by decide +kernel
theorem dX6_coldest_52 : decode cX6_coldest 52 = .ok (.iadd, 1) := by decide +kernel
theorem dX6_coldest_53 : decode cX6_coldest 53 = .ok (.iaload, 1) := by decide +kernel
theorem dX6_coldest_54 : decode cX6_coldest 54 = .ok (.if_icmp .le 7, 3) := by decide +kernel
theorem dX6_coldest_57 : decode cX6_coldest 57 = .ok (.iload_n 2, 1) := by decide +kernel
theorem dX6_coldest_58 : decode cX6_coldest 58 = .ok (.goto 4, 3) := by decide +kernel
theorem dX6_coldest_61 : decode cX6_coldest 61 = .ok (.iload_n 1, 1) := by decide +kernel
theorem dX6_coldest_62 : decode cX6_coldest 62 = .ok (.istore_n 1, 1) := by decide +kernel
theorem dX6_coldest_63 : decode cX6_coldest 63 = .ok (.iinc 2 1, 3) := by decide +kernel
theorem dX6_coldest_66 : decode cX6_coldest 66 = .ok (.goto (-61), 3) := by decide +kernel
theorem dX6_coldest_69 : decode cX6_coldest 69 = .ok (.iload_n 1, 1) := by decide +kernel
theorem dX6_coldest_70 : decode cX6_coldest 70 = .ok (.ireturn, 1) := by decide +kernel
theorem dX6_closes_0 : decode cX6_closes 0 = .ok (.aload_n 0, 1) := by decide +kernel
theorem dX6_closes_1 : decode cX6_closes 1 = .ok (.getfield 7, 3) := by decide +kernel
theorem dX6_closes_4 : decode cX6_closes 4 = .ok (.iconst 5, 1) := by decide +kernel
theorem dX6_closes_5 : decode cX6_closes 5 = .ok (.iaload, 1) := by decide +kernel
theorem dX6_closes_6 : decode cX6_closes 6 = .ok (.istore_n 1, 1) := by decide +kernel
theorem dX6_closes_7 : decode cX6_closes 7 = .ok (.aload_n 0, 1) := by decide +kernel
theorem dX6_closes_8 : decode cX6_closes 8 = .ok (.getfield 7, 3) := by decide +kernel
theorem dX6_closes_11 : decode cX6_closes 11 = .ok (.iconst 2, 1) := by decide +kernel
theorem dX6_closes_12 : decode cX6_closes 12 = .ok (.iaload, 1) := by decide +kernel
theorem dX6_closes_13 : decode cX6_closes 13 = .ok (.iconst 1, 1) := by decide +kernel
theorem dX6_closes_14 : decode cX6_closes 14 = .ok (.isub, 1) := by decide +kernel
theorem dX6_closes_15 : decode cX6_closes 15 = .ok (.istore_n 2, 1) := by decide +kernel
theorem dX6_closes_16 : decode cX6_closes 16 = .ok (.iload_n 2, 1) := by decide +kernel
theorem dX6_closes_17 : decode cX6_closes 17 = .ok (.ifCond .lt 22, 3) := by decide +kernel
theorem dX6_closes_20 : decode cX6_closes 20 = .ok (.aload_n 0, 1) := by decide +kernel
theorem dX6_closes_21 : decode cX6_closes 21 = .ok (.iload_n 2, 1) := by decide +kernel
theorem dX6_closes_22 : decode cX6_closes 22 = .ok (.invokevirtual 101, 3) := by decide +kernel
theorem dX6_closes_25 : decode cX6_closes 25 = .ok (.ifCond .ne 8, 3) := by decide +kernel
theorem dX6_closes_28 : decode cX6_closes 28 = .ok (.aload_n 0, 1) := by decide +kernel
theorem dX6_closes_29 : decode cX6_closes 29 = .ok (.iload_n 2, 1) := by decide +kernel
theorem dX6_closes_30 : decode cX6_closes 30 = .ok (.invokevirtual 95, 3) := by decide +kernel
theorem dX6_closes_33 : decode cX6_closes 33 = .ok (.iinc 2 (-1), 3) := by decide +kernel
theorem dX6_closes_36 : decode cX6_closes 36 = .ok (.goto (-20), 3) := by decide +kernel
theorem dX6_closes_39 : decode cX6_closes 39 = .ok (.bipush 6, 2) := by decide +kernel
theorem dX6_closes_41 : decode cX6_closes 41 = .ok (.istore_n 2, 1) := by decide +kernel
theorem dX6_closes_42 : decode cX6_closes 42 = .ok (.iload_n 2, 1) := by decide +kernel
theorem dX6_closes_43 : decode cX6_closes 43 = .ok (.bipush 11, 2) := by decide +kernel
theorem dX6_closes_45 : decode cX6_closes 45 = .ok (.if_icmp .ge 66, 3) := by decide +kernel
theorem dX6_closes_48 : decode cX6_closes 48 = .ok (.aload_n 0, 1) := by decide +kernel
theorem dX6_closes_49 : decode cX6_closes 49 = .ok (.iload_n 2, 1) := by decide +kernel
theorem dX6_closes_50 : decode cX6_closes 50 = .ok (.invokevirtual 119, 3) := by decide +kernel
theorem dX6_closes_53 : decode cX6_closes 53 = .ok (.istore_n 3, 1) := by decide +kernel
theorem dX6_closes_54 : decode cX6_closes 54 = .ok (.aload_n 0, 1) := by decide +kernel
theorem dX6_closes_55 : decode cX6_closes 55 = .ok (.invokevirtual 122, 3) := by decide +kernel
theorem dX6_closes_58 : decode cX6_closes 58 = .ok (.istore 4, 2) := by decide +kernel
theorem dX6_closes_60 : decode cX6_closes 60 = .ok (.iload_n 3, 1) := by decide +kernel
theorem dX6_closes_61 : decode cX6_closes 61 = .ok (.bipush (-6), 2) := by decide +kernel
theorem dX6_closes_63 : decode cX6_closes 63 = .ok (.if_icmp .eq 18, 3) := by decide +kernel
theorem dX6_closes_66 : decode cX6_closes 66 = .ok (.iload 4, 2) := by decide +kernel
theorem dX6_closes_68 : decode cX6_closes 68 = .ok (.bipush (-6), 2) := by decide +kernel
theorem dX6_closes_70 : decode cX6_closes 70 = .ok (.if_icmp .ne 11, 3) := by decide +kernel
theorem dX6_closes_73 : decode cX6_closes 73 = .ok (.aload_n 0, 1) := by decide +kernel
theorem dX6_closes_74 : decode cX6_closes 74 = .ok (.iload_n 3, 1) := by decide +kernel
theorem dX6_closes_75 : decode cX6_closes 75 = .ok (.invokevirtual 95, 3) := by decide +kernel
theorem dX6_closes_78 : decode cX6_closes 78 = .ok (.goto 17, 3) := by decide +kernel
theorem dX6_closes_81 : decode cX6_closes 81 = .ok (.iload_n 3, 1) := by decide +kernel
theorem dX6_closes_82 : decode cX6_closes 82 = .ok (.bipush (-6), 2) := by decide +kernel
theorem dX6_closes_84 : decode cX6_closes 84 = .ok (.if_icmp .eq 11, 3) := by decide +kernel
theorem dX6_closes_87 : decode cX6_closes 87 = .ok (.aload_n 0, 1) := by decide +kernel
theorem dX6_closes_88 : decode cX6_closes 88 = .ok (.iload_n 3, 1) := by decide +kernel
theorem dX6_closes_89 : decode cX6_closes 89 = .ok (.iconst 4, 1) := by decide +kernel
theorem dX6_closes_90 : decode cX6_closes 90 = .ok (.iload 4, 2) := by decide +kernel
theorem dX6_closes_92 : decode cX6_closes 92 = .ok (.invokevirtual 56, 3) := by decide +kernel
theorem dX6_closes_95 : decode cX6_closes 95 = .ok (.aload_n 0, 1) := by decide +kernel
theorem dX6_closes_96 : decode cX6_closes 96 = .ok (.getfield 7, 3) := by decide +kernel
theorem dX6_closes_99 : decode cX6_closes 99 = .ok (.bipush 34, 2) := by decide +kernel
theorem dX6_closes_101 : decode cX6_closes 101 = .ok (.iload_n 2, 1) := by decide +kernel
theorem dX6_closes_102 : decode cX6_closes 102 = .ok (.iadd, 1) := by decide +kernel
theorem dX6_closes_103 : decode cX6_closes 103 = .ok (.iconst 0, 1) := by decide +kernel
theorem dX6_closes_104 : decode cX6_closes 104 = .ok (.iastore, 1) := by decide +kernel
theorem dX6_closes_105 : decode cX6_closes 105 = .ok (.iinc 2 1, 3) := by decide +kernel
theorem dX6_closes_108 : decode cX6_closes 108 = .ok (.goto (-66), 3) := by decide +kernel
theorem dX6_closes_111 : decode cX6_closes 111 = .ok (.aload_n 0, 1) := by decide +kernel
theorem dX6_closes_112 : decode cX6_closes 112 = .ok (.getfield 7, 3) := by decide +kernel
theorem dX6_closes_115 : decode cX6_closes 115 = .ok (.iconst 0, 1) := by decide +kernel
theorem dX6_closes_116 : decode cX6_closes 116 = .ok (.dup2, 1) := by decide +kernel
theorem dX6_closes_117 : decode cX6_closes 117 = .ok (.iaload, 1) := by decide +kernel
theorem dX6_closes_118 : decode cX6_closes 118 = .ok (.iconst 1, 1) := by decide +kernel
theorem dX6_closes_119 : decode cX6_closes 119 = .ok (.iadd, 1) := by decide +kernel
theorem dX6_closes_120 : decode cX6_closes 120 = .ok (.iastore, 1) := by decide +kernel
theorem dX6_closes_121 : decode cX6_closes 121 = .ok (.aload_n 0, 1) := by decide +kernel
theorem dX6_closes_122 : decode cX6_closes 122 = .ok (.getfield 7, 3) := by decide +kernel
theorem dX6_closes_125 : decode cX6_closes 125 = .ok (.iconst 1, 1) := by decide +kernel
theorem dX6_closes_126 : decode cX6_closes 126 = .ok (.iconst 0, 1) := by decide +kernel
theorem dX6_closes_127 : decode cX6_closes 127 = .ok (.iastore, 1) := by decide +kernel
theorem dX6_closes_128 : decode cX6_closes 128 = .ok (.aload_n 0, 1) := by decide +kernel
theorem dX6_closes_129 : decode cX6_closes 129 = .ok (.getfield 7, 3) := by decide +kernel
theorem dX6_closes_132 : decode cX6_closes 132 = .ok (.iconst 5, 1) := by decide +kernel
theorem dX6_closes_133 : decode cX6_closes 133 = .ok (.iaload, 1) := by decide +kernel
theorem dX6_closes_134 : decode cX6_closes 134 = .ok (.iload_n 1, 1) := by decide +kernel
theorem dX6_closes_135 : decode cX6_closes 135 = .ok (.isub, 1) := by decide +kernel
theorem dX6_closes_136 : decode cX6_closes 136 = .ok (.ireturn, 1) := by decide +kernel
theorem dX6_close_0 : decode cX6_close 0 = .ok (.aload_n 0, 1) := by decide +kernel
theorem dX6_close_1 : decode cX6_close 1 = .ok (.getfield 7, 3) := by decide +kernel
theorem dX6_close_4 : decode cX6_close 4 = .ok (.iconst 0, 1) := by decide +kernel
theorem dX6_close_5 : decode cX6_close 5 = .ok (.iaload, 1) := by decide +kernel
theorem dX6_close_6 : decode cX6_close 6 = .ok (.sipush 999, 3) := by decide +kernel
theorem dX6_close_9 : decode cX6_close 9 = .ok (.if_icmp .ne 6, 3) := by decide +kernel
theorem dX6_close_12 : decode cX6_close 12 = .ok (.bipush (-4), 2) := by decide +kernel
theorem dX6_close_14 : decode cX6_close 14 = .ok (.ireturn, 1) := by decide +kernel
theorem dX6_close_15 : decode cX6_close 15 = .ok (.aload_n 0, 1) := by decide +kernel
theorem dX6_close_16 : decode cX6_close 16 = .ok (.invokevirtual 50, 3) := by decide +kernel
theorem dX6_close_19 : decode cX6_close 19 = .ok (.aload_n 0, 1) := by decide +kernel
theorem dX6_close_20 : decode cX6_close 20 = .ok (.invokevirtual 126, 3) := by decide +kernel
theorem dX6_close_23 : decode cX6_close 23 = .ok (.ireturn, 1) := by decide +kernel
theorem dX6_allGrams_0 : decode cX6_allGrams 0 = .ok (.iconst 0, 1) := by decide +kernel
theorem dX6_allGrams_1 : decode cX6_allGrams 1 = .ok (.istore_n 1, 1) := by decide +kernel
theorem dX6_allGrams_2 : decode cX6_allGrams 2 = .ok (.iconst 0, 1) := by decide +kernel
theorem dX6_allGrams_3 : decode cX6_allGrams 3 = .ok (.istore_n 2, 1) := by decide +kernel
theorem dX6_allGrams_4 : decode cX6_allGrams 4 = .ok (.iload_n 2, 1) := by decide +kernel
theorem dX6_allGrams_5 : decode cX6_allGrams 5 = .ok (.aload_n 0, 1) := by decide +kernel
theorem dX6_allGrams_6 : decode cX6_allGrams 6 = .ok (.getfield 7, 3) := by decide +kernel
theorem dX6_allGrams_9 : decode cX6_allGrams 9 = .ok (.iconst 2, 1) := by decide +kernel
theorem dX6_allGrams_10 : decode cX6_allGrams 10 = .ok (.iaload, 1) := by decide +kernel
theorem dX6_allGrams_11 : decode cX6_allGrams 11 = .ok (.if_icmp .ge 18, 3) := by decide +kernel
theorem dX6_allGrams_14 : decode cX6_allGrams 14 = .ok (.iload_n 1, 1) := by decide +kernel
theorem dX6_allGrams_15 : decode cX6_allGrams 15 = .ok (.aload_n 0, 1) := by decide +kernel
theorem dX6_allGrams_16 : decode cX6_allGrams 16 = .ok (.iload_n 2, 1) := by decide +kernel
theorem dX6_allGrams_17 : decode cX6_allGrams 17 = .ok (.iconst 2, 1) := by decide +kernel
theorem dX6_allGrams_18 : decode cX6_allGrams 18 = .ok (.invokevirtual 30, 3) := by decide +kernel
theorem dX6_allGrams_21 : decode cX6_allGrams 21 = .ok (.iadd, 1) := by decide +kernel
theorem dX6_allGrams_22 : decode cX6_allGrams 22 = .ok (.istore_n 1, 1) := by decide +kernel
theorem dX6_allGrams_23 : decode cX6_allGrams 23 = .ok (.iinc 2 1, 3) := by decide +kernel
theorem dX6_allGrams_26 : decode cX6_allGrams 26 = .ok (.goto (-22), 3) := by decide +kernel
theorem dX6_allGrams_29 : decode cX6_allGrams 29 = .ok (.iload_n 1, 1) := by decide +kernel
theorem dX6_allGrams_30 : decode cX6_allGrams 30 = .ok (.ireturn, 1) := by decide +kernel
theorem dX6_countOf_0 : decode cX6_countOf 0 = .ok (.iload_n 1, 1) := by decide +kernel
theorem dX6_countOf_1 : decode cX6_countOf 1 = .ok (.iconst 3, 1) := by decide +kernel
theorem dX6_countOf_2 : decode cX6_countOf 2 = .ok (.if_icmp .ge 13, 3) := by decide +kernel
theorem dX6_countOf_5 : decode cX6_countOf 5 = .ok (.aload_n 0, 1) := by decide +kernel
theorem dX6_countOf_6 : decode cX6_countOf 6 = .ok (.getfield 7, 3) := by decide +kernel
theorem dX6_countOf_9 : decode cX6_countOf 9 = .ok (.iload_n 1, 1) := by decide +kernel
theorem dX6_countOf_10 : decode cX6_countOf 10 = .ok (.iaload, 1) := by decide +kernel
theorem dX6_countOf_11 : decode cX6_countOf 11 = .ok (.i2l, 1) := by decide +kernel
theorem dX6_countOf_12 : decode cX6_countOf 12 = .ok (.goto 25, 3) := by decide +kernel
theorem dX6_countOf_15 : decode cX6_countOf 15 = .ok (.iload_n 1, 1) := by decide +kernel
theorem dX6_countOf_16 : decode cX6_countOf 16 = .ok (.iconst 3, 1) := by decide +kernel
theorem dX6_countOf_17 : decode cX6_countOf 17 = .ok (.if_icmp .ne 11, 3) := by decide +kernel
theorem dX6_countOf_20 : decode cX6_countOf 20 = .ok (.aload_n 0, 1) := by decide +kernel
theorem dX6_countOf_21 : decode cX6_countOf 21 = .ok (.invokevirtual 129, 3) := by decide +kernel
theorem dX6_countOf_24 : decode cX6_countOf 24 = .ok (.i2l, 1) := by decide +kernel
theorem dX6_countOf_25 : decode cX6_countOf 25 = .ok (.goto 12, 3) := by decide +kernel
theorem dX6_countOf_28 : decode cX6_countOf 28 = .ok (.aload_n 0, 1) := by decide +kernel
theorem dX6_countOf_29 : decode cX6_countOf 29 = .ok (.getfield 7, 3) := by decide +kernel
theorem dX6_countOf_32 : decode cX6_countOf 32 = .ok (.iload_n 1, 1) := by decide +kernel
theorem dX6_countOf_33 : decode cX6_countOf 33 = .ok (.iconst 1, 1) := by decide +kernel
theorem dX6_countOf_34 : decode cX6_countOf 34 = .ok (.isub, 1) := by decide +kernel
theorem dX6_countOf_35 : decode cX6_countOf 35 = .ok (.iaload, 1) := by decide +kernel
theorem dX6_countOf_36 : decode cX6_countOf 36 = .ok (.i2l, 1) := by decide +kernel
theorem dX6_countOf_37 : decode cX6_countOf 37 = .ok (.lreturn, 1) := by decide +kernel
theorem dX6_count_0 : decode cX6_count 0 = .ok (.iload_n 1, 1) := by decide +kernel
theorem dX6_count_1 : decode cX6_count 1 = .ok (.iconst 0, 1) := by decide +kernel
theorem dX6_count_2 : decode cX6_count 2 = .ok (.bipush 10, 2) := by decide +kernel
theorem dX6_count_4 : decode cX6_count 4 = .ok (.invokestatic 38, 3) := by decide +kernel
theorem dX6_count_7 : decode cX6_count 7 = .ok (.ifCond .eq 11, 3) := by decide +kernel
theorem dX6_count_10 : decode cX6_count 10 = .ok (.aload_n 0, 1) := by decide +kernel
theorem dX6_count_11 : decode cX6_count 11 = .ok (.iload_n 1, 1) := by decide +kernel
theorem dX6_count_12 : decode cX6_count 12 = .ok (.invokevirtual 132, 3) := by decide +kernel
theorem dX6_count_15 : decode cX6_count 15 = .ok (.goto 6, 3) := by decide +kernel
theorem dX6_count_18 : decode cX6_count 18 = .ok (.ldc2_w 136, 3) := by decide +kernel
theorem dX6_count_21 : decode cX6_count 21 = .ok (.lreturn, 1) := by decide +kernel
theorem dX6_ofLot_0 : decode cX6_ofLot 0 = .ok (.aload_n 0, 1) := by decide +kernel
theorem dX6_ofLot_1 : decode cX6_ofLot 1 = .ok (.iload_n 1, 1) := by decide +kernel
theorem dX6_ofLot_2 : decode cX6_ofLot 2 = .ok (.iconst 4, 1) := by decide +kernel
theorem dX6_ofLot_3 : decode cX6_ofLot 3 = .ok (.invokevirtual 30, 3) := by decide +kernel
theorem dX6_ofLot_6 : decode cX6_ofLot 6 = .ok (.istore_n 3, 1) := by decide +kernel
theorem dX6_ofLot_7 : decode cX6_ofLot 7 = .ok (.iload_n 2, 1) := by decide +kernel
theorem dX6_ofLot_8 : decode cX6_ofLot 8 = .ok (.tableswitch 98 0 5 #[40, 47, 54, 61, 75, 92], 40) := by decide +kernel
theorem dX6_ofLot_48 : decode cX6_ofLot 48 = .ok (.aload_n 0, 1) := by decide +kernel
theorem dX6_ofLot_49 : decode cX6_ofLot 49 = .ok (.iload_n 1, 1) := by decide +kernel
theorem dX6_ofLot_50 : decode cX6_ofLot 50 = .ok (.iconst 1, 1) := by decide +kernel
theorem dX6_ofLot_51 : decode cX6_ofLot 51 = .ok (.invokevirtual 30, 3) := by decide +kernel
theorem dX6_ofLot_54 : decode cX6_ofLot 54 = .ok (.ireturn, 1) := by decide +kernel
theorem dX6_ofLot_55 : decode cX6_ofLot 55 = .ok (.aload_n 0, 1) := by decide +kernel
theorem dX6_ofLot_56 : decode cX6_ofLot 56 = .ok (.iload_n 1, 1) := by decide +kernel
theorem dX6_ofLot_57 : decode cX6_ofLot 57 = .ok (.iconst 2, 1) := by decide +kernel
theorem dX6_ofLot_58 : decode cX6_ofLot 58 = .ok (.invokevirtual 30, 3) := by decide +kernel
theorem dX6_ofLot_61 : decode cX6_ofLot 61 = .ok (.ireturn, 1) := by decide +kernel
theorem dX6_ofLot_62 : decode cX6_ofLot 62 = .ok (.aload_n 0, 1) := by decide +kernel
theorem dX6_ofLot_63 : decode cX6_ofLot 63 = .ok (.iload_n 1, 1) := by decide +kernel
theorem dX6_ofLot_64 : decode cX6_ofLot 64 = .ok (.iconst 3, 1) := by decide +kernel
theorem dX6_ofLot_65 : decode cX6_ofLot 65 = .ok (.invokevirtual 30, 3) := by decide +kernel
theorem dX6_ofLot_68 : decode cX6_ofLot 68 = .ok (.ireturn, 1) := by decide +kernel
theorem dX6_ofLot_69 : decode cX6_ofLot 69 = .ok (.iload_n 3, 1) := by decide +kernel
theorem dX6_ofLot_70 : decode cX6_ofLot 70 = .ok (.invokestatic 98, 3) := by decide +kernel
theorem dX6_ofLot_73 : decode cX6_ofLot 73 = .ok (.ifCond .eq 8, 3) := by decide +kernel
theorem dX6_ofLot_76 : decode cX6_ofLot 76 = .ok (.bipush (-6), 2) := by decide +kernel
theorem dX6_ofLot_78 : decode cX6_ofLot 78 = .ok (.goto 4, 3) := by decide +kernel
theorem dX6_ofLot_81 : decode cX6_ofLot 81 = .ok (.iload_n 3, 1) := by decide +kernel
theorem dX6_ofLot_82 : decode cX6_ofLot 82 = .ok (.ireturn, 1) := by decide +kernel
theorem dX6_ofLot_83 : decode cX6_ofLot 83 = .ok (.iload_n 3, 1) := by decide +kernel
theorem dX6_ofLot_84 : decode cX6_ofLot 84 = .ok (.invokestatic 98, 3) := by decide +kernel
theorem dX6_ofLot_87 : decode cX6_ofLot 87 = .ok (.ifCond .eq 10, 3) := by decide +kernel
theorem dX6_ofLot_90 : decode cX6_ofLot 90 = .ok (.iload_n 3, 1) := by decide +kernel
theorem dX6_ofLot_91 : decode cX6_ofLot 91 = .ok (.bipush 6, 2) := by decide +kernel
theorem dX6_ofLot_93 : decode cX6_ofLot 93 = .ok (.isub, 1) := by decide +kernel
theorem dX6_ofLot_94 : decode cX6_ofLot 94 = .ok (.goto 5, 3) := by decide +kernel
theorem dX6_ofLot_97 : decode cX6_ofLot 97 = .ok (.bipush (-6), 2) := by decide +kernel
theorem dX6_ofLot_99 : decode cX6_ofLot 99 = .ok (.ireturn, 1) := by decide +kernel
theorem dX6_ofLot_100 : decode cX6_ofLot 100 = .ok (.aload_n 0, 1) := by decide +kernel
theorem dX6_ofLot_101 : decode cX6_ofLot 101 = .ok (.iload_n 1, 1) := by decide +kernel
theorem dX6_ofLot_102 : decode cX6_ofLot 102 = .ok (.invokevirtual 92, 3) := by decide +kernel
theorem dX6_ofLot_105 : decode cX6_ofLot 105 = .ok (.ireturn, 1) := by decide +kernel
theorem dX6_ofLot_106 : decode cX6_ofLot 106 = .ok (.aload_n 0, 1) := by decide +kernel
theorem dX6_ofLot_107 : decode cX6_ofLot 107 = .ok (.iload_n 1, 1) := by decide +kernel
theorem dX6_ofLot_108 : decode cX6_ofLot 108 = .ok (.iconst 2, 1) := by decide +kernel
theorem dX6_ofLot_109 : decode cX6_ofLot 109 = .ok (.invokevirtual 30, 3) := by decide +kernel
theorem dX6_ofLot_112 : decode cX6_ofLot 112 = .ok (.aload_n 0, 1) := by decide +kernel
theorem dX6_ofLot_113 : decode cX6_ofLot 113 = .ok (.iload_n 1, 1) := by decide +kernel
theorem dX6_ofLot_114 : decode cX6_ofLot 114 = .ok (.invokevirtual 92, 3) := by decide +kernel
theorem dX6_ofLot_117 : decode cX6_ofLot 117 = .ok (.invokestatic 70, 3) := by decide +kernel
theorem dX6_ofLot_120 : decode cX6_ofLot 120 = .ok (.ireturn, 1) := by decide +kernel
theorem dX6_lot_0 : decode cX6_lot 0 = .ok (.aload_n 0, 1) := by decide +kernel
theorem dX6_lot_1 : decode cX6_lot 1 = .ok (.iload_n 1, 1) := by decide +kernel
theorem dX6_lot_2 : decode cX6_lot 2 = .ok (.invokevirtual 89, 3) := by decide +kernel
theorem dX6_lot_5 : decode cX6_lot 5 = .ok (.istore_n 3, 1) := by decide +kernel
theorem dX6_lot_6 : decode cX6_lot 6 = .ok (.iload_n 3, 1) := by decide +kernel
theorem dX6_lot_7 : decode cX6_lot 7 = .ok (.bipush (-6), 2) := by decide +kernel
theorem dX6_lot_9 : decode cX6_lot 9 = .ok (.if_icmp .ne 5, 3) := by decide +kernel
theorem dX6_lot_12 : decode cX6_lot 12 = .ok (.iconst (-1), 1) := by decide +kernel
theorem dX6_lot_13 : decode cX6_lot 13 = .ok (.ireturn, 1) := by decide +kernel
theorem dX6_lot_14 : decode cX6_lot 14 = .ok (.iload_n 2, 1) := by decide +kernel
theorem dX6_lot_15 : decode cX6_lot 15 = .ok (.iconst 0, 1) := by decide +kernel
theorem dX6_lot_16 : decode cX6_lot 16 = .ok (.bipush 6, 2) := by decide +kernel
theorem dX6_lot_18 : decode cX6_lot 18 = .ok (.invokestatic 38, 3) := by decide +kernel
theorem dX6_lot_21 : decode cX6_lot 21 = .ok (.ifCond .eq 12, 3) := by decide +kernel
theorem dX6_lot_24 : decode cX6_lot 24 = .ok (.aload_n 0, 1) := by decide +kernel
theorem dX6_lot_25 : decode cX6_lot 25 = .ok (.iload_n 3, 1) := by decide +kernel
theorem dX6_lot_26 : decode cX6_lot 26 = .ok (.iload_n 2, 1) := by decide +kernel
theorem dX6_lot_27 : decode cX6_lot 27 = .ok (.invokevirtual 138, 3) := by decide +kernel
theorem dX6_lot_30 : decode cX6_lot 30 = .ok (.goto 5, 3) := by decide +kernel
theorem dX6_lot_33 : decode cX6_lot 33 = .ok (.bipush (-2), 2) := by decide +kernel
theorem dX6_lot_35 : decode cX6_lot 35 = .ok (.ireturn, 1) := by decide +kernel
theorem dX6_gramsAt_0 : decode cX6_gramsAt 0 = .ok (.iconst 0, 1) := by decide +kernel
theorem dX6_gramsAt_1 : decode cX6_gramsAt 1 = .ok (.istore_n 2, 1) := by decide +kernel
theorem dX6_gramsAt_2 : decode cX6_gramsAt 2 = .ok (.iconst 0, 1) := by decide +kernel
theorem dX6_gramsAt_3 : decode cX6_gramsAt 3 = .ok (.istore_n 3, 1) := by decide +kernel
theorem dX6_gramsAt_4 : decode cX6_gramsAt 4 = .ok (.iload_n 3, 1) := by decide +kernel
theorem dX6_gramsAt_5 : decode cX6_gramsAt 5 = .ok (.aload_n 0, 1) := by decide +kernel
theorem dX6_gramsAt_6 : decode cX6_gramsAt 6 = .ok (.getfield 7, 3) := by decide +kernel
theorem dX6_gramsAt_9 : decode cX6_gramsAt 9 = .ok (.iconst 2, 1) := by decide +kernel
theorem dX6_gramsAt_10 : decode cX6_gramsAt 10 = .ok (.iaload, 1) := by decide +kernel
theorem dX6_gramsAt_11 : decode cX6_gramsAt 11 = .ok (.if_icmp .ge 32, 3) := by decide +kernel
theorem dX6_gramsAt_14 : decode cX6_gramsAt 14 = .ok (.iload_n 2, 1) := by decide +kernel
theorem dX6_gramsAt_15 : decode cX6_gramsAt 15 = .ok (.aload_n 0, 1) := by decide +kernel
theorem dX6_gramsAt_16 : decode cX6_gramsAt 16 = .ok (.iload_n 3, 1) := by decide +kernel
theorem dX6_gramsAt_17 : decode cX6_gramsAt 17 = .ok (.iconst 4, 1) := by decide +kernel
theorem dX6_gramsAt_18 : decode cX6_gramsAt 18 = .ok (.invokevirtual 30, 3) := by decide +kernel
theorem dX6_gramsAt_21 : decode cX6_gramsAt 21 = .ok (.iload_n 1, 1) := by decide +kernel
theorem dX6_gramsAt_22 : decode cX6_gramsAt 22 = .ok (.if_icmp .ne 12, 3) := by decide +kernel
theorem dX6_gramsAt_25 : decode cX6_gramsAt 25 = .ok (.aload_n 0, 1) := by decide +kernel
theorem dX6_gramsAt_26 : decode cX6_gramsAt 26 = .ok (.iload_n 3, 1) := by decide +kernel
theorem dX6_gramsAt_27 : decode cX6_gramsAt 27 = .ok (.iconst 2, 1) := by decide +kernel
theorem dX6_gramsAt_28 : decode cX6_gramsAt 28 = .ok (.invokevirtual 30, 3) := by decide +kernel
theorem dX6_gramsAt_31 : decode cX6_gramsAt 31 = .ok (.goto 4, 3) := by decide +kernel
theorem dX6_gramsAt_34 : decode cX6_gramsAt 34 = .ok (.iconst 0, 1) := by decide +kernel
theorem dX6_gramsAt_35 : decode cX6_gramsAt 35 = .ok (.iadd, 1) := by decide +kernel
theorem dX6_gramsAt_36 : decode cX6_gramsAt 36 = .ok (.istore_n 2, 1) := by decide +kernel
theorem dX6_gramsAt_37 : decode cX6_gramsAt 37 = .ok (.iinc 3 1, 3) := by decide +kernel
theorem dX6_gramsAt_40 : decode cX6_gramsAt 40 = .ok (.goto (-36), 3) := by decide +kernel
theorem dX6_gramsAt_43 : decode cX6_gramsAt 43 = .ok (.iload_n 2, 1) := by decide +kernel
theorem dX6_gramsAt_44 : decode cX6_gramsAt 44 = .ok (.ireturn, 1) := by decide +kernel
theorem dX6_numberAt_0 : decode cX6_numberAt 0 = .ok (.aload_n 0, 1) := by decide +kernel
theorem dX6_numberAt_1 : decode cX6_numberAt 1 = .ok (.iload_n 1, 1) := by decide +kernel
theorem dX6_numberAt_2 : decode cX6_numberAt 2 = .ok (.invokevirtual 119, 3) := by decide +kernel
theorem dX6_numberAt_5 : decode cX6_numberAt 5 = .ok (.bipush (-6), 2) := by decide +kernel
theorem dX6_numberAt_7 : decode cX6_numberAt 7 = .ok (.if_icmp .ne 8, 3) := by decide +kernel
theorem dX6_numberAt_10 : decode cX6_numberAt 10 = .ok (.bipush (-6), 2) := by decide +kernel
theorem dX6_numberAt_12 : decode cX6_numberAt 12 = .ok (.goto 13, 3) := by decide +kernel
theorem dX6_numberAt_15 : decode cX6_numberAt 15 = .ok (.aload_n 0, 1) := by decide +kernel
theorem dX6_numberAt_16 : decode cX6_numberAt 16 = .ok (.aload_n 0, 1) := by decide +kernel
theorem dX6_numberAt_17 : decode cX6_numberAt 17 = .ok (.iload_n 1, 1) := by decide +kernel
theorem dX6_numberAt_18 : decode cX6_numberAt 18 = .ok (.invokevirtual 119, 3) := by decide +kernel
theorem dX6_numberAt_21 : decode cX6_numberAt 21 = .ok (.iconst 0, 1) := by decide +kernel
theorem dX6_numberAt_22 : decode cX6_numberAt 22 = .ok (.invokevirtual 30, 3) := by decide +kernel
theorem dX6_numberAt_25 : decode cX6_numberAt 25 = .ok (.ireturn, 1) := by decide +kernel
theorem dX6_ofBox_0 : decode cX6_ofBox 0 = .ok (.iload_n 2, 1) := by decide +kernel
theorem dX6_ofBox_1 : decode cX6_ofBox 1 = .ok (.ifCond .ne 15, 3) := by decide +kernel
theorem dX6_ofBox_4 : decode cX6_ofBox 4 = .ok (.aload_n 0, 1) := by decide +kernel
theorem dX6_ofBox_5 : decode cX6_ofBox 5 = .ok (.getfield 7, 3) := by decide +kernel
theorem dX6_ofBox_8 : decode cX6_ofBox 8 = .ok (.bipush 34, 2) := by decide +kernel
theorem dX6_ofBox_10 : decode cX6_ofBox 10 = .ok (.iload_n 1, 1) := by decide +kernel
theorem dX6_ofBox_11 : decode cX6_ofBox 11 = .ok (.iadd, 1) := by decide +kernel
theorem dX6_ofBox_12 : decode cX6_ofBox 12 = .ok (.iaload, 1) := by decide +kernel
theorem dX6_ofBox_13 : decode cX6_ofBox 13 = .ok (.goto 34, 3) := by decide +kernel
theorem dX6_ofBox_16 : decode cX6_ofBox 16 = .ok (.iload_n 2, 1) := by decide +kernel
theorem dX6_ofBox_17 : decode cX6_ofBox 17 = .ok (.iconst 1, 1) := by decide +kernel
theorem dX6_ofBox_18 : decode cX6_ofBox 18 = .ok (.if_icmp .ne 11, 3) := by decide +kernel
theorem dX6_ofBox_21 : decode cX6_ofBox 21 = .ok (.aload_n 0, 1) := by decide +kernel
theorem dX6_ofBox_22 : decode cX6_ofBox 22 = .ok (.iload_n 1, 1) := by decide +kernel
theorem dX6_ofBox_23 : decode cX6_ofBox 23 = .ok (.invokevirtual 60, 3) := by decide +kernel
theorem dX6_ofBox_26 : decode cX6_ofBox 26 = .ok (.goto 21, 3) := by decide +kernel
theorem dX6_ofBox_29 : decode cX6_ofBox 29 = .ok (.iload_n 2, 1) := by decide +kernel
theorem dX6_ofBox_30 : decode cX6_ofBox 30 = .ok (.iconst 2, 1) := by decide +kernel
theorem dX6_ofBox_31 : decode cX6_ofBox 31 = .ok (.if_icmp .ne 11, 3) := by decide +kernel
theorem dX6_ofBox_34 : decode cX6_ofBox 34 = .ok (.aload_n 0, 1) := by decide +kernel
theorem dX6_ofBox_35 : decode cX6_ofBox 35 = .ok (.iload_n 1, 1) := by decide +kernel
theorem dX6_ofBox_36 : decode cX6_ofBox 36 = .ok (.invokevirtual 141, 3) := by decide +kernel
theorem dX6_ofBox_39 : decode cX6_ofBox 39 = .ok (.goto 8, 3) := by decide +kernel
theorem dX6_ofBox_42 : decode cX6_ofBox 42 = .ok (.aload_n 0, 1) := by decide +kernel
theorem dX6_ofBox_43 : decode cX6_ofBox 43 = .ok (.iload_n 1, 1) := by decide +kernel
theorem dX6_ofBox_44 : decode cX6_ofBox 44 = .ok (.invokevirtual 144, 3) := by decide +kernel
theorem dX6_ofBox_47 : decode cX6_ofBox 47 = .ok (.ireturn, 1) := by decide +kernel
theorem dX6_box_0 : decode cX6_box 0 = .ok (.iload_n 1, 1) := by decide +kernel
theorem dX6_box_1 : decode cX6_box 1 = .ok (.invokestatic 64, 3) := by decide +kernel
theorem dX6_box_4 : decode cX6_box 4 = .ok (.ifCond .ne 5, 3) := by decide +kernel
theorem dX6_box_7 : decode cX6_box 7 = .ok (.iconst (-1), 1) := by decide +kernel
theorem dX6_box_8 : decode cX6_box 8 = .ok (.ireturn, 1) := by decide +kernel
theorem dX6_box_9 : decode cX6_box 9 = .ok (.iload_n 2, 1) := by decide +kernel
theorem dX6_box_10 : decode cX6_box 10 = .ok (.iconst 0, 1) := by decide +kernel
theorem dX6_box_11 : decode cX6_box 11 = .ok (.iconst 3, 1) := by decide +kernel
theorem dX6_box_12 : decode cX6_box 12 = .ok (.invokestatic 38, 3) := by decide +kernel
theorem dX6_box_15 : decode cX6_box 15 = .ok (.ifCond .eq 12, 3) := by decide +kernel
theorem dX6_box_18 : decode cX6_box 18 = .ok (.aload_n 0, 1) := by decide +kernel
theorem dX6_box_19 : decode cX6_box 19 = .ok (.iload_n 1, 1) := by decide +kernel
theorem dX6_box_20 : decode cX6_box 20 = .ok (.iload_n 2, 1) := by decide +kernel
theorem dX6_box_21 : decode cX6_box 21 = .ok (.invokevirtual 147, 3) := by decide +kernel
theorem dX6_box_24 : decode cX6_box 24 = .ok (.goto 5, 3) := by decide +kernel
theorem dX6_box_27 : decode cX6_box 27 = .ok (.bipush (-2), 2) := by decide +kernel
theorem dX6_box_29 : decode cX6_box 29 = .ok (.ireturn, 1) := by decide +kernel
theorem dX6_ofTray_0 : decode cX6_ofTray 0 = .ok (.iload_n 2, 1) := by decide +kernel
theorem dX6_ofTray_1 : decode cX6_ofTray 1 = .ok (.ifCond .ne 15, 3) := by decide +kernel
theorem dX6_ofTray_4 : decode cX6_ofTray 4 = .ok (.aload_n 0, 1) := by decide +kernel
theorem dX6_ofTray_5 : decode cX6_ofTray 5 = .ok (.getfield 7, 3) := by decide +kernel
theorem dX6_ofTray_8 : decode cX6_ofTray 8 = .ok (.bipush 40, 2) := by decide +kernel
theorem dX6_ofTray_10 : decode cX6_ofTray 10 = .ok (.iload_n 1, 1) := by decide +kernel
theorem dX6_ofTray_11 : decode cX6_ofTray 11 = .ok (.iadd, 1) := by decide +kernel
theorem dX6_ofTray_12 : decode cX6_ofTray 12 = .ok (.iaload, 1) := by decide +kernel
theorem dX6_ofTray_13 : decode cX6_ofTray 13 = .ok (.goto 11, 3) := by decide +kernel
theorem dX6_ofTray_16 : decode cX6_ofTray 16 = .ok (.aload_n 0, 1) := by decide +kernel
theorem dX6_ofTray_17 : decode cX6_ofTray 17 = .ok (.bipush 6, 2) := by decide +kernel
theorem dX6_ofTray_19 : decode cX6_ofTray 19 = .ok (.iload_n 1, 1) := by decide +kernel
theorem dX6_ofTray_20 : decode cX6_ofTray 20 = .ok (.iadd, 1) := by decide +kernel
theorem dX6_ofTray_21 : decode cX6_ofTray 21 = .ok (.invokevirtual 144, 3) := by decide +kernel
theorem dX6_ofTray_24 : decode cX6_ofTray 24 = .ok (.ireturn, 1) := by decide +kernel
theorem dX6_tray_0 : decode cX6_tray 0 = .ok (.iload_n 1, 1) := by decide +kernel
theorem dX6_tray_1 : decode cX6_tray 1 = .ok (.invokestatic 86, 3) := by decide +kernel
theorem dX6_tray_4 : decode cX6_tray 4 = .ok (.ifCond .ne 5, 3) := by decide +kernel
theorem dX6_tray_7 : decode cX6_tray 7 = .ok (.iconst (-1), 1) := by decide +kernel
theorem dX6_tray_8 : decode cX6_tray 8 = .ok (.ireturn, 1) := by decide +kernel
theorem dX6_tray_9 : decode cX6_tray 9 = .ok (.iload_n 2, 1) := by decide +kernel
theorem dX6_tray_10 : decode cX6_tray 10 = .ok (.iconst 0, 1) := by decide +kernel
theorem dX6_tray_11 : decode cX6_tray 11 = .ok (.iconst 1, 1) := by decide +kernel
theorem dX6_tray_12 : decode cX6_tray 12 = .ok (.invokestatic 38, 3) := by decide +kernel
theorem dX6_tray_15 : decode cX6_tray 15 = .ok (.ifCond .eq 12, 3) := by decide +kernel
theorem dX6_tray_18 : decode cX6_tray 18 = .ok (.aload_n 0, 1) := by decide +kernel
theorem dX6_tray_19 : decode cX6_tray 19 = .ok (.iload_n 1, 1) := by decide +kernel
theorem dX6_tray_20 : decode cX6_tray 20 = .ok (.iload_n 2, 1) := by decide +kernel
theorem dX6_tray_21 : decode cX6_tray 21 = .ok (.invokevirtual 150, 3) := by decide +kernel
theorem dX6_tray_24 : decode cX6_tray 24 = .ok (.goto 5, 3) := by decide +kernel
theorem dX6_tray_27 : decode cX6_tray 27 = .ok (.bipush (-2), 2) := by decide +kernel
theorem dX6_tray_29 : decode cX6_tray 29 = .ok (.ireturn, 1) := by decide +kernel
theorem dX6_gramsOfKind_0 : decode cX6_gramsOfKind 0 = .ok (.iconst 0, 1) := by decide +kernel
theorem dX6_gramsOfKind_1 : decode cX6_gramsOfKind 1 = .ok (.istore_n 2, 1) := by decide +kernel
theorem dX6_gramsOfKind_2 : decode cX6_gramsOfKind 2 = .ok (.iconst 0, 1) := by decide +kernel
theorem dX6_gramsOfKind_3 : decode cX6_gramsOfKind 3 = .ok (.istore_n 3, 1) := by decide +kernel
theorem dX6_gramsOfKind_4 : decode cX6_gramsOfKind 4 = .ok (.iload_n 3, 1) := by decide +kernel
theorem dX6_gramsOfKind_5 : decode cX6_gramsOfKind 5 = .ok (.aload_n 0, 1) := by decide +kernel
theorem dX6_gramsOfKind_6 : decode cX6_gramsOfKind 6 = .ok (.getfield 7, 3) := by decide +kernel
theorem dX6_gramsOfKind_9 : decode cX6_gramsOfKind 9 = .ok (.iconst 2, 1) := by decide +kernel
theorem dX6_gramsOfKind_10 : decode cX6_gramsOfKind 10 = .ok (.iaload, 1) := by decide +kernel
theorem dX6_gramsOfKind_11 : decode cX6_gramsOfKind 11 = .ok (.if_icmp .ge 32, 3) := by decide +kernel
theorem dX6_gramsOfKind_14 : decode cX6_gramsOfKind 14 = .ok (.iload_n 2, 1) := by decide +kernel
theorem dX6_gramsOfKind_15 : decode cX6_gramsOfKind 15 = .ok (.aload_n 0, 1) := by decide +kernel
theorem dX6_gramsOfKind_16 : decode cX6_gramsOfKind 16 = .ok (.iload_n 3, 1) := by decide +kernel
theorem dX6_gramsOfKind_17 : decode cX6_gramsOfKind 17 = .ok (.iconst 1, 1) := by decide +kernel
theorem dX6_gramsOfKind_18 : decode cX6_gramsOfKind 18 = .ok (.invokevirtual 30, 3) := by decide +kernel
theorem dX6_gramsOfKind_21 : decode cX6_gramsOfKind 21 = .ok (.iload_n 1, 1) := by decide +kernel
theorem dX6_gramsOfKind_22 : decode cX6_gramsOfKind 22 = .ok (.if_icmp .ne 12, 3) := by decide +kernel
theorem dX6_gramsOfKind_25 : decode cX6_gramsOfKind 25 = .ok (.aload_n 0, 1) := by decide +kernel
theorem dX6_gramsOfKind_26 : decode cX6_gramsOfKind 26 = .ok (.iload_n 3, 1) := by decide +kernel
theorem dX6_gramsOfKind_27 : decode cX6_gramsOfKind 27 = .ok (.iconst 2, 1) := by decide +kernel
theorem dX6_gramsOfKind_28 : decode cX6_gramsOfKind 28 = .ok (.invokevirtual 30, 3) := by decide +kernel
theorem dX6_gramsOfKind_31 : decode cX6_gramsOfKind 31 = .ok (.goto 4, 3) := by decide +kernel
theorem dX6_gramsOfKind_34 : decode cX6_gramsOfKind 34 = .ok (.iconst 0, 1) := by decide +kernel
theorem dX6_gramsOfKind_35 : decode cX6_gramsOfKind 35 = .ok (.iadd, 1) := by decide +kernel
theorem dX6_gramsOfKind_36 : decode cX6_gramsOfKind 36 = .ok (.istore_n 2, 1) := by decide +kernel
theorem dX6_gramsOfKind_37 : decode cX6_gramsOfKind 37 = .ok (.iinc 3 1, 3) := by decide +kernel
theorem dX6_gramsOfKind_40 : decode cX6_gramsOfKind 40 = .ok (.goto (-36), 3) := by decide +kernel
theorem dX6_gramsOfKind_43 : decode cX6_gramsOfKind 43 = .ok (.iload_n 2, 1) := by decide +kernel
theorem dX6_gramsOfKind_44 : decode cX6_gramsOfKind 44 = .ok (.ireturn, 1) := by decide +kernel
theorem dX6_freshest_0 : decode cX6_freshest 0 = .ok (.bipush (-6), 2) := by decide +kernel
theorem dX6_freshest_2 : decode cX6_freshest 2 = .ok (.istore_n 2, 1) := by decide +kernel
theorem dX6_freshest_3 : decode cX6_freshest 3 = .ok (.iconst 0, 1) := by decide +kernel
theorem dX6_freshest_4 : decode cX6_freshest 4 = .ok (.istore_n 3, 1) := by decide +kernel
theorem dX6_freshest_5 : decode cX6_freshest 5 = .ok (.iload_n 3, 1) := by decide +kernel
theorem dX6_freshest_6 : decode cX6_freshest 6 = .ok (.aload_n 0, 1) := by decide +kernel
theorem dX6_freshest_7 : decode cX6_freshest 7 = .ok (.getfield 7, 3) := by decide +kernel
theorem dX6_freshest_10 : decode cX6_freshest 10 = .ok (.iconst 2, 1) := by decide +kernel
theorem dX6_freshest_11 : decode cX6_freshest 11 = .ok (.iaload, 1) := by decide +kernel
theorem dX6_freshest_12 : decode cX6_freshest 12 = .ok (.if_icmp .ge 46, 3) := by decide +kernel
theorem dX6_freshest_15 : decode cX6_freshest 15 = .ok (.aload_n 0, 1) := by decide +kernel
theorem dX6_freshest_16 : decode cX6_freshest 16 = .ok (.iload_n 3, 1) := by decide +kernel
theorem dX6_freshest_17 : decode cX6_freshest 17 = .ok (.iconst 1, 1) := by decide +kernel
theorem dX6_freshest_18 : decode cX6_freshest 18 = .ok (.invokevirtual 30, 3) := by decide +kernel
theorem dX6_freshest_21 : decode cX6_freshest 21 = .ok (.iload_n 1, 1) := by decide +kernel
theorem dX6_freshest_22 : decode cX6_freshest 22 = .ok (.if_icmp .ne 28, 3) := by decide +kernel
theorem dX6_freshest_25 : decode cX6_freshest 25 = .ok (.iload_n 2, 1) := by decide +kernel
theorem dX6_freshest_26 : decode cX6_freshest 26 = .ok (.bipush (-6), 2) := by decide +kernel
theorem dX6_freshest_28 : decode cX6_freshest 28 = .ok (.if_icmp .eq 18, 3) := by decide +kernel
theorem dX6_freshest_31 : decode cX6_freshest 31 = .ok (.aload_n 0, 1) := by decide +kernel
theorem dX6_freshest_32 : decode cX6_freshest 32 = .ok (.iload_n 3, 1) := by decide +kernel
theorem dX6_freshest_33 : decode cX6_freshest 33 = .ok (.iconst 3, 1) := by decide +kernel
theorem dX6_freshest_34 : decode cX6_freshest 34 = .ok (.invokevirtual 30, 3) := by decide +kernel
theorem dX6_freshest_37 : decode cX6_freshest 37 = .ok (.aload_n 0, 1) := by decide +kernel
theorem dX6_freshest_38 : decode cX6_freshest 38 = .ok (.iload_n 2, 1) := by decide +kernel
theorem dX6_freshest_39 : decode cX6_freshest 39 = .ok (.iconst 3, 1) := by decide +kernel
theorem dX6_freshest_40 : decode cX6_freshest 40 = .ok (.invokevirtual 30, 3) := by decide +kernel
theorem dX6_freshest_43 : decode cX6_freshest 43 = .ok (.if_icmp .le 7, 3) := by decide +kernel
theorem dX6_freshest_46 : decode cX6_freshest 46 = .ok (.iload_n 3, 1) := by decide +kernel
theorem dX6_freshest_47 : decode cX6_freshest 47 = .ok (.goto 4, 3) := by decide +kernel
theorem dX6_freshest_50 : decode cX6_freshest 50 = .ok (.iload_n 2, 1) := by decide +kernel
theorem dX6_freshest_51 : decode cX6_freshest 51 = .ok (.istore_n 2, 1) := by decide +kernel
theorem dX6_freshest_52 : decode cX6_freshest 52 = .ok (.iinc 3 1, 3) := by decide +kernel
theorem dX6_freshest_55 : decode cX6_freshest 55 = .ok (.goto (-50), 3) := by decide +kernel
theorem dX6_freshest_58 : decode cX6_freshest 58 = .ok (.iload_n 2, 1) := by decide +kernel
theorem dX6_freshest_59 : decode cX6_freshest 59 = .ok (.bipush (-6), 2) := by decide +kernel
theorem dX6_freshest_61 : decode cX6_freshest 61 = .ok (.if_icmp .ne 8, 3) := by decide +kernel
theorem dX6_freshest_64 : decode cX6_freshest 64 = .ok (.bipush (-6), 2) := by decide +kernel
theorem dX6_freshest_66 : decode cX6_freshest 66 = .ok (.goto 9, 3) := by decide +kernel
theorem dX6_freshest_69 : decode cX6_freshest 69 = .ok (.aload_n 0, 1) := by decide +kernel
theorem dX6_freshest_70 : decode cX6_freshest 70 = .ok (.iload_n 2, 1) := by decide +kernel
theorem dX6_freshest_71 : decode cX6_freshest 71 = .ok (.iconst 0, 1) := by decide +kernel
theorem dX6_freshest_72 : decode cX6_freshest 72 = .ok (.invokevirtual 30, 3) := by decide +kernel
theorem dX6_freshest_75 : decode cX6_freshest 75 = .ok (.ireturn, 1) := by decide +kernel
theorem dX6_ofKind_0 : decode cX6_ofKind 0 = .ok (.iload_n 2, 1) := by decide +kernel
theorem dX6_ofKind_1 : decode cX6_ofKind 1 = .ok (.ifCond .ne 15, 3) := by decide +kernel
theorem dX6_ofKind_4 : decode cX6_ofKind 4 = .ok (.aload_n 0, 1) := by decide +kernel
theorem dX6_ofKind_5 : decode cX6_ofKind 5 = .ok (.getfield 7, 3) := by decide +kernel
theorem dX6_ofKind_8 : decode cX6_ofKind 8 = .ok (.bipush 11, 2) := by decide +kernel
theorem dX6_ofKind_10 : decode cX6_ofKind 10 = .ok (.iload_n 1, 1) := by decide +kernel
theorem dX6_ofKind_11 : decode cX6_ofKind 11 = .ok (.iadd, 1) := by decide +kernel
theorem dX6_ofKind_12 : decode cX6_ofKind 12 = .ok (.iaload, 1) := by decide +kernel
theorem dX6_ofKind_13 : decode cX6_ofKind 13 = .ok (.goto 38, 3) := by decide +kernel
theorem dX6_ofKind_16 : decode cX6_ofKind 16 = .ok (.iload_n 2, 1) := by decide +kernel
theorem dX6_ofKind_17 : decode cX6_ofKind 17 = .ok (.iconst 1, 1) := by decide +kernel
theorem dX6_ofKind_18 : decode cX6_ofKind 18 = .ok (.if_icmp .ne 15, 3) := by decide +kernel
theorem dX6_ofKind_21 : decode cX6_ofKind 21 = .ok (.aload_n 0, 1) := by decide +kernel
theorem dX6_ofKind_22 : decode cX6_ofKind 22 = .ok (.getfield 7, 3) := by decide +kernel
theorem dX6_ofKind_25 : decode cX6_ofKind 25 = .ok (.bipush 17, 2) := by decide +kernel
theorem dX6_ofKind_27 : decode cX6_ofKind 27 = .ok (.iload_n 1, 1) := by decide +kernel
theorem dX6_ofKind_28 : decode cX6_ofKind 28 = .ok (.iadd, 1) := by decide +kernel
theorem dX6_ofKind_29 : decode cX6_ofKind 29 = .ok (.iaload, 1) := by decide +kernel
theorem dX6_ofKind_30 : decode cX6_ofKind 30 = .ok (.goto 21, 3) := by decide +kernel
theorem dX6_ofKind_33 : decode cX6_ofKind 33 = .ok (.iload_n 2, 1) := by decide +kernel
theorem dX6_ofKind_34 : decode cX6_ofKind 34 = .ok (.iconst 2, 1) := by decide +kernel
theorem dX6_ofKind_35 : decode cX6_ofKind 35 = .ok (.if_icmp .ne 11, 3) := by decide +kernel
theorem dX6_ofKind_38 : decode cX6_ofKind 38 = .ok (.aload_n 0, 1) := by decide +kernel
theorem dX6_ofKind_39 : decode cX6_ofKind 39 = .ok (.iload_n 1, 1) := by decide +kernel
theorem dX6_ofKind_40 : decode cX6_ofKind 40 = .ok (.invokevirtual 153, 3) := by decide +kernel
theorem dX6_ofKind_43 : decode cX6_ofKind 43 = .ok (.goto 8, 3) := by decide +kernel
theorem dX6_ofKind_46 : decode cX6_ofKind 46 = .ok (.aload_n 0, 1) := by decide +kernel
theorem dX6_ofKind_47 : decode cX6_ofKind 47 = .ok (.iload_n 1, 1) := by decide +kernel
theorem dX6_ofKind_48 : decode cX6_ofKind 48 = .ok (.invokevirtual 156, 3) := by decide +kernel
theorem dX6_ofKind_51 : decode cX6_ofKind 51 = .ok (.ireturn, 1) := by decide +kernel
theorem dX6_kind_0 : decode cX6_kind 0 = .ok (.iload_n 1, 1) := by decide +kernel
theorem dX6_kind_1 : decode cX6_kind 1 = .ok (.invokestatic 46, 3) := by decide +kernel
theorem dX6_kind_4 : decode cX6_kind 4 = .ok (.ifCond .ne 5, 3) := by decide +kernel
theorem dX6_kind_7 : decode cX6_kind 7 = .ok (.iconst (-1), 1) := by decide +kernel
theorem dX6_kind_8 : decode cX6_kind 8 = .ok (.ireturn, 1) := by decide +kernel
theorem dX6_kind_9 : decode cX6_kind 9 = .ok (.iload_n 2, 1) := by decide +kernel
theorem dX6_kind_10 : decode cX6_kind 10 = .ok (.iconst 0, 1) := by decide +kernel
theorem dX6_kind_11 : decode cX6_kind 11 = .ok (.iconst 3, 1) := by decide +kernel
theorem dX6_kind_12 : decode cX6_kind 12 = .ok (.invokestatic 38, 3) := by decide +kernel
theorem dX6_kind_15 : decode cX6_kind 15 = .ok (.ifCond .eq 12, 3) := by decide +kernel
theorem dX6_kind_18 : decode cX6_kind 18 = .ok (.aload_n 0, 1) := by decide +kernel
theorem dX6_kind_19 : decode cX6_kind 19 = .ok (.iload_n 1, 1) := by decide +kernel
theorem dX6_kind_20 : decode cX6_kind 20 = .ok (.iload_n 2, 1) := by decide +kernel
theorem dX6_kind_21 : decode cX6_kind 21 = .ok (.invokevirtual 159, 3) := by decide +kernel
theorem dX6_kind_24 : decode cX6_kind 24 = .ok (.goto 5, 3) := by decide +kernel
theorem dX6_kind_27 : decode cX6_kind 27 = .ok (.bipush (-2), 2) := by decide +kernel
theorem dX6_kind_29 : decode cX6_kind 29 = .ok (.ireturn, 1) := by decide +kernel
theorem dX6_cut_0 : decode cX6_cut 0 = .ok (.iload_n 1, 1) := by decide +kernel
theorem dX6_cut_1 : decode cX6_cut 1 = .ok (.invokestatic 53, 3) := by decide +kernel
theorem dX6_cut_4 : decode cX6_cut 4 = .ok (.ifCond .eq 15, 3) := by decide +kernel
theorem dX6_cut_7 : decode cX6_cut 7 = .ok (.aload_n 0, 1) := by decide +kernel
theorem dX6_cut_8 : decode cX6_cut 8 = .ok (.getfield 7, 3) := by decide +kernel
theorem dX6_cut_11 : decode cX6_cut 11 = .ok (.bipush 23, 2) := by decide +kernel
theorem dX6_cut_13 : decode cX6_cut 13 = .ok (.iload_n 1, 1) := by decide +kernel
theorem dX6_cut_14 : decode cX6_cut 14 = .ok (.iadd, 1) := by decide +kernel
theorem dX6_cut_15 : decode cX6_cut 15 = .ok (.iaload, 1) := by decide +kernel
theorem dX6_cut_16 : decode cX6_cut 16 = .ok (.goto 4, 3) := by decide +kernel
theorem dX6_cut_19 : decode cX6_cut 19 = .ok (.iconst (-1), 1) := by decide +kernel
theorem dX6_cut_20 : decode cX6_cut 20 = .ok (.ireturn, 1) := by decide +kernel
theorem dX6_freshIn_0 : decode cX6_freshIn 0 = .ok (.aload_n 0, 1) := by decide +kernel
theorem dX6_freshIn_1 : decode cX6_freshIn 1 = .ok (.iload_n 1, 1) := by decide +kernel
theorem dX6_freshIn_2 : decode cX6_freshIn 2 = .ok (.iconst 4, 1) := by decide +kernel
theorem dX6_freshIn_3 : decode cX6_freshIn 3 = .ok (.invokevirtual 30, 3) := by decide +kernel
theorem dX6_freshIn_6 : decode cX6_freshIn 6 = .ok (.istore_n 3, 1) := by decide +kernel
theorem dX6_freshIn_7 : decode cX6_freshIn 7 = .ok (.aload_n 0, 1) := by decide +kernel
theorem dX6_freshIn_8 : decode cX6_freshIn 8 = .ok (.getfield 7, 3) := by decide +kernel
theorem dX6_freshIn_11 : decode cX6_freshIn 11 = .ok (.bipush 34, 2) := by decide +kernel
theorem dX6_freshIn_13 : decode cX6_freshIn 13 = .ok (.iload_n 3, 1) := by decide +kernel
theorem dX6_freshIn_14 : decode cX6_freshIn 14 = .ok (.iadd, 1) := by decide +kernel
theorem dX6_freshIn_15 : decode cX6_freshIn 15 = .ok (.iaload, 1) := by decide +kernel
theorem dX6_freshIn_16 : decode cX6_freshIn 16 = .ok (.istore 4, 2) := by decide +kernel
theorem dX6_freshIn_18 : decode cX6_freshIn 18 = .ok (.aload_n 0, 1) := by decide +kernel
theorem dX6_freshIn_19 : decode cX6_freshIn 19 = .ok (.iload_n 1, 1) := by decide +kernel
theorem dX6_freshIn_20 : decode cX6_freshIn 20 = .ok (.iconst 3, 1) := by decide +kernel
theorem dX6_freshIn_21 : decode cX6_freshIn 21 = .ok (.invokevirtual 30, 3) := by decide +kernel
theorem dX6_freshIn_24 : decode cX6_freshIn 24 = .ok (.istore 5, 2) := by decide +kernel
theorem dX6_freshIn_26 : decode cX6_freshIn 26 = .ok (.iconst 0, 1) := by decide +kernel
theorem dX6_freshIn_27 : decode cX6_freshIn 27 = .ok (.istore 6, 2) := by decide +kernel
theorem dX6_freshIn_29 : decode cX6_freshIn 29 = .ok (.iload 6, 2) := by decide +kernel
theorem dX6_freshIn_31 : decode cX6_freshIn 31 = .ok (.iload_n 2, 1) := by decide +kernel
theorem dX6_freshIn_32 : decode cX6_freshIn 32 = .ok (.if_icmp .ge 31, 3) := by decide +kernel
theorem dX6_freshIn_35 : decode cX6_freshIn 35 = .ok (.iload 5, 2) := by decide +kernel
theorem dX6_freshIn_37 : decode cX6_freshIn 37 = .ok (.iload_n 3, 1) := by decide +kernel
theorem dX6_freshIn_38 : decode cX6_freshIn 38 = .ok (.iload 4, 2) := by decide +kernel
theorem dX6_freshIn_40 : decode cX6_freshIn 40 = .ok (.invokestatic 107, 3) := by decide +kernel
theorem dX6_freshIn_43 : decode cX6_freshIn 43 = .ok (.invokestatic 110, 3) := by decide +kernel
theorem dX6_freshIn_46 : decode cX6_freshIn 46 = .ok (.istore 5, 2) := by decide +kernel
theorem dX6_freshIn_48 : decode cX6_freshIn 48 = .ok (.aload_n 0, 1) := by decide +kernel
theorem dX6_freshIn_49 : decode cX6_freshIn 49 = .ok (.iload_n 3, 1) := by decide +kernel
theorem dX6_freshIn_50 : decode cX6_freshIn 50 = .ok (.iload 4, 2) := by decide +kernel
theorem dX6_freshIn_52 : decode cX6_freshIn 52 = .ok (.invokevirtual 113, 3) := by decide +kernel
theorem dX6_freshIn_55 : decode cX6_freshIn 55 = .ok (.istore 4, 2) := by decide +kernel
theorem dX6_freshIn_57 : decode cX6_freshIn 57 = .ok (.iinc 6 1, 3) := by decide +kernel
theorem dX6_freshIn_60 : decode cX6_freshIn 60 = .ok (.goto (-31), 3) := by decide +kernel
theorem dX6_freshIn_63 : decode cX6_freshIn 63 = .ok (.iload 5, 2) := by decide +kernel
theorem dX6_freshIn_65 : decode cX6_freshIn 65 = .ok (.ireturn, 1) := by decide +kernel
theorem dX6_freshAfter_0 : decode cX6_freshAfter 0 = .ok (.aload_n 0, 1) := by decide +kernel
theorem dX6_freshAfter_1 : decode cX6_freshAfter 1 = .ok (.iload_n 1, 1) := by decide +kernel
theorem dX6_freshAfter_2 : decode cX6_freshAfter 2 = .ok (.invokevirtual 89, 3) := by decide +kernel
theorem dX6_freshAfter_5 : decode cX6_freshAfter 5 = .ok (.istore_n 3, 1) := by decide +kernel
theorem dX6_freshAfter_6 : decode cX6_freshAfter 6 = .ok (.iload_n 3, 1) := by decide +kernel
theorem dX6_freshAfter_7 : decode cX6_freshAfter 7 = .ok (.bipush (-6), 2) := by decide +kernel
theorem dX6_freshAfter_9 : decode cX6_freshAfter 9 = .ok (.if_icmp .ne 5, 3) := by decide +kernel
theorem dX6_freshAfter_12 : decode cX6_freshAfter 12 = .ok (.iconst (-1), 1) := by decide +kernel
theorem dX6_freshAfter_13 : decode cX6_freshAfter 13 = .ok (.ireturn, 1) := by decide +kernel
theorem dX6_freshAfter_14 : decode cX6_freshAfter 14 = .ok (.iload_n 2, 1) := by decide +kernel
theorem dX6_freshAfter_15 : decode cX6_freshAfter 15 = .ok (.iconst 0, 1) := by decide +kernel
theorem dX6_freshAfter_16 : decode cX6_freshAfter 16 = .ok (.bipush 100, 2) := by decide +kernel
theorem dX6_freshAfter_18 : decode cX6_freshAfter 18 = .ok (.invokestatic 38, 3) := by decide +kernel
theorem dX6_freshAfter_21 : decode cX6_freshAfter 21 = .ok (.ifCond .eq 12, 3) := by decide +kernel
theorem dX6_freshAfter_24 : decode cX6_freshAfter 24 = .ok (.aload_n 0, 1) := by decide +kernel
theorem dX6_freshAfter_25 : decode cX6_freshAfter 25 = .ok (.iload_n 3, 1) := by decide +kernel
theorem dX6_freshAfter_26 : decode cX6_freshAfter 26 = .ok (.iload_n 2, 1) := by decide +kernel
theorem dX6_freshAfter_27 : decode cX6_freshAfter 27 = .ok (.invokevirtual 162, 3) := by decide +kernel
theorem dX6_freshAfter_30 : decode cX6_freshAfter 30 = .ok (.goto 5, 3) := by decide +kernel
theorem dX6_freshAfter_33 : decode cX6_freshAfter 33 = .ok (.bipush (-2), 2) := by decide +kernel
theorem dX6_freshAfter_35 : decode cX6_freshAfter 35 = .ok (.ireturn, 1) := by decide +kernel
theorem dX6_leftOf_0 : decode cX6_leftOf 0 = .ok (.bipush (-6), 2) := by decide +kernel
theorem dX6_leftOf_2 : decode cX6_leftOf 2 = .ok (.istore_n 2, 1) := by decide +kernel
theorem dX6_leftOf_3 : decode cX6_leftOf 3 = .ok (.iconst 0, 1) := by decide +kernel
theorem dX6_leftOf_4 : decode cX6_leftOf 4 = .ok (.istore_n 3, 1) := by decide +kernel
theorem dX6_leftOf_5 : decode cX6_leftOf 5 = .ok (.iload_n 3, 1) := by decide +kernel
theorem dX6_leftOf_6 : decode cX6_leftOf 6 = .ok (.bipush 100, 2) := by decide +kernel
theorem dX6_leftOf_8 : decode cX6_leftOf 8 = .ok (.if_icmp .gt 31, 3) := by decide +kernel
theorem dX6_leftOf_11 : decode cX6_leftOf 11 = .ok (.aload_n 0, 1) := by decide +kernel
theorem dX6_leftOf_12 : decode cX6_leftOf 12 = .ok (.iload_n 1, 1) := by decide +kernel
theorem dX6_leftOf_13 : decode cX6_leftOf 13 = .ok (.iload_n 3, 1) := by decide +kernel
theorem dX6_leftOf_14 : decode cX6_leftOf 14 = .ok (.invokevirtual 162, 3) := by decide +kernel
theorem dX6_leftOf_17 : decode cX6_leftOf 17 = .ok (.aload_n 0, 1) := by decide +kernel
theorem dX6_leftOf_18 : decode cX6_leftOf 18 = .ok (.getfield 7, 3) := by decide +kernel
theorem dX6_leftOf_21 : decode cX6_leftOf 21 = .ok (.bipush 9, 2) := by decide +kernel
theorem dX6_leftOf_23 : decode cX6_leftOf 23 = .ok (.iaload, 1) := by decide +kernel
theorem dX6_leftOf_24 : decode cX6_leftOf 24 = .ok (.if_icmp .lt 7, 3) := by decide +kernel
theorem dX6_leftOf_27 : decode cX6_leftOf 27 = .ok (.iload_n 3, 1) := by decide +kernel
theorem dX6_leftOf_28 : decode cX6_leftOf 28 = .ok (.goto 4, 3) := by decide +kernel
theorem dX6_leftOf_31 : decode cX6_leftOf 31 = .ok (.iload_n 2, 1) := by decide +kernel
theorem dX6_leftOf_32 : decode cX6_leftOf 32 = .ok (.istore_n 2, 1) := by decide +kernel
theorem dX6_leftOf_33 : decode cX6_leftOf 33 = .ok (.iinc 3 1, 3) := by decide +kernel
theorem dX6_leftOf_36 : decode cX6_leftOf 36 = .ok (.goto (-31), 3) := by decide +kernel
theorem dX6_leftOf_39 : decode cX6_leftOf 39 = .ok (.iload_n 2, 1) := by decide +kernel
theorem dX6_leftOf_40 : decode cX6_leftOf 40 = .ok (.ireturn, 1) := by decide +kernel
theorem dX6_hoursLeft_0 : decode cX6_hoursLeft 0 = .ok (.aload_n 0, 1) := by decide +kernel
theorem dX6_hoursLeft_1 : decode cX6_hoursLeft 1 = .ok (.iload_n 1, 1) := by decide +kernel
theorem dX6_hoursLeft_2 : decode cX6_hoursLeft 2 = .ok (.invokevirtual 89, 3) := by decide +kernel
theorem dX6_hoursLeft_5 : decode cX6_hoursLeft 5 = .ok (.istore_n 2, 1) := by decide +kernel
theorem dX6_hoursLeft_6 : decode cX6_hoursLeft 6 = .ok (.iload_n 2, 1) := by decide +kernel
theorem dX6_hoursLeft_7 : decode cX6_hoursLeft 7 = .ok (.bipush (-6), 2) := by decide +kernel
theorem dX6_hoursLeft_9 : decode cX6_hoursLeft 9 = .ok (.if_icmp .ne 7, 3) := by decide +kernel
theorem dX6_hoursLeft_12 : decode cX6_hoursLeft 12 = .ok (.iconst (-1), 1) := by decide +kernel
theorem dX6_hoursLeft_13 : decode cX6_hoursLeft 13 = .ok (.goto 8, 3) := by decide +kernel
theorem dX6_hoursLeft_16 : decode cX6_hoursLeft 16 = .ok (.aload_n 0, 1) := by decide +kernel
theorem dX6_hoursLeft_17 : decode cX6_hoursLeft 17 = .ok (.iload_n 2, 1) := by decide +kernel
theorem dX6_hoursLeft_18 : decode cX6_hoursLeft 18 = .ok (.invokevirtual 165, 3) := by decide +kernel
theorem dX6_hoursLeft_21 : decode cX6_hoursLeft 21 = .ok (.ireturn, 1) := by decide +kernel
theorem dX6_bestOf_0 : decode cX6_bestOf 0 = .ok (.bipush (-6), 2) := by decide +kernel
theorem dX6_bestOf_2 : decode cX6_bestOf 2 = .ok (.istore_n 2, 1) := by decide +kernel
theorem dX6_bestOf_3 : decode cX6_bestOf 3 = .ok (.bipush (-6), 2) := by decide +kernel
theorem dX6_bestOf_5 : decode cX6_bestOf 5 = .ok (.istore_n 3, 1) := by decide +kernel
theorem dX6_bestOf_6 : decode cX6_bestOf 6 = .ok (.aload_n 0, 1) := by decide +kernel
theorem dX6_bestOf_7 : decode cX6_bestOf 7 = .ok (.getfield 7, 3) := by decide +kernel
theorem dX6_bestOf_10 : decode cX6_bestOf 10 = .ok (.iconst 1, 1) := by decide +kernel
theorem dX6_bestOf_11 : decode cX6_bestOf 11 = .ok (.iaload, 1) := by decide +kernel
theorem dX6_bestOf_12 : decode cX6_bestOf 12 = .ok (.istore 4, 2) := by decide +kernel
theorem dX6_bestOf_14 : decode cX6_bestOf 14 = .ok (.iload 4, 2) := by decide +kernel
theorem dX6_bestOf_16 : decode cX6_bestOf 16 = .ok (.bipush 10, 2) := by decide +kernel
theorem dX6_bestOf_18 : decode cX6_bestOf 18 = .ok (.if_icmp .gt 72, 3) := by decide +kernel
theorem dX6_bestOf_21 : decode cX6_bestOf 21 = .ok (.aload_n 0, 1) := by decide +kernel
theorem dX6_bestOf_22 : decode cX6_bestOf 22 = .ok (.iload_n 1, 1) := by decide +kernel
theorem dX6_bestOf_23 : decode cX6_bestOf 23 = .ok (.iconst 2, 1) := by decide +kernel
theorem dX6_bestOf_24 : decode cX6_bestOf 24 = .ok (.invokevirtual 30, 3) := by decide +kernel
theorem dX6_bestOf_27 : decode cX6_bestOf 27 = .ok (.aload_n 0, 1) := by decide +kernel
theorem dX6_bestOf_28 : decode cX6_bestOf 28 = .ok (.aload_n 0, 1) := by decide +kernel
theorem dX6_bestOf_29 : decode cX6_bestOf 29 = .ok (.iload_n 1, 1) := by decide +kernel
theorem dX6_bestOf_30 : decode cX6_bestOf 30 = .ok (.iconst 1, 1) := by decide +kernel
theorem dX6_bestOf_31 : decode cX6_bestOf 31 = .ok (.invokevirtual 30, 3) := by decide +kernel
theorem dX6_bestOf_34 : decode cX6_bestOf 34 = .ok (.aload_n 0, 1) := by decide +kernel
theorem dX6_bestOf_35 : decode cX6_bestOf 35 = .ok (.iload_n 1, 1) := by decide +kernel
theorem dX6_bestOf_36 : decode cX6_bestOf 36 = .ok (.iload 4, 2) := by decide +kernel
theorem dX6_bestOf_38 : decode cX6_bestOf 38 = .ok (.aload_n 0, 1) := by decide +kernel
theorem dX6_bestOf_39 : decode cX6_bestOf 39 = .ok (.getfield 7, 3) := by decide +kernel
theorem dX6_bestOf_42 : decode cX6_bestOf 42 = .ok (.iconst 1, 1) := by decide +kernel
theorem dX6_bestOf_43 : decode cX6_bestOf 43 = .ok (.iaload, 1) := by decide +kernel
theorem dX6_bestOf_44 : decode cX6_bestOf 44 = .ok (.isub, 1) := by decide +kernel
theorem dX6_bestOf_45 : decode cX6_bestOf 45 = .ok (.invokevirtual 162, 3) := by decide +kernel
theorem dX6_bestOf_48 : decode cX6_bestOf 48 = .ok (.iload 4, 2) := by decide +kernel
theorem dX6_bestOf_50 : decode cX6_bestOf 50 = .ok (.invokevirtual 42, 3) := by decide +kernel
theorem dX6_bestOf_53 : decode cX6_bestOf 53 = .ok (.invokestatic 70, 3) := by decide +kernel
theorem dX6_bestOf_56 : decode cX6_bestOf 56 = .ok (.istore 5, 2) := by decide +kernel
theorem dX6_bestOf_58 : decode cX6_bestOf 58 = .ok (.iload 5, 2) := by decide +kernel
theorem dX6_bestOf_60 : decode cX6_bestOf 60 = .ok (.iload_n 3, 1) := by decide +kernel
theorem dX6_bestOf_61 : decode cX6_bestOf 61 = .ok (.if_icmp .le 8, 3) := by decide +kernel
theorem dX6_bestOf_64 : decode cX6_bestOf 64 = .ok (.iload 4, 2) := by decide +kernel
theorem dX6_bestOf_66 : decode cX6_bestOf 66 = .ok (.goto 4, 3) := by decide +kernel
theorem dX6_bestOf_69 : decode cX6_bestOf 69 = .ok (.iload_n 2, 1) := by decide +kernel
theorem dX6_bestOf_70 : decode cX6_bestOf 70 = .ok (.istore_n 2, 1) := by decide +kernel
theorem dX6_bestOf_71 : decode cX6_bestOf 71 = .ok (.iload 5, 2) := by decide +kernel
theorem dX6_bestOf_73 : decode cX6_bestOf 73 = .ok (.iload_n 3, 1) := by decide +kernel
theorem dX6_bestOf_74 : decode cX6_bestOf 74 = .ok (.if_icmp .le 8, 3) := by decide +kernel
theorem dX6_bestOf_77 : decode cX6_bestOf 77 = .ok (.iload 5, 2) := by decide +kernel
theorem dX6_bestOf_79 : decode cX6_bestOf 79 = .ok (.goto 4, 3) := by decide +kernel
theorem dX6_bestOf_82 : decode cX6_bestOf 82 = .ok (.iload_n 3, 1) := by decide +kernel
theorem dX6_bestOf_83 : decode cX6_bestOf 83 = .ok (.istore_n 3, 1) := by decide +kernel
theorem dX6_bestOf_84 : decode cX6_bestOf 84 = .ok (.iinc 4 1, 3) := by decide +kernel
theorem dX6_bestOf_87 : decode cX6_bestOf 87 = .ok (.goto (-73), 3) := by decide +kernel
theorem dX6_bestOf_90 : decode cX6_bestOf 90 = .ok (.iload_n 2, 1) := by decide +kernel
theorem dX6_bestOf_91 : decode cX6_bestOf 91 = .ok (.ireturn, 1) := by decide +kernel
theorem dX6_bestHour_0 : decode cX6_bestHour 0 = .ok (.aload_n 0, 1) := by decide +kernel
theorem dX6_bestHour_1 : decode cX6_bestHour 1 = .ok (.iload_n 1, 1) := by decide +kernel
theorem dX6_bestHour_2 : decode cX6_bestHour 2 = .ok (.invokevirtual 89, 3) := by decide +kernel
theorem dX6_bestHour_5 : decode cX6_bestHour 5 = .ok (.istore_n 2, 1) := by decide +kernel
theorem dX6_bestHour_6 : decode cX6_bestHour 6 = .ok (.iload_n 2, 1) := by decide +kernel
theorem dX6_bestHour_7 : decode cX6_bestHour 7 = .ok (.bipush (-6), 2) := by decide +kernel
theorem dX6_bestHour_9 : decode cX6_bestHour 9 = .ok (.if_icmp .ne 7, 3) := by decide +kernel
theorem dX6_bestHour_12 : decode cX6_bestHour 12 = .ok (.iconst (-1), 1) := by decide +kernel
theorem dX6_bestHour_13 : decode cX6_bestHour 13 = .ok (.goto 8, 3) := by decide +kernel
theorem dX6_bestHour_16 : decode cX6_bestHour 16 = .ok (.aload_n 0, 1) := by decide +kernel
theorem dX6_bestHour_17 : decode cX6_bestHour 17 = .ok (.iload_n 2, 1) := by decide +kernel
theorem dX6_bestHour_18 : decode cX6_bestHour 18 = .ok (.invokevirtual 168, 3) := by decide +kernel
theorem dX6_bestHour_21 : decode cX6_bestHour 21 = .ok (.ireturn, 1) := by decide +kernel
theorem dX6_ifClosed_0 : decode cX6_ifClosed 0 = .ok (.iload_n 1, 1) := by decide +kernel
theorem dX6_ifClosed_1 : decode cX6_ifClosed 1 = .ok (.iconst 0, 1) := by decide +kernel
theorem dX6_ifClosed_2 : decode cX6_ifClosed 2 = .ok (.bipush 10, 2) := by decide +kernel
theorem dX6_ifClosed_4 : decode cX6_ifClosed 4 = .ok (.invokestatic 38, 3) := by decide +kernel
theorem dX6_ifClosed_7 : decode cX6_ifClosed 7 = .ok (.ifCond .ne 6, 3) := by decide +kernel
theorem dX6_ifClosed_10 : decode cX6_ifClosed 10 = .ok (.bipush (-2), 2) := by decide +kernel
theorem dX6_ifClosed_12 : decode cX6_ifClosed 12 = .ok (.ireturn, 1) := by decide +kernel
theorem dX6_ifClosed_13 : decode cX6_ifClosed 13 = .ok (.aload_n 0, 1) := by decide +kernel
theorem dX6_ifClosed_14 : decode cX6_ifClosed 14 = .ok (.getfield 7, 3) := by decide +kernel
theorem dX6_ifClosed_17 : decode cX6_ifClosed 17 = .ok (.iconst 0, 1) := by decide +kernel
theorem dX6_ifClosed_18 : decode cX6_ifClosed 18 = .ok (.aload_n 0, 1) := by decide +kernel
theorem dX6_ifClosed_19 : decode cX6_ifClosed 19 = .ok (.getfield 13, 3) := by decide +kernel
theorem dX6_ifClosed_22 : decode cX6_ifClosed 22 = .ok (.iconst 0, 1) := by decide +kernel
theorem dX6_ifClosed_23 : decode cX6_ifClosed 23 = .ok (.invokestatic 26, 3) := by decide +kernel
theorem dX6_ifClosed_26 : decode cX6_ifClosed 26 = .ok (.iconst 0, 1) := by decide +kernel
theorem dX6_ifClosed_27 : decode cX6_ifClosed 27 = .ok (.istore_n 2, 1) := by decide +kernel
theorem dX6_ifClosed_28 : decode cX6_ifClosed 28 = .ok (.iload_n 2, 1) := by decide +kernel
theorem dX6_ifClosed_29 : decode cX6_ifClosed 29 = .ok (.iload_n 1, 1) := by decide +kernel
theorem dX6_ifClosed_30 : decode cX6_ifClosed 30 = .ok (.if_icmp .ge 24, 3) := by decide +kernel
theorem dX6_ifClosed_33 : decode cX6_ifClosed 33 = .ok (.aload_n 0, 1) := by decide +kernel
theorem dX6_ifClosed_34 : decode cX6_ifClosed 34 = .ok (.getfield 7, 3) := by decide +kernel
theorem dX6_ifClosed_37 : decode cX6_ifClosed 37 = .ok (.iconst 1, 1) := by decide +kernel
theorem dX6_ifClosed_38 : decode cX6_ifClosed 38 = .ok (.iaload, 1) := by decide +kernel
theorem dX6_ifClosed_39 : decode cX6_ifClosed 39 = .ok (.bipush 10, 2) := by decide +kernel
theorem dX6_ifClosed_41 : decode cX6_ifClosed 41 = .ok (.if_icmp .ge 13, 3) := by decide +kernel
theorem dX6_ifClosed_44 : decode cX6_ifClosed 44 = .ok (.aload_n 0, 1) := by decide +kernel
theorem dX6_ifClosed_45 : decode cX6_ifClosed 45 = .ok (.invokevirtual 116, 3) := by decide +kernel
theorem dX6_ifClosed_48 : decode cX6_ifClosed 48 = .ok (.iinc 2 1, 3) := by decide +kernel
theorem dX6_ifClosed_51 : decode cX6_ifClosed 51 = .ok (.goto (-23), 3) := by decide +kernel
theorem dX6_ifClosed_54 : decode cX6_ifClosed 54 = .ok (.aload_n 0, 1) := by decide +kernel
theorem dX6_ifClosed_55 : decode cX6_ifClosed 55 = .ok (.invokevirtual 126, 3) := by decide +kernel
theorem dX6_ifClosed_58 : decode cX6_ifClosed 58 = .ok (.istore_n 2, 1) := by decide +kernel
theorem dX6_ifClosed_59 : decode cX6_ifClosed 59 = .ok (.aload_n 0, 1) := by decide +kernel
theorem dX6_ifClosed_60 : decode cX6_ifClosed 60 = .ok (.getfield 13, 3) := by decide +kernel
theorem dX6_ifClosed_63 : decode cX6_ifClosed 63 = .ok (.iconst 0, 1) := by decide +kernel
theorem dX6_ifClosed_64 : decode cX6_ifClosed 64 = .ok (.aload_n 0, 1) := by decide +kernel
theorem dX6_ifClosed_65 : decode cX6_ifClosed 65 = .ok (.getfield 7, 3) := by decide +kernel
theorem dX6_ifClosed_68 : decode cX6_ifClosed 68 = .ok (.iconst 0, 1) := by decide +kernel
theorem dX6_ifClosed_69 : decode cX6_ifClosed 69 = .ok (.invokestatic 26, 3) := by decide +kernel
theorem dX6_ifClosed_72 : decode cX6_ifClosed 72 = .ok (.iload_n 2, 1) := by decide +kernel
theorem dX6_ifClosed_73 : decode cX6_ifClosed 73 = .ok (.ireturn, 1) := by decide +kernel
theorem dX6_allWorth_0 : decode cX6_allWorth 0 = .ok (.lconst 0, 1) := by decide +kernel
theorem dX6_allWorth_1 : decode cX6_allWorth 1 = .ok (.lstore_n 1, 1) := by decide +kernel
theorem dX6_allWorth_2 : decode cX6_allWorth 2 = .ok (.iconst 0, 1) := by decide +kernel
theorem dX6_allWorth_3 : decode cX6_allWorth 3 = .ok (.istore_n 3, 1) := by decide +kernel
theorem dX6_allWorth_4 : decode cX6_allWorth 4 = .ok (.iload_n 3, 1) := by decide +kernel
theorem dX6_allWorth_5 : decode cX6_allWorth 5 = .ok (.aload_n 0, 1) := by decide +kernel
theorem dX6_allWorth_6 : decode cX6_allWorth 6 = .ok (.getfield 7, 3) := by decide +kernel
theorem dX6_allWorth_9 : decode cX6_allWorth 9 = .ok (.iconst 2, 1) := by decide +kernel
theorem dX6_allWorth_10 : decode cX6_allWorth 10 = .ok (.iaload, 1) := by decide +kernel
theorem dX6_allWorth_11 : decode cX6_allWorth 11 = .ok (.if_icmp .ge 39, 3) := by decide +kernel
theorem dX6_allWorth_14 : decode cX6_allWorth 14 = .ok (.lload_n 1, 1) := by decide +kernel
theorem dX6_allWorth_15 : decode cX6_allWorth 15 = .ok (.aload_n 0, 1) := by decide +kernel
theorem dX6_allWorth_16 : decode cX6_allWorth 16 = .ok (.iload_n 3, 1) := by decide +kernel
theorem dX6_allWorth_17 : decode cX6_allWorth 17 = .ok (.invokevirtual 101, 3) := by decide +kernel
theorem dX6_allWorth_20 : decode cX6_allWorth 20 = .ok (.ifCond .eq 21, 3) := by decide +kernel
theorem dX6_allWorth_23 : decode cX6_allWorth 23 = .ok (.aload_n 0, 1) := by decide +kernel
theorem dX6_allWorth_24 : decode cX6_allWorth 24 = .ok (.iload_n 3, 1) := by decide +kernel
theorem dX6_allWorth_25 : decode cX6_allWorth 25 = .ok (.iconst 2, 1) := by decide +kernel
theorem dX6_allWorth_26 : decode cX6_allWorth 26 = .ok (.invokevirtual 30, 3) := by decide +kernel
theorem dX6_allWorth_29 : decode cX6_allWorth 29 = .ok (.aload_n 0, 1) := by decide +kernel
theorem dX6_allWorth_30 : decode cX6_allWorth 30 = .ok (.iload_n 3, 1) := by decide +kernel
theorem dX6_allWorth_31 : decode cX6_allWorth 31 = .ok (.invokevirtual 92, 3) := by decide +kernel
theorem dX6_allWorth_34 : decode cX6_allWorth 34 = .ok (.invokestatic 70, 3) := by decide +kernel
theorem dX6_allWorth_37 : decode cX6_allWorth 37 = .ok (.i2l, 1) := by decide +kernel
theorem dX6_allWorth_38 : decode cX6_allWorth 38 = .ok (.goto 4, 3) := by decide +kernel
theorem dX6_allWorth_41 : decode cX6_allWorth 41 = .ok (.lconst 0, 1) := by decide +kernel
theorem dX6_allWorth_42 : decode cX6_allWorth 42 = .ok (.ladd, 1) := by decide +kernel
theorem dX6_allWorth_43 : decode cX6_allWorth 43 = .ok (.lstore_n 1, 1) := by decide +kernel
theorem dX6_allWorth_44 : decode cX6_allWorth 44 = .ok (.iinc 3 1, 3) := by decide +kernel
theorem dX6_allWorth_47 : decode cX6_allWorth 47 = .ok (.goto (-43), 3) := by decide +kernel
theorem dX6_allWorth_50 : decode cX6_allWorth 50 = .ok (.lload_n 1, 1) := by decide +kernel
theorem dX6_allWorth_51 : decode cX6_allWorth 51 = .ok (.lreturn, 1) := by decide +kernel
theorem dX6_worth_0 : decode cX6_worth 0 = .ok (.aload_n 0, 1) := by decide +kernel
theorem dX6_worth_1 : decode cX6_worth 1 = .ok (.invokevirtual 171, 3) := by decide +kernel
theorem dX6_worth_4 : decode cX6_worth 4 = .ok (.lreturn, 1) := by decide +kernel
theorem dX6_type_0 : decode cX6_type 0 = .ok (.iload_n 1, 1) := by decide +kernel
theorem dX6_type_1 : decode cX6_type 1 = .ok (.bipush 33, 2) := by decide +kernel
theorem dX6_type_3 : decode cX6_type 3 = .ok (.bipush 126, 2) := by decide +kernel
theorem dX6_type_5 : decode cX6_type 5 = .ok (.invokestatic 38, 3) := by decide +kernel
theorem dX6_type_8 : decode cX6_type 8 = .ok (.ifCond .ne 6, 3) := by decide +kernel
theorem dX6_type_11 : decode cX6_type 11 = .ok (.bipush (-2), 2) := by decide +kernel
theorem dX6_type_13 : decode cX6_type 13 = .ok (.ireturn, 1) := by decide +kernel
theorem dX6_type_14 : decode cX6_type 14 = .ok (.aload_n 0, 1) := by decide +kernel
theorem dX6_type_15 : decode cX6_type 15 = .ok (.getfield 175, 3) := by decide +kernel
theorem dX6_type_18 : decode cX6_type 18 = .ok (.bipush 80, 2) := by decide +kernel
theorem dX6_type_20 : decode cX6_type 20 = .ok (.if_icmp .ne 6, 3) := by decide +kernel
theorem dX6_type_23 : decode cX6_type 23 = .ok (.bipush (-4), 2) := by decide +kernel
theorem dX6_type_25 : decode cX6_type 25 = .ok (.ireturn, 1) := by decide +kernel
theorem dX6_type_26 : decode cX6_type 26 = .ok (.aload_n 0, 1) := by decide +kernel
theorem dX6_type_27 : decode cX6_type 27 = .ok (.getfield 19, 3) := by decide +kernel
theorem dX6_type_30 : decode cX6_type 30 = .ok (.aload_n 0, 1) := by decide +kernel
theorem dX6_type_31 : decode cX6_type 31 = .ok (.getfield 175, 3) := by decide +kernel
theorem dX6_type_34 : decode cX6_type 34 = .ok (.iload_n 1, 1) := by decide +kernel
theorem dX6_type_35 : decode cX6_type 35 = .ok (.iastore, 1) := by decide +kernel
theorem dX6_type_36 : decode cX6_type 36 = .ok (.aload_n 0, 1) := by decide +kernel
theorem dX6_type_37 : decode cX6_type 37 = .ok (.dup, 1) := by decide +kernel
theorem dX6_type_38 : decode cX6_type 38 = .ok (.getfield 175, 3) := by decide +kernel
theorem dX6_type_41 : decode cX6_type 41 = .ok (.iconst 1, 1) := by decide +kernel
theorem dX6_type_42 : decode cX6_type 42 = .ok (.iadd, 1) := by decide +kernel
theorem dX6_type_43 : decode cX6_type 43 = .ok (.putfield 175, 3) := by decide +kernel
theorem dX6_type_46 : decode cX6_type 46 = .ok (.aload_n 0, 1) := by decide +kernel
theorem dX6_type_47 : decode cX6_type 47 = .ok (.getfield 175, 3) := by decide +kernel
theorem dX6_type_50 : decode cX6_type 50 = .ok (.ireturn, 1) := by decide +kernel
theorem dX6_clearText_0 : decode cX6_clearText 0 = .ok (.aload_n 0, 1) := by decide +kernel
theorem dX6_clearText_1 : decode cX6_clearText 1 = .ok (.getfield 175, 3) := by decide +kernel
theorem dX6_clearText_4 : decode cX6_clearText 4 = .ok (.istore_n 1, 1) := by decide +kernel
theorem dX6_clearText_5 : decode cX6_clearText 5 = .ok (.aload_n 0, 1) := by decide +kernel
theorem dX6_clearText_6 : decode cX6_clearText 6 = .ok (.iconst 0, 1) := by decide +kernel
theorem dX6_clearText_7 : decode cX6_clearText 7 = .ok (.putfield 175, 3) := by decide +kernel
theorem dX6_clearText_10 : decode cX6_clearText 10 = .ok (.iload_n 1, 1) := by decide +kernel
theorem dX6_clearText_11 : decode cX6_clearText 11 = .ok (.ireturn, 1) := by decide +kernel
theorem dX6_character_0 : decode cX6_character 0 = .ok (.iload_n 1, 1) := by decide +kernel
theorem dX6_character_1 : decode cX6_character 1 = .ok (.aload_n 0, 1) := by decide +kernel
theorem dX6_character_2 : decode cX6_character 2 = .ok (.getfield 175, 3) := by decide +kernel
theorem dX6_character_5 : decode cX6_character 5 = .ok (.if_icmp .ge 12, 3) := by decide +kernel
theorem dX6_character_8 : decode cX6_character 8 = .ok (.aload_n 0, 1) := by decide +kernel
theorem dX6_character_9 : decode cX6_character 9 = .ok (.getfield 19, 3) := by decide +kernel
theorem dX6_character_12 : decode cX6_character 12 = .ok (.iload_n 1, 1) := by decide +kernel
theorem dX6_character_13 : decode cX6_character 13 = .ok (.iaload, 1) := by decide +kernel
theorem dX6_character_14 : decode cX6_character 14 = .ok (.goto 4, 3) := by decide +kernel
theorem dX6_character_17 : decode cX6_character 17 = .ok (.iconst (-1), 1) := by decide +kernel
theorem dX6_character_18 : decode cX6_character 18 = .ok (.ireturn, 1) := by decide +kernel
theorem dX6_isNext_0 : decode cX6_isNext 0 = .ok (.aload_n 0, 1) := by decide +kernel
theorem dX6_isNext_1 : decode cX6_isNext 1 = .ok (.aload_n 0, 1) := by decide +kernel
theorem dX6_isNext_2 : decode cX6_isNext 2 = .ok (.getfield 178, 3) := by decide +kernel
theorem dX6_isNext_5 : decode cX6_isNext 5 = .ok (.invokevirtual 181, 3) := by decide +kernel
theorem dX6_isNext_8 : decode cX6_isNext 8 = .ok (.iload_n 1, 1) := by decide +kernel
theorem dX6_isNext_9 : decode cX6_isNext 9 = .ok (.if_icmp .ne 7, 3) := by decide +kernel
theorem dX6_isNext_12 : decode cX6_isNext 12 = .ok (.iconst 1, 1) := by decide +kernel
theorem dX6_isNext_13 : decode cX6_isNext 13 = .ok (.goto 4, 3) := by decide +kernel
theorem dX6_isNext_16 : decode cX6_isNext 16 = .ok (.iconst 0, 1) := by decide +kernel
theorem dX6_isNext_17 : decode cX6_isNext 17 = .ok (.istore_n 2, 1) := by decide +kernel
theorem dX6_isNext_18 : decode cX6_isNext 18 = .ok (.aload_n 0, 1) := by decide +kernel
theorem dX6_isNext_19 : decode cX6_isNext 19 = .ok (.dup, 1) := by decide +kernel
theorem dX6_isNext_20 : decode cX6_isNext 20 = .ok (.getfield 178, 3) := by decide +kernel
theorem dX6_isNext_23 : decode cX6_isNext 23 = .ok (.iload_n 2, 1) := by decide +kernel
theorem dX6_isNext_24 : decode cX6_isNext 24 = .ok (.ifCond .eq 7, 3) := by decide +kernel
theorem dX6_isNext_27 : decode cX6_isNext 27 = .ok (.iconst 1, 1) := by decide +kernel
theorem dX6_isNext_28 : decode cX6_isNext 28 = .ok (.goto 4, 3) := by decide +kernel
theorem dX6_isNext_31 : decode cX6_isNext 31 = .ok (.iconst 0, 1) := by decide +kernel
theorem dX6_isNext_32 : decode cX6_isNext 32 = .ok (.iadd, 1) := by decide +kernel
theorem dX6_isNext_33 : decode cX6_isNext 33 = .ok (.putfield 178, 3) := by decide +kernel
theorem dX6_isNext_36 : decode cX6_isNext 36 = .ok (.iload_n 2, 1) := by decide +kernel
theorem dX6_isNext_37 : decode cX6_isNext 37 = .ok (.ireturn, 1) := by decide +kernel
theorem dX6_readsDigit_0 : decode cX6_readsDigit 0 = .ok (.aload_n 0, 1) := by decide +kernel
theorem dX6_readsDigit_1 : decode cX6_readsDigit 1 = .ok (.aload_n 0, 1) := by decide +kernel
theorem dX6_readsDigit_2 : decode cX6_readsDigit 2 = .ok (.getfield 178, 3) := by decide +kernel
theorem dX6_readsDigit_5 : decode cX6_readsDigit 5 = .ok (.invokevirtual 181, 3) := by decide +kernel
theorem dX6_readsDigit_8 : decode cX6_readsDigit 8 = .ok (.bipush 48, 2) := by decide +kernel
theorem dX6_readsDigit_10 : decode cX6_readsDigit 10 = .ok (.iload_n 1, 1) := by decide +kernel
theorem dX6_readsDigit_11 : decode cX6_readsDigit 11 = .ok (.iadd, 1) := by decide +kernel
theorem dX6_readsDigit_12 : decode cX6_readsDigit 12 = .ok (.bipush 48, 2) := by decide +kernel
theorem dX6_readsDigit_14 : decode cX6_readsDigit 14 = .ok (.iload_n 2, 1) := by decide +kernel
theorem dX6_readsDigit_15 : decode cX6_readsDigit 15 = .ok (.iadd, 1) := by decide +kernel
theorem dX6_readsDigit_16 : decode cX6_readsDigit 16 = .ok (.invokestatic 38, 3) := by decide +kernel
theorem dX6_readsDigit_19 : decode cX6_readsDigit 19 = .ok (.istore_n 3, 1) := by decide +kernel
theorem dX6_readsDigit_20 : decode cX6_readsDigit 20 = .ok (.aload_n 0, 1) := by decide +kernel
theorem dX6_readsDigit_21 : decode cX6_readsDigit 21 = .ok (.aload_n 0, 1) := by decide +kernel
theorem dX6_readsDigit_22 : decode cX6_readsDigit 22 = .ok (.aload_n 0, 1) := by decide +kernel
theorem dX6_readsDigit_23 : decode cX6_readsDigit 23 = .ok (.getfield 178, 3) := by decide +kernel
theorem dX6_readsDigit_26 : decode cX6_readsDigit 26 = .ok (.invokevirtual 181, 3) := by decide +kernel
theorem dX6_readsDigit_29 : decode cX6_readsDigit 29 = .ok (.bipush 48, 2) := by decide +kernel
theorem dX6_readsDigit_31 : decode cX6_readsDigit 31 = .ok (.isub, 1) := by decide +kernel
theorem dX6_readsDigit_32 : decode cX6_readsDigit 32 = .ok (.putfield 184, 3) := by decide +kernel
theorem dX6_readsDigit_35 : decode cX6_readsDigit 35 = .ok (.aload_n 0, 1) := by decide +kernel
theorem dX6_readsDigit_36 : decode cX6_readsDigit 36 = .ok (.dup, 1) := by decide +kernel
theorem dX6_readsDigit_37 : decode cX6_readsDigit 37 = .ok (.getfield 178, 3) := by decide +kernel
theorem dX6_readsDigit_40 : decode cX6_readsDigit 40 = .ok (.iload_n 3, 1) := by decide +kernel
theorem dX6_readsDigit_41 : decode cX6_readsDigit 41 = .ok (.ifCond .eq 7, 3) := by decide +kernel
theorem dX6_readsDigit_44 : decode cX6_readsDigit 44 = .ok (.iconst 1, 1) := by decide +kernel
theorem dX6_readsDigit_45 : decode cX6_readsDigit 45 = .ok (.goto 4, 3) := by decide +kernel
theorem dX6_readsDigit_48 : decode cX6_readsDigit 48 = .ok (.iconst 0, 1) := by decide +kernel
theorem dX6_readsDigit_49 : decode cX6_readsDigit 49 = .ok (.iadd, 1) := by decide +kernel
theorem dX6_readsDigit_50 : decode cX6_readsDigit 50 = .ok (.putfield 178, 3) := by decide +kernel
theorem dX6_readsDigit_53 : decode cX6_readsDigit 53 = .ok (.iload_n 3, 1) := by decide +kernel
theorem dX6_readsDigit_54 : decode cX6_readsDigit 54 = .ok (.ireturn, 1) := by decide +kernel
theorem dX6_readsNumber_0 : decode cX6_readsNumber 0 = .ok (.aload_n 0, 1) := by decide +kernel
theorem dX6_readsNumber_1 : decode cX6_readsNumber 1 = .ok (.iload_n 1, 1) := by decide +kernel
theorem dX6_readsNumber_2 : decode cX6_readsNumber 2 = .ok (.bipush 9, 2) := by decide +kernel
theorem dX6_readsNumber_4 : decode cX6_readsNumber 4 = .ok (.invokevirtual 187, 3) := by decide +kernel
theorem dX6_readsNumber_7 : decode cX6_readsNumber 7 = .ok (.ifCond .ne 5, 3) := by decide +kernel
theorem dX6_readsNumber_10 : decode cX6_readsNumber 10 = .ok (.iconst 0, 1) := by decide +kernel
theorem dX6_readsNumber_11 : decode cX6_readsNumber 11 = .ok (.ireturn, 1) := by decide +kernel
theorem dX6_readsNumber_12 : decode cX6_readsNumber 12 = .ok (.aload_n 0, 1) := by decide +kernel
theorem dX6_readsNumber_13 : decode cX6_readsNumber 13 = .ok (.getfield 184, 3) := by decide +kernel
theorem dX6_readsNumber_16 : decode cX6_readsNumber 16 = .ok (.ifCond .le 7, 3) := by decide +kernel
theorem dX6_readsNumber_19 : decode cX6_readsNumber 19 = .ok (.iconst 1, 1) := by decide +kernel
theorem dX6_readsNumber_20 : decode cX6_readsNumber 20 = .ok (.goto 4, 3) := by decide +kernel
theorem dX6_readsNumber_23 : decode cX6_readsNumber 23 = .ok (.iconst 0, 1) := by decide +kernel
theorem dX6_readsNumber_24 : decode cX6_readsNumber 24 = .ok (.istore_n 3, 1) := by decide +kernel
theorem dX6_readsNumber_25 : decode cX6_readsNumber 25 = .ok (.iload_n 3, 1) := by decide +kernel
theorem dX6_readsNumber_26 : decode cX6_readsNumber 26 = .ok (.ifCond .eq 92, 3) := by decide +kernel
theorem dX6_readsNumber_29 : decode cX6_readsNumber 29 = .ok (.bipush 10, 2) := by decide +kernel
theorem dX6_readsNumber_31 : decode cX6_readsNumber 31 = .ok (.aload_n 0, 1) := by decide +kernel
theorem dX6_readsNumber_32 : decode cX6_readsNumber 32 = .ok (.getfield 184, 3) := by decide +kernel
theorem dX6_readsNumber_35 : decode cX6_readsNumber 35 = .ok (.imul, 1) := by decide +kernel
theorem dX6_readsNumber_36 : decode cX6_readsNumber 36 = .ok (.aload_n 0, 1) := by decide +kernel
theorem dX6_readsNumber_37 : decode cX6_readsNumber 37 = .ok (.aload_n 0, 1) := by decide +kernel
theorem dX6_readsNumber_38 : decode cX6_readsNumber 38 = .ok (.getfield 178, 3) := by decide +kernel
theorem dX6_readsNumber_41 : decode cX6_readsNumber 41 = .ok (.invokevirtual 181, 3) := by decide +kernel
theorem dX6_readsNumber_44 : decode cX6_readsNumber 44 = .ok (.iadd, 1) := by decide +kernel
theorem dX6_readsNumber_45 : decode cX6_readsNumber 45 = .ok (.bipush 48, 2) := by decide +kernel
theorem dX6_readsNumber_47 : decode cX6_readsNumber 47 = .ok (.isub, 1) := by decide +kernel
theorem dX6_readsNumber_48 : decode cX6_readsNumber 48 = .ok (.istore 4, 2) := by decide +kernel
theorem dX6_readsNumber_50 : decode cX6_readsNumber 50 = .ok (.aload_n 0, 1) := by decide +kernel
theorem dX6_readsNumber_51 : decode cX6_readsNumber 51 = .ok (.aload_n 0, 1) := by decide +kernel
theorem dX6_readsNumber_52 : decode cX6_readsNumber 52 = .ok (.getfield 178, 3) := by decide +kernel
theorem dX6_readsNumber_55 : decode cX6_readsNumber 55 = .ok (.invokevirtual 181, 3) := by decide +kernel
theorem dX6_readsNumber_58 : decode cX6_readsNumber 58 = .ok (.bipush 48, 2) := by decide +kernel
theorem dX6_readsNumber_60 : decode cX6_readsNumber 60 = .ok (.bipush 57, 2) := by decide +kernel
theorem dX6_readsNumber_62 : decode cX6_readsNumber 62 = .ok (.invokestatic 38, 3) := by decide +kernel
theorem dX6_readsNumber_65 : decode cX6_readsNumber 65 = .ok (.ifCond .eq 13, 3) := by decide +kernel
theorem dX6_readsNumber_68 : decode cX6_readsNumber 68 = .ok (.iload 4, 2) := by decide +kernel
theorem dX6_readsNumber_70 : decode cX6_readsNumber 70 = .ok (.iload_n 2, 1) := by decide +kernel
theorem dX6_readsNumber_71 : decode cX6_readsNumber 71 = .ok (.if_icmp .gt 7, 3) := by decide +kernel
theorem dX6_readsNumber_74 : decode cX6_readsNumber 74 = .ok (.iconst 1, 1) := by decide +kernel
theorem dX6_readsNumber_75 : decode cX6_readsNumber 75 = .ok (.goto 4, 3) := by decide +kernel
theorem dX6_readsNumber_78 : decode cX6_readsNumber 78 = .ok (.iconst 0, 1) := by decide +kernel
theorem dX6_readsNumber_79 : decode cX6_readsNumber 79 = .ok (.istore_n 3, 1) := by decide +kernel
theorem dX6_readsNumber_80 : decode cX6_readsNumber 80 = .ok (.aload_n 0, 1) := by decide +kernel
theorem dX6_readsNumber_81 : decode cX6_readsNumber 81 = .ok (.iload_n 3, 1) := by decide +kernel
theorem dX6_readsNumber_82 : decode cX6_readsNumber 82 = .ok (.ifCond .eq 8, 3) := by decide +kernel
theorem dX6_readsNumber_85 : decode cX6_readsNumber 85 = .ok (.iload 4, 2) := by decide +kernel
theorem dX6_readsNumber_87 : decode cX6_readsNumber 87 = .ok (.goto 7, 3) := by decide +kernel
theorem dX6_readsNumber_90 : decode cX6_readsNumber 90 = .ok (.aload_n 0, 1) := by decide +kernel
theorem dX6_readsNumber_91 : decode cX6_readsNumber 91 = .ok (.getfield 184, 3) := by decide +kernel
theorem dX6_readsNumber_94 : decode cX6_readsNumber 94 = .ok (.putfield 184, 3) := by decide +kernel
theorem dX6_readsNumber_97 : decode cX6_readsNumber 97 = .ok (.aload_n 0, 1) := by decide +kernel
theorem dX6_readsNumber_98 : decode cX6_readsNumber 98 = .ok (.dup, 1) := by decide +kernel
theorem dX6_readsNumber_99 : decode cX6_readsNumber 99 = .ok (.getfield 178, 3) := by decide +kernel
theorem dX6_readsNumber_102 : decode cX6_readsNumber 102 = .ok (.iload_n 3, 1) := by decide +kernel
theorem dX6_readsNumber_103 : decode cX6_readsNumber 103 = .ok (.ifCond .eq 7, 3) := by decide +kernel
theorem dX6_readsNumber_106 : decode cX6_readsNumber 106 = .ok (.iconst 1, 1) := by decide +kernel
theorem dX6_readsNumber_107 : decode cX6_readsNumber 107 = .ok (.goto 4, 3) := by decide +kernel
theorem dX6_readsNumber_110 : decode cX6_readsNumber 110 = .ok (.iconst 0, 1) := by decide +kernel
theorem dX6_readsNumber_111 : decode cX6_readsNumber 111 = .ok (.iadd, 1) := by decide +kernel
theorem dX6_readsNumber_112 : decode cX6_readsNumber 112 = .ok (.putfield 178, 3) := by decide +kernel
theorem dX6_readsNumber_115 : decode cX6_readsNumber 115 = .ok (.goto (-90), 3) := by decide +kernel
theorem dX6_readsNumber_118 : decode cX6_readsNumber 118 = .ok (.iconst 1, 1) := by decide +kernel
theorem dX6_readsNumber_119 : decode cX6_readsNumber 119 = .ok (.ireturn, 1) := by decide +kernel
theorem dX6_readsItem_0 : decode cX6_readsItem 0 = .ok (.aload_n 0, 1) := by decide +kernel
theorem dX6_readsItem_1 : decode cX6_readsItem 1 = .ok (.iconst 0, 1) := by decide +kernel
theorem dX6_readsItem_2 : decode cX6_readsItem 2 = .ok (.iconst 5, 1) := by decide +kernel
theorem dX6_readsItem_3 : decode cX6_readsItem 3 = .ok (.invokevirtual 187, 3) := by decide +kernel
theorem dX6_readsItem_6 : decode cX6_readsItem 6 = .ok (.istore_n 1, 1) := by decide +kernel
theorem dX6_readsItem_7 : decode cX6_readsItem 7 = .ok (.aload_n 0, 1) := by decide +kernel
theorem dX6_readsItem_8 : decode cX6_readsItem 8 = .ok (.aload_n 0, 1) := by decide +kernel
theorem dX6_readsItem_9 : decode cX6_readsItem 9 = .ok (.getfield 184, 3) := by decide +kernel
theorem dX6_readsItem_12 : decode cX6_readsItem 12 = .ok (.putfield 191, 3) := by decide +kernel
theorem dX6_readsItem_15 : decode cX6_readsItem 15 = .ok (.iload_n 1, 1) := by decide +kernel
theorem dX6_readsItem_16 : decode cX6_readsItem 16 = .ok (.ifCond .eq 27, 3) := by decide +kernel
theorem dX6_readsItem_19 : decode cX6_readsItem 19 = .ok (.aload_n 0, 1) := by decide +kernel
theorem dX6_readsItem_20 : decode cX6_readsItem 20 = .ok (.bipush 58, 2) := by decide +kernel
theorem dX6_readsItem_22 : decode cX6_readsItem 22 = .ok (.invokevirtual 194, 3) := by decide +kernel
theorem dX6_readsItem_25 : decode cX6_readsItem 25 = .ok (.ifCond .eq 18, 3) := by decide +kernel
theorem dX6_readsItem_28 : decode cX6_readsItem 28 = .ok (.aload_n 0, 1) := by decide +kernel
theorem dX6_readsItem_29 : decode cX6_readsItem 29 = .ok (.iconst 1, 1) := by decide +kernel
theorem dX6_readsItem_30 : decode cX6_readsItem 30 = .ok (.sipush 20000, 3) := by decide +kernel
theorem dX6_readsItem_33 : decode cX6_readsItem 33 = .ok (.invokevirtual 197, 3) := by decide +kernel
theorem dX6_readsItem_36 : decode cX6_readsItem 36 = .ok (.ifCond .eq 7, 3) := by decide +kernel
theorem dX6_readsItem_39 : decode cX6_readsItem 39 = .ok (.iconst 1, 1) := by decide +kernel
theorem dX6_readsItem_40 : decode cX6_readsItem 40 = .ok (.goto 4, 3) := by decide +kernel
theorem dX6_readsItem_43 : decode cX6_readsItem 43 = .ok (.iconst 0, 1) := by decide +kernel
theorem dX6_readsItem_44 : decode cX6_readsItem 44 = .ok (.istore_n 1, 1) := by decide +kernel
theorem dX6_readsItem_45 : decode cX6_readsItem 45 = .ok (.aload_n 0, 1) := by decide +kernel
theorem dX6_readsItem_46 : decode cX6_readsItem 46 = .ok (.aload_n 0, 1) := by decide +kernel
theorem dX6_readsItem_47 : decode cX6_readsItem 47 = .ok (.getfield 184, 3) := by decide +kernel
theorem dX6_readsItem_50 : decode cX6_readsItem 50 = .ok (.putfield 200, 3) := by decide +kernel
theorem dX6_readsItem_53 : decode cX6_readsItem 53 = .ok (.iload_n 1, 1) := by decide +kernel
theorem dX6_readsItem_54 : decode cX6_readsItem 54 = .ok (.ifCond .eq 26, 3) := by decide +kernel
theorem dX6_readsItem_57 : decode cX6_readsItem 57 = .ok (.aload_n 0, 1) := by decide +kernel
theorem dX6_readsItem_58 : decode cX6_readsItem 58 = .ok (.bipush 47, 2) := by decide +kernel
theorem dX6_readsItem_60 : decode cX6_readsItem 60 = .ok (.invokevirtual 194, 3) := by decide +kernel
theorem dX6_readsItem_63 : decode cX6_readsItem 63 = .ok (.ifCond .eq 17, 3) := by decide +kernel
theorem dX6_readsItem_66 : decode cX6_readsItem 66 = .ok (.aload_n 0, 1) := by decide +kernel
theorem dX6_readsItem_67 : decode cX6_readsItem 67 = .ok (.iconst 0, 1) := by decide +kernel
theorem dX6_readsItem_68 : decode cX6_readsItem 68 = .ok (.bipush 100, 2) := by decide +kernel
theorem dX6_readsItem_70 : decode cX6_readsItem 70 = .ok (.invokevirtual 197, 3) := by decide +kernel
theorem dX6_readsItem_73 : decode cX6_readsItem 73 = .ok (.ifCond .eq 7, 3) := by decide +kernel
theorem dX6_readsItem_76 : decode cX6_readsItem 76 = .ok (.iconst 1, 1) := by decide +kernel
theorem dX6_readsItem_77 : decode cX6_readsItem 77 = .ok (.goto 4, 3) := by decide +kernel
theorem dX6_readsItem_80 : decode cX6_readsItem 80 = .ok (.iconst 0, 1) := by decide +kernel
theorem dX6_readsItem_81 : decode cX6_readsItem 81 = .ok (.istore_n 1, 1) := by decide +kernel
theorem dX6_readsItem_82 : decode cX6_readsItem 82 = .ok (.aload_n 0, 1) := by decide +kernel
theorem dX6_readsItem_83 : decode cX6_readsItem 83 = .ok (.aload_n 0, 1) := by decide +kernel
theorem dX6_readsItem_84 : decode cX6_readsItem 84 = .ok (.getfield 184, 3) := by decide +kernel
theorem dX6_readsItem_87 : decode cX6_readsItem 87 = .ok (.putfield 203, 3) := by decide +kernel
theorem dX6_readsItem_90 : decode cX6_readsItem 90 = .ok (.iload_n 1, 1) := by decide +kernel
theorem dX6_readsItem_91 : decode cX6_readsItem 91 = .ok (.ifCond .eq 25, 3) := by decide +kernel
theorem dX6_readsItem_94 : decode cX6_readsItem 94 = .ok (.aload_n 0, 1) := by decide +kernel
theorem dX6_readsItem_95 : decode cX6_readsItem 95 = .ok (.bipush 64, 2) := by decide +kernel
theorem dX6_readsItem_97 : decode cX6_readsItem 97 = .ok (.invokevirtual 194, 3) := by decide +kernel
theorem dX6_readsItem_100 : decode cX6_readsItem 100 = .ok (.ifCond .eq 16, 3) := by decide +kernel
theorem dX6_readsItem_103 : decode cX6_readsItem 103 = .ok (.aload_n 0, 1) := by decide +kernel
theorem dX6_readsItem_104 : decode cX6_readsItem 104 = .ok (.iconst 0, 1) := by decide +kernel
theorem dX6_readsItem_105 : decode cX6_readsItem 105 = .ok (.iconst 5, 1) := by decide +kernel
theorem dX6_readsItem_106 : decode cX6_readsItem 106 = .ok (.invokevirtual 187, 3) := by decide +kernel
theorem dX6_readsItem_109 : decode cX6_readsItem 109 = .ok (.ifCond .eq 7, 3) := by decide +kernel
theorem dX6_readsItem_112 : decode cX6_readsItem 112 = .ok (.iconst 1, 1) := by decide +kernel
theorem dX6_readsItem_113 : decode cX6_readsItem 113 = .ok (.goto 4, 3) := by decide +kernel
theorem dX6_readsItem_116 : decode cX6_readsItem 116 = .ok (.iconst 0, 1) := by decide +kernel
theorem dX6_readsItem_117 : decode cX6_readsItem 117 = .ok (.istore_n 1, 1) := by decide +kernel
theorem dX6_readsItem_118 : decode cX6_readsItem 118 = .ok (.aload_n 0, 1) := by decide +kernel
theorem dX6_readsItem_119 : decode cX6_readsItem 119 = .ok (.aload_n 0, 1) := by decide +kernel
theorem dX6_readsItem_120 : decode cX6_readsItem 120 = .ok (.getfield 184, 3) := by decide +kernel
theorem dX6_readsItem_123 : decode cX6_readsItem 123 = .ok (.putfield 206, 3) := by decide +kernel
theorem dX6_readsItem_126 : decode cX6_readsItem 126 = .ok (.iload_n 1, 1) := by decide +kernel
theorem dX6_readsItem_127 : decode cX6_readsItem 127 = .ok (.ireturn, 1) := by decide +kernel
theorem dX6_findError_0 : decode cX6_findError 0 = .ok (.aload_n 0, 1) := by decide +kernel
theorem dX6_findError_1 : decode cX6_findError 1 = .ok (.iconst 0, 1) := by decide +kernel
theorem dX6_findError_2 : decode cX6_findError 2 = .ok (.putfield 178, 3) := by decide +kernel
theorem dX6_findError_5 : decode cX6_findError 5 = .ok (.aload_n 0, 1) := by decide +kernel
theorem dX6_findError_6 : decode cX6_findError 6 = .ok (.invokevirtual 209, 3) := by decide +kernel
theorem dX6_findError_9 : decode cX6_findError 9 = .ok (.ifCond .ne 8, 3) := by decide +kernel
theorem dX6_findError_12 : decode cX6_findError 12 = .ok (.aload_n 0, 1) := by decide +kernel
theorem dX6_findError_13 : decode cX6_findError 13 = .ok (.getfield 178, 3) := by decide +kernel
theorem dX6_findError_16 : decode cX6_findError 16 = .ok (.ireturn, 1) := by decide +kernel
theorem dX6_findError_17 : decode cX6_findError 17 = .ok (.aload_n 0, 1) := by decide +kernel
theorem dX6_findError_18 : decode cX6_findError 18 = .ok (.getfield 178, 3) := by decide +kernel
theorem dX6_findError_21 : decode cX6_findError 21 = .ok (.aload_n 0, 1) := by decide +kernel
theorem dX6_findError_22 : decode cX6_findError 22 = .ok (.getfield 175, 3) := by decide +kernel
theorem dX6_findError_25 : decode cX6_findError 25 = .ok (.if_icmp .ne 6, 3) := by decide +kernel
theorem dX6_findError_28 : decode cX6_findError 28 = .ok (.bipush (-6), 2) := by decide +kernel
theorem dX6_findError_30 : decode cX6_findError 30 = .ok (.ireturn, 1) := by decide +kernel
theorem dX6_findError_31 : decode cX6_findError 31 = .ok (.aload_n 0, 1) := by decide +kernel
theorem dX6_findError_32 : decode cX6_findError 32 = .ok (.bipush 59, 2) := by decide +kernel
theorem dX6_findError_34 : decode cX6_findError 34 = .ok (.invokevirtual 194, 3) := by decide +kernel
theorem dX6_findError_37 : decode cX6_findError 37 = .ok (.ifCond .ne (-32), 3) := by decide +kernel
theorem dX6_findError_40 : decode cX6_findError 40 = .ok (.aload_n 0, 1) := by decide +kernel
theorem dX6_findError_41 : decode cX6_findError 41 = .ok (.getfield 178, 3) := by decide +kernel
theorem dX6_findError_44 : decode cX6_findError 44 = .ok (.ireturn, 1) := by decide +kernel
theorem dX6_syntaxError_0 : decode cX6_syntaxError 0 = .ok (.aload_n 0, 1) := by decide +kernel
theorem dX6_syntaxError_1 : decode cX6_syntaxError 1 = .ok (.invokevirtual 213, 3) := by decide +kernel
theorem dX6_syntaxError_4 : decode cX6_syntaxError 4 = .ok (.ireturn, 1) := by decide +kernel
theorem dX6_deliverAll_0 : decode cX6_deliverAll 0 = .ok (.aload_n 0, 1) := by decide +kernel
theorem dX6_deliverAll_1 : decode cX6_deliverAll 1 = .ok (.invokevirtual 213, 3) := by decide +kernel
theorem dX6_deliverAll_4 : decode cX6_deliverAll 4 = .ok (.bipush (-6), 2) := by decide +kernel
theorem dX6_deliverAll_6 : decode cX6_deliverAll 6 = .ok (.if_icmp .eq 6, 3) := by decide +kernel
theorem dX6_deliverAll_9 : decode cX6_deliverAll 9 = .ok (.bipush (-5), 2) := by decide +kernel
theorem dX6_deliverAll_11 : decode cX6_deliverAll 11 = .ok (.ireturn, 1) := by decide +kernel
theorem dX6_deliverAll_12 : decode cX6_deliverAll 12 = .ok (.aload_n 0, 1) := by decide +kernel
theorem dX6_deliverAll_13 : decode cX6_deliverAll 13 = .ok (.invokevirtual 50, 3) := by decide +kernel
theorem dX6_deliverAll_16 : decode cX6_deliverAll 16 = .ok (.iconst 0, 1) := by decide +kernel
theorem dX6_deliverAll_17 : decode cX6_deliverAll 17 = .ok (.istore_n 1, 1) := by decide +kernel
theorem dX6_deliverAll_18 : decode cX6_deliverAll 18 = .ok (.aload_n 0, 1) := by decide +kernel
theorem dX6_deliverAll_19 : decode cX6_deliverAll 19 = .ok (.iconst 0, 1) := by decide +kernel
theorem dX6_deliverAll_20 : decode cX6_deliverAll 20 = .ok (.putfield 178, 3) := by decide +kernel
theorem dX6_deliverAll_23 : decode cX6_deliverAll 23 = .ok (.iconst 1, 1) := by decide +kernel
theorem dX6_deliverAll_24 : decode cX6_deliverAll 24 = .ok (.istore_n 2, 1) := by decide +kernel
theorem dX6_deliverAll_25 : decode cX6_deliverAll 25 = .ok (.iload_n 2, 1) := by decide +kernel
theorem dX6_deliverAll_26 : decode cX6_deliverAll 26 = .ok (.ifCond .eq 86, 3) := by decide +kernel
theorem dX6_deliverAll_29 : decode cX6_deliverAll 29 = .ok (.aload_n 0, 1) := by decide +kernel
theorem dX6_deliverAll_30 : decode cX6_deliverAll 30 = .ok (.getfield 178, 3) := by decide +kernel
theorem dX6_deliverAll_33 : decode cX6_deliverAll 33 = .ok (.aload_n 0, 1) := by decide +kernel
theorem dX6_deliverAll_34 : decode cX6_deliverAll 34 = .ok (.getfield 175, 3) := by decide +kernel
theorem dX6_deliverAll_37 : decode cX6_deliverAll 37 = .ok (.if_icmp .ge 75, 3) := by decide +kernel
theorem dX6_deliverAll_40 : decode cX6_deliverAll 40 = .ok (.aload_n 0, 1) := by decide +kernel
theorem dX6_deliverAll_41 : decode cX6_deliverAll 41 = .ok (.invokevirtual 209, 3) := by decide +kernel
theorem dX6_deliverAll_44 : decode cX6_deliverAll 44 = .ok (.pop, 1) := by decide +kernel
theorem dX6_deliverAll_45 : decode cX6_deliverAll 45 = .ok (.aload_n 0, 1) := by decide +kernel
theorem dX6_deliverAll_46 : decode cX6_deliverAll 46 = .ok (.bipush 59, 2) := by decide +kernel
theorem dX6_deliverAll_48 : decode cX6_deliverAll 48 = .ok (.invokevirtual 194, 3) := by decide +kernel
theorem dX6_deliverAll_51 : decode cX6_deliverAll 51 = .ok (.pop, 1) := by decide +kernel
theorem dX6_deliverAll_52 : decode cX6_deliverAll 52 = .ok (.aload_n 0, 1) := by decide +kernel
theorem dX6_deliverAll_53 : decode cX6_deliverAll 53 = .ok (.aload_n 0, 1) := by decide +kernel
theorem dX6_deliverAll_54 : decode cX6_deliverAll 54 = .ok (.getfield 191, 3) := by decide +kernel
theorem dX6_deliverAll_57 : decode cX6_deliverAll 57 = .ok (.aload_n 0, 1) := by decide +kernel
theorem dX6_deliverAll_58 : decode cX6_deliverAll 58 = .ok (.getfield 200, 3) := by decide +kernel
theorem dX6_deliverAll_61 : decode cX6_deliverAll 61 = .ok (.aload_n 0, 1) := by decide +kernel
theorem dX6_deliverAll_62 : decode cX6_deliverAll 62 = .ok (.getfield 203, 3) := by decide +kernel
theorem dX6_deliverAll_65 : decode cX6_deliverAll 65 = .ok (.aload_n 0, 1) := by decide +kernel
theorem dX6_deliverAll_66 : decode cX6_deliverAll 66 = .ok (.getfield 206, 3) := by decide +kernel
theorem dX6_deliverAll_69 : decode cX6_deliverAll 69 = .ok (.invokevirtual 77, 3) := by decide +kernel
theorem dX6_deliverAll_72 : decode cX6_deliverAll 72 = .ok (.ifCond .ne 7, 3) := by decide +kernel
theorem dX6_deliverAll_75 : decode cX6_deliverAll 75 = .ok (.iconst 1, 1) := by decide +kernel
theorem dX6_deliverAll_76 : decode cX6_deliverAll 76 = .ok (.goto 4, 3) := by decide +kernel
theorem dX6_deliverAll_79 : decode cX6_deliverAll 79 = .ok (.iconst 0, 1) := by decide +kernel
theorem dX6_deliverAll_80 : decode cX6_deliverAll 80 = .ok (.istore_n 2, 1) := by decide +kernel
theorem dX6_deliverAll_81 : decode cX6_deliverAll 81 = .ok (.iload_n 2, 1) := by decide +kernel
theorem dX6_deliverAll_82 : decode cX6_deliverAll 82 = .ok (.ifCond .eq (-57), 3) := by decide +kernel
theorem dX6_deliverAll_85 : decode cX6_deliverAll 85 = .ok (.aload_n 0, 1) := by decide +kernel
theorem dX6_deliverAll_86 : decode cX6_deliverAll 86 = .ok (.aload_n 0, 1) := by decide +kernel
theorem dX6_deliverAll_87 : decode cX6_deliverAll 87 = .ok (.getfield 191, 3) := by decide +kernel
theorem dX6_deliverAll_90 : decode cX6_deliverAll 90 = .ok (.aload_n 0, 1) := by decide +kernel
theorem dX6_deliverAll_91 : decode cX6_deliverAll 91 = .ok (.getfield 200, 3) := by decide +kernel
theorem dX6_deliverAll_94 : decode cX6_deliverAll 94 = .ok (.aload_n 0, 1) := by decide +kernel
theorem dX6_deliverAll_95 : decode cX6_deliverAll 95 = .ok (.getfield 203, 3) := by decide +kernel
theorem dX6_deliverAll_98 : decode cX6_deliverAll 98 = .ok (.aload_n 0, 1) := by decide +kernel
theorem dX6_deliverAll_99 : decode cX6_deliverAll 99 = .ok (.getfield 206, 3) := by decide +kernel
theorem dX6_deliverAll_102 : decode cX6_deliverAll 102 = .ok (.invokevirtual 80, 3) := by decide +kernel
theorem dX6_deliverAll_105 : decode cX6_deliverAll 105 = .ok (.pop, 1) := by decide +kernel
theorem dX6_deliverAll_106 : decode cX6_deliverAll 106 = .ok (.iinc 1 1, 3) := by decide +kernel
theorem dX6_deliverAll_109 : decode cX6_deliverAll 109 = .ok (.goto (-84), 3) := by decide +kernel
theorem dX6_deliverAll_112 : decode cX6_deliverAll 112 = .ok (.aload_n 0, 1) := by decide +kernel
theorem dX6_deliverAll_113 : decode cX6_deliverAll 113 = .ok (.iconst 0, 1) := by decide +kernel
theorem dX6_deliverAll_114 : decode cX6_deliverAll 114 = .ok (.putfield 175, 3) := by decide +kernel
theorem dX6_deliverAll_117 : decode cX6_deliverAll 117 = .ok (.iload_n 1, 1) := by decide +kernel
theorem dX6_deliverAll_118 : decode cX6_deliverAll 118 = .ok (.ireturn, 1) := by decide +kernel
theorem dX6_undo_0 : decode cX6_undo 0 = .ok (.aload_n 0, 1) := by decide +kernel
theorem dX6_undo_1 : decode cX6_undo 1 = .ok (.getfield 22, 3) := by decide +kernel
theorem dX6_undo_4 : decode cX6_undo 4 = .ok (.ifCond .ne 6, 3) := by decide +kernel
theorem dX6_undo_7 : decode cX6_undo 7 = .ok (.bipush (-3), 2) := by decide +kernel
theorem dX6_undo_9 : decode cX6_undo 9 = .ok (.ireturn, 1) := by decide +kernel
theorem dX6_undo_10 : decode cX6_undo 10 = .ok (.aload_n 0, 1) := by decide +kernel
theorem dX6_undo_11 : decode cX6_undo 11 = .ok (.dup, 1) := by decide +kernel
theorem dX6_undo_12 : decode cX6_undo 12 = .ok (.getfield 22, 3) := by decide +kernel
theorem dX6_undo_15 : decode cX6_undo 15 = .ok (.iconst 1, 1) := by decide +kernel
theorem dX6_undo_16 : decode cX6_undo 16 = .ok (.isub, 1) := by decide +kernel
theorem dX6_undo_17 : decode cX6_undo 17 = .ok (.putfield 22, 3) := by decide +kernel
theorem dX6_undo_20 : decode cX6_undo 20 = .ok (.aload_n 0, 1) := by decide +kernel
theorem dX6_undo_21 : decode cX6_undo 21 = .ok (.getfield 16, 3) := by decide +kernel
theorem dX6_undo_24 : decode cX6_undo 24 = .ok (.aload_n 0, 1) := by decide +kernel
theorem dX6_undo_25 : decode cX6_undo 25 = .ok (.getfield 22, 3) := by decide +kernel
theorem dX6_undo_28 : decode cX6_undo 28 = .ok (.bipush 125, 2) := by decide +kernel
theorem dX6_undo_30 : decode cX6_undo 30 = .ok (.imul, 1) := by decide +kernel
theorem dX6_undo_31 : decode cX6_undo 31 = .ok (.aload_n 0, 1) := by decide +kernel
theorem dX6_undo_32 : decode cX6_undo 32 = .ok (.getfield 7, 3) := by decide +kernel
theorem dX6_undo_35 : decode cX6_undo 35 = .ok (.iconst 0, 1) := by decide +kernel
theorem dX6_undo_36 : decode cX6_undo 36 = .ok (.invokestatic 26, 3) := by decide +kernel
theorem dX6_undo_39 : decode cX6_undo 39 = .ok (.aload_n 0, 1) := by decide +kernel
theorem dX6_undo_40 : decode cX6_undo 40 = .ok (.getfield 22, 3) := by decide +kernel
theorem dX6_undo_43 : decode cX6_undo 43 = .ok (.ireturn, 1) := by decide +kernel
theorem dX6_digest_0 : decode cX6_digest 0 = .ok (.ldc2_w 216, 3) := by decide +kernel
theorem dX6_digest_3 : decode cX6_digest 3 = .ok (.lstore_n 1, 1) := by decide +kernel
theorem dX6_digest_4 : decode cX6_digest 4 = .ok (.iconst 0, 1) := by decide +kernel
theorem dX6_digest_5 : decode cX6_digest 5 = .ok (.istore_n 3, 1) := by decide +kernel
theorem dX6_digest_6 : decode cX6_digest 6 = .ok (.iload_n 3, 1) := by decide +kernel
theorem dX6_digest_7 : decode cX6_digest 7 = .ok (.bipush 10, 2) := by decide +kernel
theorem dX6_digest_9 : decode cX6_digest 9 = .ok (.if_icmp .gt 21, 3) := by decide +kernel
theorem dX6_digest_12 : decode cX6_digest 12 = .ok (.ldc2_w 218, 3) := by decide +kernel
theorem dX6_digest_15 : decode cX6_digest 15 = .ok (.lload_n 1, 1) := by decide +kernel
theorem dX6_digest_16 : decode cX6_digest 16 = .ok (.lmul, 1) := by decide +kernel
theorem dX6_digest_17 : decode cX6_digest 17 = .ok (.aload_n 0, 1) := by decide +kernel
theorem dX6_digest_18 : decode cX6_digest 18 = .ok (.iload_n 3, 1) := by decide +kernel
theorem dX6_digest_19 : decode cX6_digest 19 = .ok (.invokevirtual 132, 3) := by decide +kernel
theorem dX6_digest_22 : decode cX6_digest 22 = .ok (.ladd, 1) := by decide +kernel
theorem dX6_digest_23 : decode cX6_digest 23 = .ok (.lstore_n 1, 1) := by decide +kernel
theorem dX6_digest_24 : decode cX6_digest 24 = .ok (.iinc 3 1, 3) := by decide +kernel
theorem dX6_digest_27 : decode cX6_digest 27 = .ok (.goto (-21), 3) := by decide +kernel
theorem dX6_digest_30 : decode cX6_digest 30 = .ok (.iconst 0, 1) := by decide +kernel
theorem dX6_digest_31 : decode cX6_digest 31 = .ok (.istore_n 3, 1) := by decide +kernel
theorem dX6_digest_32 : decode cX6_digest 32 = .ok (.iload_n 3, 1) := by decide +kernel
theorem dX6_digest_33 : decode cX6_digest 33 = .ok (.aload_n 0, 1) := by decide +kernel
theorem dX6_digest_34 : decode cX6_digest 34 = .ok (.getfield 7, 3) := by decide +kernel
theorem dX6_digest_37 : decode cX6_digest 37 = .ok (.iconst 2, 1) := by decide +kernel
theorem dX6_digest_38 : decode cX6_digest 38 = .ok (.iaload, 1) := by decide +kernel
theorem dX6_digest_39 : decode cX6_digest 39 = .ok (.if_icmp .ge 80, 3) := by decide +kernel
theorem dX6_digest_42 : decode cX6_digest 42 = .ok (.ldc2_w 218, 3) := by decide +kernel
theorem dX6_digest_45 : decode cX6_digest 45 = .ok (.lload_n 1, 1) := by decide +kernel
theorem dX6_digest_46 : decode cX6_digest 46 = .ok (.lmul, 1) := by decide +kernel
theorem dX6_digest_47 : decode cX6_digest 47 = .ok (.aload_n 0, 1) := by decide +kernel
theorem dX6_digest_48 : decode cX6_digest 48 = .ok (.iload_n 3, 1) := by decide +kernel
theorem dX6_digest_49 : decode cX6_digest 49 = .ok (.iconst 0, 1) := by decide +kernel
theorem dX6_digest_50 : decode cX6_digest 50 = .ok (.invokevirtual 30, 3) := by decide +kernel
theorem dX6_digest_53 : decode cX6_digest 53 = .ok (.i2l, 1) := by decide +kernel
theorem dX6_digest_54 : decode cX6_digest 54 = .ok (.ladd, 1) := by decide +kernel
theorem dX6_digest_55 : decode cX6_digest 55 = .ok (.lstore_n 1, 1) := by decide +kernel
theorem dX6_digest_56 : decode cX6_digest 56 = .ok (.iconst 0, 1) := by decide +kernel
theorem dX6_digest_57 : decode cX6_digest 57 = .ok (.istore 4, 2) := by decide +kernel
theorem dX6_digest_59 : decode cX6_digest 59 = .ok (.iload 4, 2) := by decide +kernel
theorem dX6_digest_61 : decode cX6_digest 61 = .ok (.bipush 6, 2) := by decide +kernel
theorem dX6_digest_63 : decode cX6_digest 63 = .ok (.if_icmp .gt 24, 3) := by decide +kernel
theorem dX6_digest_66 : decode cX6_digest 66 = .ok (.ldc2_w 218, 3) := by decide +kernel
theorem dX6_digest_69 : decode cX6_digest 69 = .ok (.lload_n 1, 1) := by decide +kernel
theorem dX6_digest_70 : decode cX6_digest 70 = .ok (.lmul, 1) := by decide +kernel
theorem dX6_digest_71 : decode cX6_digest 71 = .ok (.aload_n 0, 1) := by decide +kernel
theorem dX6_digest_72 : decode cX6_digest 72 = .ok (.iload_n 3, 1) := by decide +kernel
theorem dX6_digest_73 : decode cX6_digest 73 = .ok (.iload 4, 2) := by decide +kernel
theorem dX6_digest_75 : decode cX6_digest 75 = .ok (.invokevirtual 138, 3) := by decide +kernel
theorem dX6_digest_78 : decode cX6_digest 78 = .ok (.i2l, 1) := by decide +kernel
theorem dX6_digest_79 : decode cX6_digest 79 = .ok (.ladd, 1) := by decide +kernel
theorem dX6_digest_80 : decode cX6_digest 80 = .ok (.lstore_n 1, 1) := by decide +kernel
theorem dX6_digest_81 : decode cX6_digest 81 = .ok (.iinc 4 1, 3) := by decide +kernel
theorem dX6_digest_84 : decode cX6_digest 84 = .ok (.goto (-25), 3) := by decide +kernel
theorem dX6_digest_87 : decode cX6_digest 87 = .ok (.ldc2_w 218, 3) := by decide +kernel
theorem dX6_digest_90 : decode cX6_digest 90 = .ok (.lload_n 1, 1) := by decide +kernel
theorem dX6_digest_91 : decode cX6_digest 91 = .ok (.lmul, 1) := by decide +kernel
theorem dX6_digest_92 : decode cX6_digest 92 = .ok (.aload_n 0, 1) := by decide +kernel
theorem dX6_digest_93 : decode cX6_digest 93 = .ok (.iload_n 3, 1) := by decide +kernel
theorem dX6_digest_94 : decode cX6_digest 94 = .ok (.invokevirtual 165, 3) := by decide +kernel
theorem dX6_digest_97 : decode cX6_digest 97 = .ok (.i2l, 1) := by decide +kernel
theorem dX6_digest_98 : decode cX6_digest 98 = .ok (.ladd, 1) := by decide +kernel
theorem dX6_digest_99 : decode cX6_digest 99 = .ok (.lstore_n 1, 1) := by decide +kernel
theorem dX6_digest_100 : decode cX6_digest 100 = .ok (.ldc2_w 218, 3) := by decide +kernel
theorem dX6_digest_103 : decode cX6_digest 103 = .ok (.lload_n 1, 1) := by decide +kernel
theorem dX6_digest_104 : decode cX6_digest 104 = .ok (.lmul, 1) := by decide +kernel
theorem dX6_digest_105 : decode cX6_digest 105 = .ok (.aload_n 0, 1) := by decide +kernel
theorem dX6_digest_106 : decode cX6_digest 106 = .ok (.iload_n 3, 1) := by decide +kernel
theorem dX6_digest_107 : decode cX6_digest 107 = .ok (.invokevirtual 168, 3) := by decide +kernel
theorem dX6_digest_110 : decode cX6_digest 110 = .ok (.i2l, 1) := by decide +kernel
theorem dX6_digest_111 : decode cX6_digest 111 = .ok (.ladd, 1) := by decide +kernel
theorem dX6_digest_112 : decode cX6_digest 112 = .ok (.lstore_n 1, 1) := by decide +kernel
theorem dX6_digest_113 : decode cX6_digest 113 = .ok (.iinc 3 1, 3) := by decide +kernel
theorem dX6_digest_116 : decode cX6_digest 116 = .ok (.goto (-84), 3) := by decide +kernel
theorem dX6_digest_119 : decode cX6_digest 119 = .ok (.iconst 0, 1) := by decide +kernel
theorem dX6_digest_120 : decode cX6_digest 120 = .ok (.istore_n 3, 1) := by decide +kernel
theorem dX6_digest_121 : decode cX6_digest 121 = .ok (.iload_n 3, 1) := by decide +kernel
theorem dX6_digest_122 : decode cX6_digest 122 = .ok (.bipush 6, 2) := by decide +kernel
theorem dX6_digest_124 : decode cX6_digest 124 = .ok (.if_icmp .ge 39, 3) := by decide +kernel
theorem dX6_digest_127 : decode cX6_digest 127 = .ok (.iconst 0, 1) := by decide +kernel
theorem dX6_digest_128 : decode cX6_digest 128 = .ok (.istore 4, 2) := by decide +kernel
theorem dX6_digest_130 : decode cX6_digest 130 = .ok (.iload 4, 2) := by decide +kernel
theorem dX6_digest_132 : decode cX6_digest 132 = .ok (.iconst 3, 1) := by decide +kernel
theorem dX6_digest_133 : decode cX6_digest 133 = .ok (.if_icmp .gt 24, 3) := by decide +kernel
theorem dX6_digest_136 : decode cX6_digest 136 = .ok (.ldc2_w 218, 3) := by decide +kernel
theorem dX6_digest_139 : decode cX6_digest 139 = .ok (.lload_n 1, 1) := by decide +kernel
theorem dX6_digest_140 : decode cX6_digest 140 = .ok (.lmul, 1) := by decide +kernel
theorem dX6_digest_141 : decode cX6_digest 141 = .ok (.aload_n 0, 1) := by decide +kernel
theorem dX6_digest_142 : decode cX6_digest 142 = .ok (.iload_n 3, 1) := by decide +kernel
theorem dX6_digest_143 : decode cX6_digest 143 = .ok (.iload 4, 2) := by decide +kernel
theorem dX6_digest_145 : decode cX6_digest 145 = .ok (.invokevirtual 147, 3) := by decide +kernel
theorem dX6_digest_148 : decode cX6_digest 148 = .ok (.i2l, 1) := by decide +kernel
theorem dX6_digest_149 : decode cX6_digest 149 = .ok (.ladd, 1) := by decide +kernel
theorem dX6_digest_150 : decode cX6_digest 150 = .ok (.lstore_n 1, 1) := by decide +kernel
theorem dX6_digest_151 : decode cX6_digest 151 = .ok (.iinc 4 1, 3) := by decide +kernel
theorem dX6_digest_154 : decode cX6_digest 154 = .ok (.goto (-24), 3) := by decide +kernel
theorem dX6_digest_157 : decode cX6_digest 157 = .ok (.iinc 3 1, 3) := by decide +kernel
theorem dX6_digest_160 : decode cX6_digest 160 = .ok (.goto (-39), 3) := by decide +kernel
theorem dX6_digest_163 : decode cX6_digest 163 = .ok (.iconst 0, 1) := by decide +kernel
theorem dX6_digest_164 : decode cX6_digest 164 = .ok (.istore_n 3, 1) := by decide +kernel
theorem dX6_digest_165 : decode cX6_digest 165 = .ok (.iload_n 3, 1) := by decide +kernel
theorem dX6_digest_166 : decode cX6_digest 166 = .ok (.iconst 5, 1) := by decide +kernel
theorem dX6_digest_167 : decode cX6_digest 167 = .ok (.if_icmp .ge 37, 3) := by decide +kernel
theorem dX6_digest_170 : decode cX6_digest 170 = .ok (.ldc2_w 218, 3) := by decide +kernel
theorem dX6_digest_173 : decode cX6_digest 173 = .ok (.lload_n 1, 1) := by decide +kernel
theorem dX6_digest_174 : decode cX6_digest 174 = .ok (.lmul, 1) := by decide +kernel
theorem dX6_digest_175 : decode cX6_digest 175 = .ok (.aload_n 0, 1) := by decide +kernel
theorem dX6_digest_176 : decode cX6_digest 176 = .ok (.iload_n 3, 1) := by decide +kernel
theorem dX6_digest_177 : decode cX6_digest 177 = .ok (.iconst 0, 1) := by decide +kernel
theorem dX6_digest_178 : decode cX6_digest 178 = .ok (.invokevirtual 150, 3) := by decide +kernel
theorem dX6_digest_181 : decode cX6_digest 181 = .ok (.i2l, 1) := by decide +kernel
theorem dX6_digest_182 : decode cX6_digest 182 = .ok (.ladd, 1) := by decide +kernel
theorem dX6_digest_183 : decode cX6_digest 183 = .ok (.lstore_n 1, 1) := by decide +kernel
theorem dX6_digest_184 : decode cX6_digest 184 = .ok (.ldc2_w 218, 3) := by decide +kernel
theorem dX6_digest_187 : decode cX6_digest 187 = .ok (.lload_n 1, 1) := by decide +kernel
theorem dX6_digest_188 : decode cX6_digest 188 = .ok (.lmul, 1) := by decide +kernel
theorem dX6_digest_189 : decode cX6_digest 189 = .ok (.aload_n 0, 1) := by decide +kernel
theorem dX6_digest_190 : decode cX6_digest 190 = .ok (.iload_n 3, 1) := by decide +kernel
theorem dX6_digest_191 : decode cX6_digest 191 = .ok (.iconst 1, 1) := by decide +kernel
theorem dX6_digest_192 : decode cX6_digest 192 = .ok (.invokevirtual 150, 3) := by decide +kernel
theorem dX6_digest_195 : decode cX6_digest 195 = .ok (.i2l, 1) := by decide +kernel
theorem dX6_digest_196 : decode cX6_digest 196 = .ok (.ladd, 1) := by decide +kernel
theorem dX6_digest_197 : decode cX6_digest 197 = .ok (.lstore_n 1, 1) := by decide +kernel
theorem dX6_digest_198 : decode cX6_digest 198 = .ok (.iinc 3 1, 3) := by decide +kernel
theorem dX6_digest_201 : decode cX6_digest 201 = .ok (.goto (-36), 3) := by decide +kernel
theorem dX6_digest_204 : decode cX6_digest 204 = .ok (.iconst 0, 1) := by decide +kernel
theorem dX6_digest_205 : decode cX6_digest 205 = .ok (.istore_n 3, 1) := by decide +kernel
theorem dX6_digest_206 : decode cX6_digest 206 = .ok (.iload_n 3, 1) := by decide +kernel
theorem dX6_digest_207 : decode cX6_digest 207 = .ok (.bipush 6, 2) := by decide +kernel
theorem dX6_digest_209 : decode cX6_digest 209 = .ok (.if_icmp .ge 39, 3) := by decide +kernel
theorem dX6_digest_212 : decode cX6_digest 212 = .ok (.iconst 0, 1) := by decide +kernel
theorem dX6_digest_213 : decode cX6_digest 213 = .ok (.istore 4, 2) := by decide +kernel
theorem dX6_digest_215 : decode cX6_digest 215 = .ok (.iload 4, 2) := by decide +kernel
theorem dX6_digest_217 : decode cX6_digest 217 = .ok (.iconst 3, 1) := by decide +kernel
theorem dX6_digest_218 : decode cX6_digest 218 = .ok (.if_icmp .gt 24, 3) := by decide +kernel
theorem dX6_digest_221 : decode cX6_digest 221 = .ok (.ldc2_w 218, 3) := by decide +kernel
theorem dX6_digest_224 : decode cX6_digest 224 = .ok (.lload_n 1, 1) := by decide +kernel
theorem dX6_digest_225 : decode cX6_digest 225 = .ok (.lmul, 1) := by decide +kernel
theorem dX6_digest_226 : decode cX6_digest 226 = .ok (.aload_n 0, 1) := by decide +kernel
theorem dX6_digest_227 : decode cX6_digest 227 = .ok (.iload_n 3, 1) := by decide +kernel
theorem dX6_digest_228 : decode cX6_digest 228 = .ok (.iload 4, 2) := by decide +kernel
theorem dX6_digest_230 : decode cX6_digest 230 = .ok (.invokevirtual 159, 3) := by decide +kernel
theorem dX6_digest_233 : decode cX6_digest 233 = .ok (.i2l, 1) := by decide +kernel
theorem dX6_digest_234 : decode cX6_digest 234 = .ok (.ladd, 1) := by decide +kernel
theorem dX6_digest_235 : decode cX6_digest 235 = .ok (.lstore_n 1, 1) := by decide +kernel
theorem dX6_digest_236 : decode cX6_digest 236 = .ok (.iinc 4 1, 3) := by decide +kernel
theorem dX6_digest_239 : decode cX6_digest 239 = .ok (.goto (-24), 3) := by decide +kernel
theorem dX6_digest_242 : decode cX6_digest 242 = .ok (.iinc 3 1, 3) := by decide +kernel
theorem dX6_digest_245 : decode cX6_digest 245 = .ok (.goto (-39), 3) := by decide +kernel
theorem dX6_digest_248 : decode cX6_digest 248 = .ok (.iconst 0, 1) := by decide +kernel
theorem dX6_digest_249 : decode cX6_digest 249 = .ok (.istore_n 3, 1) := by decide +kernel
theorem dX6_digest_250 : decode cX6_digest 250 = .ok (.iload_n 3, 1) := by decide +kernel
theorem dX6_digest_251 : decode cX6_digest 251 = .ok (.bipush 10, 2) := by decide +kernel
theorem dX6_digest_253 : decode cX6_digest 253 = .ok (.if_icmp .gt 26, 3) := by decide +kernel
theorem dX6_digest_256 : decode cX6_digest 256 = .ok (.ldc2_w 218, 3) := by decide +kernel
theorem dX6_digest_259 : decode cX6_digest 259 = .ok (.lload_n 1, 1) := by decide +kernel
theorem dX6_digest_260 : decode cX6_digest 260 = .ok (.lmul, 1) := by decide +kernel
theorem dX6_digest_261 : decode cX6_digest 261 = .ok (.aload_n 0, 1) := by decide +kernel
theorem dX6_digest_262 : decode cX6_digest 262 = .ok (.getfield 7, 3) := by decide +kernel
theorem dX6_digest_265 : decode cX6_digest 265 = .ok (.bipush 23, 2) := by decide +kernel
theorem dX6_digest_267 : decode cX6_digest 267 = .ok (.iload_n 3, 1) := by decide +kernel
theorem dX6_digest_268 : decode cX6_digest 268 = .ok (.iadd, 1) := by decide +kernel
theorem dX6_digest_269 : decode cX6_digest 269 = .ok (.iaload, 1) := by decide +kernel
theorem dX6_digest_270 : decode cX6_digest 270 = .ok (.i2l, 1) := by decide +kernel
theorem dX6_digest_271 : decode cX6_digest 271 = .ok (.ladd, 1) := by decide +kernel
theorem dX6_digest_272 : decode cX6_digest 272 = .ok (.lstore_n 1, 1) := by decide +kernel
theorem dX6_digest_273 : decode cX6_digest 273 = .ok (.iinc 3 1, 3) := by decide +kernel
theorem dX6_digest_276 : decode cX6_digest 276 = .ok (.goto (-26), 3) := by decide +kernel
theorem dX6_digest_279 : decode cX6_digest 279 = .ok (.ldc2_w 218, 3) := by decide +kernel
theorem dX6_digest_282 : decode cX6_digest 282 = .ok (.lload_n 1, 1) := by decide +kernel
theorem dX6_digest_283 : decode cX6_digest 283 = .ok (.lmul, 1) := by decide +kernel
theorem dX6_digest_284 : decode cX6_digest 284 = .ok (.aload_n 0, 1) := by decide +kernel
theorem dX6_digest_285 : decode cX6_digest 285 = .ok (.invokevirtual 171, 3) := by decide +kernel
theorem dX6_digest_288 : decode cX6_digest 288 = .ok (.ladd, 1) := by decide +kernel
theorem dX6_digest_289 : decode cX6_digest 289 = .ok (.lreturn, 1) := by decide +kernel
end
section
/-! THE SYSTEM'S CELLS, by their offsets: 0 the counter; 1 to 23 its shop (the shop, its five rows of ints, its row of lots, sixteen lots); 24 to 46 the trial; 47 the forecast; 48, 49 the history and its row; 50 + 23 i the saved shops; 188, 189 the text and its signs; 190 the reference, 191 to 194 its rows -/
def shShop : List KSh := [.inl 4, .inr (.int, 6), .inr (.int, 6), .inr (.int, 11), .inr (.int, 6), .inr (.int, 5), .inr (.object "FishCounter$Lot", 16)] ++ List.replicate 16 (.inl 3)
def shC : List KSh := [.inl 5] ++ (shShop ++ (shShop ++ ([.inl 1, .inl 2, .inr (.object "FishCounter$Shop", 6)] ++ (shShop ++ (shShop ++ (shShop ++ (shShop ++ (shShop ++ (shShop ++ [.inl 0, .inr (.char, 80)])))))))))
def shF : List KSh := shC ++ [.inl 6, .inr (.int, 125), .inr (.int, 125), .inr (.int, 750), .inr (.int, 80)]
def shL : List Nat := [1, 24, 50, 73, 96, 119, 142, 165]
theorem sf_c : shF[0]? = some (.inl 5) := by decide +kernel
theorem sf_fc : shF[47]? = some (.inl 1) := by decide +kernel
theorem sf_h : shF[48]? = some (.inl 2) := by decide +kernel
theorem sf_hs : shF[49]? = some (.inr (.object "FishCounter$Shop", 6)) := by decide +kernel
theorem sf_t : shF[188]? = some (.inl 0) := by decide +kernel
theorem sf_ts : shF[189]? = some (.inr (.char, 80)) := by decide +kernel
theorem sf_m : shF[190]? = some (.inl 6) := by decide +kernel
theorem sf_ms : shF[191]? = some (.inr (.int, 125)) := by decide +kernel
theorem sf_mk : shF[192]? = some (.inr (.int, 125)) := by decide +kernel
theorem sf_mh : shF[193]? = some (.inr (.int, 750)) := by decide +kernel
theorem sf_mt : shF[194]? = some (.inr (.int, 80)) := by decide +kernel
theorem so_0 : ∀ o, o ∈ shL → shF[o]? = some (.inl 4) := by decide +kernel
theorem so_1 : ∀ o, o ∈ shL → shF[o + 1]? = some (.inr (.int, 6)) := by decide +kernel
theorem so_2 : ∀ o, o ∈ shL → shF[o + 2]? = some (.inr (.int, 6)) := by decide +kernel
theorem so_3 : ∀ o, o ∈ shL → shF[o + 3]? = some (.inr (.int, 11)) := by decide +kernel
theorem so_4 : ∀ o, o ∈ shL → shF[o + 4]? = some (.inr (.int, 6)) := by decide +kernel
theorem so_5 : ∀ o, o ∈ shL → shF[o + 5]? = some (.inr (.int, 5)) := by decide +kernel
theorem so_6 : ∀ o, o ∈ shL → shF[o + 6]? = some (.inr (.object "FishCounter$Lot", 16)) := by decide +kernel
theorem so_l0 : ∀ o, o ∈ shL → ∀ k, k < 16 → shF[o + 7 + k]? = some (.inl 3) := by decide +kernel
theorem so_l {o k : Nat} (h : o ∈ shL) (hk : k < 16) : shF[o + 7 + k]? = some (.inl 3) := so_l0 o h k hk
theorem so_le : ∀ o, o ∈ shL → o ≤ 165 := by decide +kernel
/-- the references that never change -/
def PF (P : Nat → Nat → Option Nat) : Prop :=
  (P 0 0 = some 1 ∧ P 0 1 = some 24 ∧ P 0 2 = some 47 ∧ P 0 3 = some 48 ∧ P 0 4 = some 188) ∧ P 48 2 = some 49 ∧ (∀ i, i < 6 → P 49 i = some (50 + 23 * i)) ∧ P 188 6 = some 189 ∧
  (P 190 0 = some 191 ∧ P 190 1 = some 192 ∧ P 190 2 = some 193 ∧ P 190 4 = some 194) ∧
  ∀ o, o ∈ shL → P o 11 = some (o + 1) ∧ P o 12 = some (o + 2) ∧ P o 13 = some (o + 3) ∧ P o 14 = some (o + 4) ∧ P o 15 = some (o + 5) ∧ P o 16 = some (o + 6)
section PFS
variable {P : Nat → Nat → Option Nat}
theorem pf_00 (h : PF P) : P 0 0 = some 1 := h.1.1
theorem pf_01 (h : PF P) : P 0 1 = some 24 := h.1.2.1
theorem pf_02 (h : PF P) : P 0 2 = some 47 := h.1.2.2.1
theorem pf_03 (h : PF P) : P 0 3 = some 48 := h.1.2.2.2.1
theorem pf_04 (h : PF P) : P 0 4 = some 188 := h.1.2.2.2.2
theorem pf_h (h : PF P) : P 48 2 = some 49 := h.2.1
theorem pf_hs (h : PF P) {i : Nat} (hi : i < 6) : P 49 i = some (50 + 23 * i) := h.2.2.1 i hi
theorem pf_t (h : PF P) : P 188 6 = some 189 := h.2.2.2.1
theorem pf_m0 (h : PF P) : P 190 0 = some 191 := h.2.2.2.2.1.1
theorem pf_m1 (h : PF P) : P 190 1 = some 192 := h.2.2.2.2.1.2.1
theorem pf_m2 (h : PF P) : P 190 2 = some 193 := h.2.2.2.2.1.2.2.1
theorem pf_m4 (h : PF P) : P 190 4 = some 194 := h.2.2.2.2.1.2.2.2
theorem ps_11 (h : PF P) {o : Nat} (ho : o ∈ shL) : P o 11 = some (o + 1) := (h.2.2.2.2.2 o ho).1
theorem ps_12 (h : PF P) {o : Nat} (ho : o ∈ shL) : P o 12 = some (o + 2) := (h.2.2.2.2.2 o ho).2.1
theorem ps_13 (h : PF P) {o : Nat} (ho : o ∈ shL) : P o 13 = some (o + 3) := (h.2.2.2.2.2 o ho).2.2.1
theorem ps_14 (h : PF P) {o : Nat} (ho : o ∈ shL) : P o 14 = some (o + 4) := (h.2.2.2.2.2 o ho).2.2.2.1
theorem ps_15 (h : PF P) {o : Nat} (ho : o ∈ shL) : P o 15 = some (o + 5) := (h.2.2.2.2.2 o ho).2.2.2.2.1
theorem ps_16 (h : PF P) {o : Nat} (ho : o ∈ shL) : P o 16 = some (o + 6) := (h.2.2.2.2.2 o ho).2.2.2.2.2
end PFS
/-! THE NUMBERS OF A SHOP, as the reference has them in its row: N i is the i-th; lot k has its five from 45 + 5 k on: number, kind, grams, freshness, place (boxes 0 to 5, trays 6 to 10) -/
def uN (N : Nat → Nat) (j v : Nat) : Nat → Nat := fun k => if k = j then v else N k
theorem uN_s {N : Nat → Nat} {j v : Nat} : uN N j v j = v := if_pos rfl
theorem uN_n {N : Nat → Nat} {j v k : Nat} (h : k ≠ j) : uN N j v k = N k := if_neg h
abbrev qL (N : Nat → Nat) (k j : Nat) : Nat := N (45 + 5 * k + j)
/-- the state with the reference's row put to N -/
def wN (σ : KS) (N : Nat → Nat) : KS := wI σ 191 (fun k => nI (N k))
theorem wN_at {σ : KS} {N : Nat → Nat} (j : Nat) : (wN σ N).1 191 j = nI (N j) := by unfold wN; rw [wI_self]
theorem wN_row {σ : KS} {N : Nat → Nat} : (wN σ N).1 191 = fun k => nI (N k) := by unfold wN; rw [wI_self]
theorem wN_ne {σ : KS} {N : Nat → Nat} {a : Nat} (h : a ≠ 191) : (wN σ N).1 a = σ.1 a := wI_ne h
theorem wN_id {σ : KS} {N : Nat → Nat} (h : σ.1 191 = fun k => nI (N k)) : wN σ N = σ := wI_id h
theorem wN_u {σ : KS} {N : Nat → Nat} {j v : Nat} : wI (wN σ N) 191 (upd ((wN σ N).1 191) j (nI v)) = wN σ (uN N j v) := by
  rw [wN_row]
  unfold wN
  rw [wI_wI]
  congr 1
  funext k
  unfold upd uN
  by_cases h : k = j
  · rw [if_pos h, if_pos h]
  · rw [if_neg h, if_neg h]
/-- no lot, or lot k -/
def qO : Option Nat → Int32
  | none => -6
  | some k => nI k
theorem qO_ne {k : Nat} (h : k < 2 ^ 31) : ¬ nI k = (-6 : Int32) := fun q => nI_pos h (by rw [q]; decide)
theorem qO_n {o : Option Nat} (h : ∀ k, o = some k → k < 2 ^ 31) : qO o = (-6) ↔ o = none := by
  cases o with
  | none => exact ⟨fun _ => rfl, fun _ => rfl⟩
  | some k => exact ⟨fun q => absurd q (qO_ne (h k rfl)), fun q => by cases q⟩
def qIn (lo hi : Nat) (v : Int32) : Bool := decide (nI lo ≤ v) && decide (v ≤ nI hi)
theorem qIn_ex {lo hi : Nat} {v : Int32} (hl : lo < 2 ^ 31) (hh : hi < 2 ^ 31) (h : qIn lo hi v = true) : ∃ j, lo ≤ j ∧ j ≤ hi ∧ v = nI j := by
  unfold qIn at h
  rw [Bool.and_eq_true, decide_eq_true_eq, decide_eq_true_eq] at h
  have hv : ¬ v < 0 := Int32.not_lt.mpr (Int32.le_trans (nI_pos' hl) h.1)
  obtain ⟨j, hj, rfl⟩ := nI_of2 (nI_toInt hh) hv h.2
  exact ⟨j, (nI_leI hl (by omega)).mp h.1, hj, rfl⟩
theorem qIn_nI {lo hi j : Nat} (hl : lo < 2 ^ 31) (hh : hi < 2 ^ 31) (hj : j < 2 ^ 31) : qIn lo hi (nI j) = (decide (lo ≤ j) && decide (j ≤ hi)) := by
  unfold qIn
  congr 1
  · exact decide_eq_decide.mpr (nI_leI hl hj)
  · exact decide_eq_decide.mpr (nI_leI hj hh)
def qTray (pl : Nat) : Bool := decide (6 ≤ pl)
/-- where a lot lies, by its number -/
def qF (N : Nat → Nat) (x : Int32) : Nat → Option Nat
  | 0 => none
  | k + 1 => if nI (qL N k 0) = x then some k else qF N x k
/-- lot k goes: the count falls, the lots behind it move down, the last five places become 0 -/
def qD1 (N : Nat → Nat) (k : Nat) : Nat → Nat → Nat
  | 0 => uN N 2 (N 2 - 1)
  | j + 1 => uN (qD1 N k j) (45 + 5 * k + j) (qD1 N k j (45 + 5 * k + j + 5))
def qD2 (N : Nat → Nat) (n : Nat) : Nat → Nat → Nat
  | 0 => N
  | j + 1 => uN (qD2 N n j) (45 + 5 * n + j) 0
def qDrop (N : Nat → Nat) (k : Nat) : Nat → Nat := qD2 (qD1 N k (5 * (N 2 - 1 - k))) (N 2 - 1) 5
theorem qD1_2 (N : Nat → Nat) (k j : Nat) : qD1 N k j 2 = N 2 - 1 := by
  induction j with
  | zero => exact uN_s
  | succ j ih => exact (uN_n (by omega)).trans ih
theorem qD2_2 (N : Nat → Nat) (n j : Nat) : qD2 N n j 2 = N 2 := by
  induction j with
  | zero => rfl
  | succ j ih => exact (uN_n (by omega)).trans ih
def qThrow (N : Nat → Nat) (k : Nat) : Nat → Nat := qDrop (uN N 5 (N 5 + qL N k 2)) k
def qCnt (N : Nat → Nat) (pl : Nat) : Nat → Nat
  | 0 => 0
  | k + 1 => qCnt N pl k + (if qL N k 4 = pl then 1 else 0)
def qFst (N : Nat → Nat) (pl : Nat) : Nat → Option Nat → Option Nat
  | 0, f => f
  | k + 1, f => qFst N pl k (if qL N k 4 = pl then some k else f)
def qPr (N : Nat → Nat) (kd fr h : Nat) : Nat := N (11 + kd) * (50 + fr / 2) / 100 * (100 - N (23 + h)) / 100
def qPrice (N : Nat → Nat) (k : Nat) : Nat := qPr N (qL N k 1) (qL N k 3) (N 1)
def qW (g p : Nat) : Nat := g * p / 1000
def qSold (N : Nat → Nat) (k : Nat) : Bool := decide (N 9 ≤ qL N k 3)
def qAdd (N : Nat → Nat) (kd g fr bx : Nat) : Nat → Nat := uN (uN (uN (uN (uN (uN (uN N 2 (N 2 + 1)) 10 (N 10 + 1)) (45 + 5 * N 2 + 0) (N 10 + 1)) (45 + 5 * N 2 + 1) kd) (45 + 5 * N 2 + 2) g) (45 + 5 * N 2 + 3) fr) (45 + 5 * N 2 + 4) bx
def qRoom (N : Nat → Nat) (bx : Nat) : Int32 := if qCnt N bx (N 2) = 3 then -3 else if N 2 = 16 then -4 else 0
def qDel (N : Nat → Nat) (kd g fr bx : Nat) : Nat → Nat := qAdd (uN (uN N 3 (N 3 + g)) 6 (N 6 + qW g (N (17 + kd)))) kd g fr bx
/-- the lot that is sold next, among the first k -/
def qFits (N : Nat → Nat) (kd fr pr k : Nat) : Bool := decide (qL N k 1 = kd) && (qTray (qL N k 4) && (qSold N k && (decide (fr ≤ qL N k 3) && decide (qPrice N k ≤ pr))))
def qLess (N : Nat → Nat) (k : Nat) : Option Nat → Bool
  | none => true
  | some j => decide (qL N k 3 < qL N j 3)
def qNx (N : Nat → Nat) (kd fr pr : Nat) : Nat → Option Nat
  | 0 => none
  | k + 1 => if qFits N kd fr pr k = true ∧ qLess N k (qNx N kd fr pr k) = true then some k else qNx N kd fr pr k
def qLoss (pl ice : Nat) : Nat := if 6 ≤ pl then (if 0 < ice then 2 else 9) else (if 0 < ice then 1 else 6)
def qMelt (N : Nat → Nat) (pl : Nat) : Nat := if 6 ≤ pl then 2 * N 8 else N 8
def qP1 (N : Nat → Nat) : Nat → Nat → Nat
  | 0 => N
  | k + 1 => uN (qP1 N k) (45 + 5 * k + 3) (qL (qP1 N k) k 3 - qLoss (qL (qP1 N k) k 4) (qP1 N k (34 + qL (qP1 N k) k 4)))
def qP2 (N : Nat → Nat) : Nat → Nat → Nat
  | 0 => N
  | j + 1 => uN (qP2 N j) (34 + j) (qP2 N j (34 + j) - qMelt (qP2 N j) j)
def qPass (N : Nat → Nat) : Nat → Nat := uN (qP2 (qP1 N (N 2)) 11) 1 (N 1 + 1)
def qMore (N : Nat → Nat) (j : Nat) : Option Nat → Bool
  | none => true
  | some f => decide (N (34 + f) < N (34 + j))
/-- the box for the night, among the first j -/
def qCold (N : Nat → Nat) : Nat → Option Nat
  | 0 => none
  | j + 1 => if qCnt N j (N 2) < 3 ∧ qMore N j (qCold N j) = true then some j else qCold N j
def qC1 : Nat → (Nat → Nat) → Nat → Nat
  | 0, N => N
  | k + 1, N => qC1 k (if qSold N k = true then N else qThrow N k)
def qC2s (M : Nat → Nat) (pl : Nat) : Nat → Nat := match qFst M pl (M 2) none with
  | none => M
  | some k => match qCold M 6 with
    | none => qThrow M k
    | some bx => uN M (45 + 5 * k + 4) bx
def qC2 (N : Nat → Nat) : Nat → Nat → Nat
  | 0 => N
  | j + 1 => uN (qC2s (qC2 N j) (6 + j)) (34 + (6 + j)) 0
def qC3 (N : Nat → Nat) : Nat → Nat := qC2 (qC1 (N 2) N) 5
def qClose (N : Nat → Nat) : Nat → Nat := uN (uN (qC3 N) 0 (qC3 N 0 + 1)) 1 0
end
section
/-! the sums, the forecasts, the answers -/
theorem qO_ex {o : Option Nat} (h : ¬ qO o = -6) : ∃ j, o = some j := by
  cases o with
  | none => exact absurd rfl h
  | some j => exact ⟨j, rfl⟩
def qM : Nat → Int32
  | 0 => -1
  | i + 1 => nI i
theorem qM_sub (n : Nat) : nI n - nI 1 = qM n := by
  cases n with
  | zero => decide
  | succ n => rw [pk_sub (by omega)]; rfl
theorem inc_mq (i : Nat) : nI i + Int32.ofInt (-1) = qM i := by
  rw [← qM_sub, show Int32.ofInt (-1) = -nI 1 from by decide +kernel, ← Int32.sub_eq_add_neg]
def qSum (N : Nat → Nat) : Nat → Nat
  | 0 => 0
  | k + 1 => qSum N k + qL N k 2
def qGAt (N : Nat → Nat) (pl : Nat) : Nat → Nat
  | 0 => 0
  | k + 1 => qGAt N pl k + (if qL N k 4 = pl then qL N k 2 else 0)
def qGKd (N : Nat → Nat) (kd : Nat) : Nat → Nat
  | 0 => 0
  | k + 1 => qGKd N kd k + (if qL N k 1 = kd then qL N k 2 else 0)
def qGr (N : Nat → Nat) (k : Nat) : Option Nat → Bool
  | none => true
  | some f => decide (qL N f 3 < qL N k 3)
def qFr (N : Nat → Nat) (kd : Nat) : Nat → Option Nat
  | 0 => none
  | k + 1 => if qL N k 1 = kd ∧ qGr N k (qFr N kd k) = true then some k else qFr N kd k
def qNum (N : Nat → Nat) : Option Nat → Int32
  | none => -6
  | some k => nI (qL N k 0)
def qCount (N : Nat → Nat) (w : Nat) : Nat := if w < 3 then N w else if w = 3 then qSum N (N 2) else N (w - 1)
def qOfLot (N : Nat → Nat) (k w : Nat) : Int32 := if w = 0 then nI (qL N k 1) else if w = 1 then nI (qL N k 2) else if w = 2 then nI (qL N k 3) else if w = 3 then (if qTray (qL N k 4) = true then -6 else nI (qL N k 4)) else if w = 4 then (if qTray (qL N k 4) = true then nI (qL N k 4 - 6) else -6) else if w = 5 then nI (qPrice N k) else nI (qW (qL N k 2) (qPrice N k))
def qOfBox (N : Nat → Nat) (bx w : Nat) : Int32 := if w = 0 then nI (N (34 + bx)) else if w = 1 then nI (qCnt N bx (N 2)) else if w = 2 then nI (qGAt N bx (N 2)) else qNum N (qFst N bx (N 2) none)
def qOfTray (N : Nat → Nat) (t w : Nat) : Int32 := if w = 0 then nI (N (34 + 6 + t)) else qNum N (qFst N (6 + t) (N 2) none)
def qOfKind (N : Nat → Nat) (kd w : Nat) : Int32 := if w = 0 then nI (N (11 + kd)) else if w = 1 then nI (N (17 + kd)) else if w = 2 then nI (qGKd N kd (N 2)) else qNum N (qFr N kd (N 2))
/-- freshness and ice of lot k after some hours -/
def qFI (N : Nat → Nat) (k : Nat) : Nat → Nat × Nat
  | 0 => (qL N k 3, N (34 + qL N k 4))
  | h + 1 => ((qFI N k h).1 - qLoss (qL N k 4) (qFI N k h).2, (qFI N k h).2 - qMelt N (qL N k 4))
def qLf (N : Nat → Nat) (k : Nat) : Nat → Option Nat
  | 0 => none
  | h + 1 => if N 9 ≤ (qFI N k h).1 then some h else qLf N k h
def qWat (N : Nat → Nat) (k j : Nat) : Nat := qW (qL N k 2) (qPr N (qL N k 1) (qFI N k j).1 (N 1 + j))
/-- the best hour among the first j from the current one, and what all costs then -/
def qBt (w h : Nat) : Option (Nat × Nat) → Option (Nat × Nat)
  | none => some (h, w)
  | some q => if q.2 < w then some (h, w) else some q
def qBs (N : Nat → Nat) (k : Nat) : Nat → Option (Nat × Nat)
  | 0 => none
  | j + 1 => qBt (qWat N k j) (N 1 + j) (qBs N k j)
def qPs (N : Nat → Nat) : Nat → Nat → Nat
  | 0 => N
  | j + 1 => qPass (qPs N j)
def qIfC (N : Nat → Nat) (hs : Nat) : Nat := qClose (qPs N (min hs (10 - N 1))) 5 - N 5
def qWorth (N : Nat → Nat) : Nat → Nat
  | 0 => 0
  | k + 1 => qWorth N k + (if qSold N k = true then qW (qL N k 2) (qPrice N k) else 0)
/-! what is in range -/
def qIr (N : Nat → Nat) : Prop :=
  N 0 ≤ 999 ∧ N 1 ≤ 10 ∧ N 2 ≤ 16 ∧ N 8 ≤ 500 ∧ N 9 ≤ 100 ∧ (∀ k, k < 6 → 1 ≤ N (11 + k) ∧ N (11 + k) ≤ 9999) ∧ (∀ k, k < 6 → 1 ≤ N (17 + k) ∧ N (17 + k) ≤ 9999) ∧ (∀ k, k < 11 → N (23 + k) ≤ 90) ∧ (∀ k, k < 11 → N (34 + k) ≤ 5000) ∧
  ∀ k, k < N 2 → qL N k 1 < 6 ∧ (1 ≤ qL N k 2 ∧ qL N k 2 ≤ 20000) ∧ qL N k 3 ≤ 100 ∧ qL N k 4 < 11
section QIR
variable {N : Nat → Nat}
theorem qi_0 (h : qIr N) : N 0 ≤ 999 := h.1
theorem qi_1 (h : qIr N) : N 1 ≤ 10 := h.2.1
theorem qi_2 (h : qIr N) : N 2 ≤ 16 := h.2.2.1
theorem qi_8 (h : qIr N) : N 8 ≤ 500 := h.2.2.2.1
theorem qi_9 (h : qIr N) : N 9 ≤ 100 := h.2.2.2.2.1
theorem qi_p (h : qIr N) {k : Nat} (hk : k < 6) : N (11 + k) ≤ 9999 := (h.2.2.2.2.2.1 k hk).2
theorem qi_c (h : qIr N) {k : Nat} (hk : k < 6) : N (17 + k) ≤ 9999 := (h.2.2.2.2.2.2.1 k hk).2
theorem qi_t (h : qIr N) {k : Nat} (hk : k < 11) : N (23 + k) ≤ 90 := h.2.2.2.2.2.2.2.1 k hk
theorem qi_i (h : qIr N) {k : Nat} (hk : k < 11) : N (34 + k) ≤ 5000 := h.2.2.2.2.2.2.2.2.1 k hk
theorem qi_l1 (h : qIr N) {k : Nat} (hk : k < N 2) : qL N k 1 < 6 := (h.2.2.2.2.2.2.2.2.2 k hk).1
theorem qi_l2 (h : qIr N) {k : Nat} (hk : k < N 2) : qL N k 2 ≤ 20000 := (h.2.2.2.2.2.2.2.2.2 k hk).2.1.2
theorem qi_l2p (h : qIr N) {k : Nat} (hk : k < N 2) : 1 ≤ qL N k 2 := (h.2.2.2.2.2.2.2.2.2 k hk).2.1.1
theorem qi_l3 (h : qIr N) {k : Nat} (hk : k < N 2) : qL N k 3 ≤ 100 := (h.2.2.2.2.2.2.2.2.2 k hk).2.2.1
theorem qi_l4 (h : qIr N) {k : Nat} (hk : k < N 2) : qL N k 4 < 11 := (h.2.2.2.2.2.2.2.2.2 k hk).2.2.2
end QIR
theorem qPr_le {N : Nat → Nat} {kd fr h : Nat} (hp : N (11 + kd) ≤ 9999) (hf : fr ≤ 100) : qPr N kd fr h ≤ 9999 := by
  have h0 := Nat.mul_le_mul hp (show 50 + fr / 2 ≤ 100 from by omega)
  have h1 := Nat.mul_le_mul (show N (11 + kd) * (50 + fr / 2) / 100 ≤ 9999 from by omega) (show 100 - N (23 + h) ≤ 100 from by omega)
  unfold qPr
  omega
theorem qPrice_le {N : Nat → Nat} (h : qIr N) {k : Nat} (hk : k < N 2) : qPrice N k ≤ 9999 := qPr_le (qi_p h (qi_l1 h hk)) (qi_l3 h hk)
theorem qW_b {g q : Nat} (hg : g ≤ 20000) (hq : q ≤ 9999) : g * q < 2 ^ 31 := by
  have := Nat.mul_le_mul hg hq
  omega
theorem qW_le {g q : Nat} (hg : g ≤ 20000) (hq : q ≤ 9999) : qW g q ≤ 199980 := by
  have := Nat.mul_le_mul hg hq
  unfold qW
  omega
theorem qF_lt {N : Nat → Nat} {x : Int32} {n j : Nat} (h : qF N x n = some j) : j < n := by
  induction n with
  | zero => cases h
  | succ n ih =>
    unfold qF at h
    split at h
    · cases h; omega
    · have := ih h; omega
theorem qFst_lt {N : Nat → Nat} {pl n j : Nat} {f : Option Nat} {B : Nat} (h : qFst N pl n f = some j) (hn : n ≤ B) (hf : ∀ q, f = some q → q < B) : j < B := by
  induction n generalizing f with
  | zero => exact hf j h
  | succ n ih =>
    refine ih h (by omega) (fun q hq => ?_)
    split at hq
    · cases hq; omega
    · exact hf q hq
theorem qNx_lt {N : Nat → Nat} {kd fr pr n j : Nat} (h : qNx N kd fr pr n = some j) : j < n := by
  induction n with
  | zero => cases h
  | succ n ih =>
    unfold qNx at h
    split at h
    · cases h; omega
    · have := ih h; omega
theorem qFr_lt {N : Nat → Nat} {kd n j : Nat} (h : qFr N kd n = some j) : j < n := by
  induction n with
  | zero => cases h
  | succ n ih =>
    unfold qFr at h
    split at h
    · cases h; omega
    · have := ih h; omega
theorem qCold_lt {N : Nat → Nat} {n j : Nat} (h : qCold N n = some j) : j < n := by
  induction n with
  | zero => cases h
  | succ n ih =>
    unfold qCold at h
    split at h
    · cases h; omega
    · have := ih h; omega
theorem qCnt_le (N : Nat → Nat) (pl n : Nat) : qCnt N pl n ≤ n := by
  induction n with
  | zero => exact Nat.le_refl 0
  | succ n ih => unfold qCnt; split <;> omega
theorem qFI_le (N : Nat → Nat) (k h : Nat) : (qFI N k h).1 ≤ qL N k 3 ∧ (qFI N k h).2 ≤ N (34 + qL N k 4) := by
  induction h with
  | zero => exact ⟨Nat.le_refl _, Nat.le_refl _⟩
  | succ h ih => exact ⟨by unfold qFI; show _ - _ ≤ _; omega, by unfold qFI; show _ - _ ≤ _; omega⟩
theorem qSum_le {N : Nat → Nat} (h : qIr N) {n : Nat} (hn : n ≤ N 2) : qSum N n ≤ 20000 * n := by
  induction n with
  | zero => exact Nat.le_refl 0
  | succ n ih => have := ih (by omega); have := qi_l2 h (show n < N 2 from hn); unfold qSum; omega
theorem qGAt_le {N : Nat → Nat} (h : qIr N) {pl n : Nat} (hn : n ≤ N 2) : qGAt N pl n ≤ 20000 * n := by
  induction n with
  | zero => exact Nat.le_refl 0
  | succ n ih => have := ih (by omega); have := qi_l2 h (show n < N 2 from hn); unfold qGAt; split <;> omega
theorem qGKd_le {N : Nat → Nat} (h : qIr N) {kd n : Nat} (hn : n ≤ N 2) : qGKd N kd n ≤ 20000 * n := by
  induction n with
  | zero => exact Nat.le_refl 0
  | succ n ih => have := ih (by omega); have := qi_l2 h (show n < N 2 from hn); unfold qGKd; split <;> omega
theorem qTray_t {pl : Nat} (h : qTray pl = true) : 6 ≤ pl := of_decide_eq_true h
theorem qTray_f {pl : Nat} (h : qTray pl = false) : ¬ 6 ≤ pl := of_decide_eq_false h
theorem qMelt_t {N : Nat → Nat} {pl : Nat} (h : qTray pl = true) : qMelt N pl = 2 * N 8 := if_pos (qTray_t h)
theorem qMelt_f {N : Nat → Nat} {pl : Nat} (h : qTray pl = false) : qMelt N pl = N 8 := if_neg (qTray_f h)
theorem qLoss_le (pl ice : Nat) : qLoss pl ice ≤ 9 := by unfold qLoss; split <;> split <;> omega
theorem kDif_ge {a c : Nat} (ha : a < 2 ^ 30) (hc : c < 2 ^ 30) (h : 0 ≤ nI a - nI c) : c ≤ a := by
  rcases Nat.lt_or_ge a c with q | q
  · exact absurd (pk_sneg hc q) (Int32.not_lt.mpr h)
  · exact q
theorem kDif_lt {a c : Nat} (ha : a < 2 ^ 30) (hc : c < 2 ^ 30) (h : ¬ 0 ≤ nI a - nI c) : a < c := by
  rcases Nat.lt_or_ge a c with q | q
  · exact q
  · exact absurd (by rw [pk_sub q]; exact nI_pos' (by omega)) h
def qHf : Option (Nat × Nat) → Int32
  | none => -6
  | some q => nI q.1
def qHm : Option (Nat × Nat) → Int32
  | none => -6
  | some q => nI q.2
theorem qB_le {w h : Nat} {o : Option (Nat × Nat)} (hw : w < 2 ^ 31) (hq : ∀ q, o = some q → q.2 < 2 ^ 31) (c : nI w ≤ qHm o) : qBt w h o = o := by
  cases o with
  | none => exact absurd (Int32.lt_of_le_of_lt c (show (-6 : Int32) < 0 from by decide)) (nI_pos hw)
  | some q => exact if_neg (by have := (nI_leI hw (hq q rfl)).mp c; omega)
theorem qB_gt {w h : Nat} {o : Option (Nat × Nat)} (hw : w < 2 ^ 31) (hq : ∀ q, o = some q → q.2 < 2 ^ 31) (c : ¬ nI w ≤ qHm o) : qBt w h o = some (h, w) := by
  cases o with
  | none => rfl
  | some q => exact if_pos (by rcases Nat.lt_or_ge q.2 w with z | z; exact z; exact absurd ((nI_leI hw (hq q rfl)).mpr z) c)
theorem qBs_b {N : Nat → Nat} (hI : qIr N) {k : Nat} (hk : k < N 2) {j : Nat} {q : Nat × Nat} (h : qBs N k j = some q) : q.2 ≤ 199980 ∧ q.1 < N 1 + j := by
  induction j generalizing q with
  | zero => cases h
  | succ j ih =>
    have hw : qWat N k j ≤ 199980 := qW_le (qi_l2 hI hk) (qPr_le (qi_p hI (qi_l1 hI hk)) (Nat.le_trans (qFI_le N k j).1 (qi_l3 hI hk)))
    unfold qBs at h
    cases ho : qBs N k j with
    | none => rw [ho] at h; cases h; exact ⟨hw, by show N 1 + j < _; omega⟩
    | some r =>
      rw [ho] at h
      have := ih ho
      unfold qBt at h
      dsimp only at h
      split at h
      · cases h; exact ⟨hw, by show N 1 + j < _; omega⟩
      · cases h; exact ⟨this.1, by omega⟩
/-! the answers of the public methods, for any arguments -/
def aCount (N : Nat → Nat) (v : Int32) : Int64 := if qIn 0 10 v = true then lN (qCount N v.toNatClampNeg) else -2
def aOf (N : Nat → Nat) (x : Int32) (f : Nat → Int32) : Int32 := match qF N x (N 2) with
  | none => -1
  | some k => f k
def aLot (N : Nat → Nat) (x w : Int32) : Int32 := aOf N x (fun k => if qIn 0 6 w = true then qOfLot N k w.toNatClampNeg else -2)
def aBox (N : Nat → Nat) (x w : Int32) : Int32 := if qIn 0 5 x = true then (if qIn 0 3 w = true then qOfBox N x.toNatClampNeg w.toNatClampNeg else -2) else -1
def aTray (N : Nat → Nat) (x w : Int32) : Int32 := if qIn 0 4 x = true then (if qIn 0 1 w = true then qOfTray N x.toNatClampNeg w.toNatClampNeg else -2) else -1
def aKind (N : Nat → Nat) (x w : Int32) : Int32 := if qIn 0 5 x = true then (if qIn 0 3 w = true then qOfKind N x.toNatClampNeg w.toNatClampNeg else -2) else -1
def aCut (N : Nat → Nat) (x : Int32) : Int32 := if qIn 0 10 x = true then nI (N (23 + x.toNatClampNeg)) else -1
def aFresh (N : Nat → Nat) (x w : Int32) : Int32 := aOf N x (fun k => if qIn 0 100 w = true then nI (qFI N k w.toNatClampNeg).1 else -2)
def aLeft (N : Nat → Nat) (x : Int32) : Int32 := aOf N x (fun k => qO (qLf N k 101))
def aBest (N : Nat → Nat) (x : Int32) : Int32 := aOf N x (fun k => qHf (qBs N k (11 - N 1)))
theorem aOf_n {N : Nat → Nat} {x : Int32} {f : Nat → Int32} (h : qF N x (N 2) = none) : aOf N x f = -1 := by unfold aOf; rw [h]
theorem aOf_s {N : Nat → Nat} {x : Int32} {f : Nat → Int32} {k : Nat} (h : qF N x (N 2) = some k) : aOf N x f = f k := by unfold aOf; rw [h]
theorem qI_t {lo hi j : Nat} {α : Type} {f : Nat → α} {y : α} (h : qIn lo hi (nI j) = true) (hj : j < 2 ^ 31) : (if qIn lo hi (nI j) = true then f (nI j).toNatClampNeg else y) = f j := by rw [if_pos h, nI_clamp hj]
theorem qI_f {lo hi : Nat} {v : Int32} {α : Type} {x y : α} (h : qIn lo hi v = false) : (if qIn lo hi v = true then x else y) = y := by rw [if_neg (by rw [h]; decide)]
theorem qF_no {N : Nat → Nat} {x : Int32} (h2 : N 2 ≤ 16) (h : qO (qF N x (N 2)) = -6) : qF N x (N 2) = none := (qO_n (fun j hj => by have := qF_lt hj; omega)).mp h
theorem qOfLot_3 (N : Nat → Nat) (k : Nat) : qOfLot N k 3 = if qTray (qL N k 4) = true then -6 else nI (qL N k 4) := rfl
theorem qOfLot_4 (N : Nat → Nat) (k : Nat) : qOfLot N k 4 = if qTray (qL N k 4) = true then nI (qL N k 4 - 6) else -6 := rfl
end
section
/-! THE REFERENCE: its small methods -/
theorem kw1 {v lo hi : Int32} (h1 : ¬ v < lo) (h2 : ¬ hi < v) : kB true = kB (decide (lo ≤ v) && decide (v ≤ hi)) := by rw [decide_eq_true (Int32.not_lt.mp h1), decide_eq_true (Int32.not_lt.mp h2)]; rfl
theorem kw2 {v lo hi : Int32} (h1 : v < lo) : kB false = kB (decide (lo ≤ v) && decide (v ≤ hi)) := by rw [decide_eq_false (fun q => Int32.not_lt.mpr q h1)]; rfl
theorem kw3 {v lo hi : Int32} (h2 : hi < v) : kB false = kB (decide (lo ≤ v) && decide (v ≤ hi)) := by rw [decide_eq_false (p := v ≤ hi) (fun q => Int32.not_lt.mpr q h2), Bool.and_false]
set_option maxHeartbeats 4000000 in
set_option maxRecDepth 100000 in
theorem c_X6_within (l : Launch) (D : KD) (b : Nat) (σ : KS) (v lo hi : Int32) : Ct l D b yX6_within cX6_within 3 (some .boolean) (rM 0 0) 0 0 [.int v, .int lo, .int hi] shF σ shF (pE (some (.int (kB (decide (lo ≤ v) && decide (v ≤ hi))))) σ) := by
  refine Ct.of (ls := [(0, .int v), (1, .int lo), (2, .int hi)]) (by decide) (Nat.le_of_ble_eq_true rfl) rfl ?_
  intro p e s m args below meth c Q hQ X hnm
  refine K_iload_n X 0 dX6_within_0 rfl rfl ?_
  refine K_iload_n X 1 dX6_within_1 rfl rfl ?_
  refine K_icmp_lt (tgt := 14) X dX6_within_2 (by decide) (fun c2 => ?_) (fun c2 => ?_)
  · refine K_iconst X dX6_within_14 cii_0 ?_
    exact K_zret X false rfl hQ dX6_within_15 (⟨congrArg (fun z => some (Value.int z)) (kw2 c2), rfl⟩)
  · refine K_iload_n X 0 dX6_within_5 rfl rfl ?_
    refine K_iload_n X 2 dX6_within_6 rfl rfl ?_
    refine K_icmp_gt (tgt := 14) X dX6_within_7 (by decide) (fun c7 => ?_) (fun c7 => ?_)
    · refine K_iconst X dX6_within_14 cii_0 ?_
      exact K_zret X false rfl hQ dX6_within_15 (⟨congrArg (fun z => some (Value.int z)) (kw3 c7), rfl⟩)
    · refine K_iconst X dX6_within_10 cii_1 ?_
      refine K_goto (tgt := 15) X dX6_within_11 (by decide) ?_
      exact K_zret X true rfl hQ dX6_within_15 (⟨congrArg (fun z => some (Value.int z)) (kw1 c2 c7), rfl⟩)

theorem c_X6_withinQ (l : Launch) (D : KD) (b : Nat) (σ : KS) (v : Int32) (lo hi : Nat) : Ct l D b yX6_within cX6_within 3 (some .boolean) (rM 0 0) 0 0 [.int v, .int (nI lo), .int (nI hi)] shF σ shF (pE (some (.int (kB (qIn lo hi v)))) σ) := c_X6_within l D b σ v (nI lo) (nI hi)

set_option maxHeartbeats 4000000 in
set_option maxRecDepth 100000 in
theorem c_X6_isKind (l : Launch) (D : KD) (b : Nat) (σ : KS) (v : Int32) : Ct l D b yX6_isKind cX6_isKind 1 (some .boolean) (rM 1 22) 0 0 [.int v] shF σ shF (pE (some (.int (kB (qIn 0 5 v)))) σ) := by
  refine Ct.of (ls := [(0, .int v)]) (by decide) (Nat.le_of_ble_eq_true rfl) rfl ?_
  intro p e s m args below meth c Q hQ X hnm
  refine K_iload_n X 0 dX6_isKind_0 rfl rfl ?_
  refine K_iconst X dX6_isKind_1 cii_0 ?_
  refine K_iconst X dX6_isKind_2 cii_5 ?_
  refine K_callSE X (c_X6_withinQ l D b _ _ _ _) my_X6_within wt_X6_within wm_X6_38 ⟨rfl, rfl, Nat.le_of_ble_eq_true rfl, Nat.le_of_ble_eq_true rfl, Nat.le_of_ble_eq_true rfl, Nat.le_of_ble_eq_true rfl⟩ rfl rfl (Nat.le_of_ble_eq_true rfl) dX6_isKind_3 ?_
  exact K_zret X _ rfl hQ dX6_isKind_6 (⟨rfl, rfl⟩)

set_option maxHeartbeats 4000000 in
set_option maxRecDepth 100000 in
theorem c_X6_isBox (l : Launch) (D : KD) (b : Nat) (σ : KS) (v : Int32) : Ct l D b yX6_isBox cX6_isBox 1 (some .boolean) (rM 1 22) 0 0 [.int v] shF σ shF (pE (some (.int (kB (qIn 0 5 v)))) σ) := by
  refine Ct.of (ls := [(0, .int v)]) (by decide) (Nat.le_of_ble_eq_true rfl) rfl ?_
  intro p e s m args below meth c Q hQ X hnm
  refine K_iload_n X 0 dX6_isBox_0 rfl rfl ?_
  refine K_iconst X dX6_isBox_1 cii_0 ?_
  refine K_iconst X dX6_isBox_2 cii_5 ?_
  refine K_callSE X (c_X6_withinQ l D b _ _ _ _) my_X6_within wt_X6_within wm_X6_38 ⟨rfl, rfl, Nat.le_of_ble_eq_true rfl, Nat.le_of_ble_eq_true rfl, Nat.le_of_ble_eq_true rfl, Nat.le_of_ble_eq_true rfl⟩ rfl rfl (Nat.le_of_ble_eq_true rfl) dX6_isBox_3 ?_
  exact K_zret X _ rfl hQ dX6_isBox_6 (⟨rfl, rfl⟩)

set_option maxHeartbeats 4000000 in
set_option maxRecDepth 100000 in
theorem c_X6_isTray (l : Launch) (D : KD) (b : Nat) (σ : KS) (v : Int32) : Ct l D b yX6_isTray cX6_isTray 1 (some .boolean) (rM 1 22) 0 0 [.int v] shF σ shF (pE (some (.int (kB (qIn 0 4 v)))) σ) := by
  refine Ct.of (ls := [(0, .int v)]) (by decide) (Nat.le_of_ble_eq_true rfl) rfl ?_
  intro p e s m args below meth c Q hQ X hnm
  refine K_iload_n X 0 dX6_isTray_0 rfl rfl ?_
  refine K_iconst X dX6_isTray_1 cii_0 ?_
  refine K_iconst X dX6_isTray_2 cii_4 ?_
  refine K_callSE X (c_X6_withinQ l D b _ _ _ _) my_X6_within wt_X6_within wm_X6_38 ⟨rfl, rfl, Nat.le_of_ble_eq_true rfl, Nat.le_of_ble_eq_true rfl, Nat.le_of_ble_eq_true rfl, Nat.le_of_ble_eq_true rfl⟩ rfl rfl (Nat.le_of_ble_eq_true rfl) dX6_isTray_3 ?_
  exact K_zret X _ rfl hQ dX6_isTray_6 (⟨rfl, rfl⟩)

set_option maxHeartbeats 4000000 in
set_option maxRecDepth 100000 in
theorem c_X6_isHour (l : Launch) (D : KD) (b : Nat) (σ : KS) (v : Int32) : Ct l D b yX6_isHour cX6_isHour 1 (some .boolean) (rM 1 22) 0 0 [.int v] shF σ shF (pE (some (.int (kB (qIn 0 10 v)))) σ) := by
  refine Ct.of (ls := [(0, .int v)]) (by decide) (Nat.le_of_ble_eq_true rfl) rfl ?_
  intro p e s m args below meth c Q hQ X hnm
  refine K_iload_n X 0 dX6_isHour_0 rfl rfl ?_
  refine K_iconst X dX6_isHour_1 cii_0 ?_
  refine K_bipush X dX6_isHour_2 cib_10 ?_
  refine K_callSE X (c_X6_withinQ l D b _ _ _ _) my_X6_within wt_X6_within wm_X6_38 ⟨rfl, rfl, Nat.le_of_ble_eq_true rfl, Nat.le_of_ble_eq_true rfl, Nat.le_of_ble_eq_true rfl, Nat.le_of_ble_eq_true rfl⟩ rfl rfl (Nat.le_of_ble_eq_true rfl) dX6_isHour_4 ?_
  exact K_zret X _ rfl hQ dX6_isHour_7 (⟨rfl, rfl⟩)

set_option maxHeartbeats 4000000 in
set_option maxRecDepth 100000 in
theorem c_X6_isTrayPlace (l : Launch) (D : KD) (b : Nat) (σ : KS) (v : Nat) (hv : v < 2 ^ 31) : Ct l D b yX6_isTrayPlace cX6_isTrayPlace 1 (some .boolean) (rM 0 0) 0 0 [.int (nI v)] shF σ shF (pE (some (.int (kB (qTray v)))) σ) := by
  refine Ct.of (ls := [(0, .int (nI v))]) (by decide) (Nat.le_of_ble_eq_true rfl) rfl ?_
  intro p e s m args below meth c Q hQ X hnm
  refine K_iload_n X 0 dX6_isTrayPlace_0 rfl rfl ?_
  refine K_bipush X dX6_isTrayPlace_1 cib_6 ?_
  refine K_icmpN_lt (tgt := 10) X dX6_isTrayPlace_3 (by decide) (by omega) (by decide) (fun c3 => ?_) (fun c3 => ?_)
  · refine K_iconst X dX6_isTrayPlace_10 cii_0 ?_
    exact K_zret X false rfl hQ dX6_isTrayPlace_11 (⟨by rw [show qTray v = false from by unfold qTray; simp; omega], rfl⟩)
  · refine K_iconst X dX6_isTrayPlace_6 cii_1 ?_
    refine K_goto (tgt := 11) X dX6_isTrayPlace_7 (by decide) ?_
    exact K_zret X true rfl hQ dX6_isTrayPlace_11 (⟨by rw [show qTray v = true from by unfold qTray; simp; omega], rfl⟩)

set_option maxHeartbeats 4000000 in
set_option maxRecDepth 100000 in
theorem c_X6_part (l : Launch) (D : KD) (b : Nat) (σ : KS) (N : Nat → Nat) (k w : Nat) (hP : PF σ.2.2) (hk : 45 + 5 * k + w < 125) : Ct l D b yX6_part cX6_part 3 (some .int) (rM 0 0) 0 0 [rf b 190, .int (nI k), .int (nI w)] shF (wN σ N) shF (pE (some (.int (nI (qL N k w)))) (wN σ N)) := by
  refine Ct.of (ls := [(0, rf b 190), (1, .int (nI k)), (2, .int (nI w))]) (by decide) (Nat.le_of_ble_eq_true rfl) rfl ?_
  intro p e s m args below meth c Q hQ X hnm
  refine K_aload_n X 0 dX6_part_0 rfl rfl ?_
  refine K_get X 0 kFd6 rfl (by decide) sf_m wf_X6_7 rfl (v := rf b (191)) (kv_a (pf_m0 hP)) dX6_part_1 ?_
  refine K_bipush X dX6_part_4 cib_45 ?_
  refine K_iconst X dX6_part_6 cii_5 ?_
  refine K_iload_n X 1 dX6_part_7 rfl rfl ?_
  refine K_imulN X dX6_part_8 ?_
  refine K_iaddN X dX6_part_9 ?_
  refine K_iload_n X 2 dX6_part_10 rfl rfl ?_
  refine K_iaddN X dX6_part_11 ?_
  refine K_iald X _ sf_ms rfl (by omega) (by decide) (wN_at _) dX6_part_12 ?_
  exact K_iret X hQ dX6_part_13 (⟨rfl, rfl⟩)

set_option maxHeartbeats 4000000 in
set_option maxRecDepth 100000 in
theorem c_X6_setPart (l : Launch) (D : KD) (b : Nat) (σ : KS) (N : Nat → Nat) (k w v : Nat) (hP : PF σ.2.2) (hk : 45 + 5 * k + w < 125) : Ct l D b yX6_setPart cX6_setPart 4 none (rM 0 0) 0 0 [rf b 190, .int (nI k), .int (nI w), .int (nI v)] shF (wN σ N) shF (pE none (wN σ (uN N (45 + 5 * k + w) v))) := by
  refine Ct.of (ls := [(0, rf b 190), (1, .int (nI k)), (2, .int (nI w)), (3, .int (nI v))]) (by decide) (Nat.le_of_ble_eq_true rfl) rfl ?_
  intro p e s m args below meth c Q hQ X hnm
  refine K_aload_n X 0 dX6_setPart_0 rfl rfl ?_
  refine K_get X 0 kFd6 rfl (by decide) sf_m wf_X6_7 rfl (v := rf b (191)) (kv_a (pf_m0 hP)) dX6_setPart_1 ?_
  refine K_bipush X dX6_setPart_4 cib_45 ?_
  refine K_iconst X dX6_setPart_6 cii_5 ?_
  refine K_iload_n X 1 dX6_setPart_7 rfl rfl ?_
  refine K_imulN X dX6_setPart_8 ?_
  refine K_iaddN X dX6_setPart_9 ?_
  refine K_iload_n X 2 dX6_setPart_10 rfl rfl ?_
  refine K_iaddN X dX6_setPart_11 ?_
  refine K_iload_n X 3 dX6_setPart_12 rfl rfl ?_
  refine K_iast X _ sf_ms rfl (by omega) (by decide) dX6_setPart_13 ?_
  refine K_st wN_u ?_
  exact K_vret X hQ dX6_setPart_14 (⟨rfl, rfl⟩)

set_option maxHeartbeats 4000000 in
set_option maxRecDepth 100000 in
theorem c_X6_find (l : Launch) (D : KD) (b : Nat) (σ : KS) (N : Nat → Nat) (x : Int32) (hP : PF σ.2.2) (h2 : N 2 ≤ 16) : Ct l D b yX6_find cX6_find 4 (some .int) (rM 1 22) 0 0 [rf b 190, .int x] shF (wN σ N) shF (pE (some (.int (qO (qF N x (N 2))))) (wN σ N)) := by
  refine Ct.of (ls := [(0, rf b 190), (1, .int x)]) (by decide) (Nat.le_of_ble_eq_true rfl) rfl ?_
  intro p e s m args below meth c Q hQ X hnm
  refine K_bipush X dX6_find_0 cib_m6 ?_
  refine K_istore_n X (ls' := [(2, _), (0, _), (1, _)]) dX6_find_2 rfl (by decide) rfl ?_
  refine K_iconst X dX6_find_3 cii_0 ?_
  refine K_istore_n X (ls' := [(3, _), (2, _), (0, _), (1, _)]) dX6_find_4 rfl (by decide) rfl ?_
  have loop : ∀ i : Nat, i ≤ N 2 → K p l e (rM 1 22) s m args below meth c Q D b 4 0 0 shF (wN σ N) 5 [(0, rf b 190), (1, .int x), (2, .int (qO (qF N x i))), (3, .int (nI i))] [] := by
    refine kup (fun i hi ih => ?_)
    refine K_iload_n X 3 dX6_find_5 rfl rfl ?_
    refine K_aload_n X 0 dX6_find_6 rfl rfl ?_
    refine K_get X 0 kFd6 rfl (by decide) sf_m wf_X6_7 rfl (v := rf b (191)) (kv_a (pf_m0 hP)) dX6_find_7 ?_
    refine K_iconst X dX6_find_10 cii_2 ?_
    refine K_iald X _ sf_ms rfl (by omega) (by decide) (wN_at _) dX6_find_11 ?_
    refine K_icmpN_ge (tgt := 37) X dX6_find_12 (by decide) (by omega) (by omega) (fun c12 => ?_) (fun c12 => ?_)
    · refine K_iload_n X 2 dX6_find_37 rfl rfl ?_
      exact K_iret X hQ dX6_find_38 (⟨by rw [show i = N 2 from by omega], rfl⟩)
    · refine K_aload_n X 0 dX6_find_15 rfl rfl ?_
      refine K_iload_n X 3 dX6_find_16 rfl rfl ?_
      refine K_iconst X dX6_find_17 cii_0 ?_
      refine K_callVE X (c_X6_part l D b _ _ _ _ hP (by omega)) my_X6_part mv_X6_part wm_X6_30 sf_m rfl ⟨rfl, rfl, Nat.le_of_ble_eq_true rfl, Nat.le_of_ble_eq_true rfl, Nat.le_of_ble_eq_true rfl, Nat.le_of_ble_eq_true rfl⟩ rfl rfl (Nat.le_of_ble_eq_true rfl) dX6_find_18 ?_
      refine K_iload_n X 1 dX6_find_21 rfl rfl ?_
      refine K_icmp_ne (tgt := 29) X dX6_find_22 (by decide) (fun c22 => ?_) (fun c22 => ?_)
      · refine K_iload_n X 2 dX6_find_29 rfl rfl ?_
        refine K_istore_n X (ls' := [(2, _), (0, _), (1, _), (3, _)]) dX6_find_30 rfl (by decide) rfl ?_
        refine K_iinc X 3 (ls' := [(3, _), (2, _), (0, _), (1, _)]) dX6_find_31 rfl (inc_1 _) (by decide) rfl ?_
        refine K_goto (tgt := 5) X dX6_find_34 (by decide) ?_
        rw [show qF N x (i + 1) = qF N x i from if_neg c22] at ih
        exact K_sub [2, 3, 1, 0] rfl (ih (by omega))
      · refine K_iload_n X 3 dX6_find_25 rfl rfl ?_
        refine K_goto (tgt := 30) X dX6_find_26 (by decide) ?_
        refine K_istore_n X (ls' := [(2, _), (0, _), (1, _), (3, _)]) dX6_find_30 rfl (by decide) rfl ?_
        refine K_iinc X 3 (ls' := [(3, _), (2, _), (0, _), (1, _)]) dX6_find_31 rfl (inc_1 _) (by decide) rfl ?_
        refine K_goto (tgt := 5) X dX6_find_34 (by decide) ?_
        rw [show qF N x (i + 1) = some i from if_pos c22] at ih
        exact K_sub [2, 3, 1, 0] rfl (ih (by omega))
  exact K_sub [2, 3, 1, 0] rfl (loop 0 (Nat.zero_le _))

set_option maxHeartbeats 4000000 in
set_option maxRecDepth 100000 in
theorem c_X6_priceWith (l : Launch) (D : KD) (b : Nat) (σ : KS) (N : Nat → Nat) (kd fr h : Nat) (hP : PF σ.2.2) (h1 : kd < 6) (h2 : fr ≤ 100) (h3 : h < 11) (hp : N (11 + kd) ≤ 9999) (hc : N (23 + h) ≤ 90) : Ct l D b yX6_priceWith cX6_priceWith 5 (some .int) (rM 0 0) 0 0 [rf b 190, .int (nI kd), .int (nI fr), .int (nI h)] shF (wN σ N) shF (pE (some (.int (nI (qPr N kd fr h)))) (wN σ N)) := by
  have hb0 := Nat.mul_le_mul hp (show 50 + fr / 2 ≤ 100 from by omega)
  have hb1 : N (11 + kd) * (50 + fr / 2) < 2 ^ 31 := by omega
  have hb3 := Nat.mul_le_mul (show N (11 + kd) * (50 + fr / 2) / 100 ≤ 9999 from by omega) (show 100 - N (23 + h) ≤ 100 from by omega)
  have hb2 : N (11 + kd) * (50 + fr / 2) / 100 * (100 - N (23 + h)) < 2 ^ 31 := by omega
  refine Ct.of (ls := [(0, rf b 190), (1, .int (nI kd)), (2, .int (nI fr)), (3, .int (nI h))]) (by decide) (Nat.le_of_ble_eq_true rfl) rfl ?_
  intro p e s m args below meth c Q hQ X hnm
  refine K_aload_n X 0 dX6_priceWith_0 rfl rfl ?_
  refine K_get X 0 kFd6 rfl (by decide) sf_m wf_X6_7 rfl (v := rf b (191)) (kv_a (pf_m0 hP)) dX6_priceWith_1 ?_
  refine K_bipush X dX6_priceWith_4 cib_11 ?_
  refine K_iload_n X 1 dX6_priceWith_6 rfl rfl ?_
  refine K_iaddN X dX6_priceWith_7 ?_
  refine K_iald X _ sf_ms rfl (by omega) (by decide) (wN_at _) dX6_priceWith_8 ?_
  refine K_bipush X dX6_priceWith_9 cib_50 ?_
  refine K_iload_n X 2 dX6_priceWith_11 rfl rfl ?_
  refine K_iconst X dX6_priceWith_12 cii_2 ?_
  refine K_idivN X dX6_priceWith_13 (by omega) (by decide) (by decide) ?_
  refine K_iaddN X dX6_priceWith_14 ?_
  refine K_imulN X dX6_priceWith_15 ?_
  refine K_bipush X dX6_priceWith_16 cib_100 ?_
  refine K_idivN X dX6_priceWith_18 (by exact hb1) (by decide) (by decide) ?_
  refine K_istore X (ls' := [(4, _), (0, _), (1, _), (2, _), (3, _)]) dX6_priceWith_19 (by decide) rfl ?_
  refine K_iload X 0 dX6_priceWith_21 rfl ?_
  refine K_bipush X dX6_priceWith_23 cib_100 ?_
  refine K_aload_n X 1 dX6_priceWith_25 rfl rfl ?_
  refine K_get X 0 kFd6 rfl (by decide) sf_m wf_X6_7 rfl (v := rf b (191)) (kv_a (pf_m0 hP)) dX6_priceWith_26 ?_
  refine K_bipush X dX6_priceWith_29 cib_23 ?_
  refine K_iload_n X 4 dX6_priceWith_31 rfl rfl ?_
  refine K_iaddN X dX6_priceWith_32 ?_
  refine K_iald X _ sf_ms rfl (by omega) (by decide) (wN_at _) dX6_priceWith_33 ?_
  refine K_isubN X dX6_priceWith_34 (by omega) ?_
  refine K_imulN X dX6_priceWith_35 ?_
  refine K_bipush X dX6_priceWith_36 cib_100 ?_
  refine K_idivN X dX6_priceWith_38 (by exact hb2) (by decide) (by decide) ?_
  exact K_iret X hQ dX6_priceWith_39 (⟨rfl, rfl⟩)

set_option maxHeartbeats 4000000 in
set_option maxRecDepth 100000 in
theorem c_X6_worthOf (l : Launch) (D : KD) (b : Nat) (σ : KS) (g q : Nat) (hb : g * q < 2 ^ 31) : Ct l D b yX6_worthOf cX6_worthOf 2 (some .int) (rM 0 0) 0 0 [.int (nI g), .int (nI q)] shF σ shF (pE (some (.int (nI (qW g q)))) σ) := by
  refine Ct.of (ls := [(0, .int (nI g)), (1, .int (nI q))]) (by decide) (Nat.le_of_ble_eq_true rfl) rfl ?_
  intro p e s m args below meth c Q hQ X hnm
  refine K_iload_n X 0 dX6_worthOf_0 rfl rfl ?_
  refine K_iload_n X 1 dX6_worthOf_1 rfl rfl ?_
  refine K_imulN X dX6_worthOf_2 ?_
  refine K_sipush X dX6_worthOf_3 cis_1000 ?_
  refine K_idivN X dX6_worthOf_6 (by exact hb) (by decide) (by decide) ?_
  exact K_iret X hQ dX6_worthOf_7 (⟨rfl, rfl⟩)
end
section
/-! THE REFERENCE: what reads a shop's numbers -/
set_option maxHeartbeats 4000000 in
set_option maxRecDepth 100000 in
theorem c_X6_isSold (l : Launch) (D : KD) (b : Nat) (σ : KS) (N : Nat → Nat) (k : Nat) (hP : PF σ.2.2) (hI : qIr N) (hk : k < N 2) : Ct l D b yX6_isSold cX6_isSold 2 (some .boolean) (rM 1 22) 0 0 [rf b 190, .int (nI k)] shF (wN σ N) shF (pE (some (.int (kB (qSold N k)))) (wN σ N)) := by
  have h2 := qi_2 hI
  refine Ct.of (ls := [(0, rf b 190), (1, .int (nI k))]) (by decide) (Nat.le_of_ble_eq_true rfl) rfl ?_
  intro p e s m args below meth c Q hQ X hnm
  refine K_aload_n X 0 dX6_isSold_0 rfl rfl ?_
  refine K_iload_n X 1 dX6_isSold_1 rfl rfl ?_
  refine K_iconst X dX6_isSold_2 cii_3 ?_
  refine K_callVE X (c_X6_part l D b _ _ _ _ hP (by omega)) my_X6_part mv_X6_part wm_X6_30 sf_m rfl ⟨rfl, rfl, Nat.le_of_ble_eq_true rfl, Nat.le_of_ble_eq_true rfl, Nat.le_of_ble_eq_true rfl, Nat.le_of_ble_eq_true rfl⟩ rfl rfl (Nat.le_of_ble_eq_true rfl) dX6_isSold_3 ?_
  refine K_aload_n X 0 dX6_isSold_6 rfl rfl ?_
  refine K_get X 0 kFd6 rfl (by decide) sf_m wf_X6_7 rfl (v := rf b (191)) (kv_a (pf_m0 hP)) dX6_isSold_7 ?_
  refine K_bipush X dX6_isSold_10 cib_9 ?_
  refine K_iald X _ sf_ms rfl (by omega) (by decide) (wN_at _) dX6_isSold_12 ?_
  refine K_icmpN_lt (tgt := 20) X dX6_isSold_13 (by decide) (by have := qi_l3 hI hk; omega) (by have := qi_9 hI; omega) (fun c13 => ?_) (fun c13 => ?_)
  · refine K_iconst X dX6_isSold_20 cii_0 ?_
    exact K_zret X false rfl hQ dX6_isSold_21 (⟨by rw [show qSold N k = false from decide_eq_false (by omega)], rfl⟩)
  · refine K_iconst X dX6_isSold_16 cii_1 ?_
    refine K_goto (tgt := 21) X dX6_isSold_17 (by decide) ?_
    exact K_zret X true rfl hQ dX6_isSold_21 (⟨by rw [show qSold N k = true from decide_eq_true (by omega)], rfl⟩)

set_option maxHeartbeats 4000000 in
set_option maxRecDepth 100000 in
theorem c_X6_lotsAt (l : Launch) (D : KD) (b : Nat) (σ : KS) (N : Nat → Nat) (pl : Nat) (hP : PF σ.2.2) (hI : qIr N) (hpl : pl < 11) : Ct l D b yX6_lotsAt cX6_lotsAt 4 (some .int) (rM 1 22) 0 0 [rf b 190, .int (nI pl)] shF (wN σ N) shF (pE (some (.int (nI (qCnt N pl (N 2))))) (wN σ N)) := by
  have h2 := qi_2 hI
  refine Ct.of (ls := [(0, rf b 190), (1, .int (nI pl))]) (by decide) (Nat.le_of_ble_eq_true rfl) rfl ?_
  intro p e s m args below meth c Q hQ X hnm
  refine K_iconst X dX6_lotsAt_0 cii_0 ?_
  refine K_istore_n X (ls' := [(2, _), (0, _), (1, _)]) dX6_lotsAt_1 rfl (by decide) rfl ?_
  refine K_iconst X dX6_lotsAt_2 cii_0 ?_
  refine K_istore_n X (ls' := [(3, _), (2, _), (0, _), (1, _)]) dX6_lotsAt_3 rfl (by decide) rfl ?_
  have loop : ∀ i : Nat, i ≤ N 2 → K p l e (rM 1 22) s m args below meth c Q D b 4 0 0 shF (wN σ N) 4 [(0, rf b 190), (1, .int (nI pl)), (2, .int (nI (qCnt N pl i))), (3, .int (nI i))] [] := by
    refine kup (fun i hi ih => ?_)
    refine K_iload_n X 3 dX6_lotsAt_4 rfl rfl ?_
    refine K_aload_n X 0 dX6_lotsAt_5 rfl rfl ?_
    refine K_get X 0 kFd6 rfl (by decide) sf_m wf_X6_7 rfl (v := rf b (191)) (kv_a (pf_m0 hP)) dX6_lotsAt_6 ?_
    refine K_iconst X dX6_lotsAt_9 cii_2 ?_
    refine K_iald X _ sf_ms rfl (by omega) (by decide) (wN_at _) dX6_lotsAt_10 ?_
    refine K_icmpN_ge (tgt := 38) X dX6_lotsAt_11 (by decide) (by omega) (by omega) (fun c11 => ?_) (fun c11 => ?_)
    · refine K_iload_n X 2 dX6_lotsAt_38 rfl rfl ?_
      exact K_iret X hQ dX6_lotsAt_39 (⟨by rw [show i = N 2 from by omega], rfl⟩)
    · refine K_iload_n X 2 dX6_lotsAt_14 rfl rfl ?_
      refine K_aload_n X 0 dX6_lotsAt_15 rfl rfl ?_
      refine K_iload_n X 3 dX6_lotsAt_16 rfl rfl ?_
      refine K_iconst X dX6_lotsAt_17 cii_4 ?_
      refine K_callVE X (c_X6_part l D b _ _ _ _ hP (by omega)) my_X6_part mv_X6_part wm_X6_30 sf_m rfl ⟨rfl, rfl, Nat.le_of_ble_eq_true rfl, Nat.le_of_ble_eq_true rfl, Nat.le_of_ble_eq_true rfl, Nat.le_of_ble_eq_true rfl⟩ rfl rfl (Nat.le_of_ble_eq_true rfl) dX6_lotsAt_18 ?_
      refine K_iload_n X 1 dX6_lotsAt_21 rfl rfl ?_
      refine K_icmpN_ne (tgt := 29) X dX6_lotsAt_22 (by decide) (by have := qi_l4 hI (show i < N 2 from by omega); omega) (by omega) (fun c22 => ?_) (fun c22 => ?_)
      · refine K_iconst X dX6_lotsAt_29 cii_0 ?_
        refine K_iaddN X dX6_lotsAt_30 ?_
        refine K_istore_n X (ls' := [(2, _), (0, _), (1, _), (3, _)]) dX6_lotsAt_31 rfl (by decide) rfl ?_
        refine K_iinc X 3 (ls' := [(3, _), (2, _), (0, _), (1, _)]) dX6_lotsAt_32 rfl (inc_1 _) (by decide) rfl ?_
        refine K_goto (tgt := 4) X dX6_lotsAt_35 (by decide) ?_
        rw [show qCnt N pl (i + 1) = qCnt N pl i + 0 from congrArg (qCnt N pl i + ·) (if_neg c22)] at ih
        exact K_sub [2, 3, 1, 0] rfl (ih (by omega))
      · refine K_iconst X dX6_lotsAt_25 cii_1 ?_
        refine K_goto (tgt := 30) X dX6_lotsAt_26 (by decide) ?_
        refine K_iaddN X dX6_lotsAt_30 ?_
        refine K_istore_n X (ls' := [(2, _), (0, _), (1, _), (3, _)]) dX6_lotsAt_31 rfl (by decide) rfl ?_
        refine K_iinc X 3 (ls' := [(3, _), (2, _), (0, _), (1, _)]) dX6_lotsAt_32 rfl (inc_1 _) (by decide) rfl ?_
        refine K_goto (tgt := 4) X dX6_lotsAt_35 (by decide) ?_
        rw [show qCnt N pl (i + 1) = qCnt N pl i + 1 from congrArg (qCnt N pl i + ·) (if_pos c22)] at ih
        exact K_sub [2, 3, 1, 0] rfl (ih (by omega))
  exact K_sub [2, 3, 1, 0] rfl (loop 0 (Nat.zero_le _))

set_option maxHeartbeats 4000000 in
set_option maxRecDepth 100000 in
theorem c_X6_firstAt (l : Launch) (D : KD) (b : Nat) (σ : KS) (N : Nat → Nat) (pl : Nat) (hP : PF σ.2.2) (hI : qIr N) (hpl : pl < 11) : Ct l D b yX6_firstAt cX6_firstAt 4 (some .int) (rM 1 22) 0 0 [rf b 190, .int (nI pl)] shF (wN σ N) shF (pE (some (.int (qO (qFst N pl (N 2) none)))) (wN σ N)) := by
  have h2 := qi_2 hI
  refine Ct.of (ls := [(0, rf b 190), (1, .int (nI pl))]) (by decide) (Nat.le_of_ble_eq_true rfl) rfl ?_
  intro p e s m args below meth c Q hQ X hnm
  refine K_bipush X dX6_firstAt_0 cib_m6 ?_
  refine K_istore_n X (ls' := [(2, _), (0, _), (1, _)]) dX6_firstAt_2 rfl (by decide) rfl ?_
  refine K_aload_n X 1 dX6_firstAt_3 rfl rfl ?_
  refine K_get X 0 kFd6 rfl (by decide) sf_m wf_X6_7 rfl (v := rf b (191)) (kv_a (pf_m0 hP)) dX6_firstAt_4 ?_
  refine K_iconst X dX6_firstAt_7 cii_2 ?_
  refine K_iald X _ sf_ms rfl (by omega) (by decide) (wN_at _) dX6_firstAt_8 ?_
  refine K_iconst X dX6_firstAt_9 cii_1 ?_
  refine K_isub X dX6_firstAt_10 ?_
  rw [qM_sub]
  refine K_istore_n X (ls' := [(3, _), (2, _), (0, _), (1, _)]) dX6_firstAt_11 rfl (by decide) rfl ?_
  have loop : ∀ (i : Nat) (f : Option Nat), i ≤ N 2 → qFst N pl i f = qFst N pl (N 2) none → K p l e (rM 1 22) s m args below meth c Q D b 4 0 0 shF (wN σ N) 12 [(0, rf b 190), (1, .int (nI pl)), (2, .int (qO f)), (3, .int (qM i))] [] := by
    intro i
    induction i with
    | zero =>
      intro f hi hg
      refine K_iload_n X 3 dX6_firstAt_12 rfl rfl ?_
      refine K_if_lt (tgt := 38) X dX6_firstAt_13 (by decide) (fun c13 => ?_) (fun c13 => ?_)
      · refine K_iload_n X 2 dX6_firstAt_38 rfl rfl ?_
        exact K_iret X hQ dX6_firstAt_39 (⟨by rw [← hg]; rfl, rfl⟩)
      · exact absurd (show (-1 : Int32) < 0 from by decide) c13
    | succ i ih =>
      intro f hi hg
      refine K_iload_n X 3 dX6_firstAt_12 rfl rfl ?_
      refine K_if_lt (tgt := 38) X dX6_firstAt_13 (by decide) (fun c13 => ?_) (fun c13 => ?_)
      · exact absurd c13 (nI_pos (by omega))
      · refine K_aload_n X 0 dX6_firstAt_16 rfl rfl ?_
        refine K_iload_n X 3 dX6_firstAt_17 rfl rfl ?_
        refine K_iconst X dX6_firstAt_18 cii_4 ?_
        refine K_callVE X (c_X6_part l D b _ _ _ _ hP (by omega)) my_X6_part mv_X6_part wm_X6_30 sf_m rfl ⟨rfl, rfl, Nat.le_of_ble_eq_true rfl, Nat.le_of_ble_eq_true rfl, Nat.le_of_ble_eq_true rfl, Nat.le_of_ble_eq_true rfl⟩ rfl rfl (Nat.le_of_ble_eq_true rfl) dX6_firstAt_19 ?_
        refine K_iload_n X 1 dX6_firstAt_22 rfl rfl ?_
        refine K_icmpN_ne (tgt := 30) X dX6_firstAt_23 (by decide) (by have := qi_l4 hI (show i < N 2 from by omega); omega) (by omega) (fun c23 => ?_) (fun c23 => ?_)
        · refine K_iload_n X 2 dX6_firstAt_30 rfl rfl ?_
          refine K_istore_n X (ls' := [(2, _), (0, _), (1, _), (3, _)]) dX6_firstAt_31 rfl (by decide) rfl ?_
          refine K_iinc X 3 (ls' := [(3, _), (2, _), (0, _), (1, _)]) dX6_firstAt_32 rfl (inc_mq _) (by decide) rfl ?_
          refine K_goto (tgt := 12) X dX6_firstAt_35 (by decide) ?_
          exact K_sub [2, 3, 1, 0] rfl (ih f (by omega) (by rw [← hg]; exact (congrArg (qFst N pl i) (if_neg c23)).symm))
        · refine K_iload_n X 3 dX6_firstAt_26 rfl rfl ?_
          refine K_goto (tgt := 31) X dX6_firstAt_27 (by decide) ?_
          refine K_istore_n X (ls' := [(2, _), (0, _), (1, _), (3, _)]) dX6_firstAt_31 rfl (by decide) rfl ?_
          refine K_iinc X 3 (ls' := [(3, _), (2, _), (0, _), (1, _)]) dX6_firstAt_32 rfl (inc_mq _) (by decide) rfl ?_
          refine K_goto (tgt := 12) X dX6_firstAt_35 (by decide) ?_
          exact K_sub [2, 3, 1, 0] rfl (ih (some i) (by omega) (by rw [← hg]; exact (congrArg (qFst N pl i) (if_pos c23)).symm))
  exact K_sub [2, 3, 1, 0] rfl (loop (N 2) none (Nat.le_refl _) rfl)

set_option maxHeartbeats 4000000 in
set_option maxRecDepth 100000 in
theorem c_X6_priceOf (l : Launch) (D : KD) (b : Nat) (σ : KS) (N : Nat → Nat) (k : Nat) (hP : PF σ.2.2) (hI : qIr N) (hk : k < N 2) : Ct l D b yX6_priceOf cX6_priceOf 2 (some .int) (rM 1 24) 0 0 [rf b 190, .int (nI k)] shF (wN σ N) shF (pE (some (.int (nI (qPrice N k)))) (wN σ N)) := by
  have h2 := qi_2 hI
  refine Ct.of (ls := [(0, rf b 190), (1, .int (nI k))]) (by decide) (Nat.le_of_ble_eq_true rfl) rfl ?_
  intro p e s m args below meth c Q hQ X hnm
  refine K_aload_n X 0 dX6_priceOf_0 rfl rfl ?_
  refine K_aload_n X 0 dX6_priceOf_1 rfl rfl ?_
  refine K_iload_n X 1 dX6_priceOf_2 rfl rfl ?_
  refine K_iconst X dX6_priceOf_3 cii_1 ?_
  refine K_callVE X (c_X6_part l D b _ _ _ _ hP (by omega)) my_X6_part mv_X6_part wm_X6_30 sf_m rfl ⟨rfl, rfl, Nat.le_of_ble_eq_true rfl, Nat.le_of_ble_eq_true rfl, Nat.le_of_ble_eq_true rfl, Nat.le_of_ble_eq_true rfl⟩ rfl rfl (Nat.le_of_ble_eq_true rfl) dX6_priceOf_4 ?_
  refine K_aload_n X 0 dX6_priceOf_7 rfl rfl ?_
  refine K_iload_n X 1 dX6_priceOf_8 rfl rfl ?_
  refine K_iconst X dX6_priceOf_9 cii_3 ?_
  refine K_callVE X (c_X6_part l D b _ _ _ _ hP (by omega)) my_X6_part mv_X6_part wm_X6_30 sf_m rfl ⟨rfl, rfl, Nat.le_of_ble_eq_true rfl, Nat.le_of_ble_eq_true rfl, Nat.le_of_ble_eq_true rfl, Nat.le_of_ble_eq_true rfl⟩ rfl rfl (Nat.le_of_ble_eq_true rfl) dX6_priceOf_10 ?_
  refine K_aload_n X 0 dX6_priceOf_13 rfl rfl ?_
  refine K_get X 0 kFd6 rfl (by decide) sf_m wf_X6_7 rfl (v := rf b (191)) (kv_a (pf_m0 hP)) dX6_priceOf_14 ?_
  refine K_iconst X dX6_priceOf_17 cii_1 ?_
  refine K_iald X _ sf_ms rfl (by omega) (by decide) (wN_at _) dX6_priceOf_18 ?_
  refine K_callVE X (c_X6_priceWith l D b _ _ _ _ _ hP (qi_l1 hI hk) (qi_l3 hI hk) (by have := qi_1 hI; omega) (qi_p hI (qi_l1 hI hk)) (qi_t hI (by have := qi_1 hI; omega))) my_X6_priceWith mv_X6_priceWith wm_X6_42 sf_m rfl ⟨rfl, rfl, Nat.le_of_ble_eq_true rfl, Nat.le_of_ble_eq_true rfl, Nat.le_of_ble_eq_true rfl, Nat.le_of_ble_eq_true rfl⟩ rfl rfl (Nat.le_of_ble_eq_true rfl) dX6_priceOf_19 ?_
  exact K_iret X hQ dX6_priceOf_22 (⟨rfl, rfl⟩)

set_option maxHeartbeats 4000000 in
set_option maxRecDepth 100000 in
theorem c_X6_allGrams (l : Launch) (D : KD) (b : Nat) (σ : KS) (N : Nat → Nat) (hP : PF σ.2.2) (hI : qIr N) : Ct l D b yX6_allGrams cX6_allGrams 3 (some .int) (rM 1 22) 0 0 [rf b 190] shF (wN σ N) shF (pE (some (.int (nI (qSum N (N 2))))) (wN σ N)) := by
  have h2 := qi_2 hI
  refine Ct.of (ls := [(0, rf b 190)]) (by decide) (Nat.le_of_ble_eq_true rfl) rfl ?_
  intro p e s m args below meth c Q hQ X hnm
  refine K_iconst X dX6_allGrams_0 cii_0 ?_
  refine K_istore_n X (ls' := [(1, _), (0, _)]) dX6_allGrams_1 rfl (by decide) rfl ?_
  refine K_iconst X dX6_allGrams_2 cii_0 ?_
  refine K_istore_n X (ls' := [(2, _), (1, _), (0, _)]) dX6_allGrams_3 rfl (by decide) rfl ?_
  have loop : ∀ i : Nat, i ≤ N 2 → K p l e (rM 1 22) s m args below meth c Q D b 3 0 0 shF (wN σ N) 4 [(0, rf b 190), (1, .int (nI (qSum N i))), (2, .int (nI i))] [] := by
    refine kup (fun i hi ih => ?_)
    refine K_iload_n X 2 dX6_allGrams_4 rfl rfl ?_
    refine K_aload_n X 0 dX6_allGrams_5 rfl rfl ?_
    refine K_get X 0 kFd6 rfl (by decide) sf_m wf_X6_7 rfl (v := rf b (191)) (kv_a (pf_m0 hP)) dX6_allGrams_6 ?_
    refine K_iconst X dX6_allGrams_9 cii_2 ?_
    refine K_iald X _ sf_ms rfl (by omega) (by decide) (wN_at _) dX6_allGrams_10 ?_
    refine K_icmpN_ge (tgt := 29) X dX6_allGrams_11 (by decide) (by omega) (by omega) (fun c11 => ?_) (fun c11 => ?_)
    · refine K_iload_n X 1 dX6_allGrams_29 rfl rfl ?_
      exact K_iret X hQ dX6_allGrams_30 (⟨by rw [show i = N 2 from by omega], rfl⟩)
    · refine K_iload_n X 1 dX6_allGrams_14 rfl rfl ?_
      refine K_aload_n X 0 dX6_allGrams_15 rfl rfl ?_
      refine K_iload_n X 2 dX6_allGrams_16 rfl rfl ?_
      refine K_iconst X dX6_allGrams_17 cii_2 ?_
      refine K_callVE X (c_X6_part l D b _ _ _ _ hP (by omega)) my_X6_part mv_X6_part wm_X6_30 sf_m rfl ⟨rfl, rfl, Nat.le_of_ble_eq_true rfl, Nat.le_of_ble_eq_true rfl, Nat.le_of_ble_eq_true rfl, Nat.le_of_ble_eq_true rfl⟩ rfl rfl (Nat.le_of_ble_eq_true rfl) dX6_allGrams_18 ?_
      refine K_iaddN X dX6_allGrams_21 ?_
      refine K_istore_n X (ls' := [(1, _), (0, _), (2, _)]) dX6_allGrams_22 rfl (by decide) rfl ?_
      refine K_iinc X 2 (ls' := [(2, _), (1, _), (0, _)]) dX6_allGrams_23 rfl (inc_1 _) (by decide) rfl ?_
      refine K_goto (tgt := 4) X dX6_allGrams_26 (by decide) ?_
      exact K_sub [2, 1, 0] rfl (ih (by omega))
  exact K_sub [2, 1, 0] rfl (loop 0 (Nat.zero_le _))

set_option maxHeartbeats 4000000 in
set_option maxRecDepth 100000 in
theorem c_X6_gramsAt (l : Launch) (D : KD) (b : Nat) (σ : KS) (N : Nat → Nat) (pl : Nat) (hP : PF σ.2.2) (hI : qIr N) (hpl : pl < 11) : Ct l D b yX6_gramsAt cX6_gramsAt 4 (some .int) (rM 1 22) 0 0 [rf b 190, .int (nI pl)] shF (wN σ N) shF (pE (some (.int (nI (qGAt N pl (N 2))))) (wN σ N)) := by
  have h2 := qi_2 hI
  refine Ct.of (ls := [(0, rf b 190), (1, .int (nI pl))]) (by decide) (Nat.le_of_ble_eq_true rfl) rfl ?_
  intro p e s m args below meth c Q hQ X hnm
  refine K_iconst X dX6_gramsAt_0 cii_0 ?_
  refine K_istore_n X (ls' := [(2, _), (0, _), (1, _)]) dX6_gramsAt_1 rfl (by decide) rfl ?_
  refine K_iconst X dX6_gramsAt_2 cii_0 ?_
  refine K_istore_n X (ls' := [(3, _), (2, _), (0, _), (1, _)]) dX6_gramsAt_3 rfl (by decide) rfl ?_
  have loop : ∀ i : Nat, i ≤ N 2 → K p l e (rM 1 22) s m args below meth c Q D b 4 0 0 shF (wN σ N) 4 [(0, rf b 190), (1, .int (nI pl)), (2, .int (nI (qGAt N pl i))), (3, .int (nI i))] [] := by
    refine kup (fun i hi ih => ?_)
    refine K_iload_n X 3 dX6_gramsAt_4 rfl rfl ?_
    refine K_aload_n X 0 dX6_gramsAt_5 rfl rfl ?_
    refine K_get X 0 kFd6 rfl (by decide) sf_m wf_X6_7 rfl (v := rf b (191)) (kv_a (pf_m0 hP)) dX6_gramsAt_6 ?_
    refine K_iconst X dX6_gramsAt_9 cii_2 ?_
    refine K_iald X _ sf_ms rfl (by omega) (by decide) (wN_at _) dX6_gramsAt_10 ?_
    refine K_icmpN_ge (tgt := 43) X dX6_gramsAt_11 (by decide) (by omega) (by omega) (fun c11 => ?_) (fun c11 => ?_)
    · refine K_iload_n X 2 dX6_gramsAt_43 rfl rfl ?_
      exact K_iret X hQ dX6_gramsAt_44 (⟨by rw [show i = N 2 from by omega], rfl⟩)
    · refine K_iload_n X 2 dX6_gramsAt_14 rfl rfl ?_
      refine K_aload_n X 0 dX6_gramsAt_15 rfl rfl ?_
      refine K_iload_n X 3 dX6_gramsAt_16 rfl rfl ?_
      refine K_iconst X dX6_gramsAt_17 cii_4 ?_
      refine K_callVE X (c_X6_part l D b _ _ _ _ hP (by omega)) my_X6_part mv_X6_part wm_X6_30 sf_m rfl ⟨rfl, rfl, Nat.le_of_ble_eq_true rfl, Nat.le_of_ble_eq_true rfl, Nat.le_of_ble_eq_true rfl, Nat.le_of_ble_eq_true rfl⟩ rfl rfl (Nat.le_of_ble_eq_true rfl) dX6_gramsAt_18 ?_
      refine K_iload_n X 1 dX6_gramsAt_21 rfl rfl ?_
      refine K_icmpN_ne (tgt := 34) X dX6_gramsAt_22 (by decide) (by have := qi_l4 hI (show i < N 2 from by omega); omega) (by omega) (fun c22 => ?_) (fun c22 => ?_)
      · refine K_iconst X dX6_gramsAt_34 cii_0 ?_
        refine K_iaddN X dX6_gramsAt_35 ?_
        refine K_istore_n X (ls' := [(2, _), (0, _), (1, _), (3, _)]) dX6_gramsAt_36 rfl (by decide) rfl ?_
        refine K_iinc X 3 (ls' := [(3, _), (2, _), (0, _), (1, _)]) dX6_gramsAt_37 rfl (inc_1 _) (by decide) rfl ?_
        refine K_goto (tgt := 4) X dX6_gramsAt_40 (by decide) ?_
        rw [show qGAt N pl (i + 1) = qGAt N pl i + 0 from congrArg (qGAt N pl i + ·) (if_neg c22)] at ih
        exact K_sub [2, 3, 1, 0] rfl (ih (by omega))
      · refine K_aload_n X 0 dX6_gramsAt_25 rfl rfl ?_
        refine K_iload_n X 3 dX6_gramsAt_26 rfl rfl ?_
        refine K_iconst X dX6_gramsAt_27 cii_2 ?_
        refine K_callVE X (c_X6_part l D b _ _ _ _ hP (by omega)) my_X6_part mv_X6_part wm_X6_30 sf_m rfl ⟨rfl, rfl, Nat.le_of_ble_eq_true rfl, Nat.le_of_ble_eq_true rfl, Nat.le_of_ble_eq_true rfl, Nat.le_of_ble_eq_true rfl⟩ rfl rfl (Nat.le_of_ble_eq_true rfl) dX6_gramsAt_28 ?_
        refine K_goto (tgt := 35) X dX6_gramsAt_31 (by decide) ?_
        refine K_iaddN X dX6_gramsAt_35 ?_
        refine K_istore_n X (ls' := [(2, _), (0, _), (1, _), (3, _)]) dX6_gramsAt_36 rfl (by decide) rfl ?_
        refine K_iinc X 3 (ls' := [(3, _), (2, _), (0, _), (1, _)]) dX6_gramsAt_37 rfl (inc_1 _) (by decide) rfl ?_
        refine K_goto (tgt := 4) X dX6_gramsAt_40 (by decide) ?_
        rw [show qGAt N pl (i + 1) = qGAt N pl i + qL N i 2 from congrArg (qGAt N pl i + ·) (if_pos c22)] at ih
        exact K_sub [2, 3, 1, 0] rfl (ih (by omega))
  exact K_sub [2, 3, 1, 0] rfl (loop 0 (Nat.zero_le _))

set_option maxHeartbeats 4000000 in
set_option maxRecDepth 100000 in
theorem c_X6_gramsOfKind (l : Launch) (D : KD) (b : Nat) (σ : KS) (N : Nat → Nat) (kd : Nat) (hP : PF σ.2.2) (hI : qIr N) (hkd : kd < 6) : Ct l D b yX6_gramsOfKind cX6_gramsOfKind 4 (some .int) (rM 1 22) 0 0 [rf b 190, .int (nI kd)] shF (wN σ N) shF (pE (some (.int (nI (qGKd N kd (N 2))))) (wN σ N)) := by
  have h2 := qi_2 hI
  refine Ct.of (ls := [(0, rf b 190), (1, .int (nI kd))]) (by decide) (Nat.le_of_ble_eq_true rfl) rfl ?_
  intro p e s m args below meth c Q hQ X hnm
  refine K_iconst X dX6_gramsOfKind_0 cii_0 ?_
  refine K_istore_n X (ls' := [(2, _), (0, _), (1, _)]) dX6_gramsOfKind_1 rfl (by decide) rfl ?_
  refine K_iconst X dX6_gramsOfKind_2 cii_0 ?_
  refine K_istore_n X (ls' := [(3, _), (2, _), (0, _), (1, _)]) dX6_gramsOfKind_3 rfl (by decide) rfl ?_
  have loop : ∀ i : Nat, i ≤ N 2 → K p l e (rM 1 22) s m args below meth c Q D b 4 0 0 shF (wN σ N) 4 [(0, rf b 190), (1, .int (nI kd)), (2, .int (nI (qGKd N kd i))), (3, .int (nI i))] [] := by
    refine kup (fun i hi ih => ?_)
    refine K_iload_n X 3 dX6_gramsOfKind_4 rfl rfl ?_
    refine K_aload_n X 0 dX6_gramsOfKind_5 rfl rfl ?_
    refine K_get X 0 kFd6 rfl (by decide) sf_m wf_X6_7 rfl (v := rf b (191)) (kv_a (pf_m0 hP)) dX6_gramsOfKind_6 ?_
    refine K_iconst X dX6_gramsOfKind_9 cii_2 ?_
    refine K_iald X _ sf_ms rfl (by omega) (by decide) (wN_at _) dX6_gramsOfKind_10 ?_
    refine K_icmpN_ge (tgt := 43) X dX6_gramsOfKind_11 (by decide) (by omega) (by omega) (fun c11 => ?_) (fun c11 => ?_)
    · refine K_iload_n X 2 dX6_gramsOfKind_43 rfl rfl ?_
      exact K_iret X hQ dX6_gramsOfKind_44 (⟨by rw [show i = N 2 from by omega], rfl⟩)
    · refine K_iload_n X 2 dX6_gramsOfKind_14 rfl rfl ?_
      refine K_aload_n X 0 dX6_gramsOfKind_15 rfl rfl ?_
      refine K_iload_n X 3 dX6_gramsOfKind_16 rfl rfl ?_
      refine K_iconst X dX6_gramsOfKind_17 cii_1 ?_
      refine K_callVE X (c_X6_part l D b _ _ _ _ hP (by omega)) my_X6_part mv_X6_part wm_X6_30 sf_m rfl ⟨rfl, rfl, Nat.le_of_ble_eq_true rfl, Nat.le_of_ble_eq_true rfl, Nat.le_of_ble_eq_true rfl, Nat.le_of_ble_eq_true rfl⟩ rfl rfl (Nat.le_of_ble_eq_true rfl) dX6_gramsOfKind_18 ?_
      refine K_iload_n X 1 dX6_gramsOfKind_21 rfl rfl ?_
      refine K_icmpN_ne (tgt := 34) X dX6_gramsOfKind_22 (by decide) (by have := qi_l1 hI (show i < N 2 from by omega); omega) (by omega) (fun c22 => ?_) (fun c22 => ?_)
      · refine K_iconst X dX6_gramsOfKind_34 cii_0 ?_
        refine K_iaddN X dX6_gramsOfKind_35 ?_
        refine K_istore_n X (ls' := [(2, _), (0, _), (1, _), (3, _)]) dX6_gramsOfKind_36 rfl (by decide) rfl ?_
        refine K_iinc X 3 (ls' := [(3, _), (2, _), (0, _), (1, _)]) dX6_gramsOfKind_37 rfl (inc_1 _) (by decide) rfl ?_
        refine K_goto (tgt := 4) X dX6_gramsOfKind_40 (by decide) ?_
        rw [show qGKd N kd (i + 1) = qGKd N kd i + 0 from congrArg (qGKd N kd i + ·) (if_neg c22)] at ih
        exact K_sub [2, 3, 1, 0] rfl (ih (by omega))
      · refine K_aload_n X 0 dX6_gramsOfKind_25 rfl rfl ?_
        refine K_iload_n X 3 dX6_gramsOfKind_26 rfl rfl ?_
        refine K_iconst X dX6_gramsOfKind_27 cii_2 ?_
        refine K_callVE X (c_X6_part l D b _ _ _ _ hP (by omega)) my_X6_part mv_X6_part wm_X6_30 sf_m rfl ⟨rfl, rfl, Nat.le_of_ble_eq_true rfl, Nat.le_of_ble_eq_true rfl, Nat.le_of_ble_eq_true rfl, Nat.le_of_ble_eq_true rfl⟩ rfl rfl (Nat.le_of_ble_eq_true rfl) dX6_gramsOfKind_28 ?_
        refine K_goto (tgt := 35) X dX6_gramsOfKind_31 (by decide) ?_
        refine K_iaddN X dX6_gramsOfKind_35 ?_
        refine K_istore_n X (ls' := [(2, _), (0, _), (1, _), (3, _)]) dX6_gramsOfKind_36 rfl (by decide) rfl ?_
        refine K_iinc X 3 (ls' := [(3, _), (2, _), (0, _), (1, _)]) dX6_gramsOfKind_37 rfl (inc_1 _) (by decide) rfl ?_
        refine K_goto (tgt := 4) X dX6_gramsOfKind_40 (by decide) ?_
        rw [show qGKd N kd (i + 1) = qGKd N kd i + qL N i 2 from congrArg (qGKd N kd i + ·) (if_pos c22)] at ih
        exact K_sub [2, 3, 1, 0] rfl (ih (by omega))
  exact K_sub [2, 3, 1, 0] rfl (loop 0 (Nat.zero_le _))

set_option maxHeartbeats 4000000 in
set_option maxRecDepth 100000 in
theorem c_X6_freshest (l : Launch) (D : KD) (b : Nat) (σ : KS) (N : Nat → Nat) (kd : Nat) (hP : PF σ.2.2) (hI : qIr N) (hkd : kd < 6) : Ct l D b yX6_freshest cX6_freshest 4 (some .int) (rM 1 22) 0 0 [rf b 190, .int (nI kd)] shF (wN σ N) shF (pE (some (.int (qNum N (qFr N kd (N 2))))) (wN σ N)) := by
  have h2 := qi_2 hI
  refine Ct.of (ls := [(0, rf b 190), (1, .int (nI kd))]) (by decide) (Nat.le_of_ble_eq_true rfl) rfl ?_
  intro p e s m args below meth c Q hQ X hnm
  refine K_bipush X dX6_freshest_0 cib_m6 ?_
  refine K_istore_n X (ls' := [(2, _), (0, _), (1, _)]) dX6_freshest_2 rfl (by decide) rfl ?_
  refine K_iconst X dX6_freshest_3 cii_0 ?_
  refine K_istore_n X (ls' := [(3, _), (2, _), (0, _), (1, _)]) dX6_freshest_4 rfl (by decide) rfl ?_
  have loop : ∀ i : Nat, i ≤ N 2 → K p l e (rM 1 22) s m args below meth c Q D b 4 0 0 shF (wN σ N) 5 [(0, rf b 190), (1, .int (nI kd)), (2, .int (qO (qFr N kd i))), (3, .int (nI i))] [] := by
    refine kup (fun i hi ih => ?_)
    refine K_iload_n X 3 dX6_freshest_5 rfl rfl ?_
    refine K_aload_n X 0 dX6_freshest_6 rfl rfl ?_
    refine K_get X 0 kFd6 rfl (by decide) sf_m wf_X6_7 rfl (v := rf b (191)) (kv_a (pf_m0 hP)) dX6_freshest_7 ?_
    refine K_iconst X dX6_freshest_10 cii_2 ?_
    refine K_iald X _ sf_ms rfl (by omega) (by decide) (wN_at _) dX6_freshest_11 ?_
    refine K_icmpN_ge (tgt := 58) X dX6_freshest_12 (by decide) (by omega) (by omega) (fun c12 => ?_) (fun c12 => ?_)
    · refine K_iload_n X 2 dX6_freshest_58 rfl rfl ?_
      refine K_bipush X dX6_freshest_59 cib_m6 ?_
      refine K_icmp_ne (tgt := 69) X dX6_freshest_61 (by decide) (fun c61 => ?_) (fun c61 => ?_)
      · have hi2 : i = N 2 := by omega
        rw [hi2] at c61
        obtain ⟨j, hj⟩ := qO_ex c61
        have hjl := qFr_lt hj
        rw [hi2, hj]
        refine K_aload_n X 0 dX6_freshest_69 rfl rfl ?_
        refine K_iload_n X 2 dX6_freshest_70 rfl rfl ?_
        refine K_iconst X dX6_freshest_71 cii_0 ?_
        refine K_callVE X (c_X6_part l D b _ _ _ _ hP (by omega)) my_X6_part mv_X6_part wm_X6_30 sf_m rfl ⟨rfl, rfl, Nat.le_of_ble_eq_true rfl, Nat.le_of_ble_eq_true rfl, Nat.le_of_ble_eq_true rfl, Nat.le_of_ble_eq_true rfl⟩ rfl rfl (Nat.le_of_ble_eq_true rfl) dX6_freshest_72 ?_
        exact K_iret X hQ dX6_freshest_75 (⟨by rw [hj]; rfl, rfl⟩)
      · refine K_bipush X dX6_freshest_64 cib_m6 ?_
        refine K_goto (tgt := 75) X dX6_freshest_66 (by decide) ?_
        exact K_iret X hQ dX6_freshest_75 (⟨by rw [show i = N 2 from by omega] at c61; rw [(qO_n (fun j hj => by have := qFr_lt hj; omega)).mp c61]; rfl, rfl⟩)
    · refine K_aload_n X 0 dX6_freshest_15 rfl rfl ?_
      refine K_iload_n X 3 dX6_freshest_16 rfl rfl ?_
      refine K_iconst X dX6_freshest_17 cii_1 ?_
      refine K_callVE X (c_X6_part l D b _ _ _ _ hP (by omega)) my_X6_part mv_X6_part wm_X6_30 sf_m rfl ⟨rfl, rfl, Nat.le_of_ble_eq_true rfl, Nat.le_of_ble_eq_true rfl, Nat.le_of_ble_eq_true rfl, Nat.le_of_ble_eq_true rfl⟩ rfl rfl (Nat.le_of_ble_eq_true rfl) dX6_freshest_18 ?_
      refine K_iload_n X 1 dX6_freshest_21 rfl rfl ?_
      refine K_icmpN_ne (tgt := 50) X dX6_freshest_22 (by decide) (by have := qi_l1 hI (show i < N 2 from by omega); omega) (by omega) (fun c22 => ?_) (fun c22 => ?_)
      · refine K_iload_n X 2 dX6_freshest_50 rfl rfl ?_
        refine K_istore_n X (ls' := [(2, _), (0, _), (1, _), (3, _)]) dX6_freshest_51 rfl (by decide) rfl ?_
        refine K_iinc X 3 (ls' := [(3, _), (2, _), (0, _), (1, _)]) dX6_freshest_52 rfl (inc_1 _) (by decide) rfl ?_
        refine K_goto (tgt := 5) X dX6_freshest_55 (by decide) ?_
        rw [show qFr N kd (i + 1) = qFr N kd i from if_neg (fun q => c22 q.1)] at ih
        exact K_sub [2, 3, 1, 0] rfl (ih (by omega))
      · refine K_iload_n X 2 dX6_freshest_25 rfl rfl ?_
        refine K_bipush X dX6_freshest_26 cib_m6 ?_
        refine K_icmp_eq (tgt := 46) X dX6_freshest_28 (by decide) (fun c28 => ?_) (fun c28 => ?_)
        · refine K_iload_n X 3 dX6_freshest_46 rfl rfl ?_
          refine K_goto (tgt := 51) X dX6_freshest_47 (by decide) ?_
          refine K_istore_n X (ls' := [(2, _), (0, _), (1, _), (3, _)]) dX6_freshest_51 rfl (by decide) rfl ?_
          refine K_iinc X 3 (ls' := [(3, _), (2, _), (0, _), (1, _)]) dX6_freshest_52 rfl (inc_1 _) (by decide) rfl ?_
          refine K_goto (tgt := 5) X dX6_freshest_55 (by decide) ?_
          have hn : qFr N kd i = none := (qO_n (fun j hj => by have := qFr_lt hj; omega)).mp c28
          rw [show qFr N kd (i + 1) = some i from if_pos ⟨c22, by rw [hn]; rfl⟩] at ih
          exact K_sub [2, 3, 1, 0] rfl (ih (by omega))
        · obtain ⟨j, hj⟩ := qO_ex c28
          have hjl := qFr_lt hj
          rw [hj]
          refine K_aload_n X 0 dX6_freshest_31 rfl rfl ?_
          refine K_iload_n X 3 dX6_freshest_32 rfl rfl ?_
          refine K_iconst X dX6_freshest_33 cii_3 ?_
          refine K_callVE X (c_X6_part l D b _ _ _ _ hP (by omega)) my_X6_part mv_X6_part wm_X6_30 sf_m rfl ⟨rfl, rfl, Nat.le_of_ble_eq_true rfl, Nat.le_of_ble_eq_true rfl, Nat.le_of_ble_eq_true rfl, Nat.le_of_ble_eq_true rfl⟩ rfl rfl (Nat.le_of_ble_eq_true rfl) dX6_freshest_34 ?_
          refine K_aload_n X 0 dX6_freshest_37 rfl rfl ?_
          refine K_iload_n X 2 dX6_freshest_38 rfl rfl ?_
          refine K_iconst X dX6_freshest_39 cii_3 ?_
          refine K_callVE X (c_X6_part l D b _ _ _ _ hP (by omega)) my_X6_part mv_X6_part wm_X6_30 sf_m rfl ⟨rfl, rfl, Nat.le_of_ble_eq_true rfl, Nat.le_of_ble_eq_true rfl, Nat.le_of_ble_eq_true rfl, Nat.le_of_ble_eq_true rfl⟩ rfl rfl (Nat.le_of_ble_eq_true rfl) dX6_freshest_40 ?_
          refine K_icmpN_le (tgt := 50) X dX6_freshest_43 (by decide) (by have := qi_l3 hI (show i < N 2 from by omega); omega) (by have := qi_l3 hI (show j < N 2 from by omega); omega) (fun c43 => ?_) (fun c43 => ?_)
          · refine K_iload_n X 2 dX6_freshest_50 rfl rfl ?_
            refine K_istore_n X (ls' := [(2, _), (0, _), (1, _), (3, _)]) dX6_freshest_51 rfl (by decide) rfl ?_
            refine K_iinc X 3 (ls' := [(3, _), (2, _), (0, _), (1, _)]) dX6_freshest_52 rfl (inc_1 _) (by decide) rfl ?_
            refine K_goto (tgt := 5) X dX6_freshest_55 (by decide) ?_
            rw [show qFr N kd (i + 1) = some j from (if_neg (fun q => by have h := q.2; rw [hj] at h; exact absurd (of_decide_eq_true h) (by omega))).trans hj] at ih
            exact K_sub [2, 3, 1, 0] rfl (ih (by omega))
          · refine K_iload_n X 3 dX6_freshest_46 rfl rfl ?_
            refine K_goto (tgt := 51) X dX6_freshest_47 (by decide) ?_
            refine K_istore_n X (ls' := [(2, _), (0, _), (1, _), (3, _)]) dX6_freshest_51 rfl (by decide) rfl ?_
            refine K_iinc X 3 (ls' := [(3, _), (2, _), (0, _), (1, _)]) dX6_freshest_52 rfl (inc_1 _) (by decide) rfl ?_
            refine K_goto (tgt := 5) X dX6_freshest_55 (by decide) ?_
            rw [show qFr N kd (i + 1) = some i from if_pos ⟨c22, by rw [hj]; exact decide_eq_true (by omega)⟩] at ih
            exact K_sub [2, 3, 1, 0] rfl (ih (by omega))
  exact K_sub [2, 3, 1, 0] rfl (loop 0 (Nat.zero_le _))

set_option maxHeartbeats 4000000 in
set_option maxRecDepth 100000 in
theorem c_X6_numberAt (l : Launch) (D : KD) (b : Nat) (σ : KS) (N : Nat → Nat) (pl : Nat) (hP : PF σ.2.2) (hI : qIr N) (hpl : pl < 11) : Ct l D b yX6_numberAt cX6_numberAt 2 (some .int) (rM 2 45) 0 0 [rf b 190, .int (nI pl)] shF (wN σ N) shF (pE (some (.int (qNum N (qFst N pl (N 2) none)))) (wN σ N)) := by
  have h2 := qi_2 hI
  refine Ct.of (ls := [(0, rf b 190), (1, .int (nI pl))]) (by decide) (Nat.le_of_ble_eq_true rfl) rfl ?_
  intro p e s m args below meth c Q hQ X hnm
  refine K_aload_n X 0 dX6_numberAt_0 rfl rfl ?_
  refine K_iload_n X 1 dX6_numberAt_1 rfl rfl ?_
  refine K_callVE X (c_X6_firstAt l D b _ _ _ hP hI (by omega)) my_X6_firstAt mv_X6_firstAt wm_X6_119 sf_m rfl ⟨rfl, rfl, Nat.le_of_ble_eq_true rfl, Nat.le_of_ble_eq_true rfl, Nat.le_of_ble_eq_true rfl, Nat.le_of_ble_eq_true rfl⟩ rfl rfl (Nat.le_of_ble_eq_true rfl) dX6_numberAt_2 ?_
  refine K_bipush X dX6_numberAt_5 cib_m6 ?_
  refine K_icmp_ne (tgt := 15) X dX6_numberAt_7 (by decide) (fun c7 => ?_) (fun c7 => ?_)
  · obtain ⟨j, hj⟩ := qO_ex c7
    have hjl : j < N 2 := qFst_lt hj (Nat.le_refl _) (fun q hq => by cases hq)
    refine K_aload_n X 0 dX6_numberAt_15 rfl rfl ?_
    refine K_aload_n X 0 dX6_numberAt_16 rfl rfl ?_
    refine K_iload_n X 1 dX6_numberAt_17 rfl rfl ?_
    refine K_callVE X (c_X6_firstAt l D b _ _ _ hP hI (by omega)) my_X6_firstAt mv_X6_firstAt wm_X6_119 sf_m rfl ⟨rfl, rfl, Nat.le_of_ble_eq_true rfl, Nat.le_of_ble_eq_true rfl, Nat.le_of_ble_eq_true rfl, Nat.le_of_ble_eq_true rfl⟩ rfl rfl (Nat.le_of_ble_eq_true rfl) dX6_numberAt_18 ?_
    rw [hj]
    refine K_iconst X dX6_numberAt_21 cii_0 ?_
    refine K_callVE X (c_X6_part l D b _ _ _ _ hP (by omega)) my_X6_part mv_X6_part wm_X6_30 sf_m rfl ⟨rfl, rfl, Nat.le_of_ble_eq_true rfl, Nat.le_of_ble_eq_true rfl, Nat.le_of_ble_eq_true rfl, Nat.le_of_ble_eq_true rfl⟩ rfl rfl (Nat.le_of_ble_eq_true rfl) dX6_numberAt_22 ?_
    exact K_iret X hQ dX6_numberAt_25 (⟨by rw [hj]; rfl, rfl⟩)
  · refine K_bipush X dX6_numberAt_10 cib_m6 ?_
    refine K_goto (tgt := 25) X dX6_numberAt_12 (by decide) ?_
    exact K_iret X hQ dX6_numberAt_25 (⟨by rw [(qO_n (fun j hj => by have : j < N 2 := qFst_lt hj (Nat.le_refl _) (fun q hq => by cases hq); omega)).mp c7]; rfl, rfl⟩)
end
section
/-! THE REFERENCE: forecasts and worth -/
set_option maxHeartbeats 4000000 in
set_option maxRecDepth 100000 in
theorem c_X6_loss (l : Launch) (D : KD) (b : Nat) (σ : KS) (pl ice : Nat) (h1 : pl < 11) (h2 : ice < 2 ^ 30) : Ct l D b yX6_loss cX6_loss 2 (some .int) (rM 1 20) 0 0 [.int (nI pl), .int (nI ice)] shF σ shF (pE (some (.int (nI (qLoss pl ice)))) σ) := by
  refine Ct.of (ls := [(0, .int (nI pl)), (1, .int (nI ice))]) (by decide) (Nat.le_of_ble_eq_true rfl) rfl ?_
  intro p e s m args below meth c Q hQ X hnm
  refine K_iload_n X 0 dX6_loss_0 rfl rfl ?_
  refine K_callSE X (c_X6_isTrayPlace l D b _ _ (by omega)) my_X6_isTrayPlace wt_X6_isTrayPlace wm_X6_98 ⟨rfl, rfl, Nat.le_of_ble_eq_true rfl, Nat.le_of_ble_eq_true rfl, Nat.le_of_ble_eq_true rfl, Nat.le_of_ble_eq_true rfl⟩ rfl rfl (Nat.le_of_ble_eq_true rfl) dX6_loss_1 ?_
  refine K_ifB_eq (tgt := 20) X dX6_loss_4 (by decide) (fun c4 => ?_) (fun c4 => ?_)
  · refine K_iload_n X 1 dX6_loss_20 rfl rfl ?_
    refine K_ifN_le (tgt := 28) X dX6_loss_21 (by decide) (by omega) (fun c21 => ?_) (fun c21 => ?_)
    · refine K_bipush X dX6_loss_28 cib_6 ?_
      exact K_iret X hQ dX6_loss_30 (⟨congrArg (fun z => some (Value.int (nI z))) ((if_neg (qTray_f c4)).trans (if_neg (by omega))).symm, rfl⟩)
    · refine K_iconst X dX6_loss_24 cii_1 ?_
      refine K_goto (tgt := 30) X dX6_loss_25 (by decide) ?_
      exact K_iret X hQ dX6_loss_30 (⟨congrArg (fun z => some (Value.int (nI z))) ((if_neg (qTray_f c4)).trans (if_pos (by omega))).symm, rfl⟩)
  · refine K_iload_n X 1 dX6_loss_7 rfl rfl ?_
    refine K_ifN_le (tgt := 15) X dX6_loss_8 (by decide) (by omega) (fun c8 => ?_) (fun c8 => ?_)
    · refine K_bipush X dX6_loss_15 cib_9 ?_
      refine K_goto (tgt := 30) X dX6_loss_17 (by decide) ?_
      exact K_iret X hQ dX6_loss_30 (⟨congrArg (fun z => some (Value.int (nI z))) ((if_pos (qTray_t c4)).trans (if_neg (by omega))).symm, rfl⟩)
    · refine K_iconst X dX6_loss_11 cii_2 ?_
      refine K_goto (tgt := 30) X dX6_loss_12 (by decide) ?_
      exact K_iret X hQ dX6_loss_30 (⟨congrArg (fun z => some (Value.int (nI z))) ((if_pos (qTray_t c4)).trans (if_pos (by omega))).symm, rfl⟩)

set_option maxHeartbeats 4000000 in
set_option maxRecDepth 100000 in
theorem c_X6_iceThen (l : Launch) (D : KD) (b : Nat) (σ : KS) (N : Nat → Nat) (pl ice : Nat) (hP : PF σ.2.2) (h1 : pl < 11) (h2 : ice < 2 ^ 30) (h8 : N 8 ≤ 500) : Ct l D b yX6_iceThen cX6_iceThen 4 (some .int) (rM 1 20) 0 0 [rf b 190, .int (nI pl), .int (nI ice)] shF (wN σ N) shF (pE (some (.int (nI (ice - qMelt N pl)))) (wN σ N)) := by
  refine Ct.of (ls := [(0, rf b 190), (1, .int (nI pl)), (2, .int (nI ice))]) (by decide) (Nat.le_of_ble_eq_true rfl) rfl ?_
  intro p e s m args below meth c Q hQ X hnm
  refine K_iload_n X 2 dX6_iceThen_0 rfl rfl ?_
  refine K_iload_n X 1 dX6_iceThen_1 rfl rfl ?_
  refine K_callSE X (c_X6_isTrayPlace l D b _ _ (by omega)) my_X6_isTrayPlace wt_X6_isTrayPlace wm_X6_98 ⟨rfl, rfl, Nat.le_of_ble_eq_true rfl, Nat.le_of_ble_eq_true rfl, Nat.le_of_ble_eq_true rfl, Nat.le_of_ble_eq_true rfl⟩ rfl rfl (Nat.le_of_ble_eq_true rfl) dX6_iceThen_2 ?_
  refine K_ifB_eq (tgt := 20) X dX6_iceThen_5 (by decide) (fun c5 => ?_) (fun c5 => ?_)
  · refine K_aload_n X 0 dX6_iceThen_20 rfl rfl ?_
    refine K_get X 0 kFd6 rfl (by decide) sf_m wf_X6_7 rfl (v := rf b (191)) (kv_a (pf_m0 hP)) dX6_iceThen_21 ?_
    refine K_bipush X dX6_iceThen_24 cib_8 ?_
    refine K_iald X _ sf_ms rfl (by omega) (by decide) (wN_at _) dX6_iceThen_26 ?_
    refine K_isub X dX6_iceThen_27 ?_
    refine K_istore_n X (ls' := [(3, _), (0, _), (1, _), (2, _)]) dX6_iceThen_28 rfl (by decide) rfl ?_
    refine K_iload_n X 0 dX6_iceThen_29 rfl rfl ?_
    refine K_if_ge (tgt := 37) X dX6_iceThen_30 (by decide) (fun c30 => ?_) (fun c30 => ?_)
    · refine K_iload_n X 0 dX6_iceThen_37 rfl rfl ?_
      exact K_iret X hQ dX6_iceThen_38 (⟨by rw [pk_sub (kDif_ge (by omega) (by omega) c30), qMelt_f c5], rfl⟩)
    · refine K_iconst X dX6_iceThen_33 cii_0 ?_
      refine K_goto (tgt := 38) X dX6_iceThen_34 (by decide) ?_
      exact K_iret X hQ dX6_iceThen_38 (⟨by rw [qMelt_f c5, show ice - N 8 = 0 from by have := kDif_lt (by omega) (by omega) c30; omega], rfl⟩)
  · refine K_iconst X dX6_iceThen_8 cii_2 ?_
    refine K_aload_n X 0 dX6_iceThen_9 rfl rfl ?_
    refine K_get X 0 kFd6 rfl (by decide) sf_m wf_X6_7 rfl (v := rf b (191)) (kv_a (pf_m0 hP)) dX6_iceThen_10 ?_
    refine K_bipush X dX6_iceThen_13 cib_8 ?_
    refine K_iald X _ sf_ms rfl (by omega) (by decide) (wN_at _) dX6_iceThen_15 ?_
    refine K_imulN X dX6_iceThen_16 ?_
    refine K_goto (tgt := 27) X dX6_iceThen_17 (by decide) ?_
    refine K_isub X dX6_iceThen_27 ?_
    refine K_istore_n X (ls' := [(3, _), (0, _), (1, _), (2, _)]) dX6_iceThen_28 rfl (by decide) rfl ?_
    refine K_iload_n X 0 dX6_iceThen_29 rfl rfl ?_
    refine K_if_ge (tgt := 37) X dX6_iceThen_30 (by decide) (fun c30 => ?_) (fun c30 => ?_)
    · refine K_iload_n X 0 dX6_iceThen_37 rfl rfl ?_
      exact K_iret X hQ dX6_iceThen_38 (⟨by rw [pk_sub (kDif_ge (by omega) (by omega) c30), qMelt_t c5], rfl⟩)
    · refine K_iconst X dX6_iceThen_33 cii_0 ?_
      refine K_goto (tgt := 38) X dX6_iceThen_34 (by decide) ?_
      exact K_iret X hQ dX6_iceThen_38 (⟨by rw [qMelt_t c5, show ice - 2 * N 8 = 0 from by have := kDif_lt (by omega) (by omega) c30; omega], rfl⟩)

set_option maxHeartbeats 4000000 in
set_option maxRecDepth 100000 in
theorem c_X6_freshThen (l : Launch) (D : KD) (b : Nat) (σ : KS) (f z : Nat) (h1 : f < 2 ^ 31) (h2 : z < 2 ^ 31) : Ct l D b yX6_freshThen cX6_freshThen 2 (some .int) (rM 0 0) 0 0 [.int (nI f), .int (nI z)] shF σ shF (pE (some (.int (nI (f - z)))) σ) := by
  refine Ct.of (ls := [(0, .int (nI f)), (1, .int (nI z))]) (by decide) (Nat.le_of_ble_eq_true rfl) rfl ?_
  intro p e s m args below meth c Q hQ X hnm
  refine K_iload_n X 0 dX6_freshThen_0 rfl rfl ?_
  refine K_iload_n X 1 dX6_freshThen_1 rfl rfl ?_
  refine K_icmpN_ge (tgt := 9) X dX6_freshThen_2 (by decide) (by omega) (by omega) (fun c2 => ?_) (fun c2 => ?_)
  · refine K_iload_n X 0 dX6_freshThen_9 rfl rfl ?_
    refine K_iload_n X 1 dX6_freshThen_10 rfl rfl ?_
    refine K_isubN X dX6_freshThen_11 (by omega) ?_
    exact K_iret X hQ dX6_freshThen_12 (⟨rfl, rfl⟩)
  · refine K_iconst X dX6_freshThen_5 cii_0 ?_
    refine K_goto (tgt := 12) X dX6_freshThen_6 (by decide) ?_
    exact K_iret X hQ dX6_freshThen_12 (⟨by rw [show f - z = 0 from by omega], rfl⟩)

set_option maxHeartbeats 4000000 in
set_option maxRecDepth 100000 in
theorem c_X6_freshIn (l : Launch) (D : KD) (b : Nat) (σ : KS) (N : Nat → Nat) (k hs : Nat) (hP : PF σ.2.2) (hI : qIr N) (hk : k < N 2) (hh : hs < 2 ^ 30) : Ct l D b yX6_freshIn cX6_freshIn 7 (some .int) (rM 2 43) 0 0 [rf b 190, .int (nI k), .int (nI hs)] shF (wN σ N) shF (pE (some (.int (nI (qFI N k hs).1))) (wN σ N)) := by
  have h2 := qi_2 hI
  refine Ct.of (ls := [(0, rf b 190), (1, .int (nI k)), (2, .int (nI hs))]) (by decide) (Nat.le_of_ble_eq_true rfl) rfl ?_
  intro p e s m args below meth c Q hQ X hnm
  refine K_aload_n X 0 dX6_freshIn_0 rfl rfl ?_
  refine K_iload_n X 1 dX6_freshIn_1 rfl rfl ?_
  refine K_iconst X dX6_freshIn_2 cii_4 ?_
  refine K_callVE X (c_X6_part l D b _ _ _ _ hP (by omega)) my_X6_part mv_X6_part wm_X6_30 sf_m rfl ⟨rfl, rfl, Nat.le_of_ble_eq_true rfl, Nat.le_of_ble_eq_true rfl, Nat.le_of_ble_eq_true rfl, Nat.le_of_ble_eq_true rfl⟩ rfl rfl (Nat.le_of_ble_eq_true rfl) dX6_freshIn_3 ?_
  refine K_istore_n X (ls' := [(3, _), (0, _), (1, _), (2, _)]) dX6_freshIn_6 rfl (by decide) rfl ?_
  refine K_aload_n X 1 dX6_freshIn_7 rfl rfl ?_
  refine K_get X 0 kFd6 rfl (by decide) sf_m wf_X6_7 rfl (v := rf b (191)) (kv_a (pf_m0 hP)) dX6_freshIn_8 ?_
  refine K_bipush X dX6_freshIn_11 cib_34 ?_
  refine K_iload_n X 0 dX6_freshIn_13 rfl rfl ?_
  refine K_iaddN X dX6_freshIn_14 ?_
  refine K_iald X _ sf_ms rfl (by have := qi_l4 hI hk; omega) (by decide) (wN_at _) dX6_freshIn_15 ?_
  refine K_istore X (ls' := [(4, _), (3, _), (0, _), (1, _), (2, _)]) dX6_freshIn_16 (by decide) rfl ?_
  refine K_aload_n X 2 dX6_freshIn_18 rfl rfl ?_
  refine K_iload_n X 3 dX6_freshIn_19 rfl rfl ?_
  refine K_iconst X dX6_freshIn_20 cii_3 ?_
  refine K_callVE X (c_X6_part l D b _ _ _ _ hP (by omega)) my_X6_part mv_X6_part wm_X6_30 sf_m rfl ⟨rfl, rfl, Nat.le_of_ble_eq_true rfl, Nat.le_of_ble_eq_true rfl, Nat.le_of_ble_eq_true rfl, Nat.le_of_ble_eq_true rfl⟩ rfl rfl (Nat.le_of_ble_eq_true rfl) dX6_freshIn_21 ?_
  refine K_istore X (ls' := [(5, _), (4, _), (3, _), (0, _), (1, _), (2, _)]) dX6_freshIn_24 (by decide) rfl ?_
  refine K_iconst X dX6_freshIn_26 cii_0 ?_
  refine K_istore X (ls' := [(6, _), (5, _), (4, _), (3, _), (0, _), (1, _), (2, _)]) dX6_freshIn_27 (by decide) rfl ?_
  have loop : ∀ i : Nat, i ≤ hs → K p l e (rM 2 43) s m args below meth c Q D b 7 0 0 shF (wN σ N) 29 [(0, rf b 190), (1, .int (nI k)), (2, .int (nI hs)), (3, .int (nI (qL N k 4))), (4, .int (nI (qFI N k i).2)), (5, .int (nI (qFI N k i).1)), (6, .int (nI i))] [] := by
    refine kup (fun i hi ih => ?_)
    refine K_iload X 6 dX6_freshIn_29 rfl ?_
    refine K_iload_n X 2 dX6_freshIn_31 rfl rfl ?_
    refine K_icmpN_ge (tgt := 63) X dX6_freshIn_32 (by decide) (by omega) (by omega) (fun c32 => ?_) (fun c32 => ?_)
    · refine K_iload X 5 dX6_freshIn_63 rfl ?_
      exact K_iret X hQ dX6_freshIn_65 (⟨by rw [show i = hs from by omega], rfl⟩)
    · refine K_iload X 5 dX6_freshIn_35 rfl ?_
      refine K_iload_n X 3 dX6_freshIn_37 rfl rfl ?_
      refine K_iload X 4 dX6_freshIn_38 rfl ?_
      refine K_callSE X (c_X6_loss l D b _ _ _ (qi_l4 hI hk) (by have := (qFI_le N k i).2; have := qi_i hI (qi_l4 hI hk); omega)) my_X6_loss wt_X6_loss wm_X6_107 ⟨rfl, rfl, Nat.le_of_ble_eq_true rfl, Nat.le_of_ble_eq_true rfl, Nat.le_of_ble_eq_true rfl, Nat.le_of_ble_eq_true rfl⟩ rfl rfl (Nat.le_of_ble_eq_true rfl) dX6_freshIn_40 ?_
      refine K_callSE X (c_X6_freshThen l D b _ _ _ (by have := (qFI_le N k i).1; have := qi_l3 hI hk; omega) (by have := qLoss_le (qL N k 4) (qFI N k i).2; omega)) my_X6_freshThen wt_X6_freshThen wm_X6_110 ⟨rfl, rfl, Nat.le_of_ble_eq_true rfl, Nat.le_of_ble_eq_true rfl, Nat.le_of_ble_eq_true rfl, Nat.le_of_ble_eq_true rfl⟩ rfl rfl (Nat.le_of_ble_eq_true rfl) dX6_freshIn_43 ?_
      refine K_istore X (ls' := [(5, _), (0, _), (1, _), (2, _), (3, _), (4, _), (6, _)]) dX6_freshIn_46 (by decide) rfl ?_
      refine K_aload_n X 1 dX6_freshIn_48 rfl rfl ?_
      refine K_iload_n X 4 dX6_freshIn_49 rfl rfl ?_
      refine K_iload X 5 dX6_freshIn_50 rfl ?_
      refine K_callVE X (c_X6_iceThen l D b _ _ _ _ hP (qi_l4 hI hk) (by have := (qFI_le N k i).2; have := qi_i hI (qi_l4 hI hk); omega) (qi_8 hI)) my_X6_iceThen mv_X6_iceThen wm_X6_113 sf_m rfl ⟨rfl, rfl, Nat.le_of_ble_eq_true rfl, Nat.le_of_ble_eq_true rfl, Nat.le_of_ble_eq_true rfl, Nat.le_of_ble_eq_true rfl⟩ rfl rfl (Nat.le_of_ble_eq_true rfl) dX6_freshIn_52 ?_
      refine K_istore X (ls' := [(4, _), (5, _), (0, _), (1, _), (2, _), (3, _), (6, _)]) dX6_freshIn_55 (by decide) rfl ?_
      refine K_iinc X 6 (ls' := [(6, _), (4, _), (5, _), (0, _), (1, _), (2, _), (3, _)]) dX6_freshIn_57 rfl (inc_1 _) (by decide) rfl ?_
      refine K_goto (tgt := 29) X dX6_freshIn_60 (by decide) ?_
      exact K_sub [3, 4, 5, 6, 1, 2, 0] rfl (ih (by omega))
  exact K_sub [4, 5, 6, 3, 2, 1, 0] rfl (loop 0 (Nat.zero_le _))

set_option maxHeartbeats 4000000 in
set_option maxRecDepth 100000 in
theorem c_X6_leftOf (l : Launch) (D : KD) (b : Nat) (σ : KS) (N : Nat → Nat) (k : Nat) (hP : PF σ.2.2) (hI : qIr N) (hk : k < N 2) : Ct l D b yX6_leftOf cX6_leftOf 4 (some .int) (rM 3 69) 0 0 [rf b 190, .int (nI k)] shF (wN σ N) shF (pE (some (.int (qO (qLf N k 101)))) (wN σ N)) := by
  have h2 := qi_2 hI
  refine Ct.of (ls := [(0, rf b 190), (1, .int (nI k))]) (by decide) (Nat.le_of_ble_eq_true rfl) rfl ?_
  intro p e s m args below meth c Q hQ X hnm
  refine K_bipush X dX6_leftOf_0 cib_m6 ?_
  refine K_istore_n X (ls' := [(2, _), (0, _), (1, _)]) dX6_leftOf_2 rfl (by decide) rfl ?_
  refine K_iconst X dX6_leftOf_3 cii_0 ?_
  refine K_istore_n X (ls' := [(3, _), (2, _), (0, _), (1, _)]) dX6_leftOf_4 rfl (by decide) rfl ?_
  have loop : ∀ i : Nat, i ≤ 101 → K p l e (rM 3 69) s m args below meth c Q D b 4 0 0 shF (wN σ N) 5 [(0, rf b 190), (1, .int (nI k)), (2, .int (qO (qLf N k i))), (3, .int (nI i))] [] := by
    refine kup (fun i hi ih => ?_)
    refine K_iload_n X 3 dX6_leftOf_5 rfl rfl ?_
    refine K_bipush X dX6_leftOf_6 cib_100 ?_
    refine K_icmpN_gt (tgt := 39) X dX6_leftOf_8 (by decide) (by omega) (by omega) (fun c8 => ?_) (fun c8 => ?_)
    · refine K_iload_n X 2 dX6_leftOf_39 rfl rfl ?_
      exact K_iret X hQ dX6_leftOf_40 (⟨by rw [show i = 101 from by omega], rfl⟩)
    · refine K_aload_n X 0 dX6_leftOf_11 rfl rfl ?_
      refine K_iload_n X 1 dX6_leftOf_12 rfl rfl ?_
      refine K_iload_n X 3 dX6_leftOf_13 rfl rfl ?_
      refine K_callVE X (c_X6_freshIn l D b _ _ _ _ hP hI (by omega) (by omega)) my_X6_freshIn mv_X6_freshIn wm_X6_162 sf_m rfl ⟨rfl, rfl, Nat.le_of_ble_eq_true rfl, Nat.le_of_ble_eq_true rfl, Nat.le_of_ble_eq_true rfl, Nat.le_of_ble_eq_true rfl⟩ rfl rfl (Nat.le_of_ble_eq_true rfl) dX6_leftOf_14 ?_
      refine K_aload_n X 0 dX6_leftOf_17 rfl rfl ?_
      refine K_get X 0 kFd6 rfl (by decide) sf_m wf_X6_7 rfl (v := rf b (191)) (kv_a (pf_m0 hP)) dX6_leftOf_18 ?_
      refine K_bipush X dX6_leftOf_21 cib_9 ?_
      refine K_iald X _ sf_ms rfl (by omega) (by decide) (wN_at _) dX6_leftOf_23 ?_
      refine K_icmpN_lt (tgt := 31) X dX6_leftOf_24 (by decide) (by have := (qFI_le N k i).1; have := qi_l3 hI hk; omega) (by have := qi_9 hI; omega) (fun c24 => ?_) (fun c24 => ?_)
      · refine K_iload_n X 2 dX6_leftOf_31 rfl rfl ?_
        refine K_istore_n X (ls' := [(2, _), (0, _), (1, _), (3, _)]) dX6_leftOf_32 rfl (by decide) rfl ?_
        refine K_iinc X 3 (ls' := [(3, _), (2, _), (0, _), (1, _)]) dX6_leftOf_33 rfl (inc_1 _) (by decide) rfl ?_
        refine K_goto (tgt := 5) X dX6_leftOf_36 (by decide) ?_
        rw [show qLf N k (i + 1) = qLf N k i from if_neg (by omega)] at ih
        exact K_sub [2, 3, 1, 0] rfl (ih (by omega))
      · refine K_iload_n X 3 dX6_leftOf_27 rfl rfl ?_
        refine K_goto (tgt := 32) X dX6_leftOf_28 (by decide) ?_
        refine K_istore_n X (ls' := [(2, _), (0, _), (1, _), (3, _)]) dX6_leftOf_32 rfl (by decide) rfl ?_
        refine K_iinc X 3 (ls' := [(3, _), (2, _), (0, _), (1, _)]) dX6_leftOf_33 rfl (inc_1 _) (by decide) rfl ?_
        refine K_goto (tgt := 5) X dX6_leftOf_36 (by decide) ?_
        rw [show qLf N k (i + 1) = some i from if_pos (by omega)] at ih
        exact K_sub [2, 3, 1, 0] rfl (ih (by omega))
  exact K_sub [2, 3, 1, 0] rfl (loop 0 (Nat.zero_le _))

set_option maxHeartbeats 4000000 in
set_option maxRecDepth 100000 in
theorem c_X6_bestOf (l : Launch) (D : KD) (b : Nat) (σ : KS) (N : Nat → Nat) (k : Nat) (hP : PF σ.2.2) (hI : qIr N) (hk : k < N 2) : Ct l D b yX6_bestOf cX6_bestOf 6 (some .int) (rM 3 69) 0 0 [rf b 190, .int (nI k)] shF (wN σ N) shF (pE (some (.int (qHf (qBs N k (11 - N 1))))) (wN σ N)) := by
  have h2 := qi_2 hI
  have h1 := qi_1 hI
  refine Ct.of (ls := [(0, rf b 190), (1, .int (nI k))]) (by decide) (Nat.le_of_ble_eq_true rfl) rfl ?_
  intro p e s m args below meth c Q hQ X hnm
  refine K_bipush X dX6_bestOf_0 cib_m6 ?_
  refine K_istore_n X (ls' := [(2, _), (0, _), (1, _)]) dX6_bestOf_2 rfl (by decide) rfl ?_
  refine K_bipush X dX6_bestOf_3 cib_m6 ?_
  refine K_istore_n X (ls' := [(3, _), (2, _), (0, _), (1, _)]) dX6_bestOf_5 rfl (by decide) rfl ?_
  refine K_aload_n X 2 dX6_bestOf_6 rfl rfl ?_
  refine K_get X 0 kFd6 rfl (by decide) sf_m wf_X6_7 rfl (v := rf b (191)) (kv_a (pf_m0 hP)) dX6_bestOf_7 ?_
  refine K_iconst X dX6_bestOf_10 cii_1 ?_
  refine K_iald X _ sf_ms rfl (by omega) (by decide) (wN_at _) dX6_bestOf_11 ?_
  refine K_istore X (ls' := [(4, _), (3, _), (2, _), (0, _), (1, _)]) dX6_bestOf_12 (by decide) rfl ?_
  have loop : ∀ i : Nat, i ≤ 11 - N 1 → K p l e (rM 3 69) s m args below meth c Q D b 6 0 0 shF (wN σ N) 14 [(0, rf b 190), (1, .int (nI k)), (2, .int (qHf (qBs N k i))), (3, .int (qHm (qBs N k i))), (4, .int (nI (N 1 + i)))] [] := by
    refine kup (fun i hi ih => ?_)
    refine K_iload X 4 dX6_bestOf_14 rfl ?_
    refine K_bipush X dX6_bestOf_16 cib_10 ?_
    refine K_icmpN_gt (tgt := 90) X dX6_bestOf_18 (by decide) (by omega) (by omega) (fun c18 => ?_) (fun c18 => ?_)
    · refine K_iload_n X 2 dX6_bestOf_90 rfl rfl ?_
      exact K_iret X hQ dX6_bestOf_91 (⟨by rw [show i = 11 - N 1 from by omega], rfl⟩)
    · refine K_aload_n X 0 dX6_bestOf_21 rfl rfl ?_
      refine K_iload_n X 1 dX6_bestOf_22 rfl rfl ?_
      refine K_iconst X dX6_bestOf_23 cii_2 ?_
      refine K_callVE X (c_X6_part l D b _ _ _ _ hP (by omega)) my_X6_part mv_X6_part wm_X6_30 sf_m rfl ⟨rfl, rfl, Nat.le_of_ble_eq_true rfl, Nat.le_of_ble_eq_true rfl, Nat.le_of_ble_eq_true rfl, Nat.le_of_ble_eq_true rfl⟩ rfl rfl (Nat.le_of_ble_eq_true rfl) dX6_bestOf_24 ?_
      refine K_aload_n X 0 dX6_bestOf_27 rfl rfl ?_
      refine K_aload_n X 0 dX6_bestOf_28 rfl rfl ?_
      refine K_iload_n X 1 dX6_bestOf_29 rfl rfl ?_
      refine K_iconst X dX6_bestOf_30 cii_1 ?_
      refine K_callVE X (c_X6_part l D b _ _ _ _ hP (by omega)) my_X6_part mv_X6_part wm_X6_30 sf_m rfl ⟨rfl, rfl, Nat.le_of_ble_eq_true rfl, Nat.le_of_ble_eq_true rfl, Nat.le_of_ble_eq_true rfl, Nat.le_of_ble_eq_true rfl⟩ rfl rfl (Nat.le_of_ble_eq_true rfl) dX6_bestOf_31 ?_
      refine K_aload_n X 0 dX6_bestOf_34 rfl rfl ?_
      refine K_iload_n X 1 dX6_bestOf_35 rfl rfl ?_
      refine K_iload X 4 dX6_bestOf_36 rfl ?_
      refine K_aload_n X 0 dX6_bestOf_38 rfl rfl ?_
      refine K_get X 0 kFd6 rfl (by decide) sf_m wf_X6_7 rfl (v := rf b (191)) (kv_a (pf_m0 hP)) dX6_bestOf_39 ?_
      refine K_iconst X dX6_bestOf_42 cii_1 ?_
      refine K_iald X _ sf_ms rfl (by omega) (by decide) (wN_at _) dX6_bestOf_43 ?_
      refine K_isubN X dX6_bestOf_44 (by omega) ?_
      rw [show N 1 + i - N 1 = i from by omega]
      refine K_callVE X (c_X6_freshIn l D b _ _ _ _ hP hI (by omega) (by omega)) my_X6_freshIn mv_X6_freshIn wm_X6_162 sf_m rfl ⟨rfl, rfl, Nat.le_of_ble_eq_true rfl, Nat.le_of_ble_eq_true rfl, Nat.le_of_ble_eq_true rfl, Nat.le_of_ble_eq_true rfl⟩ rfl rfl (Nat.le_of_ble_eq_true rfl) dX6_bestOf_45 ?_
      refine K_iload X 4 dX6_bestOf_48 rfl ?_
      refine K_callVE X (c_X6_priceWith l D b _ _ _ _ _ hP (qi_l1 hI hk) (Nat.le_trans (qFI_le N k i).1 (qi_l3 hI hk)) (by omega) (qi_p hI (qi_l1 hI hk)) (qi_t hI (by omega))) my_X6_priceWith mv_X6_priceWith wm_X6_42 sf_m rfl ⟨rfl, rfl, Nat.le_of_ble_eq_true rfl, Nat.le_of_ble_eq_true rfl, Nat.le_of_ble_eq_true rfl, Nat.le_of_ble_eq_true rfl⟩ rfl rfl (Nat.le_of_ble_eq_true rfl) dX6_bestOf_50 ?_
      refine K_callSE X (c_X6_worthOf l D b _ _ _ (qW_b (qi_l2 hI hk) (qPr_le (qi_p hI (qi_l1 hI hk)) (Nat.le_trans (qFI_le N k i).1 (qi_l3 hI hk))))) my_X6_worthOf wt_X6_worthOf wm_X6_70 ⟨rfl, rfl, Nat.le_of_ble_eq_true rfl, Nat.le_of_ble_eq_true rfl, Nat.le_of_ble_eq_true rfl, Nat.le_of_ble_eq_true rfl⟩ rfl rfl (Nat.le_of_ble_eq_true rfl) dX6_bestOf_53 ?_
      refine K_istore X (ls' := [(5, _), (0, _), (1, _), (2, _), (3, _), (4, _)]) dX6_bestOf_56 (by decide) rfl ?_
      refine K_iload X 0 dX6_bestOf_58 rfl ?_
      refine K_iload_n X 4 dX6_bestOf_60 rfl rfl ?_
      refine K_icmp_le (tgt := 69) X dX6_bestOf_61 (by decide) (fun c61 => ?_) (fun c61 => ?_)
      · refine K_iload_n X 3 dX6_bestOf_69 rfl rfl ?_
        refine K_istore_n X (ls' := [(2, _), (5, _), (0, _), (1, _), (3, _), (4, _)]) dX6_bestOf_70 rfl (by decide) rfl ?_
        refine K_iload X 1 dX6_bestOf_71 rfl ?_
        refine K_iload_n X 4 dX6_bestOf_73 rfl rfl ?_
        refine K_icmp_le (tgt := 82) X dX6_bestOf_74 (by decide) (fun c74 => ?_) (fun c74 => ?_)
        · refine K_iload_n X 4 dX6_bestOf_82 rfl rfl ?_
          refine K_istore_n X (ls' := [(3, _), (2, _), (5, _), (0, _), (1, _), (4, _)]) dX6_bestOf_83 rfl (by decide) rfl ?_
          refine K_iinc X 5 (ls' := [(4, _), (3, _), (2, _), (5, _), (0, _), (1, _)]) dX6_bestOf_84 rfl (inc_1 _) (by decide) rfl ?_
          refine K_goto (tgt := 14) X dX6_bestOf_87 (by decide) ?_
          have hb : qBs N k (i + 1) = qBs N k i := qB_le (w := qWat N k i) (by have : qWat N k i ≤ 199980 := qW_le (qi_l2 hI hk) (qPr_le (qi_p hI (qi_l1 hI hk)) (Nat.le_trans (qFI_le N k i).1 (qi_l3 hI hk))); omega) (fun q hq => by have := (qBs_b hI hk hq).1; omega) c61
          rw [hb] at ih
          exact K_sub [4, 5, 2, 1, 0] rfl (ih (by omega))
        · exact absurd c61 c74
      · refine K_iload X 5 dX6_bestOf_64 rfl ?_
        refine K_goto (tgt := 70) X dX6_bestOf_66 (by decide) ?_
        refine K_istore_n X (ls' := [(2, _), (5, _), (0, _), (1, _), (3, _), (4, _)]) dX6_bestOf_70 rfl (by decide) rfl ?_
        refine K_iload X 1 dX6_bestOf_71 rfl ?_
        refine K_iload_n X 4 dX6_bestOf_73 rfl rfl ?_
        refine K_icmp_le (tgt := 82) X dX6_bestOf_74 (by decide) (fun c74 => ?_) (fun c74 => ?_)
        · exact absurd c74 c61
        · refine K_iload X 1 dX6_bestOf_77 rfl ?_
          refine K_goto (tgt := 83) X dX6_bestOf_79 (by decide) ?_
          refine K_istore_n X (ls' := [(3, _), (2, _), (5, _), (0, _), (1, _), (4, _)]) dX6_bestOf_83 rfl (by decide) rfl ?_
          refine K_iinc X 5 (ls' := [(4, _), (3, _), (2, _), (5, _), (0, _), (1, _)]) dX6_bestOf_84 rfl (inc_1 _) (by decide) rfl ?_
          refine K_goto (tgt := 14) X dX6_bestOf_87 (by decide) ?_
          have hb : qBs N k (i + 1) = some (N 1 + i, qWat N k i) := qB_gt (w := qWat N k i) (by have : qWat N k i ≤ 199980 := qW_le (qi_l2 hI hk) (qPr_le (qi_p hI (qi_l1 hI hk)) (Nat.le_trans (qFI_le N k i).1 (qi_l3 hI hk))); omega) (fun q hq => by have := (qBs_b hI hk hq).1; omega) c61
          rw [hb] at ih
          exact K_sub [4, 5, 2, 1, 0] rfl (ih (by omega))
  exact K_sub [3, 4, 2, 1, 0] rfl (loop 0 (Nat.zero_le _))

set_option maxHeartbeats 4000000 in
set_option maxRecDepth 100000 in
theorem c_X6_allWorth (l : Launch) (D : KD) (b : Nat) (σ : KS) (N : Nat → Nat) (hP : PF σ.2.2) (hI : qIr N) : Ct l D b yX6_allWorth cX6_allWorth 4 (some .long) (rM 2 45) 0 0 [rf b 190] shF (wN σ N) shF (pE (some (.long (lN (qWorth N (N 2))))) (wN σ N)) := by
  have h2 := qi_2 hI
  refine Ct.of (ls := [(0, rf b 190)]) (by decide) (Nat.le_of_ble_eq_true rfl) rfl ?_
  intro p e s m args below meth c Q hQ X hnm
  refine K_lconst (v := lN 0) X dX6_allWorth_0 rfl ?_
  refine K_lstore_n X (ls' := [(1, _), (0, _)]) dX6_allWorth_1 rfl (by decide) rfl ?_
  refine K_iconst X dX6_allWorth_2 cii_0 ?_
  refine K_istore_n X (ls' := [(3, _), (1, _), (0, _)]) dX6_allWorth_3 rfl (by decide) rfl ?_
  have loop : ∀ i : Nat, i ≤ N 2 → K p l e (rM 2 45) s m args below meth c Q D b 4 0 0 shF (wN σ N) 4 [(0, rf b 190), (1, .long (lN (qWorth N i))), (3, .int (nI i))] [] := by
    refine kup (fun i hi ih => ?_)
    refine K_iload_n X 2 dX6_allWorth_4 rfl rfl ?_
    refine K_aload_n X 0 dX6_allWorth_5 rfl rfl ?_
    refine K_get X 0 kFd6 rfl (by decide) sf_m wf_X6_7 rfl (v := rf b (191)) (kv_a (pf_m0 hP)) dX6_allWorth_6 ?_
    refine K_iconst X dX6_allWorth_9 cii_2 ?_
    refine K_iald X _ sf_ms rfl (by omega) (by decide) (wN_at _) dX6_allWorth_10 ?_
    refine K_icmpN_ge (tgt := 50) X dX6_allWorth_11 (by decide) (by omega) (by omega) (fun c11 => ?_) (fun c11 => ?_)
    · refine K_lload_n X 1 dX6_allWorth_50 rfl rfl ?_
      exact K_lret X hQ dX6_allWorth_51 (⟨by rw [show i = N 2 from by omega], rfl⟩)
    · refine K_lload_n X 1 dX6_allWorth_14 rfl rfl ?_
      refine K_aload_n X 0 dX6_allWorth_15 rfl rfl ?_
      refine K_iload_n X 2 dX6_allWorth_16 rfl rfl ?_
      refine K_callVE X (c_X6_isSold l D b _ _ _ hP hI (by omega)) my_X6_isSold mv_X6_isSold wm_X6_101 sf_m rfl ⟨rfl, rfl, Nat.le_of_ble_eq_true rfl, Nat.le_of_ble_eq_true rfl, Nat.le_of_ble_eq_true rfl, Nat.le_of_ble_eq_true rfl⟩ rfl rfl (Nat.le_of_ble_eq_true rfl) dX6_allWorth_17 ?_
      refine K_ifB_eq (tgt := 41) X dX6_allWorth_20 (by decide) (fun c20 => ?_) (fun c20 => ?_)
      · refine K_lconst (v := lN 0) X dX6_allWorth_41 rfl ?_
        refine K_laddN X dX6_allWorth_42 ?_
        refine K_lstore_n X (ls' := [(1, _), (0, _), (3, _)]) dX6_allWorth_43 rfl (by decide) rfl ?_
        refine K_iinc X 2 (ls' := [(3, _), (1, _), (0, _)]) dX6_allWorth_44 rfl (inc_1 _) (by decide) rfl ?_
        refine K_goto (tgt := 4) X dX6_allWorth_47 (by decide) ?_
        rw [show qWorth N (i + 1) = qWorth N i + 0 from congrArg (qWorth N i + ·) (if_neg (by rw [c20]; decide))] at ih
        exact K_sub [2, 1, 0] rfl (ih (by omega))
      · refine K_aload_n X 0 dX6_allWorth_23 rfl rfl ?_
        refine K_iload_n X 2 dX6_allWorth_24 rfl rfl ?_
        refine K_iconst X dX6_allWorth_25 cii_2 ?_
        refine K_callVE X (c_X6_part l D b _ _ _ _ hP (by omega)) my_X6_part mv_X6_part wm_X6_30 sf_m rfl ⟨rfl, rfl, Nat.le_of_ble_eq_true rfl, Nat.le_of_ble_eq_true rfl, Nat.le_of_ble_eq_true rfl, Nat.le_of_ble_eq_true rfl⟩ rfl rfl (Nat.le_of_ble_eq_true rfl) dX6_allWorth_26 ?_
        refine K_aload_n X 0 dX6_allWorth_29 rfl rfl ?_
        refine K_iload_n X 2 dX6_allWorth_30 rfl rfl ?_
        refine K_callVE X (c_X6_priceOf l D b _ _ _ hP hI (by omega)) my_X6_priceOf mv_X6_priceOf wm_X6_92 sf_m rfl ⟨rfl, rfl, Nat.le_of_ble_eq_true rfl, Nat.le_of_ble_eq_true rfl, Nat.le_of_ble_eq_true rfl, Nat.le_of_ble_eq_true rfl⟩ rfl rfl (Nat.le_of_ble_eq_true rfl) dX6_allWorth_31 ?_
        refine K_callSE X (c_X6_worthOf l D b _ _ _ (qW_b (qi_l2 hI (by omega)) (qPrice_le hI (by omega)))) my_X6_worthOf wt_X6_worthOf wm_X6_70 ⟨rfl, rfl, Nat.le_of_ble_eq_true rfl, Nat.le_of_ble_eq_true rfl, Nat.le_of_ble_eq_true rfl, Nat.le_of_ble_eq_true rfl⟩ rfl rfl (Nat.le_of_ble_eq_true rfl) dX6_allWorth_34 ?_
        refine K_i2lN X dX6_allWorth_37 (by have := qW_le (qi_l2 hI (show i < N 2 from by omega)) (qPrice_le hI (show i < N 2 from by omega)); omega) ?_
        refine K_goto (tgt := 42) X dX6_allWorth_38 (by decide) ?_
        refine K_laddN X dX6_allWorth_42 ?_
        refine K_lstore_n X (ls' := [(1, _), (0, _), (3, _)]) dX6_allWorth_43 rfl (by decide) rfl ?_
        refine K_iinc X 2 (ls' := [(3, _), (1, _), (0, _)]) dX6_allWorth_44 rfl (inc_1 _) (by decide) rfl ?_
        refine K_goto (tgt := 4) X dX6_allWorth_47 (by decide) ?_
        rw [show qWorth N (i + 1) = qWorth N i + qW (qL N i 2) (qPrice N i) from congrArg (qWorth N i + ·) (if_pos c20)] at ih
        exact K_sub [2, 1, 0] rfl (ih (by omega))
  exact K_sub [2, 1, 0] rfl (loop 0 (Nat.zero_le _))
end
section
/-! THE REFERENCE: the next lot, the coldest box, the answers that change nothing -/
set_option maxHeartbeats 4000000 in
set_option maxRecDepth 100000 in
theorem c_X6_nextFor (l : Launch) (D : KD) (b : Nat) (σ : KS) (N : Nat → Nat) (kd fr pr : Nat) (hP : PF σ.2.2) (hI : qIr N) (h1 : kd < 6) (hf1 : fr ≤ 100) (hp1 : pr ≤ 9999) : Ct l D b yX6_nextFor cX6_nextFor 7 (some .int) (rM 2 45) 0 0 [rf b 190, .int (nI kd), .int (nI fr), .int (nI pr)] shF (wN σ N) shF (pE (some (.int (qO (qNx N kd fr pr (N 2))))) (wN σ N)) := by
  have h2 := qi_2 hI
  refine Ct.of (ls := [(0, rf b 190), (1, .int (nI kd)), (2, .int (nI fr)), (3, .int (nI pr))]) (by decide) (Nat.le_of_ble_eq_true rfl) rfl ?_
  intro p e s m args below meth c Q hQ X hnm
  refine K_bipush X dX6_nextFor_0 cib_m6 ?_
  refine K_istore X (ls' := [(4, _), (0, _), (1, _), (2, _), (3, _)]) dX6_nextFor_2 (by decide) rfl ?_
  refine K_iconst X dX6_nextFor_4 cii_0 ?_
  refine K_istore X (ls' := [(5, _), (4, _), (0, _), (1, _), (2, _), (3, _)]) dX6_nextFor_5 (by decide) rfl ?_
  have loop : ∀ i : Nat, i ≤ N 2 → K p l e (rM 2 45) s m args below meth c Q D b 7 0 0 shF (wN σ N) 7 [(0, rf b 190), (1, .int (nI kd)), (2, .int (nI fr)), (3, .int (nI pr)), (4, .int (qO (qNx N kd fr pr i))), (5, .int (nI i))] [] := by
    refine kup (fun i hi ih => ?_)
    refine K_iload X 5 dX6_nextFor_7 rfl ?_
    refine K_aload_n X 0 dX6_nextFor_9 rfl rfl ?_
    refine K_get X 0 kFd6 rfl (by decide) sf_m wf_X6_7 rfl (v := rf b (191)) (kv_a (pf_m0 hP)) dX6_nextFor_10 ?_
    refine K_iconst X dX6_nextFor_13 cii_2 ?_
    refine K_iald X _ sf_ms rfl (by omega) (by decide) (wN_at _) dX6_nextFor_14 ?_
    refine K_icmpN_ge (tgt := 123) X dX6_nextFor_15 (by decide) (by omega) (by omega) (fun c15 => ?_) (fun c15 => ?_)
    · refine K_iload X 4 dX6_nextFor_123 rfl ?_
      exact K_iret X hQ dX6_nextFor_125 (⟨by rw [show i = N 2 from by omega], rfl⟩)
    · refine K_aload_n X 0 dX6_nextFor_18 rfl rfl ?_
      refine K_iload X 5 dX6_nextFor_19 rfl ?_
      refine K_iconst X dX6_nextFor_21 cii_1 ?_
      refine K_callVE X (c_X6_part l D b _ _ _ _ hP (by omega)) my_X6_part mv_X6_part wm_X6_30 sf_m rfl ⟨rfl, rfl, Nat.le_of_ble_eq_true rfl, Nat.le_of_ble_eq_true rfl, Nat.le_of_ble_eq_true rfl, Nat.le_of_ble_eq_true rfl⟩ rfl rfl (Nat.le_of_ble_eq_true rfl) dX6_nextFor_22 ?_
      refine K_iload_n X 1 dX6_nextFor_25 rfl rfl ?_
      refine K_icmpN_ne (tgt := 76) X dX6_nextFor_26 (by decide) (by have := qi_l1 hI (show i < N 2 from by omega); omega) (by omega) (fun c26 => ?_) (fun c26 => ?_)
      · refine K_iconst X dX6_nextFor_76 cii_0 ?_
        refine K_istore X (ls' := [(6, _), (0, _), (1, _), (2, _), (3, _), (4, _), (5, _)]) dX6_nextFor_77 (by decide) rfl ?_
        refine K_iload X 0 dX6_nextFor_79 rfl ?_
        refine K_ifN_eq (tgt := 113) X dX6_nextFor_81 (by decide) (by omega) (fun c81 => ?_) (fun c81 => ?_)
        · refine K_iload X 5 dX6_nextFor_113 rfl ?_
          refine K_istore X (ls' := [(4, _), (6, _), (0, _), (1, _), (2, _), (3, _), (5, _)]) dX6_nextFor_115 (by decide) rfl ?_
          refine K_iinc X 6 (ls' := [(5, _), (4, _), (6, _), (0, _), (1, _), (2, _), (3, _)]) dX6_nextFor_117 rfl (inc_1 _) (by decide) rfl ?_
          refine K_goto (tgt := 7) X dX6_nextFor_120 (by decide) ?_
          have hf : qFits N kd fr pr i = false := by unfold qFits; simp [c26]
          rw [show qNx N kd fr pr (i + 1) = qNx N kd fr pr i from if_neg (fun q => by rw [hf] at q; exact absurd q.1 (by decide))] at ih
          exact K_sub [3, 4, 5, 6, 1, 0] rfl (ih (by omega))
        · exact absurd rfl c81
      · refine K_aload_n X 0 dX6_nextFor_29 rfl rfl ?_
        refine K_iload X 5 dX6_nextFor_30 rfl ?_
        refine K_iconst X dX6_nextFor_32 cii_4 ?_
        refine K_callVE X (c_X6_part l D b _ _ _ _ hP (by omega)) my_X6_part mv_X6_part wm_X6_30 sf_m rfl ⟨rfl, rfl, Nat.le_of_ble_eq_true rfl, Nat.le_of_ble_eq_true rfl, Nat.le_of_ble_eq_true rfl, Nat.le_of_ble_eq_true rfl⟩ rfl rfl (Nat.le_of_ble_eq_true rfl) dX6_nextFor_33 ?_
        refine K_callSE X (c_X6_isTrayPlace l D b _ _ (by have := qi_l4 hI (show i < N 2 from by omega); omega)) my_X6_isTrayPlace wt_X6_isTrayPlace wm_X6_98 ⟨rfl, rfl, Nat.le_of_ble_eq_true rfl, Nat.le_of_ble_eq_true rfl, Nat.le_of_ble_eq_true rfl, Nat.le_of_ble_eq_true rfl⟩ rfl rfl (Nat.le_of_ble_eq_true rfl) dX6_nextFor_36 ?_
        refine K_ifB_eq (tgt := 76) X dX6_nextFor_39 (by decide) (fun c39 => ?_) (fun c39 => ?_)
        · refine K_iconst X dX6_nextFor_76 cii_0 ?_
          refine K_istore X (ls' := [(6, _), (0, _), (1, _), (2, _), (3, _), (4, _), (5, _)]) dX6_nextFor_77 (by decide) rfl ?_
          refine K_iload X 0 dX6_nextFor_79 rfl ?_
          refine K_ifN_eq (tgt := 113) X dX6_nextFor_81 (by decide) (by omega) (fun c81 => ?_) (fun c81 => ?_)
          · refine K_iload X 5 dX6_nextFor_113 rfl ?_
            refine K_istore X (ls' := [(4, _), (6, _), (0, _), (1, _), (2, _), (3, _), (5, _)]) dX6_nextFor_115 (by decide) rfl ?_
            refine K_iinc X 6 (ls' := [(5, _), (4, _), (6, _), (0, _), (1, _), (2, _), (3, _)]) dX6_nextFor_117 rfl (inc_1 _) (by decide) rfl ?_
            refine K_goto (tgt := 7) X dX6_nextFor_120 (by decide) ?_
            have hf : qFits N kd fr pr i = false := by unfold qFits; rw [c39]; simp
            rw [show qNx N kd fr pr (i + 1) = qNx N kd fr pr i from if_neg (fun q => by rw [hf] at q; exact absurd q.1 (by decide))] at ih
            exact K_sub [3, 4, 5, 6, 1, 0] rfl (ih (by omega))
          · exact absurd rfl c81
        · refine K_aload_n X 0 dX6_nextFor_42 rfl rfl ?_
          refine K_iload X 5 dX6_nextFor_43 rfl ?_
          refine K_callVE X (c_X6_isSold l D b _ _ _ hP hI (by omega)) my_X6_isSold mv_X6_isSold wm_X6_101 sf_m rfl ⟨rfl, rfl, Nat.le_of_ble_eq_true rfl, Nat.le_of_ble_eq_true rfl, Nat.le_of_ble_eq_true rfl, Nat.le_of_ble_eq_true rfl⟩ rfl rfl (Nat.le_of_ble_eq_true rfl) dX6_nextFor_45 ?_
          refine K_ifB_eq (tgt := 76) X dX6_nextFor_48 (by decide) (fun c48 => ?_) (fun c48 => ?_)
          · refine K_iconst X dX6_nextFor_76 cii_0 ?_
            refine K_istore X (ls' := [(6, _), (0, _), (1, _), (2, _), (3, _), (4, _), (5, _)]) dX6_nextFor_77 (by decide) rfl ?_
            refine K_iload X 0 dX6_nextFor_79 rfl ?_
            refine K_ifN_eq (tgt := 113) X dX6_nextFor_81 (by decide) (by omega) (fun c81 => ?_) (fun c81 => ?_)
            · refine K_iload X 5 dX6_nextFor_113 rfl ?_
              refine K_istore X (ls' := [(4, _), (6, _), (0, _), (1, _), (2, _), (3, _), (5, _)]) dX6_nextFor_115 (by decide) rfl ?_
              refine K_iinc X 6 (ls' := [(5, _), (4, _), (6, _), (0, _), (1, _), (2, _), (3, _)]) dX6_nextFor_117 rfl (inc_1 _) (by decide) rfl ?_
              refine K_goto (tgt := 7) X dX6_nextFor_120 (by decide) ?_
              have hf : qFits N kd fr pr i = false := by unfold qFits; rw [c48]; simp
              rw [show qNx N kd fr pr (i + 1) = qNx N kd fr pr i from if_neg (fun q => by rw [hf] at q; exact absurd q.1 (by decide))] at ih
              exact K_sub [3, 4, 5, 6, 1, 0] rfl (ih (by omega))
            · exact absurd rfl c81
          · refine K_aload_n X 0 dX6_nextFor_51 rfl rfl ?_
            refine K_iload X 5 dX6_nextFor_52 rfl ?_
            refine K_iconst X dX6_nextFor_54 cii_3 ?_
            refine K_callVE X (c_X6_part l D b _ _ _ _ hP (by omega)) my_X6_part mv_X6_part wm_X6_30 sf_m rfl ⟨rfl, rfl, Nat.le_of_ble_eq_true rfl, Nat.le_of_ble_eq_true rfl, Nat.le_of_ble_eq_true rfl, Nat.le_of_ble_eq_true rfl⟩ rfl rfl (Nat.le_of_ble_eq_true rfl) dX6_nextFor_55 ?_
            refine K_iload_n X 2 dX6_nextFor_58 rfl rfl ?_
            refine K_icmpN_lt (tgt := 76) X dX6_nextFor_59 (by decide) (by have := qi_l3 hI (show i < N 2 from by omega); omega) (by omega) (fun c59 => ?_) (fun c59 => ?_)
            · refine K_iconst X dX6_nextFor_76 cii_0 ?_
              refine K_istore X (ls' := [(6, _), (0, _), (1, _), (2, _), (3, _), (4, _), (5, _)]) dX6_nextFor_77 (by decide) rfl ?_
              refine K_iload X 0 dX6_nextFor_79 rfl ?_
              refine K_ifN_eq (tgt := 113) X dX6_nextFor_81 (by decide) (by omega) (fun c81 => ?_) (fun c81 => ?_)
              · refine K_iload X 5 dX6_nextFor_113 rfl ?_
                refine K_istore X (ls' := [(4, _), (6, _), (0, _), (1, _), (2, _), (3, _), (5, _)]) dX6_nextFor_115 (by decide) rfl ?_
                refine K_iinc X 6 (ls' := [(5, _), (4, _), (6, _), (0, _), (1, _), (2, _), (3, _)]) dX6_nextFor_117 rfl (inc_1 _) (by decide) rfl ?_
                refine K_goto (tgt := 7) X dX6_nextFor_120 (by decide) ?_
                have hf : qFits N kd fr pr i = false := by unfold qFits; rw [decide_eq_false (p := fr ≤ qL N i 3) (by omega)]; simp
                rw [show qNx N kd fr pr (i + 1) = qNx N kd fr pr i from if_neg (fun q => by rw [hf] at q; exact absurd q.1 (by decide))] at ih
                exact K_sub [3, 4, 5, 6, 1, 0] rfl (ih (by omega))
              · exact absurd rfl c81
            · refine K_aload_n X 0 dX6_nextFor_62 rfl rfl ?_
              refine K_iload X 5 dX6_nextFor_63 rfl ?_
              refine K_callVE X (c_X6_priceOf l D b _ _ _ hP hI (by omega)) my_X6_priceOf mv_X6_priceOf wm_X6_92 sf_m rfl ⟨rfl, rfl, Nat.le_of_ble_eq_true rfl, Nat.le_of_ble_eq_true rfl, Nat.le_of_ble_eq_true rfl, Nat.le_of_ble_eq_true rfl⟩ rfl rfl (Nat.le_of_ble_eq_true rfl) dX6_nextFor_65 ?_
              refine K_iload_n X 3 dX6_nextFor_68 rfl rfl ?_
              refine K_icmpN_gt (tgt := 76) X dX6_nextFor_69 (by decide) (by have := qPrice_le hI (show i < N 2 from by omega); omega) (by omega) (fun c69 => ?_) (fun c69 => ?_)
              · refine K_iconst X dX6_nextFor_76 cii_0 ?_
                refine K_istore X (ls' := [(6, _), (0, _), (1, _), (2, _), (3, _), (4, _), (5, _)]) dX6_nextFor_77 (by decide) rfl ?_
                refine K_iload X 0 dX6_nextFor_79 rfl ?_
                refine K_ifN_eq (tgt := 113) X dX6_nextFor_81 (by decide) (by omega) (fun c81 => ?_) (fun c81 => ?_)
                · refine K_iload X 5 dX6_nextFor_113 rfl ?_
                  refine K_istore X (ls' := [(4, _), (6, _), (0, _), (1, _), (2, _), (3, _), (5, _)]) dX6_nextFor_115 (by decide) rfl ?_
                  refine K_iinc X 6 (ls' := [(5, _), (4, _), (6, _), (0, _), (1, _), (2, _), (3, _)]) dX6_nextFor_117 rfl (inc_1 _) (by decide) rfl ?_
                  refine K_goto (tgt := 7) X dX6_nextFor_120 (by decide) ?_
                  have hf : qFits N kd fr pr i = false := by unfold qFits; rw [decide_eq_false (p := qPrice N i ≤ pr) (by omega)]; simp
                  rw [show qNx N kd fr pr (i + 1) = qNx N kd fr pr i from if_neg (fun q => by rw [hf] at q; exact absurd q.1 (by decide))] at ih
                  exact K_sub [3, 4, 5, 6, 1, 0] rfl (ih (by omega))
                · exact absurd rfl c81
              · refine K_iconst X dX6_nextFor_72 cii_1 ?_
                refine K_goto (tgt := 77) X dX6_nextFor_73 (by decide) ?_
                refine K_istore X (ls' := [(6, _), (0, _), (1, _), (2, _), (3, _), (4, _), (5, _)]) dX6_nextFor_77 (by decide) rfl ?_
                refine K_iload X 0 dX6_nextFor_79 rfl ?_
                refine K_ifN_eq (tgt := 113) X dX6_nextFor_81 (by decide) (by omega) (fun c81 => ?_) (fun c81 => ?_)
                · exact absurd c81 (by decide)
                · refine K_iload X 5 dX6_nextFor_84 rfl ?_
                  refine K_bipush X dX6_nextFor_86 cib_m6 ?_
                  refine K_icmp_eq (tgt := 108) X dX6_nextFor_88 (by decide) (fun c88 => ?_) (fun c88 => ?_)
                  · refine K_iload X 6 dX6_nextFor_108 rfl ?_
                    refine K_goto (tgt := 115) X dX6_nextFor_110 (by decide) ?_
                    refine K_istore X (ls' := [(4, _), (6, _), (0, _), (1, _), (2, _), (3, _), (5, _)]) dX6_nextFor_115 (by decide) rfl ?_
                    refine K_iinc X 6 (ls' := [(5, _), (4, _), (6, _), (0, _), (1, _), (2, _), (3, _)]) dX6_nextFor_117 rfl (inc_1 _) (by decide) rfl ?_
                    refine K_goto (tgt := 7) X dX6_nextFor_120 (by decide) ?_
                    have hf : qFits N kd fr pr i = true := by unfold qFits; rw [decide_eq_true c26, c39, c48, decide_eq_true (show fr ≤ qL N i 3 from by omega), decide_eq_true (show qPrice N i ≤ pr from by omega)]; rfl
                    have hn : qNx N kd fr pr i = none := (qO_n (fun j hj => by have := qNx_lt hj; omega)).mp c88
                    rw [show qNx N kd fr pr (i + 1) = some i from if_pos ⟨hf, by rw [hn]; rfl⟩] at ih
                    exact K_sub [3, 4, 5, 6, 1, 0] rfl (ih (by omega))
                  · obtain ⟨j, hj⟩ := qO_ex c88
                    have hjl := qNx_lt hj
                    rw [hj]
                    refine K_aload_n X 1 dX6_nextFor_91 rfl rfl ?_
                    refine K_iload X 6 dX6_nextFor_92 rfl ?_
                    refine K_iconst X dX6_nextFor_94 cii_3 ?_
                    refine K_callVE X (c_X6_part l D b _ _ _ _ hP (by omega)) my_X6_part mv_X6_part wm_X6_30 sf_m rfl ⟨rfl, rfl, Nat.le_of_ble_eq_true rfl, Nat.le_of_ble_eq_true rfl, Nat.le_of_ble_eq_true rfl, Nat.le_of_ble_eq_true rfl⟩ rfl rfl (Nat.le_of_ble_eq_true rfl) dX6_nextFor_95 ?_
                    refine K_aload_n X 1 dX6_nextFor_98 rfl rfl ?_
                    refine K_iload X 5 dX6_nextFor_99 rfl ?_
                    refine K_iconst X dX6_nextFor_101 cii_3 ?_
                    refine K_callVE X (c_X6_part l D b _ _ _ _ hP (by omega)) my_X6_part mv_X6_part wm_X6_30 sf_m rfl ⟨rfl, rfl, Nat.le_of_ble_eq_true rfl, Nat.le_of_ble_eq_true rfl, Nat.le_of_ble_eq_true rfl, Nat.le_of_ble_eq_true rfl⟩ rfl rfl (Nat.le_of_ble_eq_true rfl) dX6_nextFor_102 ?_
                    refine K_icmpN_ge (tgt := 113) X dX6_nextFor_105 (by decide) (by have := qi_l3 hI (show i < N 2 from by omega); omega) (by have := qi_l3 hI (show j < N 2 from by omega); omega) (fun c105 => ?_) (fun c105 => ?_)
                    · refine K_iload X 5 dX6_nextFor_113 rfl ?_
                      refine K_istore X (ls' := [(4, _), (6, _), (0, _), (1, _), (2, _), (3, _), (5, _)]) dX6_nextFor_115 (by decide) rfl ?_
                      refine K_iinc X 6 (ls' := [(5, _), (4, _), (6, _), (0, _), (1, _), (2, _), (3, _)]) dX6_nextFor_117 rfl (inc_1 _) (by decide) rfl ?_
                      refine K_goto (tgt := 7) X dX6_nextFor_120 (by decide) ?_
                      have hf : qFits N kd fr pr i = true := by unfold qFits; rw [decide_eq_true c26, c39, c48, decide_eq_true (show fr ≤ qL N i 3 from by omega), decide_eq_true (show qPrice N i ≤ pr from by omega)]; rfl
                      rw [show qNx N kd fr pr (i + 1) = some j from (if_neg (fun q => by have h := q.2; rw [hj] at h; exact absurd (of_decide_eq_true h) (by omega))).trans hj] at ih
                      exact K_sub [3, 4, 5, 6, 1, 0] rfl (ih (by omega))
                    · refine K_iload X 6 dX6_nextFor_108 rfl ?_
                      refine K_goto (tgt := 115) X dX6_nextFor_110 (by decide) ?_
                      refine K_istore X (ls' := [(4, _), (6, _), (0, _), (1, _), (2, _), (3, _), (5, _)]) dX6_nextFor_115 (by decide) rfl ?_
                      refine K_iinc X 6 (ls' := [(5, _), (4, _), (6, _), (0, _), (1, _), (2, _), (3, _)]) dX6_nextFor_117 rfl (inc_1 _) (by decide) rfl ?_
                      refine K_goto (tgt := 7) X dX6_nextFor_120 (by decide) ?_
                      have hf : qFits N kd fr pr i = true := by unfold qFits; rw [decide_eq_true c26, c39, c48, decide_eq_true (show fr ≤ qL N i 3 from by omega), decide_eq_true (show qPrice N i ≤ pr from by omega)]; rfl
                      rw [show qNx N kd fr pr (i + 1) = some i from if_pos ⟨hf, by rw [hj]; exact decide_eq_true (by omega)⟩] at ih
                      exact K_sub [3, 4, 5, 6, 1, 0] rfl (ih (by omega))
  exact K_sub [2, 3, 4, 5, 1, 0] rfl (loop 0 (Nat.zero_le _))

set_option maxHeartbeats 4000000 in
set_option maxRecDepth 100000 in
theorem c_X6_coldest (l : Launch) (D : KD) (b : Nat) (σ : KS) (N : Nat → Nat) (hP : PF σ.2.2) (hI : qIr N) : Ct l D b yX6_coldest cX6_coldest 4 (some .int) (rM 2 45) 0 0 [rf b 190] shF (wN σ N) shF (pE (some (.int (qO (qCold N 6)))) (wN σ N)) := by
  have h2 := qi_2 hI
  refine Ct.of (ls := [(0, rf b 190)]) (by decide) (Nat.le_of_ble_eq_true rfl) rfl ?_
  intro p e s m args below meth c Q hQ X hnm
  refine K_bipush X dX6_coldest_0 cib_m6 ?_
  refine K_istore_n X (ls' := [(1, _), (0, _)]) dX6_coldest_2 rfl (by decide) rfl ?_
  refine K_iconst X dX6_coldest_3 cii_0 ?_
  refine K_istore_n X (ls' := [(2, _), (1, _), (0, _)]) dX6_coldest_4 rfl (by decide) rfl ?_
  have loop : ∀ i : Nat, i ≤ 6 → K p l e (rM 2 45) s m args below meth c Q D b 4 0 0 shF (wN σ N) 5 [(0, rf b 190), (1, .int (qO (qCold N i))), (2, .int (nI i))] [] := by
    refine kup (fun i hi ih => ?_)
    refine K_iload_n X 2 dX6_coldest_5 rfl rfl ?_
    refine K_bipush X dX6_coldest_6 cib_6 ?_
    refine K_icmpN_ge (tgt := 69) X dX6_coldest_8 (by decide) (by omega) (by omega) (fun c8 => ?_) (fun c8 => ?_)
    · refine K_iload_n X 1 dX6_coldest_69 rfl rfl ?_
      exact K_iret X hQ dX6_coldest_70 (⟨by rw [show i = 6 from by omega], rfl⟩)
    · refine K_aload_n X 0 dX6_coldest_11 rfl rfl ?_
      refine K_iload_n X 2 dX6_coldest_12 rfl rfl ?_
      refine K_callVE X (c_X6_lotsAt l D b _ _ _ hP hI (by omega)) my_X6_lotsAt mv_X6_lotsAt wm_X6_60 sf_m rfl ⟨rfl, rfl, Nat.le_of_ble_eq_true rfl, Nat.le_of_ble_eq_true rfl, Nat.le_of_ble_eq_true rfl, Nat.le_of_ble_eq_true rfl⟩ rfl rfl (Nat.le_of_ble_eq_true rfl) dX6_coldest_13 ?_
      refine K_iconst X dX6_coldest_16 cii_3 ?_
      refine K_icmpN_ge (tgt := 24) X dX6_coldest_17 (by decide) (by have := qCnt_le N i (N 2); omega) (by omega) (fun c17 => ?_) (fun c17 => ?_)
      · refine K_iconst X dX6_coldest_24 cii_0 ?_
        refine K_istore_n X (ls' := [(3, _), (0, _), (1, _), (2, _)]) dX6_coldest_25 rfl (by decide) rfl ?_
        refine K_iload_n X 0 dX6_coldest_26 rfl rfl ?_
        refine K_ifN_eq (tgt := 61) X dX6_coldest_27 (by decide) (by omega) (fun c27 => ?_) (fun c27 => ?_)
        · refine K_iload_n X 2 dX6_coldest_61 rfl rfl ?_
          refine K_istore_n X (ls' := [(1, _), (3, _), (0, _), (2, _)]) dX6_coldest_62 rfl (by decide) rfl ?_
          refine K_iinc X 3 (ls' := [(2, _), (1, _), (3, _), (0, _)]) dX6_coldest_63 rfl (inc_1 _) (by decide) rfl ?_
          refine K_goto (tgt := 5) X dX6_coldest_66 (by decide) ?_
          rw [show qCold N (i + 1) = qCold N i from if_neg (fun q => by have := q.1; omega)] at ih
          exact K_sub [3, 1, 0] rfl (ih (by omega))
        · exact absurd rfl c27
      · refine K_iconst X dX6_coldest_20 cii_1 ?_
        refine K_goto (tgt := 25) X dX6_coldest_21 (by decide) ?_
        refine K_istore_n X (ls' := [(3, _), (0, _), (1, _), (2, _)]) dX6_coldest_25 rfl (by decide) rfl ?_
        refine K_iload_n X 0 dX6_coldest_26 rfl rfl ?_
        refine K_ifN_eq (tgt := 61) X dX6_coldest_27 (by decide) (by omega) (fun c27 => ?_) (fun c27 => ?_)
        · exact absurd c27 (by decide)
        · refine K_iload_n X 2 dX6_coldest_30 rfl rfl ?_
          refine K_bipush X dX6_coldest_31 cib_m6 ?_
          refine K_icmp_eq (tgt := 57) X dX6_coldest_33 (by decide) (fun c33 => ?_) (fun c33 => ?_)
          · refine K_iload_n X 3 dX6_coldest_57 rfl rfl ?_
            refine K_goto (tgt := 62) X dX6_coldest_58 (by decide) ?_
            refine K_istore_n X (ls' := [(1, _), (3, _), (0, _), (2, _)]) dX6_coldest_62 rfl (by decide) rfl ?_
            refine K_iinc X 3 (ls' := [(2, _), (1, _), (3, _), (0, _)]) dX6_coldest_63 rfl (inc_1 _) (by decide) rfl ?_
            refine K_goto (tgt := 5) X dX6_coldest_66 (by decide) ?_
            have hn : qCold N i = none := (qO_n (fun j hj => by have := qCold_lt hj; omega)).mp c33
            rw [show qCold N (i + 1) = some i from if_pos ⟨by omega, by rw [hn]; rfl⟩] at ih
            exact K_sub [3, 1, 0] rfl (ih (by omega))
          · obtain ⟨j, hj⟩ := qO_ex c33
            have hjl := qCold_lt hj
            rw [hj]
            refine K_aload_n X 1 dX6_coldest_36 rfl rfl ?_
            refine K_get X 0 kFd6 rfl (by decide) sf_m wf_X6_7 rfl (v := rf b (191)) (kv_a (pf_m0 hP)) dX6_coldest_37 ?_
            refine K_bipush X dX6_coldest_40 cib_34 ?_
            refine K_iload_n X 3 dX6_coldest_42 rfl rfl ?_
            refine K_iaddN X dX6_coldest_43 ?_
            refine K_iald X _ sf_ms rfl (by omega) (by decide) (wN_at _) dX6_coldest_44 ?_
            refine K_aload_n X 1 dX6_coldest_45 rfl rfl ?_
            refine K_get X 0 kFd6 rfl (by decide) sf_m wf_X6_7 rfl (v := rf b (191)) (kv_a (pf_m0 hP)) dX6_coldest_46 ?_
            refine K_bipush X dX6_coldest_49 cib_34 ?_
            refine K_iload_n X 2 dX6_coldest_51 rfl rfl ?_
            refine K_iaddN X dX6_coldest_52 ?_
            refine K_iald X _ sf_ms rfl (by omega) (by decide) (wN_at _) dX6_coldest_53 ?_
            refine K_icmpN_le (tgt := 61) X dX6_coldest_54 (by decide) (by have := qi_i hI (show i < 11 from by omega); omega) (by have := qi_i hI (show j < 11 from by omega); omega) (fun c54 => ?_) (fun c54 => ?_)
            · refine K_iload_n X 2 dX6_coldest_61 rfl rfl ?_
              refine K_istore_n X (ls' := [(1, _), (3, _), (0, _), (2, _)]) dX6_coldest_62 rfl (by decide) rfl ?_
              refine K_iinc X 3 (ls' := [(2, _), (1, _), (3, _), (0, _)]) dX6_coldest_63 rfl (inc_1 _) (by decide) rfl ?_
              refine K_goto (tgt := 5) X dX6_coldest_66 (by decide) ?_
              rw [show qCold N (i + 1) = some j from (if_neg (fun q => by have h := q.2; rw [hj] at h; exact absurd (of_decide_eq_true h) (by omega))).trans hj] at ih
              exact K_sub [3, 1, 0] rfl (ih (by omega))
            · refine K_iload_n X 3 dX6_coldest_57 rfl rfl ?_
              refine K_goto (tgt := 62) X dX6_coldest_58 (by decide) ?_
              refine K_istore_n X (ls' := [(1, _), (3, _), (0, _), (2, _)]) dX6_coldest_62 rfl (by decide) rfl ?_
              refine K_iinc X 3 (ls' := [(2, _), (1, _), (3, _), (0, _)]) dX6_coldest_63 rfl (inc_1 _) (by decide) rfl ?_
              refine K_goto (tgt := 5) X dX6_coldest_66 (by decide) ?_
              rw [show qCold N (i + 1) = some i from if_pos ⟨by omega, by rw [hj]; exact decide_eq_true (by omega)⟩] at ih
              exact K_sub [3, 1, 0] rfl (ih (by omega))
  exact K_sub [2, 1, 0] rfl (loop 0 (Nat.zero_le _))

set_option maxHeartbeats 4000000 in
set_option maxRecDepth 100000 in
theorem c_X6_countOf (l : Launch) (D : KD) (b : Nat) (σ : KS) (N : Nat → Nat) (v : Nat) (hP : PF σ.2.2) (hI : qIr N) (hB : ∀ i, N i < 2 ^ 31) (hv : v ≤ 10) : Ct l D b yX6_countOf cX6_countOf 2 (some .long) (rM 2 44) 0 0 [rf b 190, .int (nI v)] shF (wN σ N) shF (pE (some (.long (lN (qCount N v)))) (wN σ N)) := by
  have h2 := qi_2 hI
  refine Ct.of (ls := [(0, rf b 190), (1, .int (nI v))]) (by decide) (Nat.le_of_ble_eq_true rfl) rfl ?_
  intro p e s m args below meth c Q hQ X hnm
  refine K_iload_n X 1 dX6_countOf_0 rfl rfl ?_
  refine K_iconst X dX6_countOf_1 cii_3 ?_
  refine K_icmpN_ge (tgt := 15) X dX6_countOf_2 (by decide) (by omega) (by omega) (fun c2 => ?_) (fun c2 => ?_)
  · refine K_iload_n X 1 dX6_countOf_15 rfl rfl ?_
    refine K_iconst X dX6_countOf_16 cii_3 ?_
    refine K_icmpN_ne (tgt := 28) X dX6_countOf_17 (by decide) (by omega) (by omega) (fun c17 => ?_) (fun c17 => ?_)
    · refine K_aload_n X 0 dX6_countOf_28 rfl rfl ?_
      refine K_get X 0 kFd6 rfl (by decide) sf_m wf_X6_7 rfl (v := rf b (191)) (kv_a (pf_m0 hP)) dX6_countOf_29 ?_
      refine K_iload_n X 1 dX6_countOf_32 rfl rfl ?_
      refine K_iconst X dX6_countOf_33 cii_1 ?_
      refine K_isubN X dX6_countOf_34 (by omega) ?_
      refine K_iald X _ sf_ms rfl (by omega) (by decide) (wN_at _) dX6_countOf_35 ?_
      refine K_i2lN X dX6_countOf_36 (by have := hB (v - 1); omega) ?_
      exact K_lret X hQ dX6_countOf_37 (⟨by rw [show qCount N v = N (v - 1) from (if_neg (by omega)).trans (if_neg (by omega))], rfl⟩)
    · refine K_aload_n X 0 dX6_countOf_20 rfl rfl ?_
      refine K_callVE X (c_X6_allGrams l D b _ _ hP hI) my_X6_allGrams mv_X6_allGrams wm_X6_129 sf_m rfl ⟨rfl, rfl, Nat.le_of_ble_eq_true rfl, Nat.le_of_ble_eq_true rfl, Nat.le_of_ble_eq_true rfl, Nat.le_of_ble_eq_true rfl⟩ rfl rfl (Nat.le_of_ble_eq_true rfl) dX6_countOf_21 ?_
      refine K_i2lN X dX6_countOf_24 (by have := qSum_le hI (Nat.le_refl _); omega) ?_
      refine K_goto (tgt := 37) X dX6_countOf_25 (by decide) ?_
      exact K_lret X hQ dX6_countOf_37 (⟨by rw [show qCount N v = qSum N (N 2) from (if_neg (by omega)).trans (if_pos c17)], rfl⟩)
  · refine K_aload_n X 0 dX6_countOf_5 rfl rfl ?_
    refine K_get X 0 kFd6 rfl (by decide) sf_m wf_X6_7 rfl (v := rf b (191)) (kv_a (pf_m0 hP)) dX6_countOf_6 ?_
    refine K_iload_n X 1 dX6_countOf_9 rfl rfl ?_
    refine K_iald X _ sf_ms rfl (by omega) (by decide) (wN_at _) dX6_countOf_10 ?_
    refine K_i2lN X dX6_countOf_11 (by have := hB v; omega) ?_
    refine K_goto (tgt := 37) X dX6_countOf_12 (by decide) ?_
    exact K_lret X hQ dX6_countOf_37 (⟨by rw [show qCount N v = N v from if_pos (by omega)], rfl⟩)

set_option maxHeartbeats 4000000 in
set_option maxRecDepth 100000 in
theorem c_X6_ofLot (l : Launch) (D : KD) (b : Nat) (σ : KS) (N : Nat → Nat) (k w : Nat) (hP : PF σ.2.2) (hI : qIr N) (hk : k < N 2) (hw : w ≤ 6) : Ct l D b yX6_ofLot cX6_ofLot 4 (some .int) (rM 2 45) 0 0 [rf b 190, .int (nI k), .int (nI w)] shF (wN σ N) shF (pE (some (.int (qOfLot N k w))) (wN σ N)) := by
  have h2 := qi_2 hI
  refine Ct.of (ls := [(0, rf b 190), (1, .int (nI k)), (2, .int (nI w))]) (by decide) (Nat.le_of_ble_eq_true rfl) rfl ?_
  intro p e s m args below meth c Q hQ X hnm
  refine K_aload_n X 0 dX6_ofLot_0 rfl rfl ?_
  refine K_iload_n X 1 dX6_ofLot_1 rfl rfl ?_
  refine K_iconst X dX6_ofLot_2 cii_4 ?_
  refine K_callVE X (c_X6_part l D b _ _ _ _ hP (by omega)) my_X6_part mv_X6_part wm_X6_30 sf_m rfl ⟨rfl, rfl, Nat.le_of_ble_eq_true rfl, Nat.le_of_ble_eq_true rfl, Nat.le_of_ble_eq_true rfl, Nat.le_of_ble_eq_true rfl⟩ rfl rfl (Nat.le_of_ble_eq_true rfl) dX6_ofLot_3 ?_
  refine K_istore_n X (ls' := [(3, _), (0, _), (1, _), (2, _)]) dX6_ofLot_6 rfl (by decide) rfl ?_
  refine K_iload_n X 3 dX6_ofLot_7 rfl rfl ?_
  by_cases hw0 : w = 0
  · subst hw0
    refine K_tabIn (off := 40) (tgt := 48) X dX6_ofLot_8 (by decide) (by decide) rfl (by decide) ?_
    refine K_aload_n X 1 dX6_ofLot_48 rfl rfl ?_
    refine K_iload_n X 2 dX6_ofLot_49 rfl rfl ?_
    refine K_iconst X dX6_ofLot_50 cii_1 ?_
    refine K_callVE X (c_X6_part l D b _ _ _ _ hP (by omega)) my_X6_part mv_X6_part wm_X6_30 sf_m rfl ⟨rfl, rfl, Nat.le_of_ble_eq_true rfl, Nat.le_of_ble_eq_true rfl, Nat.le_of_ble_eq_true rfl, Nat.le_of_ble_eq_true rfl⟩ rfl rfl (Nat.le_of_ble_eq_true rfl) dX6_ofLot_51 ?_
    exact K_iret X hQ dX6_ofLot_54 (⟨rfl, rfl⟩)
  by_cases hw1 : w = 1
  · subst hw1
    refine K_tabIn (off := 47) (tgt := 55) X dX6_ofLot_8 (by decide) (by decide) rfl (by decide) ?_
    refine K_aload_n X 1 dX6_ofLot_55 rfl rfl ?_
    refine K_iload_n X 2 dX6_ofLot_56 rfl rfl ?_
    refine K_iconst X dX6_ofLot_57 cii_2 ?_
    refine K_callVE X (c_X6_part l D b _ _ _ _ hP (by omega)) my_X6_part mv_X6_part wm_X6_30 sf_m rfl ⟨rfl, rfl, Nat.le_of_ble_eq_true rfl, Nat.le_of_ble_eq_true rfl, Nat.le_of_ble_eq_true rfl, Nat.le_of_ble_eq_true rfl⟩ rfl rfl (Nat.le_of_ble_eq_true rfl) dX6_ofLot_58 ?_
    exact K_iret X hQ dX6_ofLot_61 (⟨rfl, rfl⟩)
  by_cases hw2 : w = 2
  · subst hw2
    refine K_tabIn (off := 54) (tgt := 62) X dX6_ofLot_8 (by decide) (by decide) rfl (by decide) ?_
    refine K_aload_n X 1 dX6_ofLot_62 rfl rfl ?_
    refine K_iload_n X 2 dX6_ofLot_63 rfl rfl ?_
    refine K_iconst X dX6_ofLot_64 cii_3 ?_
    refine K_callVE X (c_X6_part l D b _ _ _ _ hP (by omega)) my_X6_part mv_X6_part wm_X6_30 sf_m rfl ⟨rfl, rfl, Nat.le_of_ble_eq_true rfl, Nat.le_of_ble_eq_true rfl, Nat.le_of_ble_eq_true rfl, Nat.le_of_ble_eq_true rfl⟩ rfl rfl (Nat.le_of_ble_eq_true rfl) dX6_ofLot_65 ?_
    exact K_iret X hQ dX6_ofLot_68 (⟨rfl, rfl⟩)
  by_cases hw3 : w = 3
  · subst hw3
    refine K_tabIn (off := 61) (tgt := 69) X dX6_ofLot_8 (by decide) (by decide) rfl (by decide) ?_
    refine K_iload_n X 0 dX6_ofLot_69 rfl rfl ?_
    refine K_callSE X (c_X6_isTrayPlace l D b _ _ (by have := qi_l4 hI hk; omega)) my_X6_isTrayPlace wt_X6_isTrayPlace wm_X6_98 ⟨rfl, rfl, Nat.le_of_ble_eq_true rfl, Nat.le_of_ble_eq_true rfl, Nat.le_of_ble_eq_true rfl, Nat.le_of_ble_eq_true rfl⟩ rfl rfl (Nat.le_of_ble_eq_true rfl) dX6_ofLot_70 ?_
    refine K_ifB_eq (tgt := 81) X dX6_ofLot_73 (by decide) (fun c73 => ?_) (fun c73 => ?_)
    · refine K_iload_n X 0 dX6_ofLot_81 rfl rfl ?_
      exact K_iret X hQ dX6_ofLot_82 (⟨by rw [qOfLot_3, if_neg (by rw [c73]; decide)], rfl⟩)
    · refine K_bipush X dX6_ofLot_76 cib_m6 ?_
      refine K_goto (tgt := 82) X dX6_ofLot_78 (by decide) ?_
      exact K_iret X hQ dX6_ofLot_82 (⟨by rw [qOfLot_3, if_pos c73], rfl⟩)
  by_cases hw4 : w = 4
  · subst hw4
    refine K_tabIn (off := 75) (tgt := 83) X dX6_ofLot_8 (by decide) (by decide) rfl (by decide) ?_
    refine K_iload_n X 0 dX6_ofLot_83 rfl rfl ?_
    refine K_callSE X (c_X6_isTrayPlace l D b _ _ (by have := qi_l4 hI hk; omega)) my_X6_isTrayPlace wt_X6_isTrayPlace wm_X6_98 ⟨rfl, rfl, Nat.le_of_ble_eq_true rfl, Nat.le_of_ble_eq_true rfl, Nat.le_of_ble_eq_true rfl, Nat.le_of_ble_eq_true rfl⟩ rfl rfl (Nat.le_of_ble_eq_true rfl) dX6_ofLot_84 ?_
    refine K_ifB_eq (tgt := 97) X dX6_ofLot_87 (by decide) (fun c87 => ?_) (fun c87 => ?_)
    · refine K_bipush X dX6_ofLot_97 cib_m6 ?_
      exact K_iret X hQ dX6_ofLot_99 (⟨by rw [qOfLot_4, if_neg (by rw [c87]; decide)], rfl⟩)
    · refine K_iload_n X 0 dX6_ofLot_90 rfl rfl ?_
      refine K_bipush X dX6_ofLot_91 cib_6 ?_
      refine K_isubN X dX6_ofLot_93 (by have := qTray_t c87; omega) ?_
      refine K_goto (tgt := 99) X dX6_ofLot_94 (by decide) ?_
      exact K_iret X hQ dX6_ofLot_99 (⟨by rw [qOfLot_4, if_pos c87], rfl⟩)
  by_cases hw5 : w = 5
  · subst hw5
    refine K_tabIn (off := 92) (tgt := 100) X dX6_ofLot_8 (by decide) (by decide) rfl (by decide) ?_
    refine K_aload_n X 1 dX6_ofLot_100 rfl rfl ?_
    refine K_iload_n X 2 dX6_ofLot_101 rfl rfl ?_
    refine K_callVE X (c_X6_priceOf l D b _ _ _ hP hI (by omega)) my_X6_priceOf mv_X6_priceOf wm_X6_92 sf_m rfl ⟨rfl, rfl, Nat.le_of_ble_eq_true rfl, Nat.le_of_ble_eq_true rfl, Nat.le_of_ble_eq_true rfl, Nat.le_of_ble_eq_true rfl⟩ rfl rfl (Nat.le_of_ble_eq_true rfl) dX6_ofLot_102 ?_
    exact K_iret X hQ dX6_ofLot_105 (⟨rfl, rfl⟩)
  refine K_tabOut (tgt := 106) X dX6_ofLot_8 (Or.inr (by rw [nI_toInt (by omega)]; omega)) (by decide) ?_
  have hw6 : w = 6 := by omega
  subst hw6
  refine K_aload_n X 1 dX6_ofLot_106 rfl rfl ?_
  refine K_iload_n X 2 dX6_ofLot_107 rfl rfl ?_
  refine K_iconst X dX6_ofLot_108 cii_2 ?_
  refine K_callVE X (c_X6_part l D b _ _ _ _ hP (by omega)) my_X6_part mv_X6_part wm_X6_30 sf_m rfl ⟨rfl, rfl, Nat.le_of_ble_eq_true rfl, Nat.le_of_ble_eq_true rfl, Nat.le_of_ble_eq_true rfl, Nat.le_of_ble_eq_true rfl⟩ rfl rfl (Nat.le_of_ble_eq_true rfl) dX6_ofLot_109 ?_
  refine K_aload_n X 1 dX6_ofLot_112 rfl rfl ?_
  refine K_iload_n X 2 dX6_ofLot_113 rfl rfl ?_
  refine K_callVE X (c_X6_priceOf l D b _ _ _ hP hI (by omega)) my_X6_priceOf mv_X6_priceOf wm_X6_92 sf_m rfl ⟨rfl, rfl, Nat.le_of_ble_eq_true rfl, Nat.le_of_ble_eq_true rfl, Nat.le_of_ble_eq_true rfl, Nat.le_of_ble_eq_true rfl⟩ rfl rfl (Nat.le_of_ble_eq_true rfl) dX6_ofLot_114 ?_
  refine K_callSE X (c_X6_worthOf l D b _ _ _ (qW_b (qi_l2 hI hk) (qPrice_le hI hk))) my_X6_worthOf wt_X6_worthOf wm_X6_70 ⟨rfl, rfl, Nat.le_of_ble_eq_true rfl, Nat.le_of_ble_eq_true rfl, Nat.le_of_ble_eq_true rfl, Nat.le_of_ble_eq_true rfl⟩ rfl rfl (Nat.le_of_ble_eq_true rfl) dX6_ofLot_117 ?_
  exact K_iret X hQ dX6_ofLot_120 (⟨rfl, rfl⟩)

set_option maxHeartbeats 4000000 in
set_option maxRecDepth 100000 in
theorem c_X6_ofBox (l : Launch) (D : KD) (b : Nat) (σ : KS) (N : Nat → Nat) (bx w : Nat) (hP : PF σ.2.2) (hI : qIr N) (h1 : bx < 6) (hw : w ≤ 3) : Ct l D b yX6_ofBox cX6_ofBox 3 (some .int) (rM 3 66) 0 0 [rf b 190, .int (nI bx), .int (nI w)] shF (wN σ N) shF (pE (some (.int (qOfBox N bx w))) (wN σ N)) := by
  have h2 := qi_2 hI
  refine Ct.of (ls := [(0, rf b 190), (1, .int (nI bx)), (2, .int (nI w))]) (by decide) (Nat.le_of_ble_eq_true rfl) rfl ?_
  intro p e s m args below meth c Q hQ X hnm
  refine K_iload_n X 2 dX6_ofBox_0 rfl rfl ?_
  refine K_ifN_ne (tgt := 16) X dX6_ofBox_1 (by decide) (by omega) (fun c1 => ?_) (fun c1 => ?_)
  · refine K_iload_n X 2 dX6_ofBox_16 rfl rfl ?_
    refine K_iconst X dX6_ofBox_17 cii_1 ?_
    refine K_icmpN_ne (tgt := 29) X dX6_ofBox_18 (by decide) (by omega) (by omega) (fun c18 => ?_) (fun c18 => ?_)
    · refine K_iload_n X 2 dX6_ofBox_29 rfl rfl ?_
      refine K_iconst X dX6_ofBox_30 cii_2 ?_
      refine K_icmpN_ne (tgt := 42) X dX6_ofBox_31 (by decide) (by omega) (by omega) (fun c31 => ?_) (fun c31 => ?_)
      · refine K_aload_n X 0 dX6_ofBox_42 rfl rfl ?_
        refine K_iload_n X 1 dX6_ofBox_43 rfl rfl ?_
        refine K_callVE X (c_X6_numberAt l D b _ _ _ hP hI (by omega)) my_X6_numberAt mv_X6_numberAt wm_X6_144 sf_m rfl ⟨rfl, rfl, Nat.le_of_ble_eq_true rfl, Nat.le_of_ble_eq_true rfl, Nat.le_of_ble_eq_true rfl, Nat.le_of_ble_eq_true rfl⟩ rfl rfl (Nat.le_of_ble_eq_true rfl) dX6_ofBox_44 ?_
        exact K_iret X hQ dX6_ofBox_47 (⟨by rw [show qOfBox N bx w = _ from (if_neg (by omega)).trans ((if_neg (by omega)).trans (if_neg (by omega)))], rfl⟩)
      · refine K_aload_n X 0 dX6_ofBox_34 rfl rfl ?_
        refine K_iload_n X 1 dX6_ofBox_35 rfl rfl ?_
        refine K_callVE X (c_X6_gramsAt l D b _ _ _ hP hI (by omega)) my_X6_gramsAt mv_X6_gramsAt wm_X6_141 sf_m rfl ⟨rfl, rfl, Nat.le_of_ble_eq_true rfl, Nat.le_of_ble_eq_true rfl, Nat.le_of_ble_eq_true rfl, Nat.le_of_ble_eq_true rfl⟩ rfl rfl (Nat.le_of_ble_eq_true rfl) dX6_ofBox_36 ?_
        refine K_goto (tgt := 47) X dX6_ofBox_39 (by decide) ?_
        exact K_iret X hQ dX6_ofBox_47 (⟨by rw [show qOfBox N bx w = _ from (if_neg (by omega)).trans ((if_neg (by omega)).trans (if_pos (by omega)))], rfl⟩)
    · refine K_aload_n X 0 dX6_ofBox_21 rfl rfl ?_
      refine K_iload_n X 1 dX6_ofBox_22 rfl rfl ?_
      refine K_callVE X (c_X6_lotsAt l D b _ _ _ hP hI (by omega)) my_X6_lotsAt mv_X6_lotsAt wm_X6_60 sf_m rfl ⟨rfl, rfl, Nat.le_of_ble_eq_true rfl, Nat.le_of_ble_eq_true rfl, Nat.le_of_ble_eq_true rfl, Nat.le_of_ble_eq_true rfl⟩ rfl rfl (Nat.le_of_ble_eq_true rfl) dX6_ofBox_23 ?_
      refine K_goto (tgt := 47) X dX6_ofBox_26 (by decide) ?_
      exact K_iret X hQ dX6_ofBox_47 (⟨by rw [show qOfBox N bx w = _ from (if_neg (by omega)).trans (if_pos (by omega))], rfl⟩)
  · refine K_aload_n X 0 dX6_ofBox_4 rfl rfl ?_
    refine K_get X 0 kFd6 rfl (by decide) sf_m wf_X6_7 rfl (v := rf b (191)) (kv_a (pf_m0 hP)) dX6_ofBox_5 ?_
    refine K_bipush X dX6_ofBox_8 cib_34 ?_
    refine K_iload_n X 1 dX6_ofBox_10 rfl rfl ?_
    refine K_iaddN X dX6_ofBox_11 ?_
    refine K_iald X _ sf_ms rfl (by omega) (by decide) (wN_at _) dX6_ofBox_12 ?_
    refine K_goto (tgt := 47) X dX6_ofBox_13 (by decide) ?_
    exact K_iret X hQ dX6_ofBox_47 (⟨by rw [show qOfBox N bx w = _ from if_pos (by omega)], rfl⟩)

set_option maxHeartbeats 4000000 in
set_option maxRecDepth 100000 in
theorem c_X6_ofTray (l : Launch) (D : KD) (b : Nat) (σ : KS) (N : Nat → Nat) (t w : Nat) (hP : PF σ.2.2) (hI : qIr N) (h1 : t < 5) (hw : w ≤ 3) : Ct l D b yX6_ofTray cX6_ofTray 3 (some .int) (rM 3 66) 0 0 [rf b 190, .int (nI t), .int (nI w)] shF (wN σ N) shF (pE (some (.int (qOfTray N t w))) (wN σ N)) := by
  have h2 := qi_2 hI
  refine Ct.of (ls := [(0, rf b 190), (1, .int (nI t)), (2, .int (nI w))]) (by decide) (Nat.le_of_ble_eq_true rfl) rfl ?_
  intro p e s m args below meth c Q hQ X hnm
  refine K_iload_n X 2 dX6_ofTray_0 rfl rfl ?_
  refine K_ifN_ne (tgt := 16) X dX6_ofTray_1 (by decide) (by omega) (fun c1 => ?_) (fun c1 => ?_)
  · refine K_aload_n X 0 dX6_ofTray_16 rfl rfl ?_
    refine K_bipush X dX6_ofTray_17 cib_6 ?_
    refine K_iload_n X 1 dX6_ofTray_19 rfl rfl ?_
    refine K_iaddN X dX6_ofTray_20 ?_
    refine K_callVE X (c_X6_numberAt l D b _ _ _ hP hI (by omega)) my_X6_numberAt mv_X6_numberAt wm_X6_144 sf_m rfl ⟨rfl, rfl, Nat.le_of_ble_eq_true rfl, Nat.le_of_ble_eq_true rfl, Nat.le_of_ble_eq_true rfl, Nat.le_of_ble_eq_true rfl⟩ rfl rfl (Nat.le_of_ble_eq_true rfl) dX6_ofTray_21 ?_
    exact K_iret X hQ dX6_ofTray_24 (⟨by rw [show qOfTray N t w = _ from if_neg (by omega)], rfl⟩)
  · refine K_aload_n X 0 dX6_ofTray_4 rfl rfl ?_
    refine K_get X 0 kFd6 rfl (by decide) sf_m wf_X6_7 rfl (v := rf b (191)) (kv_a (pf_m0 hP)) dX6_ofTray_5 ?_
    refine K_bipush X dX6_ofTray_8 cib_40 ?_
    refine K_iload_n X 1 dX6_ofTray_10 rfl rfl ?_
    refine K_iaddN X dX6_ofTray_11 ?_
    refine K_iald X _ sf_ms rfl (by omega) (by decide) (wN_at _) dX6_ofTray_12 ?_
    refine K_goto (tgt := 24) X dX6_ofTray_13 (by decide) ?_
    exact K_iret X hQ dX6_ofTray_24 (⟨by rw [show qOfTray N t w = _ from if_pos (by omega)], rfl⟩)

set_option maxHeartbeats 4000000 in
set_option maxRecDepth 100000 in
theorem c_X6_ofKind (l : Launch) (D : KD) (b : Nat) (σ : KS) (N : Nat → Nat) (kd w : Nat) (hP : PF σ.2.2) (hI : qIr N) (h1 : kd < 6) (hw : w ≤ 3) : Ct l D b yX6_ofKind cX6_ofKind 3 (some .int) (rM 2 45) 0 0 [rf b 190, .int (nI kd), .int (nI w)] shF (wN σ N) shF (pE (some (.int (qOfKind N kd w))) (wN σ N)) := by
  have h2 := qi_2 hI
  refine Ct.of (ls := [(0, rf b 190), (1, .int (nI kd)), (2, .int (nI w))]) (by decide) (Nat.le_of_ble_eq_true rfl) rfl ?_
  intro p e s m args below meth c Q hQ X hnm
  refine K_iload_n X 2 dX6_ofKind_0 rfl rfl ?_
  refine K_ifN_ne (tgt := 16) X dX6_ofKind_1 (by decide) (by omega) (fun c1 => ?_) (fun c1 => ?_)
  · refine K_iload_n X 2 dX6_ofKind_16 rfl rfl ?_
    refine K_iconst X dX6_ofKind_17 cii_1 ?_
    refine K_icmpN_ne (tgt := 33) X dX6_ofKind_18 (by decide) (by omega) (by omega) (fun c18 => ?_) (fun c18 => ?_)
    · refine K_iload_n X 2 dX6_ofKind_33 rfl rfl ?_
      refine K_iconst X dX6_ofKind_34 cii_2 ?_
      refine K_icmpN_ne (tgt := 46) X dX6_ofKind_35 (by decide) (by omega) (by omega) (fun c35 => ?_) (fun c35 => ?_)
      · refine K_aload_n X 0 dX6_ofKind_46 rfl rfl ?_
        refine K_iload_n X 1 dX6_ofKind_47 rfl rfl ?_
        refine K_callVE X (c_X6_freshest l D b _ _ _ hP hI (by omega)) my_X6_freshest mv_X6_freshest wm_X6_156 sf_m rfl ⟨rfl, rfl, Nat.le_of_ble_eq_true rfl, Nat.le_of_ble_eq_true rfl, Nat.le_of_ble_eq_true rfl, Nat.le_of_ble_eq_true rfl⟩ rfl rfl (Nat.le_of_ble_eq_true rfl) dX6_ofKind_48 ?_
        exact K_iret X hQ dX6_ofKind_51 (⟨by rw [show qOfKind N kd w = _ from (if_neg (by omega)).trans ((if_neg (by omega)).trans (if_neg (by omega)))], rfl⟩)
      · refine K_aload_n X 0 dX6_ofKind_38 rfl rfl ?_
        refine K_iload_n X 1 dX6_ofKind_39 rfl rfl ?_
        refine K_callVE X (c_X6_gramsOfKind l D b _ _ _ hP hI (by omega)) my_X6_gramsOfKind mv_X6_gramsOfKind wm_X6_153 sf_m rfl ⟨rfl, rfl, Nat.le_of_ble_eq_true rfl, Nat.le_of_ble_eq_true rfl, Nat.le_of_ble_eq_true rfl, Nat.le_of_ble_eq_true rfl⟩ rfl rfl (Nat.le_of_ble_eq_true rfl) dX6_ofKind_40 ?_
        refine K_goto (tgt := 51) X dX6_ofKind_43 (by decide) ?_
        exact K_iret X hQ dX6_ofKind_51 (⟨by rw [show qOfKind N kd w = _ from (if_neg (by omega)).trans ((if_neg (by omega)).trans (if_pos (by omega)))], rfl⟩)
    · refine K_aload_n X 0 dX6_ofKind_21 rfl rfl ?_
      refine K_get X 0 kFd6 rfl (by decide) sf_m wf_X6_7 rfl (v := rf b (191)) (kv_a (pf_m0 hP)) dX6_ofKind_22 ?_
      refine K_bipush X dX6_ofKind_25 cib_17 ?_
      refine K_iload_n X 1 dX6_ofKind_27 rfl rfl ?_
      refine K_iaddN X dX6_ofKind_28 ?_
      refine K_iald X _ sf_ms rfl (by omega) (by decide) (wN_at _) dX6_ofKind_29 ?_
      refine K_goto (tgt := 51) X dX6_ofKind_30 (by decide) ?_
      exact K_iret X hQ dX6_ofKind_51 (⟨by rw [show qOfKind N kd w = _ from (if_neg (by omega)).trans (if_pos (by omega))], rfl⟩)
  · refine K_aload_n X 0 dX6_ofKind_4 rfl rfl ?_
    refine K_get X 0 kFd6 rfl (by decide) sf_m wf_X6_7 rfl (v := rf b (191)) (kv_a (pf_m0 hP)) dX6_ofKind_5 ?_
    refine K_bipush X dX6_ofKind_8 cib_11 ?_
    refine K_iload_n X 1 dX6_ofKind_10 rfl rfl ?_
    refine K_iaddN X dX6_ofKind_11 ?_
    refine K_iald X _ sf_ms rfl (by omega) (by decide) (wN_at _) dX6_ofKind_12 ?_
    refine K_goto (tgt := 51) X dX6_ofKind_13 (by decide) ?_
    exact K_iret X hQ dX6_ofKind_51 (⟨by rw [show qOfKind N kd w = _ from if_pos (by omega)], rfl⟩)

set_option maxHeartbeats 4000000 in
set_option maxRecDepth 100000 in
theorem c_X6_count (l : Launch) (D : KD) (b : Nat) (σ : KS) (N : Nat → Nat) (x : Int32) (hP : PF σ.2.2) (hI : qIr N) (hB : ∀ i, N i < 2 ^ 31) : Ct l D b yX6_count cX6_count 2 (some .long) (rM 3 65) 0 0 [rf b 190, .int x] shF (wN σ N) shF (pE (some (.long (aCount N x))) (wN σ N)) := by
  have h2 := qi_2 hI
  refine Ct.of (ls := [(0, rf b 190), (1, .int x)]) (by decide) (Nat.le_of_ble_eq_true rfl) rfl ?_
  intro p e s m args below meth c Q hQ X hnm
  refine K_iload_n X 1 dX6_count_0 rfl rfl ?_
  refine K_iconst X dX6_count_1 cii_0 ?_
  refine K_bipush X dX6_count_2 cib_10 ?_
  refine K_callSE X (c_X6_withinQ l D b _ _ _ _) my_X6_within wt_X6_within wm_X6_38 ⟨rfl, rfl, Nat.le_of_ble_eq_true rfl, Nat.le_of_ble_eq_true rfl, Nat.le_of_ble_eq_true rfl, Nat.le_of_ble_eq_true rfl⟩ rfl rfl (Nat.le_of_ble_eq_true rfl) dX6_count_4 ?_
  refine K_ifB_eq (tgt := 18) X dX6_count_7 (by decide) (fun c7 => ?_) (fun c7 => ?_)
  · refine K_ldc2 X wq_X6_136 dX6_count_18 ?_
    exact K_lret X hQ dX6_count_21 (⟨by unfold aCount; rw [qI_f c7], rfl⟩)
  · obtain ⟨v, hlv, hhv, rfl⟩ := qIn_ex (lo := 0) (hi := 10) (by decide) (by decide) c7
    refine K_aload_n X 0 dX6_count_10 rfl rfl ?_
    refine K_iload_n X 1 dX6_count_11 rfl rfl ?_
    refine K_callVE X (c_X6_countOf l D b _ _ _ hP hI hB (by omega)) my_X6_countOf mv_X6_countOf wm_X6_132 sf_m rfl ⟨rfl, rfl, Nat.le_of_ble_eq_true rfl, Nat.le_of_ble_eq_true rfl, Nat.le_of_ble_eq_true rfl, Nat.le_of_ble_eq_true rfl⟩ rfl rfl (Nat.le_of_ble_eq_true rfl) dX6_count_12 ?_
    refine K_goto (tgt := 21) X dX6_count_15 (by decide) ?_
    exact K_lret X hQ dX6_count_21 (⟨by unfold aCount; rw [if_pos c7, nI_clamp (by omega)], rfl⟩)

set_option maxHeartbeats 4000000 in
set_option maxRecDepth 100000 in
theorem c_X6_lot (l : Launch) (D : KD) (b : Nat) (σ : KS) (N : Nat → Nat) (x y : Int32) (hP : PF σ.2.2) (hI : qIr N) : Ct l D b yX6_lot cX6_lot 4 (some .int) (rM 3 68) 0 0 [rf b 190, .int x, .int y] shF (wN σ N) shF (pE (some (.int (aLot N x y))) (wN σ N)) := by
  have h2 := qi_2 hI
  refine Ct.of (ls := [(0, rf b 190), (1, .int x), (2, .int y)]) (by decide) (Nat.le_of_ble_eq_true rfl) rfl ?_
  intro p e s m args below meth c Q hQ X hnm
  refine K_aload_n X 0 dX6_lot_0 rfl rfl ?_
  refine K_iload_n X 1 dX6_lot_1 rfl rfl ?_
  refine K_callVE X (c_X6_find l D b _ _ _ hP (by omega)) my_X6_find mv_X6_find wm_X6_89 sf_m rfl ⟨rfl, rfl, Nat.le_of_ble_eq_true rfl, Nat.le_of_ble_eq_true rfl, Nat.le_of_ble_eq_true rfl, Nat.le_of_ble_eq_true rfl⟩ rfl rfl (Nat.le_of_ble_eq_true rfl) dX6_lot_2 ?_
  refine K_istore_n X (ls' := [(3, _), (0, _), (1, _), (2, _)]) dX6_lot_5 rfl (by decide) rfl ?_
  refine K_iload_n X 0 dX6_lot_6 rfl rfl ?_
  refine K_bipush X dX6_lot_7 cib_m6 ?_
  refine K_icmp_ne (tgt := 14) X dX6_lot_9 (by decide) (fun c9 => ?_) (fun c9 => ?_)
  · obtain ⟨j, hj⟩ := qO_ex c9
    have hjl := qF_lt hj
    rw [hj]
    refine K_iload_n X 3 dX6_lot_14 rfl rfl ?_
    refine K_iconst X dX6_lot_15 cii_0 ?_
    refine K_bipush X dX6_lot_16 cib_6 ?_
    refine K_callSE X (c_X6_withinQ l D b _ _ _ _) my_X6_within wt_X6_within wm_X6_38 ⟨rfl, rfl, Nat.le_of_ble_eq_true rfl, Nat.le_of_ble_eq_true rfl, Nat.le_of_ble_eq_true rfl, Nat.le_of_ble_eq_true rfl⟩ rfl rfl (Nat.le_of_ble_eq_true rfl) dX6_lot_18 ?_
    refine K_ifB_eq (tgt := 33) X dX6_lot_21 (by decide) (fun c21 => ?_) (fun c21 => ?_)
    · refine K_bipush X dX6_lot_33 cib_m2 ?_
      exact K_iret X hQ dX6_lot_35 (⟨by unfold aLot; rw [aOf_s hj, qI_f c21], rfl⟩)
    · obtain ⟨v, hlv, hhv, rfl⟩ := qIn_ex (lo := 0) (hi := 6) (by decide) (by decide) c21
      refine K_aload_n X 1 dX6_lot_24 rfl rfl ?_
      refine K_iload_n X 0 dX6_lot_25 rfl rfl ?_
      refine K_iload_n X 3 dX6_lot_26 rfl rfl ?_
      refine K_callVE X (c_X6_ofLot l D b _ _ _ _ hP hI (by omega) (by omega)) my_X6_ofLot mv_X6_ofLot wm_X6_138 sf_m rfl ⟨rfl, rfl, Nat.le_of_ble_eq_true rfl, Nat.le_of_ble_eq_true rfl, Nat.le_of_ble_eq_true rfl, Nat.le_of_ble_eq_true rfl⟩ rfl rfl (Nat.le_of_ble_eq_true rfl) dX6_lot_27 ?_
      refine K_goto (tgt := 35) X dX6_lot_30 (by decide) ?_
      exact K_iret X hQ dX6_lot_35 (⟨by unfold aLot; rw [aOf_s hj, if_pos c21, nI_clamp (by omega)], rfl⟩)
  · refine K_iconst X dX6_lot_12 cii_m1 ?_
    exact K_iret X hQ dX6_lot_13 (⟨by unfold aLot; rw [aOf_n (qF_no h2 c9)], rfl⟩)

set_option maxHeartbeats 4000000 in
set_option maxRecDepth 100000 in
theorem c_X6_freshAfter (l : Launch) (D : KD) (b : Nat) (σ : KS) (N : Nat → Nat) (x y : Int32) (hP : PF σ.2.2) (hI : qIr N) : Ct l D b yX6_freshAfter cX6_freshAfter 4 (some .int) (rM 3 69) 0 0 [rf b 190, .int x, .int y] shF (wN σ N) shF (pE (some (.int (aFresh N x y))) (wN σ N)) := by
  have h2 := qi_2 hI
  refine Ct.of (ls := [(0, rf b 190), (1, .int x), (2, .int y)]) (by decide) (Nat.le_of_ble_eq_true rfl) rfl ?_
  intro p e s m args below meth c Q hQ X hnm
  refine K_aload_n X 0 dX6_freshAfter_0 rfl rfl ?_
  refine K_iload_n X 1 dX6_freshAfter_1 rfl rfl ?_
  refine K_callVE X (c_X6_find l D b _ _ _ hP (by omega)) my_X6_find mv_X6_find wm_X6_89 sf_m rfl ⟨rfl, rfl, Nat.le_of_ble_eq_true rfl, Nat.le_of_ble_eq_true rfl, Nat.le_of_ble_eq_true rfl, Nat.le_of_ble_eq_true rfl⟩ rfl rfl (Nat.le_of_ble_eq_true rfl) dX6_freshAfter_2 ?_
  refine K_istore_n X (ls' := [(3, _), (0, _), (1, _), (2, _)]) dX6_freshAfter_5 rfl (by decide) rfl ?_
  refine K_iload_n X 0 dX6_freshAfter_6 rfl rfl ?_
  refine K_bipush X dX6_freshAfter_7 cib_m6 ?_
  refine K_icmp_ne (tgt := 14) X dX6_freshAfter_9 (by decide) (fun c9 => ?_) (fun c9 => ?_)
  · obtain ⟨j, hj⟩ := qO_ex c9
    have hjl := qF_lt hj
    rw [hj]
    refine K_iload_n X 3 dX6_freshAfter_14 rfl rfl ?_
    refine K_iconst X dX6_freshAfter_15 cii_0 ?_
    refine K_bipush X dX6_freshAfter_16 cib_100 ?_
    refine K_callSE X (c_X6_withinQ l D b _ _ _ _) my_X6_within wt_X6_within wm_X6_38 ⟨rfl, rfl, Nat.le_of_ble_eq_true rfl, Nat.le_of_ble_eq_true rfl, Nat.le_of_ble_eq_true rfl, Nat.le_of_ble_eq_true rfl⟩ rfl rfl (Nat.le_of_ble_eq_true rfl) dX6_freshAfter_18 ?_
    refine K_ifB_eq (tgt := 33) X dX6_freshAfter_21 (by decide) (fun c21 => ?_) (fun c21 => ?_)
    · refine K_bipush X dX6_freshAfter_33 cib_m2 ?_
      exact K_iret X hQ dX6_freshAfter_35 (⟨by unfold aFresh; rw [aOf_s hj, qI_f c21], rfl⟩)
    · obtain ⟨v, hlv, hhv, rfl⟩ := qIn_ex (lo := 0) (hi := 100) (by decide) (by decide) c21
      refine K_aload_n X 1 dX6_freshAfter_24 rfl rfl ?_
      refine K_iload_n X 0 dX6_freshAfter_25 rfl rfl ?_
      refine K_iload_n X 3 dX6_freshAfter_26 rfl rfl ?_
      refine K_callVE X (c_X6_freshIn l D b _ _ _ _ hP hI (by omega) (by omega)) my_X6_freshIn mv_X6_freshIn wm_X6_162 sf_m rfl ⟨rfl, rfl, Nat.le_of_ble_eq_true rfl, Nat.le_of_ble_eq_true rfl, Nat.le_of_ble_eq_true rfl, Nat.le_of_ble_eq_true rfl⟩ rfl rfl (Nat.le_of_ble_eq_true rfl) dX6_freshAfter_27 ?_
      refine K_goto (tgt := 35) X dX6_freshAfter_30 (by decide) ?_
      exact K_iret X hQ dX6_freshAfter_35 (⟨by unfold aFresh; rw [aOf_s hj, if_pos c21, nI_clamp (by omega)], rfl⟩)
  · refine K_iconst X dX6_freshAfter_12 cii_m1 ?_
    exact K_iret X hQ dX6_freshAfter_13 (⟨by unfold aFresh; rw [aOf_n (qF_no h2 c9)], rfl⟩)

set_option maxHeartbeats 4000000 in
set_option maxRecDepth 100000 in
theorem c_X6_hoursLeft (l : Launch) (D : KD) (b : Nat) (σ : KS) (N : Nat → Nat) (x : Int32) (hP : PF σ.2.2) (hI : qIr N) : Ct l D b yX6_hoursLeft cX6_hoursLeft 3 (some .int) (rM 4 92) 0 0 [rf b 190, .int x] shF (wN σ N) shF (pE (some (.int (aLeft N x))) (wN σ N)) := by
  have h2 := qi_2 hI
  refine Ct.of (ls := [(0, rf b 190), (1, .int x)]) (by decide) (Nat.le_of_ble_eq_true rfl) rfl ?_
  intro p e s m args below meth c Q hQ X hnm
  refine K_aload_n X 0 dX6_hoursLeft_0 rfl rfl ?_
  refine K_iload_n X 1 dX6_hoursLeft_1 rfl rfl ?_
  refine K_callVE X (c_X6_find l D b _ _ _ hP (by omega)) my_X6_find mv_X6_find wm_X6_89 sf_m rfl ⟨rfl, rfl, Nat.le_of_ble_eq_true rfl, Nat.le_of_ble_eq_true rfl, Nat.le_of_ble_eq_true rfl, Nat.le_of_ble_eq_true rfl⟩ rfl rfl (Nat.le_of_ble_eq_true rfl) dX6_hoursLeft_2 ?_
  refine K_istore_n X (ls' := [(2, _), (0, _), (1, _)]) dX6_hoursLeft_5 rfl (by decide) rfl ?_
  refine K_iload_n X 0 dX6_hoursLeft_6 rfl rfl ?_
  refine K_bipush X dX6_hoursLeft_7 cib_m6 ?_
  refine K_icmp_ne (tgt := 16) X dX6_hoursLeft_9 (by decide) (fun c9 => ?_) (fun c9 => ?_)
  · obtain ⟨j, hj⟩ := qO_ex c9
    have hjl := qF_lt hj
    rw [hj]
    refine K_aload_n X 1 dX6_hoursLeft_16 rfl rfl ?_
    refine K_iload_n X 0 dX6_hoursLeft_17 rfl rfl ?_
    refine K_callVE X (c_X6_leftOf l D b _ _ _ hP hI (by omega)) my_X6_leftOf mv_X6_leftOf wm_X6_165 sf_m rfl ⟨rfl, rfl, Nat.le_of_ble_eq_true rfl, Nat.le_of_ble_eq_true rfl, Nat.le_of_ble_eq_true rfl, Nat.le_of_ble_eq_true rfl⟩ rfl rfl (Nat.le_of_ble_eq_true rfl) dX6_hoursLeft_18 ?_
    exact K_iret X hQ dX6_hoursLeft_21 (⟨by unfold aLeft; rw [aOf_s hj], rfl⟩)
  · refine K_iconst X dX6_hoursLeft_12 cii_m1 ?_
    refine K_goto (tgt := 21) X dX6_hoursLeft_13 (by decide) ?_
    exact K_iret X hQ dX6_hoursLeft_21 (⟨by unfold aLeft; rw [aOf_n (qF_no h2 c9)], rfl⟩)

set_option maxHeartbeats 4000000 in
set_option maxRecDepth 100000 in
theorem c_X6_bestHour (l : Launch) (D : KD) (b : Nat) (σ : KS) (N : Nat → Nat) (x : Int32) (hP : PF σ.2.2) (hI : qIr N) : Ct l D b yX6_bestHour cX6_bestHour 3 (some .int) (rM 4 94) 0 0 [rf b 190, .int x] shF (wN σ N) shF (pE (some (.int (aBest N x))) (wN σ N)) := by
  have h2 := qi_2 hI
  refine Ct.of (ls := [(0, rf b 190), (1, .int x)]) (by decide) (Nat.le_of_ble_eq_true rfl) rfl ?_
  intro p e s m args below meth c Q hQ X hnm
  refine K_aload_n X 0 dX6_bestHour_0 rfl rfl ?_
  refine K_iload_n X 1 dX6_bestHour_1 rfl rfl ?_
  refine K_callVE X (c_X6_find l D b _ _ _ hP (by omega)) my_X6_find mv_X6_find wm_X6_89 sf_m rfl ⟨rfl, rfl, Nat.le_of_ble_eq_true rfl, Nat.le_of_ble_eq_true rfl, Nat.le_of_ble_eq_true rfl, Nat.le_of_ble_eq_true rfl⟩ rfl rfl (Nat.le_of_ble_eq_true rfl) dX6_bestHour_2 ?_
  refine K_istore_n X (ls' := [(2, _), (0, _), (1, _)]) dX6_bestHour_5 rfl (by decide) rfl ?_
  refine K_iload_n X 0 dX6_bestHour_6 rfl rfl ?_
  refine K_bipush X dX6_bestHour_7 cib_m6 ?_
  refine K_icmp_ne (tgt := 16) X dX6_bestHour_9 (by decide) (fun c9 => ?_) (fun c9 => ?_)
  · obtain ⟨j, hj⟩ := qO_ex c9
    have hjl := qF_lt hj
    rw [hj]
    refine K_aload_n X 1 dX6_bestHour_16 rfl rfl ?_
    refine K_iload_n X 0 dX6_bestHour_17 rfl rfl ?_
    refine K_callVE X (c_X6_bestOf l D b _ _ _ hP hI (by omega)) my_X6_bestOf mv_X6_bestOf wm_X6_168 sf_m rfl ⟨rfl, rfl, Nat.le_of_ble_eq_true rfl, Nat.le_of_ble_eq_true rfl, Nat.le_of_ble_eq_true rfl, Nat.le_of_ble_eq_true rfl⟩ rfl rfl (Nat.le_of_ble_eq_true rfl) dX6_bestHour_18 ?_
    exact K_iret X hQ dX6_bestHour_21 (⟨by unfold aBest; rw [aOf_s hj], rfl⟩)
  · refine K_iconst X dX6_bestHour_12 cii_m1 ?_
    refine K_goto (tgt := 21) X dX6_bestHour_13 (by decide) ?_
    exact K_iret X hQ dX6_bestHour_21 (⟨by unfold aBest; rw [aOf_n (qF_no h2 c9)], rfl⟩)

set_option maxHeartbeats 4000000 in
set_option maxRecDepth 100000 in
theorem c_X6_box (l : Launch) (D : KD) (b : Nat) (σ : KS) (N : Nat → Nat) (x y : Int32) (hP : PF σ.2.2) (hI : qIr N) : Ct l D b yX6_box cX6_box 3 (some .int) (rM 4 88) 0 0 [rf b 190, .int x, .int y] shF (wN σ N) shF (pE (some (.int (aBox N x y))) (wN σ N)) := by
  have h2 := qi_2 hI
  refine Ct.of (ls := [(0, rf b 190), (1, .int x), (2, .int y)]) (by decide) (Nat.le_of_ble_eq_true rfl) rfl ?_
  intro p e s m args below meth c Q hQ X hnm
  refine K_iload_n X 1 dX6_box_0 rfl rfl ?_
  refine K_callSE X (c_X6_isBox l D b _ _) my_X6_isBox wt_X6_isBox wm_X6_64 ⟨rfl, rfl, Nat.le_of_ble_eq_true rfl, Nat.le_of_ble_eq_true rfl, Nat.le_of_ble_eq_true rfl, Nat.le_of_ble_eq_true rfl⟩ rfl rfl (Nat.le_of_ble_eq_true rfl) dX6_box_1 ?_
  refine K_ifB_ne (tgt := 9) X dX6_box_4 (by decide) (fun c4 => ?_) (fun c4 => ?_)
  · obtain ⟨u, hlu, hhu, rfl⟩ := qIn_ex (lo := 0) (hi := 5) (by decide) (by decide) c4
    refine K_iload_n X 2 dX6_box_9 rfl rfl ?_
    refine K_iconst X dX6_box_10 cii_0 ?_
    refine K_iconst X dX6_box_11 cii_3 ?_
    refine K_callSE X (c_X6_withinQ l D b _ _ _ _) my_X6_within wt_X6_within wm_X6_38 ⟨rfl, rfl, Nat.le_of_ble_eq_true rfl, Nat.le_of_ble_eq_true rfl, Nat.le_of_ble_eq_true rfl, Nat.le_of_ble_eq_true rfl⟩ rfl rfl (Nat.le_of_ble_eq_true rfl) dX6_box_12 ?_
    refine K_ifB_eq (tgt := 27) X dX6_box_15 (by decide) (fun c15 => ?_) (fun c15 => ?_)
    · refine K_bipush X dX6_box_27 cib_m2 ?_
      exact K_iret X hQ dX6_box_29 (⟨by unfold aBox; rw [if_pos c4, qI_f c15], rfl⟩)
    · obtain ⟨v, hlv, hhv, rfl⟩ := qIn_ex (lo := 0) (hi := 3) (by decide) (by decide) c15
      refine K_aload_n X 0 dX6_box_18 rfl rfl ?_
      refine K_iload_n X 1 dX6_box_19 rfl rfl ?_
      refine K_iload_n X 2 dX6_box_20 rfl rfl ?_
      refine K_callVE X (c_X6_ofBox l D b _ _ _ _ hP hI (by omega) (by omega)) my_X6_ofBox mv_X6_ofBox wm_X6_147 sf_m rfl ⟨rfl, rfl, Nat.le_of_ble_eq_true rfl, Nat.le_of_ble_eq_true rfl, Nat.le_of_ble_eq_true rfl, Nat.le_of_ble_eq_true rfl⟩ rfl rfl (Nat.le_of_ble_eq_true rfl) dX6_box_21 ?_
      refine K_goto (tgt := 29) X dX6_box_24 (by decide) ?_
      exact K_iret X hQ dX6_box_29 (⟨by unfold aBox; rw [if_pos c4, if_pos c15, nI_clamp (by omega), nI_clamp (by omega)], rfl⟩)
  · refine K_iconst X dX6_box_7 cii_m1 ?_
    exact K_iret X hQ dX6_box_8 (⟨by unfold aBox; rw [qI_f c4], rfl⟩)

set_option maxHeartbeats 4000000 in
set_option maxRecDepth 100000 in
theorem c_X6_tray (l : Launch) (D : KD) (b : Nat) (σ : KS) (N : Nat → Nat) (x y : Int32) (hP : PF σ.2.2) (hI : qIr N) : Ct l D b yX6_tray cX6_tray 3 (some .int) (rM 4 88) 0 0 [rf b 190, .int x, .int y] shF (wN σ N) shF (pE (some (.int (aTray N x y))) (wN σ N)) := by
  have h2 := qi_2 hI
  refine Ct.of (ls := [(0, rf b 190), (1, .int x), (2, .int y)]) (by decide) (Nat.le_of_ble_eq_true rfl) rfl ?_
  intro p e s m args below meth c Q hQ X hnm
  refine K_iload_n X 1 dX6_tray_0 rfl rfl ?_
  refine K_callSE X (c_X6_isTray l D b _ _) my_X6_isTray wt_X6_isTray wm_X6_86 ⟨rfl, rfl, Nat.le_of_ble_eq_true rfl, Nat.le_of_ble_eq_true rfl, Nat.le_of_ble_eq_true rfl, Nat.le_of_ble_eq_true rfl⟩ rfl rfl (Nat.le_of_ble_eq_true rfl) dX6_tray_1 ?_
  refine K_ifB_ne (tgt := 9) X dX6_tray_4 (by decide) (fun c4 => ?_) (fun c4 => ?_)
  · obtain ⟨u, hlu, hhu, rfl⟩ := qIn_ex (lo := 0) (hi := 4) (by decide) (by decide) c4
    refine K_iload_n X 2 dX6_tray_9 rfl rfl ?_
    refine K_iconst X dX6_tray_10 cii_0 ?_
    refine K_iconst X dX6_tray_11 cii_1 ?_
    refine K_callSE X (c_X6_withinQ l D b _ _ _ _) my_X6_within wt_X6_within wm_X6_38 ⟨rfl, rfl, Nat.le_of_ble_eq_true rfl, Nat.le_of_ble_eq_true rfl, Nat.le_of_ble_eq_true rfl, Nat.le_of_ble_eq_true rfl⟩ rfl rfl (Nat.le_of_ble_eq_true rfl) dX6_tray_12 ?_
    refine K_ifB_eq (tgt := 27) X dX6_tray_15 (by decide) (fun c15 => ?_) (fun c15 => ?_)
    · refine K_bipush X dX6_tray_27 cib_m2 ?_
      exact K_iret X hQ dX6_tray_29 (⟨by unfold aTray; rw [if_pos c4, qI_f c15], rfl⟩)
    · obtain ⟨v, hlv, hhv, rfl⟩ := qIn_ex (lo := 0) (hi := 1) (by decide) (by decide) c15
      refine K_aload_n X 0 dX6_tray_18 rfl rfl ?_
      refine K_iload_n X 1 dX6_tray_19 rfl rfl ?_
      refine K_iload_n X 2 dX6_tray_20 rfl rfl ?_
      refine K_callVE X (c_X6_ofTray l D b _ _ _ _ hP hI (by omega) (by omega)) my_X6_ofTray mv_X6_ofTray wm_X6_150 sf_m rfl ⟨rfl, rfl, Nat.le_of_ble_eq_true rfl, Nat.le_of_ble_eq_true rfl, Nat.le_of_ble_eq_true rfl, Nat.le_of_ble_eq_true rfl⟩ rfl rfl (Nat.le_of_ble_eq_true rfl) dX6_tray_21 ?_
      refine K_goto (tgt := 29) X dX6_tray_24 (by decide) ?_
      exact K_iret X hQ dX6_tray_29 (⟨by unfold aTray; rw [if_pos c4, if_pos c15, nI_clamp (by omega), nI_clamp (by omega)], rfl⟩)
  · refine K_iconst X dX6_tray_7 cii_m1 ?_
    exact K_iret X hQ dX6_tray_8 (⟨by unfold aTray; rw [qI_f c4], rfl⟩)

set_option maxHeartbeats 4000000 in
set_option maxRecDepth 100000 in
theorem c_X6_kind (l : Launch) (D : KD) (b : Nat) (σ : KS) (N : Nat → Nat) (x y : Int32) (hP : PF σ.2.2) (hI : qIr N) : Ct l D b yX6_kind cX6_kind 3 (some .int) (rM 3 67) 0 0 [rf b 190, .int x, .int y] shF (wN σ N) shF (pE (some (.int (aKind N x y))) (wN σ N)) := by
  have h2 := qi_2 hI
  refine Ct.of (ls := [(0, rf b 190), (1, .int x), (2, .int y)]) (by decide) (Nat.le_of_ble_eq_true rfl) rfl ?_
  intro p e s m args below meth c Q hQ X hnm
  refine K_iload_n X 1 dX6_kind_0 rfl rfl ?_
  refine K_callSE X (c_X6_isKind l D b _ _) my_X6_isKind wt_X6_isKind wm_X6_46 ⟨rfl, rfl, Nat.le_of_ble_eq_true rfl, Nat.le_of_ble_eq_true rfl, Nat.le_of_ble_eq_true rfl, Nat.le_of_ble_eq_true rfl⟩ rfl rfl (Nat.le_of_ble_eq_true rfl) dX6_kind_1 ?_
  refine K_ifB_ne (tgt := 9) X dX6_kind_4 (by decide) (fun c4 => ?_) (fun c4 => ?_)
  · obtain ⟨u, hlu, hhu, rfl⟩ := qIn_ex (lo := 0) (hi := 5) (by decide) (by decide) c4
    refine K_iload_n X 2 dX6_kind_9 rfl rfl ?_
    refine K_iconst X dX6_kind_10 cii_0 ?_
    refine K_iconst X dX6_kind_11 cii_3 ?_
    refine K_callSE X (c_X6_withinQ l D b _ _ _ _) my_X6_within wt_X6_within wm_X6_38 ⟨rfl, rfl, Nat.le_of_ble_eq_true rfl, Nat.le_of_ble_eq_true rfl, Nat.le_of_ble_eq_true rfl, Nat.le_of_ble_eq_true rfl⟩ rfl rfl (Nat.le_of_ble_eq_true rfl) dX6_kind_12 ?_
    refine K_ifB_eq (tgt := 27) X dX6_kind_15 (by decide) (fun c15 => ?_) (fun c15 => ?_)
    · refine K_bipush X dX6_kind_27 cib_m2 ?_
      exact K_iret X hQ dX6_kind_29 (⟨by unfold aKind; rw [if_pos c4, qI_f c15], rfl⟩)
    · obtain ⟨v, hlv, hhv, rfl⟩ := qIn_ex (lo := 0) (hi := 3) (by decide) (by decide) c15
      refine K_aload_n X 0 dX6_kind_18 rfl rfl ?_
      refine K_iload_n X 1 dX6_kind_19 rfl rfl ?_
      refine K_iload_n X 2 dX6_kind_20 rfl rfl ?_
      refine K_callVE X (c_X6_ofKind l D b _ _ _ _ hP hI (by omega) (by omega)) my_X6_ofKind mv_X6_ofKind wm_X6_159 sf_m rfl ⟨rfl, rfl, Nat.le_of_ble_eq_true rfl, Nat.le_of_ble_eq_true rfl, Nat.le_of_ble_eq_true rfl, Nat.le_of_ble_eq_true rfl⟩ rfl rfl (Nat.le_of_ble_eq_true rfl) dX6_kind_21 ?_
      refine K_goto (tgt := 29) X dX6_kind_24 (by decide) ?_
      exact K_iret X hQ dX6_kind_29 (⟨by unfold aKind; rw [if_pos c4, if_pos c15, nI_clamp (by omega), nI_clamp (by omega)], rfl⟩)
  · refine K_iconst X dX6_kind_7 cii_m1 ?_
    exact K_iret X hQ dX6_kind_8 (⟨by unfold aKind; rw [qI_f c4], rfl⟩)

set_option maxHeartbeats 4000000 in
set_option maxRecDepth 100000 in
theorem c_X6_cut (l : Launch) (D : KD) (b : Nat) (σ : KS) (N : Nat → Nat) (x : Int32) (hP : PF σ.2.2) : Ct l D b yX6_cut cX6_cut 2 (some .int) (rM 2 42) 0 0 [rf b 190, .int x] shF (wN σ N) shF (pE (some (.int (aCut N x))) (wN σ N)) := by
  refine Ct.of (ls := [(0, rf b 190), (1, .int x)]) (by decide) (Nat.le_of_ble_eq_true rfl) rfl ?_
  intro p e s m args below meth c Q hQ X hnm
  refine K_iload_n X 1 dX6_cut_0 rfl rfl ?_
  refine K_callSE X (c_X6_isHour l D b _ _) my_X6_isHour wt_X6_isHour wm_X6_53 ⟨rfl, rfl, Nat.le_of_ble_eq_true rfl, Nat.le_of_ble_eq_true rfl, Nat.le_of_ble_eq_true rfl, Nat.le_of_ble_eq_true rfl⟩ rfl rfl (Nat.le_of_ble_eq_true rfl) dX6_cut_1 ?_
  refine K_ifB_eq (tgt := 19) X dX6_cut_4 (by decide) (fun c4 => ?_) (fun c4 => ?_)
  · refine K_iconst X dX6_cut_19 cii_m1 ?_
    exact K_iret X hQ dX6_cut_20 (⟨by unfold aCut; rw [qI_f c4], rfl⟩)
  · obtain ⟨u, hlu, hhu, rfl⟩ := qIn_ex (lo := 0) (hi := 10) (by decide) (by decide) c4
    refine K_aload_n X 0 dX6_cut_7 rfl rfl ?_
    refine K_get X 0 kFd6 rfl (by decide) sf_m wf_X6_7 rfl (v := rf b (191)) (kv_a (pf_m0 hP)) dX6_cut_8 ?_
    refine K_bipush X dX6_cut_11 cib_23 ?_
    refine K_iload_n X 1 dX6_cut_13 rfl rfl ?_
    refine K_iaddN X dX6_cut_14 ?_
    refine K_iald X _ sf_ms rfl (by omega) (by decide) (wN_at _) dX6_cut_15 ?_
    refine K_goto (tgt := 20) X dX6_cut_16 (by decide) ?_
    exact K_iret X hQ dX6_cut_20 (⟨by unfold aCut; rw [if_pos c4, nI_clamp (by omega)], rfl⟩)

set_option maxHeartbeats 4000000 in
set_option maxRecDepth 100000 in
theorem c_X6_worth (l : Launch) (D : KD) (b : Nat) (σ : KS) (N : Nat → Nat) (hP : PF σ.2.2) (hI : qIr N) : Ct l D b yX6_worth cX6_worth 1 (some .long) (rM 3 68) 0 0 [rf b 190] shF (wN σ N) shF (pE (some (.long (lN (qWorth N (N 2))))) (wN σ N)) := by
  refine Ct.of (ls := [(0, rf b 190)]) (by decide) (Nat.le_of_ble_eq_true rfl) rfl ?_
  intro p e s m args below meth c Q hQ X hnm
  refine K_aload_n X 0 dX6_worth_0 rfl rfl ?_
  refine K_callVE X (c_X6_allWorth l D b _ _ hP hI) my_X6_allWorth mv_X6_allWorth wm_X6_171 sf_m rfl ⟨rfl, rfl, Nat.le_of_ble_eq_true rfl, Nat.le_of_ble_eq_true rfl, Nat.le_of_ble_eq_true rfl, Nat.le_of_ble_eq_true rfl⟩ rfl rfl (Nat.le_of_ble_eq_true rfl) dX6_worth_1 ?_
  exact K_lret X hQ dX6_worth_4 (⟨rfl, rfl⟩)
end
section
/-! what the changes of a shop do to its numbers -/
theorem qD1_at (N : Nat → Nat) (k j i : Nat) : qD1 N k j i = if i = 2 then N 2 - 1 else if 45 + 5 * k ≤ i ∧ i < 45 + 5 * k + j then N (i + 5) else N i := by
  induction j generalizing i with
  | zero =>
    show uN N 2 (N 2 - 1) i = _
    unfold uN
    split
    · rfl
    · rw [if_neg (by omega)]
  | succ j ih =>
    show uN (qD1 N k j) (45 + 5 * k + j) (qD1 N k j (45 + 5 * k + j + 5)) i = _
    unfold uN
    by_cases h : i = 45 + 5 * k + j
    · rw [if_pos h, ih, if_neg (by omega), if_neg (by omega), if_neg (by omega), if_pos (by omega), h]
    · rw [if_neg h, ih]
      by_cases h2 : i = 2
      · rw [if_pos h2, if_pos h2]
      · rw [if_neg h2, if_neg h2]
        by_cases h3 : 45 + 5 * k ≤ i ∧ i < 45 + 5 * k + j
        · rw [if_pos h3, if_pos (by omega)]
        · rw [if_neg h3, if_neg (by omega)]
theorem qD2_at (N : Nat → Nat) (n j i : Nat) : qD2 N n j i = if 45 + 5 * n ≤ i ∧ i < 45 + 5 * n + j then 0 else N i := by
  induction j with
  | zero => rw [if_neg (by omega)]; rfl
  | succ j ih =>
    show uN (qD2 N n j) (45 + 5 * n + j) 0 i = _
    unfold uN
    by_cases h : i = 45 + 5 * n + j
    · rw [if_pos h, if_pos (by omega)]
    · rw [if_neg h, ih]
      by_cases h3 : 45 + 5 * n ≤ i ∧ i < 45 + 5 * n + j
      · rw [if_pos h3, if_pos (by omega)]
      · rw [if_neg h3, if_neg (by omega)]
theorem qDrop_at (N : Nat → Nat) {k : Nat} (hk : k < N 2) (i : Nat) : qDrop N k i = if i = 2 then N 2 - 1 else if i < 45 + 5 * k then N i else if i < 45 + 5 * (N 2 - 1) then N (i + 5) else if i < 45 + 5 * N 2 then 0 else N i := by
  unfold qDrop
  rw [qD2_at, qD1_at]
  by_cases h2 : i = 2
  · rw [if_pos h2, if_neg (by omega), if_pos h2]
  · rw [if_neg h2, if_neg h2]
    by_cases h3 : i < 45 + 5 * k
    · rw [if_pos h3, if_neg (by omega), if_neg (by omega)]
    · rw [if_neg h3]
      by_cases h4 : i < 45 + 5 * (N 2 - 1)
      · rw [if_pos h4, if_neg (by omega), if_pos (by omega)]
      · rw [if_neg h4]
        by_cases h5 : i < 45 + 5 * N 2
        · rw [if_pos h5, if_pos (by omega)]
        · rw [if_neg h5, if_neg (by omega), if_neg (by omega)]
theorem qDrop_2 {N : Nat → Nat} {k : Nat} (hk : k < N 2) : qDrop N k 2 = N 2 - 1 := by rw [qDrop_at N hk, if_pos rfl]
theorem qDrop_lo {N : Nat → Nat} {k i : Nat} (hk : k < N 2) (hi : i < 45) (h2 : i ≠ 2) : qDrop N k i = N i := by rw [qDrop_at N hk, if_neg h2, if_pos (by omega)]
theorem qDrop_l {N : Nat → Nat} {k m j : Nat} (hk : k < N 2) (hm : m < N 2 - 1) (hj : j < 5) : qL (qDrop N k) m j = qL N (if m < k then m else m + 1) j := by
  show qDrop N k (45 + 5 * m + j) = _
  rw [qDrop_at N hk, if_neg (by omega)]
  by_cases h : m < k
  · rw [if_pos (by omega), if_pos h]
  · rw [if_neg (by omega), if_pos (by omega), if_neg h]
    show N _ = N _
    congr 1
    omega
theorem qDrop_u {N : Nat → Nat} {k j v : Nat} (hk : k < N 2) (hj : j < 5) : qDrop (uN N (45 + 5 * k + j) v) k = qDrop N k := by
  funext i
  have e2 : uN N (45 + 5 * k + j) v 2 = N 2 := uN_n (by omega)
  rw [qDrop_at _ (by rw [e2]; exact hk), qDrop_at N hk, e2]
  by_cases h2 : i = 2
  · rw [if_pos h2, if_pos h2]
  · rw [if_neg h2, if_neg h2]
    by_cases h3 : i < 45 + 5 * k
    · rw [if_pos h3, if_pos h3, uN_n (by omega)]
    · rw [if_neg h3, if_neg h3]
      by_cases h4 : i < 45 + 5 * (N 2 - 1)
      · rw [if_pos h4, if_pos h4, uN_n (by omega)]
      · rw [if_neg h4, if_neg h4]
        by_cases h5 : i < 45 + 5 * N 2
        · rw [if_pos h5, if_pos h5]
        · rw [if_neg h5, if_neg h5, uN_n (by omega)]
theorem qIr_congr {N N' : Nat → Nat} (h : qIr N) (e : ∀ i, (i < 3 ∨ i = 8 ∨ i = 9 ∨ 11 ≤ i) → N' i = N i) : qIr N' := by
  unfold qIr at h ⊢
  rw [e 0 (by omega), e 1 (by omega), e 2 (by omega), e 8 (by omega), e 9 (by omega)]
  obtain ⟨h0, h1, h2, h8, h9, hp, hc, ht, hi, hl⟩ := h
  refine ⟨h0, h1, h2, h8, h9, fun k hk => ?_, fun k hk => ?_, fun k hk => ?_, fun k hk => ?_, fun k hk => ?_⟩
  · rw [e (11 + k) (by omega)]; exact hp k hk
  · rw [e (17 + k) (by omega)]; exact hc k hk
  · rw [e (23 + k) (by omega)]; exact ht k hk
  · rw [e (34 + k) (by omega)]; exact hi k hk
  · show N' _ < 6 ∧ (1 ≤ N' _ ∧ N' _ ≤ 20000) ∧ N' _ ≤ 100 ∧ N' _ < 11
    rw [e (45 + 5 * k + 1) (by omega), e (45 + 5 * k + 2) (by omega), e (45 + 5 * k + 3) (by omega), e (45 + 5 * k + 4) (by omega)]
    exact hl k hk
/-- a change of the account j -/
theorem qIr_a {N : Nat → Nat} (h : qIr N) {j v : Nat} (hj : (3 ≤ j ∧ j ≤ 7) ∨ j = 10) : qIr (uN N j v) := qIr_congr h (fun i hi => uN_n (by omega))
/-- a change of the number j of lot k -/
theorem qIr_l {N : Nat → Nat} (h : qIr N) {k j v : Nat} (hj : j < 5) (hv : (j = 1 → v < 6) ∧ (j = 2 → 1 ≤ v ∧ v ≤ 20000) ∧ (j = 3 → v ≤ 100) ∧ (j = 4 → v < 11)) : qIr (uN N (45 + 5 * k + j) v) := by
  obtain ⟨h0, h1, h2, h8, h9, hp, hc, ht, hi, hl⟩ := h
  obtain ⟨v1, v2, v3, v4⟩ := hv
  unfold qIr
  rw [uN_n (k := 0) (by omega), uN_n (k := 1) (by omega), uN_n (k := 2) (by omega), uN_n (k := 8) (by omega), uN_n (k := 9) (by omega)]
  refine ⟨h0, h1, h2, h8, h9, fun k hk => ?_, fun k hk => ?_, fun k hk => ?_, fun k hk => ?_, fun m hm => ?_⟩
  · rw [uN_n (by omega)]; exact hp k hk
  · rw [uN_n (by omega)]; exact hc k hk
  · rw [uN_n (by omega)]; exact ht k hk
  · rw [uN_n (by omega)]; exact hi k hk
  · obtain ⟨l1, l2, l3, l4⟩ := hl m hm
    have key : ∀ z, z < 5 → qL (uN N (45 + 5 * k + j) v) m z = if m = k ∧ z = j then v else qL N m z := by
      intro z hz
      show uN N (45 + 5 * k + j) v (45 + 5 * m + z) = _
      unfold uN
      by_cases q : m = k ∧ z = j
      · rw [if_pos q, if_pos (by omega)]
      · rw [if_neg q, if_neg (by omega)]
    rw [key 1 (by omega), key 2 (by omega), key 3 (by omega), key 4 (by omega)]
    refine ⟨?_, ?_, ?_, ?_⟩
    · split
      · exact v1 (by omega)
      · exact l1
    · split
      · exact v2 (by omega)
      · exact l2
    · split
      · exact v3 (by omega)
      · exact l3
    · split
      · exact v4 (by omega)
      · exact l4
theorem qIr_drop {N : Nat → Nat} (h : qIr N) {k : Nat} (hk : k < N 2) : qIr (qDrop N k) := by
  obtain ⟨h0, h1, h2, h8, h9, hp, hc, ht, hi, hl⟩ := h
  unfold qIr
  rw [qDrop_2 hk, qDrop_lo (i := 0) hk (by omega) (by omega), qDrop_lo (i := 1) hk (by omega) (by omega), qDrop_lo (i := 8) hk (by omega) (by omega), qDrop_lo (i := 9) hk (by omega) (by omega)]
  refine ⟨h0, h1, by omega, h8, h9, fun k hk => ?_, fun k hk => ?_, fun k hk => ?_, fun k hk => ?_, fun m hm => ?_⟩
  · rw [qDrop_lo (by assumption) (by omega) (by omega)]; exact hp k (by assumption)
  · rw [qDrop_lo (by assumption) (by omega) (by omega)]; exact hc k (by assumption)
  · rw [qDrop_lo (by assumption) (by omega) (by omega)]; exact ht k (by assumption)
  · rw [qDrop_lo (by assumption) (by omega) (by omega)]; exact hi k (by assumption)
  · rw [qDrop_l hk hm (by omega), qDrop_l hk hm (by omega), qDrop_l hk hm (by omega), qDrop_l hk hm (by omega)]
    exact hl _ (by split <;> omega)
theorem qThrow_2 {N : Nat → Nat} {k : Nat} (hk : k < N 2) : qThrow N k 2 = N 2 - 1 := by
  unfold qThrow
  rw [qDrop_2 (by rw [uN_n (by omega)]; exact hk), uN_n (by omega)]
theorem qThrow_lo {N : Nat → Nat} {k i : Nat} (hk : k < N 2) (hi : i < 45) (h2 : i ≠ 2) (h5 : i ≠ 5) : qThrow N k i = N i := by
  unfold qThrow
  rw [qDrop_lo (by rw [uN_n (by omega)]; exact hk) hi h2, uN_n h5]
theorem qThrow_5 {N : Nat → Nat} {k : Nat} (hk : k < N 2) : qThrow N k 5 = N 5 + qL N k 2 := by
  unfold qThrow
  rw [qDrop_lo (by rw [uN_n (by omega)]; exact hk) (by omega) (by omega), uN_s]
theorem qThrow_l {N : Nat → Nat} {k m j : Nat} (hk : k < N 2) (hm : m < N 2 - 1) (hj : j < 5) : qL (qThrow N k) m j = qL N (if m < k then m else m + 1) j := by
  unfold qThrow
  rw [qDrop_l (by rw [uN_n (by omega)]; exact hk) (by rw [uN_n (by omega)]; exact hm) hj]
  exact uN_n (by omega)
theorem qIr_throw {N : Nat → Nat} (h : qIr N) {k : Nat} (hk : k < N 2) : qIr (qThrow N k) := qIr_drop (qIr_a h (by omega)) (by rw [uN_n (by omega)]; exact hk)
/-! the hour -/
theorem qP1_n {N : Nat → Nat} {j i : Nat} (h : ∀ m, m < j → i ≠ 45 + 5 * m + 3) : qP1 N j i = N i := by
  induction j with
  | zero => rfl
  | succ j ih => exact (uN_n (h j (by omega))).trans (ih (fun m hm => h m (by omega)))
theorem qP1_s {N : Nat → Nat} (hI : qIr N) {j k : Nat} (hk : k < j) (hj : j ≤ N 2) : qP1 N j (45 + 5 * k + 3) = qL N k 3 - qLoss (qL N k 4) (N (34 + qL N k 4)) := by
  induction j with
  | zero => omega
  | succ j ih =>
    show uN _ _ _ _ = _
    by_cases h : k = j
    · subst h
      rw [uN_s]
      have h4 := qi_l4 hI (show k < N 2 from by omega)
      rw [show qL (qP1 N k) k 3 = qL N k 3 from qP1_n (by omega), show qL (qP1 N k) k 4 = qL N k 4 from qP1_n (by omega), qP1_n (i := 34 + qL N k 4) (by omega)]
    · rw [uN_n (by omega)]
      exact ih (by omega) (by omega)
theorem qP2_n {N : Nat → Nat} {j i : Nat} (h : i < 34 ∨ 34 + j ≤ i) : qP2 N j i = N i := by
  induction j with
  | zero => rfl
  | succ j ih => exact (uN_n (by omega)).trans (ih (by omega))
theorem qMelt_e {N M : Nat → Nat} (h : M 8 = N 8) (pl : Nat) : qMelt M pl = qMelt N pl := by unfold qMelt; rw [h]
theorem qP2_s {N : Nat → Nat} {j k : Nat} (hk : k < j) : qP2 N j (34 + k) = N (34 + k) - qMelt N k := by
  induction j with
  | zero => omega
  | succ j ih =>
    show uN _ _ _ _ = _
    by_cases h : k = j
    · subst h
      rw [uN_s, qP2_n (by omega), qMelt_e (qP2_n (by omega))]
    · rw [uN_n (by omega)]
      exact ih (by omega)
theorem qPass_1 (N : Nat → Nat) : qPass N 1 = N 1 + 1 := uN_s
theorem qPass_lo {N : Nat → Nat} {i : Nat} (hi : i < 34) (h1 : i ≠ 1) : qPass N i = N i := by
  unfold qPass
  rw [uN_n h1, qP2_n (by omega), qP1_n (by omega)]
theorem qPass_i {N : Nat → Nat} {j : Nat} (hj : j < 11) : qPass N (34 + j) = N (34 + j) - qMelt N j := by
  unfold qPass
  rw [uN_n (by omega), qP2_s hj, qP1_n (by omega), qMelt_e (qP1_n (by omega))]
theorem qPass_f {N : Nat → Nat} (hI : qIr N) {k : Nat} (hk : k < N 2) : qL (qPass N) k 3 = qL N k 3 - qLoss (qL N k 4) (N (34 + qL N k 4)) := by
  show qPass N (45 + 5 * k + 3) = _
  unfold qPass
  rw [uN_n (by omega), qP2_n (by omega), qP1_s hI hk (Nat.le_refl _)]
theorem qPass_l {N : Nat → Nat} {k j : Nat} (hj : j < 5) (h3 : j ≠ 3) : qL (qPass N) k j = qL N k j := by
  show qPass N (45 + 5 * k + j) = N (45 + 5 * k + j)
  unfold qPass
  rw [uN_n (by omega), qP2_n (by omega), qP1_n (by omega)]
theorem qIr_pass {N : Nat → Nat} (h : qIr N) (h1 : N 1 < 10) : qIr (qPass N) := by
  have hI := h
  obtain ⟨h0, -, h2, h8, h9, hp, hc, ht, hi, hl⟩ := h
  unfold qIr
  rw [qPass_1, qPass_lo (i := 0) (by omega) (by omega), qPass_lo (i := 2) (by omega) (by omega), qPass_lo (i := 8) (by omega) (by omega), qPass_lo (i := 9) (by omega) (by omega)]
  refine ⟨h0, by omega, h2, h8, h9, fun k hk => ?_, fun k hk => ?_, fun k hk => ?_, fun k hk => ?_, fun m hm => ?_⟩
  · rw [qPass_lo (by omega) (by omega)]; exact hp k hk
  · rw [qPass_lo (by omega) (by omega)]; exact hc k hk
  · rw [qPass_lo (by omega) (by omega)]; exact ht k hk
  · rw [qPass_i hk]; have := hi k hk; omega
  · rw [qPass_l (by omega) (by omega), qPass_l (by omega) (by omega), qPass_f hI hm, qPass_l (by omega) (by omega)]
    obtain ⟨l1, l2, l3, l4⟩ := hl m hm
    exact ⟨l1, l2, by omega, l4⟩
/-! the closing -/
theorem qC1_k {N : Nat → Nat} {i : Nat} (hI : qIr N) (hi : i ≤ N 2) : qIr (qC1 i N) ∧ N 5 ≤ qC1 i N 5 ∧ qC1 i N 0 = N 0 := by
  induction i generalizing N with
  | zero => exact ⟨hI, Nat.le_refl _, rfl⟩
  | succ i ih =>
    unfold qC1
    split
    · exact ih hI (by omega)
    · obtain ⟨a, c, d⟩ := ih (qIr_throw hI hi) (by rw [qThrow_2 hi]; omega)
      exact ⟨a, by have := qThrow_5 hi; omega, d.trans (qThrow_lo hi (by omega) (by omega) (by omega))⟩
theorem qC2s_k {M : Nat → Nat} (hI : qIr M) (pl : Nat) : qIr (qC2s M pl) ∧ M 5 ≤ qC2s M pl 5 ∧ qC2s M pl 0 = M 0 := by
  unfold qC2s
  cases hf : qFst M pl (M 2) none with
  | none => exact ⟨hI, Nat.le_refl _, rfl⟩
  | some k =>
    have hk : k < M 2 := qFst_lt hf (Nat.le_refl _) (fun q hq => by cases hq)
    cases hc : qCold M 6 with
    | none => exact ⟨qIr_throw hI hk, by have := qThrow_5 hk; dsimp only; omega, qThrow_lo hk (by omega) (by omega) (by omega)⟩
    | some bx => exact ⟨qIr_l hI (by omega) ⟨by omega, by omega, by omega, fun _ => by have := qCold_lt hc; omega⟩, by dsimp only; rw [uN_n (by omega)]; exact Nat.le_refl _, uN_n (by omega)⟩
theorem qIr_ice {N : Nat → Nat} (h : qIr N) {j v : Nat} (hj : j < 11) (hv : v ≤ 5000) : qIr (uN N (34 + j) v) := by
  obtain ⟨h0, h1, h2, h8, h9, hp, hc, ht, hi, hl⟩ := h
  unfold qIr
  rw [uN_n (k := 0) (by omega), uN_n (k := 1) (by omega), uN_n (k := 2) (by omega), uN_n (k := 8) (by omega), uN_n (k := 9) (by omega)]
  refine ⟨h0, h1, h2, h8, h9, fun k hk => ?_, fun k hk => ?_, fun k hk => ?_, fun k hk => ?_, fun m hm => ?_⟩
  · rw [uN_n (by omega)]; exact hp k hk
  · rw [uN_n (by omega)]; exact hc k hk
  · rw [uN_n (by omega)]; exact ht k hk
  · unfold uN; split; exact hv; exact hi k hk
  · show uN _ _ _ _ < 6 ∧ (1 ≤ uN _ _ _ _ ∧ uN _ _ _ _ ≤ 20000) ∧ uN _ _ _ _ ≤ 100 ∧ uN _ _ _ _ < 11
    rw [uN_n (by omega), uN_n (by omega), uN_n (by omega), uN_n (by omega)]
    exact hl m hm
theorem qC2_k {N : Nat → Nat} (hI : qIr N) {j : Nat} (hj : j ≤ 5) : qIr (qC2 N j) ∧ N 5 ≤ qC2 N j 5 ∧ qC2 N j 0 = N 0 := by
  induction j with
  | zero => exact ⟨hI, Nat.le_refl _, rfl⟩
  | succ j ih =>
    obtain ⟨a, c, d⟩ := ih (by omega)
    obtain ⟨a2, c2, d2⟩ := qC2s_k a (6 + j)
    refine ⟨qIr_ice a2 (by omega) (by omega), ?_, ?_⟩
    · show _ ≤ uN _ _ _ 5
      rw [uN_n (by omega)]
      omega
    · show uN _ _ _ 0 = _
      rw [uN_n (by omega), d2, d]
theorem qC3_k {N : Nat → Nat} (hI : qIr N) : qIr (qC3 N) ∧ N 5 ≤ qC3 N 5 ∧ qC3 N 0 = N 0 := by
  obtain ⟨a, c, d⟩ := qC1_k hI (Nat.le_refl _)
  obtain ⟨a2, c2, d2⟩ := qC2_k a (Nat.le_refl 5)
  exact ⟨a2, Nat.le_trans c c2, d2.trans d⟩
theorem qClose_5 {N : Nat → Nat} (hI : qIr N) : N 5 ≤ qClose N 5 := by
  unfold qClose
  rw [uN_n (by omega), uN_n (by omega)]
  exact (qC3_k hI).2.1
end
section
theorem i_vc : Claimed_1_1 ∧ Claimed_1_2 := sorry
end
