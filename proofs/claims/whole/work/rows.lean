section
-- ===== PART A: goes FIRST, ahead of the names: the tables' words, and 'selects' of the private methods out of them =====
/-- a private method of a class that the tables say can be made, by its rows of tables_1 -/
def lw_okq (q : MethodName × Nat) : Prop := (q.1.cls ≠ "java/lang/invoke/MethodHandle" ∧ q.1.cls ≠ "java/lang/invoke/VarHandle") ∧ Cond.instantiable q.1.cls q.2 ∈ tables_1 ∧ Cond.privateMethod q.1 ∈ tables_1 ∧ Cond.instanceMethod q.1 ∈ tables_1
theorem lw_p0 : lw_okq (⟨"WindowCards", "found", "(I)I"⟩, 10) := ⟨⟨by decide +kernel, by decide +kernel⟩, List.mem_of_getElem? (i := 17) (by decide +kernel), List.mem_of_getElem? (i := 209) (by decide +kernel), List.mem_of_getElem? (i := 210) (by decide +kernel)⟩
theorem lw_p1 : lw_okq (⟨"WindowCards", "passed", "(I)I"⟩, 10) := ⟨⟨by decide +kernel, by decide +kernel⟩, List.mem_of_getElem? (i := 17) (by decide +kernel), List.mem_of_getElem? (i := 221) (by decide +kernel), List.mem_of_getElem? (i := 222) (by decide +kernel)⟩
theorem lw_p2 : lw_okq (⟨"WindowCards$Tape", "byteAt", "(I)I"⟩, 6) := ⟨⟨by decide +kernel, by decide +kernel⟩, List.mem_of_getElem? (i := 27) (by decide +kernel), List.mem_of_getElem? (i := 276) (by decide +kernel), List.mem_of_getElem? (i := 277) (by decide +kernel)⟩
theorem lw_p3 : lw_okq (⟨"WindowCards$Tape", "takeName", "()V"⟩, 6) := ⟨⟨by decide +kernel, by decide +kernel⟩, List.mem_of_getElem? (i := 27) (by decide +kernel), List.mem_of_getElem? (i := 286) (by decide +kernel), List.mem_of_getElem? (i := 287) (by decide +kernel)⟩
theorem lw_p4 : lw_okq (⟨"WindowCards$Tape", "takeNumber", "()V"⟩, 6) := ⟨⟨by decide +kernel, by decide +kernel⟩, List.mem_of_getElem? (i := 27) (by decide +kernel), List.mem_of_getElem? (i := 293) (by decide +kernel), List.mem_of_getElem? (i := 294) (by decide +kernel)⟩
theorem lw_p5 : lw_okq (⟨"WindowCards$Game", "handAfter", "(I)I"⟩, 10) := ⟨⟨by decide +kernel, by decide +kernel⟩, List.mem_of_getElem? (i := 57) (by decide +kernel), List.mem_of_getElem? (i := 385) (by decide +kernel), List.mem_of_getElem? (i := 386) (by decide +kernel)⟩
theorem lw_p6 : lw_okq (⟨"WindowCards", "isPlay", "(II)Z"⟩, 10) := ⟨⟨by decide +kernel, by decide +kernel⟩, List.mem_of_getElem? (i := 17) (by decide +kernel), List.mem_of_getElem? (i := 404) (by decide +kernel), List.mem_of_getElem? (i := 405) (by decide +kernel)⟩
theorem lw_p7 : lw_okq (⟨"WindowCards", "isCard", "(I)Z"⟩, 10) := ⟨⟨by decide +kernel, by decide +kernel⟩, List.mem_of_getElem? (i := 17) (by decide +kernel), List.mem_of_getElem? (i := 408) (by decide +kernel), List.mem_of_getElem? (i := 409) (by decide +kernel)⟩
theorem lw_p8 : lw_okq (⟨"WindowCards", "arePlays", "(LWindowCards$Row;II)Z"⟩, 10) := ⟨⟨by decide +kernel, by decide +kernel⟩, List.mem_of_getElem? (i := 17) (by decide +kernel), List.mem_of_getElem? (i := 451) (by decide +kernel), List.mem_of_getElem? (i := 452) (by decide +kernel)⟩
theorem lw_p9 : lw_okq (⟨"WindowCards", "rowsThere", "()I"⟩, 10) := ⟨⟨by decide +kernel, by decide +kernel⟩, List.mem_of_getElem? (i := 17) (by decide +kernel), List.mem_of_getElem? (i := 629) (by decide +kernel), List.mem_of_getElem? (i := 630) (by decide +kernel)⟩
theorem lw_p10 : lw_okq (⟨"WindowCardsModel", "find", "(I)I"⟩, 27) := ⟨⟨by decide +kernel, by decide +kernel⟩, List.mem_of_getElem? (i := 637) (by decide +kernel), List.mem_of_getElem? (i := 739) (by decide +kernel), List.mem_of_getElem? (i := 740) (by decide +kernel)⟩
theorem lw_p11 : lw_okq (⟨"WindowCardsModel", "give", "(I)I"⟩, 27) := ⟨⟨by decide +kernel, by decide +kernel⟩, List.mem_of_getElem? (i := 637) (by decide +kernel), List.mem_of_getElem? (i := 744) (by decide +kernel), List.mem_of_getElem? (i := 745) (by decide +kernel)⟩
theorem lw_p12 : lw_okq (⟨"WindowCardsModel", "isSpan", "(III)Z"⟩, 27) := ⟨⟨by decide +kernel, by decide +kernel⟩, List.mem_of_getElem? (i := 637) (by decide +kernel), List.mem_of_getElem? (i := 756) (by decide +kernel), List.mem_of_getElem? (i := 757) (by decide +kernel)⟩
theorem lw_p13 : lw_okq (⟨"WindowCardsModel", "readsAll", "()Z"⟩, 27) := ⟨⟨by decide +kernel, by decide +kernel⟩, List.mem_of_getElem? (i := 637) (by decide +kernel), List.mem_of_getElem? (i := 775) (by decide +kernel), List.mem_of_getElem? (i := 776) (by decide +kernel)⟩
theorem lw_p14 : lw_okq (⟨"WindowCardsModel", "token", "()V"⟩, 27) := ⟨⟨by decide +kernel, by decide +kernel⟩, List.mem_of_getElem? (i := 637) (by decide +kernel), List.mem_of_getElem? (i := 779) (by decide +kernel), List.mem_of_getElem? (i := 780) (by decide +kernel)⟩
theorem lw_p15 : lw_okq (⟨"WindowCardsModel", "readsTable", "()Z"⟩, 27) := ⟨⟨by decide +kernel, by decide +kernel⟩, List.mem_of_getElem? (i := 637) (by decide +kernel), List.mem_of_getElem? (i := 786) (by decide +kernel), List.mem_of_getElem? (i := 787) (by decide +kernel)⟩
def lw_privs_1 : List (MethodName × Nat) := [(⟨"WindowCards", "found", "(I)I"⟩, 10), (⟨"WindowCards", "passed", "(I)I"⟩, 10), (⟨"WindowCards$Tape", "byteAt", "(I)I"⟩, 6), (⟨"WindowCards$Tape", "takeName", "()V"⟩, 6), (⟨"WindowCards$Tape", "takeNumber", "()V"⟩, 6), (⟨"WindowCards$Game", "handAfter", "(I)I"⟩, 10), (⟨"WindowCards", "isPlay", "(II)Z"⟩, 10), (⟨"WindowCards", "isCard", "(I)Z"⟩, 10), (⟨"WindowCards", "arePlays", "(LWindowCards$Row;II)Z"⟩, 10), (⟨"WindowCards", "rowsThere", "()I"⟩, 10), (⟨"WindowCardsModel", "find", "(I)I"⟩, 27), (⟨"WindowCardsModel", "give", "(I)I"⟩, 27), (⟨"WindowCardsModel", "isSpan", "(III)Z"⟩, 27), (⟨"WindowCardsModel", "readsAll", "()Z"⟩, 27), (⟨"WindowCardsModel", "token", "()V"⟩, 27), (⟨"WindowCardsModel", "readsTable", "()Z"⟩, 27)]
theorem lw_r1 : ∀ q ∈ lw_privs_1, lw_okq q := List.forall_mem_cons.mpr ⟨lw_p0, List.forall_mem_cons.mpr ⟨lw_p1, List.forall_mem_cons.mpr ⟨lw_p2, List.forall_mem_cons.mpr ⟨lw_p3, List.forall_mem_cons.mpr ⟨lw_p4, List.forall_mem_cons.mpr ⟨lw_p5, List.forall_mem_cons.mpr ⟨lw_p6, List.forall_mem_cons.mpr ⟨lw_p7, List.forall_mem_cons.mpr ⟨lw_p8, List.forall_mem_cons.mpr ⟨lw_p9, List.forall_mem_cons.mpr ⟨lw_p10, List.forall_mem_cons.mpr ⟨lw_p11, List.forall_mem_cons.mpr ⟨lw_p12, List.forall_mem_cons.mpr ⟨lw_p13, List.forall_mem_cons.mpr ⟨lw_p14, List.forall_mem_cons.mpr ⟨lw_p15, fun _ h => absurd h List.not_mem_nil⟩⟩⟩⟩⟩⟩⟩⟩⟩⟩⟩⟩⟩⟩⟩⟩
theorem lw_p16 : lw_okq (⟨"WindowCardsModel", "isWord", "(II)Z"⟩, 27) := ⟨⟨by decide +kernel, by decide +kernel⟩, List.mem_of_getElem? (i := 637) (by decide +kernel), List.mem_of_getElem? (i := 791) (by decide +kernel), List.mem_of_getElem? (i := 792) (by decide +kernel)⟩
theorem lw_p17 : lw_okq (⟨"WindowCardsModel", "number", "(I)I"⟩, 27) := ⟨⟨by decide +kernel, by decide +kernel⟩, List.mem_of_getElem? (i := 637) (by decide +kernel), List.mem_of_getElem? (i := 795) (by decide +kernel), List.mem_of_getElem? (i := 796) (by decide +kernel)⟩
theorem lw_p18 : lw_okq (⟨"WindowCardsModel", "readsSign", "()Z"⟩, 27) := ⟨⟨by decide +kernel, by decide +kernel⟩, List.mem_of_getElem? (i := 637) (by decide +kernel), List.mem_of_getElem? (i := 799) (by decide +kernel), List.mem_of_getElem? (i := 800) (by decide +kernel)⟩
theorem lw_p19 : lw_okq (⟨"WindowCardsModel", "isSign", "()Z"⟩, 27) := ⟨⟨by decide +kernel, by decide +kernel⟩, List.mem_of_getElem? (i := 637) (by decide +kernel), List.mem_of_getElem? (i := 803) (by decide +kernel), List.mem_of_getElem? (i := 804) (by decide +kernel)⟩
theorem lw_p20 : lw_okq (⟨"WindowCardsModel", "readsCard", "()Z"⟩, 27) := ⟨⟨by decide +kernel, by decide +kernel⟩, List.mem_of_getElem? (i := 637) (by decide +kernel), List.mem_of_getElem? (i := 807) (by decide +kernel), List.mem_of_getElem? (i := 808) (by decide +kernel)⟩
theorem lw_p21 : lw_okq (⟨"WindowCardsModel", "readsHoles", "()Z"⟩, 27) := ⟨⟨by decide +kernel, by decide +kernel⟩, List.mem_of_getElem? (i := 637) (by decide +kernel), List.mem_of_getElem? (i := 812) (by decide +kernel), List.mem_of_getElem? (i := 813) (by decide +kernel)⟩
theorem lw_p22 : lw_okq (⟨"WindowCardsModel", "layTurned", "()V"⟩, 27) := ⟨⟨by decide +kernel, by decide +kernel⟩, List.mem_of_getElem? (i := 637) (by decide +kernel), List.mem_of_getElem? (i := 817) (by decide +kernel), List.mem_of_getElem? (i := 818) (by decide +kernel)⟩
theorem lw_p23 : lw_okq (⟨"WindowCardsModel", "isCard", "(I)Z"⟩, 27) := ⟨⟨by decide +kernel, by decide +kernel⟩, List.mem_of_getElem? (i := 637) (by decide +kernel), List.mem_of_getElem? (i := 835) (by decide +kernel), List.mem_of_getElem? (i := 836) (by decide +kernel)⟩
theorem lw_p24 : lw_okq (⟨"WindowCardsModel", "worthOf", "(I)I"⟩, 27) := ⟨⟨by decide +kernel, by decide +kernel⟩, List.mem_of_getElem? (i := 637) (by decide +kernel), List.mem_of_getElem? (i := 851) (by decide +kernel), List.mem_of_getElem? (i := 852) (by decide +kernel)⟩
theorem lw_p25 : lw_okq (⟨"WindowCardsModel", "isInHand", "(I)Z"⟩, 27) := ⟨⟨by decide +kernel, by decide +kernel⟩, List.mem_of_getElem? (i := 637) (by decide +kernel), List.mem_of_getElem? (i := 859) (by decide +kernel), List.mem_of_getElem? (i := 860) (by decide +kernel)⟩
theorem lw_p26 : lw_okq (⟨"WindowCardsModel", "playOf", "(I)I"⟩, 27) := ⟨⟨by decide +kernel, by decide +kernel⟩, List.mem_of_getElem? (i := 637) (by decide +kernel), List.mem_of_getElem? (i := 863) (by decide +kernel), List.mem_of_getElem? (i := 864) (by decide +kernel)⟩
theorem lw_p27 : lw_okq (⟨"WindowCardsModel", "refuses", "(II)I"⟩, 27) := ⟨⟨by decide +kernel, by decide +kernel⟩, List.mem_of_getElem? (i := 637) (by decide +kernel), List.mem_of_getElem? (i := 872) (by decide +kernel), List.mem_of_getElem? (i := 873) (by decide +kernel)⟩
theorem lw_p28 : lw_okq (⟨"WindowCardsModel", "isOver", "()Z"⟩, 27) := ⟨⟨by decide +kernel, by decide +kernel⟩, List.mem_of_getElem? (i := 637) (by decide +kernel), List.mem_of_getElem? (i := 890) (by decide +kernel), List.mem_of_getElem? (i := 891) (by decide +kernel)⟩
theorem lw_p29 : lw_okq (⟨"WindowCardsModel", "layBest", "()V"⟩, 27) := ⟨⟨by decide +kernel, by decide +kernel⟩, List.mem_of_getElem? (i := 637) (by decide +kernel), List.mem_of_getElem? (i := 898) (by decide +kernel), List.mem_of_getElem? (i := 899) (by decide +kernel)⟩
theorem lw_p30 : lw_okq (⟨"WindowCardsModel", "openLevel", "(III)V"⟩, 27) := ⟨⟨by decide +kernel, by decide +kernel⟩, List.mem_of_getElem? (i := 637) (by decide +kernel), List.mem_of_getElem? (i := 902) (by decide +kernel), List.mem_of_getElem? (i := 903) (by decide +kernel)⟩
theorem lw_p31 : lw_okq (⟨"WindowCardsModel", "goDown", "(I)Z"⟩, 27) := ⟨⟨by decide +kernel, by decide +kernel⟩, List.mem_of_getElem? (i := 637) (by decide +kernel), List.mem_of_getElem? (i := 907) (by decide +kernel), List.mem_of_getElem? (i := 908) (by decide +kernel)⟩
def lw_privs_2 : List (MethodName × Nat) := [(⟨"WindowCardsModel", "isWord", "(II)Z"⟩, 27), (⟨"WindowCardsModel", "number", "(I)I"⟩, 27), (⟨"WindowCardsModel", "readsSign", "()Z"⟩, 27), (⟨"WindowCardsModel", "isSign", "()Z"⟩, 27), (⟨"WindowCardsModel", "readsCard", "()Z"⟩, 27), (⟨"WindowCardsModel", "readsHoles", "()Z"⟩, 27), (⟨"WindowCardsModel", "layTurned", "()V"⟩, 27), (⟨"WindowCardsModel", "isCard", "(I)Z"⟩, 27), (⟨"WindowCardsModel", "worthOf", "(I)I"⟩, 27), (⟨"WindowCardsModel", "isInHand", "(I)Z"⟩, 27), (⟨"WindowCardsModel", "playOf", "(I)I"⟩, 27), (⟨"WindowCardsModel", "refuses", "(II)I"⟩, 27), (⟨"WindowCardsModel", "isOver", "()Z"⟩, 27), (⟨"WindowCardsModel", "layBest", "()V"⟩, 27), (⟨"WindowCardsModel", "openLevel", "(III)V"⟩, 27), (⟨"WindowCardsModel", "goDown", "(I)Z"⟩, 27)]
theorem lw_r2 : ∀ q ∈ lw_privs_2, lw_okq q := List.forall_mem_cons.mpr ⟨lw_p16, List.forall_mem_cons.mpr ⟨lw_p17, List.forall_mem_cons.mpr ⟨lw_p18, List.forall_mem_cons.mpr ⟨lw_p19, List.forall_mem_cons.mpr ⟨lw_p20, List.forall_mem_cons.mpr ⟨lw_p21, List.forall_mem_cons.mpr ⟨lw_p22, List.forall_mem_cons.mpr ⟨lw_p23, List.forall_mem_cons.mpr ⟨lw_p24, List.forall_mem_cons.mpr ⟨lw_p25, List.forall_mem_cons.mpr ⟨lw_p26, List.forall_mem_cons.mpr ⟨lw_p27, List.forall_mem_cons.mpr ⟨lw_p28, List.forall_mem_cons.mpr ⟨lw_p29, List.forall_mem_cons.mpr ⟨lw_p30, List.forall_mem_cons.mpr ⟨lw_p31, fun _ h => absurd h List.not_mem_nil⟩⟩⟩⟩⟩⟩⟩⟩⟩⟩⟩⟩⟩⟩⟩⟩
theorem lw_p32 : lw_okq (⟨"WindowCardsModel", "layHeap", "(I)I"⟩, 27) := ⟨⟨by decide +kernel, by decide +kernel⟩, List.mem_of_getElem? (i := 637) (by decide +kernel), List.mem_of_getElem? (i := 922) (by decide +kernel), List.mem_of_getElem? (i := 923) (by decide +kernel)⟩
theorem lw_p33 : lw_okq (⟨"WindowCardsModel", "shuts", "(III)Z"⟩, 27) := ⟨⟨by decide +kernel, by decide +kernel⟩, List.mem_of_getElem? (i := 637) (by decide +kernel), List.mem_of_getElem? (i := 933) (by decide +kernel), List.mem_of_getElem? (i := 934) (by decide +kernel)⟩
theorem lw_p34 : lw_okq (⟨"WindowCardsModel", "waysOf", "(I)I"⟩, 27) := ⟨⟨by decide +kernel, by decide +kernel⟩, List.mem_of_getElem? (i := 637) (by decide +kernel), List.mem_of_getElem? (i := 941) (by decide +kernel), List.mem_of_getElem? (i := 942) (by decide +kernel)⟩
theorem lw_p35 : lw_okq (⟨"WindowCardsModel", "likeOf", "(I)I"⟩, 27) := ⟨⟨by decide +kernel, by decide +kernel⟩, List.mem_of_getElem? (i := 637) (by decide +kernel), List.mem_of_getElem? (i := 945) (by decide +kernel), List.mem_of_getElem? (i := 946) (by decide +kernel)⟩
theorem lw_p36 : lw_okq (⟨"WindowCardsModel", "areAlike", "(II)Z"⟩, 27) := ⟨⟨by decide +kernel, by decide +kernel⟩, List.mem_of_getElem? (i := 637) (by decide +kernel), List.mem_of_getElem? (i := 949) (by decide +kernel), List.mem_of_getElem? (i := 950) (by decide +kernel)⟩
theorem lw_p37 : lw_okq (⟨"WindowCardsModel", "fitOf", "(III)I"⟩, 27) := ⟨⟨by decide +kernel, by decide +kernel⟩, List.mem_of_getElem? (i := 637) (by decide +kernel), List.mem_of_getElem? (i := 957) (by decide +kernel), List.mem_of_getElem? (i := 958) (by decide +kernel)⟩
theorem lw_p38 : lw_okq (⟨"WindowCardsModel", "move", "(II)V"⟩, 27) := ⟨⟨by decide +kernel, by decide +kernel⟩, List.mem_of_getElem? (i := 637) (by decide +kernel), List.mem_of_getElem? (i := 965) (by decide +kernel), List.mem_of_getElem? (i := 966) (by decide +kernel)⟩
theorem lw_p39 : lw_okq (⟨"WindowCardsModel", "kindOf", "(I)I"⟩, 27) := ⟨⟨by decide +kernel, by decide +kernel⟩, List.mem_of_getElem? (i := 637) (by decide +kernel), List.mem_of_getElem? (i := 977) (by decide +kernel), List.mem_of_getElem? (i := 978) (by decide +kernel)⟩
theorem lw_p40 : lw_okq (⟨"WindowCardsModel", "sizeOf", "(I)I"⟩, 27) := ⟨⟨by decide +kernel, by decide +kernel⟩, List.mem_of_getElem? (i := 637) (by decide +kernel), List.mem_of_getElem? (i := 990) (by decide +kernel), List.mem_of_getElem? (i := 991) (by decide +kernel)⟩
theorem lw_p41 : lw_okq (⟨"WindowCardsModel", "leave", "(I)V"⟩, 27) := ⟨⟨by decide +kernel, by decide +kernel⟩, List.mem_of_getElem? (i := 637) (by decide +kernel), List.mem_of_getElem? (i := 994) (by decide +kernel), List.mem_of_getElem? (i := 995) (by decide +kernel)⟩
theorem lw_p42 : lw_okq (⟨"WindowCardsModel", "piercedSize", "(I)I"⟩, 27) := ⟨⟨by decide +kernel, by decide +kernel⟩, List.mem_of_getElem? (i := 637) (by decide +kernel), List.mem_of_getElem? (i := 998) (by decide +kernel), List.mem_of_getElem? (i := 999) (by decide +kernel)⟩
theorem lw_p43 : lw_okq (⟨"WindowCardsModel", "lentSize", "(I)I"⟩, 27) := ⟨⟨by decide +kernel, by decide +kernel⟩, List.mem_of_getElem? (i := 637) (by decide +kernel), List.mem_of_getElem? (i := 1002) (by decide +kernel), List.mem_of_getElem? (i := 1003) (by decide +kernel)⟩
theorem lw_p44 : lw_okq (⟨"WindowCardsModel", "markOf", "(I)I"⟩, 27) := ⟨⟨by decide +kernel, by decide +kernel⟩, List.mem_of_getElem? (i := 637) (by decide +kernel), List.mem_of_getElem? (i := 1006) (by decide +kernel), List.mem_of_getElem? (i := 1007) (by decide +kernel)⟩
theorem lw_p45 : lw_okq (⟨"WindowCardsModel", "piercedMark", "(I)I"⟩, 27) := ⟨⟨by decide +kernel, by decide +kernel⟩, List.mem_of_getElem? (i := 637) (by decide +kernel), List.mem_of_getElem? (i := 1010) (by decide +kernel), List.mem_of_getElem? (i := 1011) (by decide +kernel)⟩
theorem lw_p46 : lw_okq (⟨"WindowCardsModel", "lentMark", "(I)I"⟩, 27) := ⟨⟨by decide +kernel, by decide +kernel⟩, List.mem_of_getElem? (i := 637) (by decide +kernel), List.mem_of_getElem? (i := 1014) (by decide +kernel), List.mem_of_getElem? (i := 1015) (by decide +kernel)⟩
def lw_privs_3 : List (MethodName × Nat) := [(⟨"WindowCardsModel", "layHeap", "(I)I"⟩, 27), (⟨"WindowCardsModel", "shuts", "(III)Z"⟩, 27), (⟨"WindowCardsModel", "waysOf", "(I)I"⟩, 27), (⟨"WindowCardsModel", "likeOf", "(I)I"⟩, 27), (⟨"WindowCardsModel", "areAlike", "(II)Z"⟩, 27), (⟨"WindowCardsModel", "fitOf", "(III)I"⟩, 27), (⟨"WindowCardsModel", "move", "(II)V"⟩, 27), (⟨"WindowCardsModel", "kindOf", "(I)I"⟩, 27), (⟨"WindowCardsModel", "sizeOf", "(I)I"⟩, 27), (⟨"WindowCardsModel", "leave", "(I)V"⟩, 27), (⟨"WindowCardsModel", "piercedSize", "(I)I"⟩, 27), (⟨"WindowCardsModel", "lentSize", "(I)I"⟩, 27), (⟨"WindowCardsModel", "markOf", "(I)I"⟩, 27), (⟨"WindowCardsModel", "piercedMark", "(I)I"⟩, 27), (⟨"WindowCardsModel", "lentMark", "(I)I"⟩, 27)]
theorem lw_r3 : ∀ q ∈ lw_privs_3, lw_okq q := List.forall_mem_cons.mpr ⟨lw_p32, List.forall_mem_cons.mpr ⟨lw_p33, List.forall_mem_cons.mpr ⟨lw_p34, List.forall_mem_cons.mpr ⟨lw_p35, List.forall_mem_cons.mpr ⟨lw_p36, List.forall_mem_cons.mpr ⟨lw_p37, List.forall_mem_cons.mpr ⟨lw_p38, List.forall_mem_cons.mpr ⟨lw_p39, List.forall_mem_cons.mpr ⟨lw_p40, List.forall_mem_cons.mpr ⟨lw_p41, List.forall_mem_cons.mpr ⟨lw_p42, List.forall_mem_cons.mpr ⟨lw_p43, List.forall_mem_cons.mpr ⟨lw_p44, List.forall_mem_cons.mpr ⟨lw_p45, List.forall_mem_cons.mpr ⟨lw_p46, fun _ h => absurd h List.not_mem_nil⟩⟩⟩⟩⟩⟩⟩⟩⟩⟩⟩⟩⟩⟩⟩
def lw_privs : List (MethodName × Nat) := lw_privs_1 ++ (lw_privs_2 ++ (lw_privs_3))
def lw_tbl : List Cond := k2_sels lw_privs ++ tables_1
theorem lw_privs_ok : ∀ q ∈ lw_privs, lw_okq q := by
  show ∀ q ∈ lw_privs_1 ++ (lw_privs_2 ++ (lw_privs_3)), lw_okq q
  exact List.forall_mem_append.mpr ⟨lw_r1, List.forall_mem_append.mpr ⟨lw_r2, lw_r3⟩⟩
end
section
def RX0 : String := "WindowCards$Game"

def TX0 : u_T := fun k => match k with
  | 0 => ("WindowCards$Game", "table", "[I", true)
  | 1 => ("WindowCards$Game", "lies", "[I", true)
  | 2 => ("WindowCards$Game", "left", "[I", true)
  | 3 => ("WindowCards$Game", "got", "[I", true)
  | 4 => ("WindowCards$Game", "there", "Z", false)
  | 5 => ("WindowCards$Game", "cards", "I", false)
  | 6 => ("WindowCards$Game", "shows", "I", false)
  | 7 => ("WindowCards$Game", "lying", "I", false)
  | 8 => ("WindowCards$Game", "turn", "I", false)
  | _ => ("WindowCards$Game", "taken", "I", false)

def tyX0 : Nat → FieldType := fun k => match k with
  | 0 => .array .int
  | 1 => .array .int
  | 2 => .array .int
  | 3 => .array .int
  | 4 => .boolean
  | 5 => .int
  | 6 => .int
  | 7 => .int
  | 8 => .int
  | _ => .int

theorem nmX0 : ∀ a, a < 10 → ∀ b, b < 10 → a ≠ b → (TX0 a).2.1 ≠ (TX0 b).2.1 := by decide +kernel

theorem tyX0_ok : ∀ k, k < 10 → parseFieldDescriptor (TX0 k).2.2.1 = some (tyX0 k) := by decide +kernel

def RX1 : String := "WindowCards$OpenHands"

def TX1 : u_T := fun k => match k with
  | 0 => ("WindowCards$OpenHands", "cards", "[I", true)
  | 1 => ("WindowCards$OpenHands", "owned", "[I", true)
  | 2 => ("WindowCards$OpenHands", "leads", "[I", true)
  | 3 => ("WindowCards$OpenHands", "size", "I", false)
  | _ => ("WindowCards$OpenHands", "firstBest", "I", false)

def tyX1 : Nat → FieldType := fun k => match k with
  | 0 => .array .int
  | 1 => .array .int
  | 2 => .array .int
  | 3 => .int
  | _ => .int

theorem nmX1 : ∀ a, a < 5 → ∀ b, b < 5 → a ≠ b → (TX1 a).2.1 ≠ (TX1 b).2.1 := by decide +kernel

theorem tyX1_ok : ∀ k, k < 5 → parseFieldDescriptor (TX1 k).2.2.1 = some (tyX1 k) := by decide +kernel

def RX2 : String := "WindowCards$Row"

def TX2 : u_T := fun k => match k with
  | 0 => ("WindowCards$Row", "items", "[I", true)
  | 1 => ("WindowCards$Row", "there", "Z", false)
  | 2 => ("WindowCards$Row", "lane", "I", false)
  | _ => ("WindowCards$Row", "length", "I", false)

def tyX2 : Nat → FieldType := fun k => match k with
  | 0 => .array .int
  | 1 => .boolean
  | 2 => .int
  | _ => .int

theorem nmX2 : ∀ a, a < 4 → ∀ b, b < 4 → a ≠ b → (TX2 a).2.1 ≠ (TX2 b).2.1 := by decide +kernel

theorem tyX2_ok : ∀ k, k < 4 → parseFieldDescriptor (TX2 k).2.2.1 = some (tyX2 k) := by decide +kernel

def RX3 : String := "WindowCards$Tape"

def TX3 : u_T := fun k => match k with
  | 0 => ("WindowCards$Tape", "bytes", "[I", true)
  | 1 => ("WindowCards$Tape", "length", "I", false)
  | 2 => ("WindowCards$Tape", "token", "I", false)
  | 3 => ("WindowCards$Tape", "start", "I", false)
  | 4 => ("WindowCards$Tape", "end", "I", false)
  | _ => ("WindowCards$Tape", "value", "I", false)

def tyX3 : Nat → FieldType := fun k => match k with
  | 0 => .array .int
  | 1 => .int
  | 2 => .int
  | 3 => .int
  | 4 => .int
  | _ => .int

theorem nmX3 : ∀ a, a < 6 → ∀ b, b < 6 → a ≠ b → (TX3 a).2.1 ≠ (TX3 b).2.1 := by decide +kernel

theorem tyX3_ok : ∀ k, k < 6 → parseFieldDescriptor (TX3 k).2.2.1 = some (tyX3 k) := by decide +kernel

def RX4 : String := "WindowCards$Trace"

def TX4 : u_T := fun k => match k with
  | 0 => ("WindowCards$Trace", "numbers", "[I", true)
  | _ => ("WindowCards$Trace", "length", "I", false)

def tyX4 : Nat → FieldType := fun k => match k with
  | 0 => .array .int
  | _ => .int

theorem nmX4 : ∀ a, a < 2 → ∀ b, b < 2 → a ≠ b → (TX4 a).2.1 ≠ (TX4 b).2.1 := by decide +kernel

theorem tyX4_ok : ∀ k, k < 2 → parseFieldDescriptor (TX4 k).2.2.1 = some (tyX4 k) := by decide +kernel

def RX5 : String := "WindowCards"

def TX5 : u_T := fun k => match k with
  | 0 => ("WindowCards", "rows", "[LWindowCards$Row;", true)
  | 1 => ("WindowCards", "tape", "LWindowCards$Tape;", true)
  | 2 => ("WindowCards", "game", "LWindowCards$Game;", true)
  | 3 => ("WindowCards", "trial", "LWindowCards$Game;", true)
  | 4 => ("WindowCards", "images", "[LWindowCards$Game;", true)
  | 5 => ("WindowCards", "openHands", "LWindowCards$OpenHands;", true)
  | 6 => ("WindowCards", "heap", "[I", true)
  | 7 => ("WindowCards", "bodies", "LWindowCards$Trace;", true)
  | 8 => ("WindowCards", "latestFault", "I", false)
  | _ => ("WindowCards", "latestFinding", "I", false)

def tyX5 : Nat → FieldType := fun k => match k with
  | 0 => .array (.object "WindowCards$Row")
  | 1 => .object "WindowCards$Tape"
  | 2 => .object "WindowCards$Game"
  | 3 => .object "WindowCards$Game"
  | 4 => .array (.object "WindowCards$Game")
  | 5 => .object "WindowCards$OpenHands"
  | 6 => .array .int
  | 7 => .object "WindowCards$Trace"
  | 8 => .int
  | _ => .int

theorem nmX5 : ∀ a, a < 10 → ∀ b, b < 10 → a ≠ b → (TX5 a).2.1 ≠ (TX5 b).2.1 := by decide +kernel

theorem tyX5_ok : ∀ k, k < 10 → parseFieldDescriptor (TX5 k).2.2.1 = some (tyX5 k) := by decide +kernel

def RX6 : String := "WindowCardsModel"

def TX6 : u_T := fun k => match k with
  | 0 => ("WindowCardsModel", "row", "[I", true)
  | 1 => ("WindowCardsModel", "tape", "[I", true)
  | 2 => ("WindowCardsModel", "taped", "I", false)
  | 3 => ("WindowCardsModel", "fault", "I", false)
  | 4 => ("WindowCardsModel", "status", "I", false)
  | 5 => ("WindowCardsModel", "lanes", "[I", true)
  | 6 => ("WindowCardsModel", "sizes", "[I", true)
  | 7 => ("WindowCardsModel", "items", "[I", true)
  | 8 => ("WindowCardsModel", "traces", "[I", true)
  | 9 => ("WindowCardsModel", "traceMany", "I", false)
  | 10 => ("WindowCardsModel", "at", "I", false)
  | 11 => ("WindowCardsModel", "place", "I", false)
  | 12 => ("WindowCardsModel", "end", "I", false)
  | 13 => ("WindowCardsModel", "readTable", "[I", true)
  | 14 => ("WindowCardsModel", "readCards", "[I", true)
  | 15 => ("WindowCardsModel", "readHands", "[I", true)
  | 16 => ("WindowCardsModel", "readMany", "I", false)
  | 17 => ("WindowCardsModel", "turned", "[I", true)
  | 18 => ("WindowCardsModel", "tried", "[I", true)
  | 19 => ("WindowCardsModel", "levelShows", "[I", true)
  | 20 => ("WindowCardsModel", "levelHand", "[I", true)
  | 21 => ("WindowCardsModel", "levelLeft", "[I", true)
  | 22 => ("WindowCardsModel", "levelPlay", "[I", true)
  | 23 => ("WindowCardsModel", "levelGot", "[I", true)
  | 24 => ("WindowCardsModel", "levelBest", "[I", true)
  | 25 => ("WindowCardsModel", "bestPlay", "I", false)
  | _ => ("WindowCardsModel", "heap", "[I", true)

def tyX6 : Nat → FieldType := fun k => match k with
  | 0 => .array .int
  | 1 => .array .int
  | 2 => .int
  | 3 => .int
  | 4 => .int
  | 5 => .array .int
  | 6 => .array .int
  | 7 => .array .int
  | 8 => .array .int
  | 9 => .int
  | 10 => .int
  | 11 => .int
  | 12 => .int
  | 13 => .array .int
  | 14 => .array .int
  | 15 => .array .int
  | 16 => .int
  | 17 => .array .int
  | 18 => .array .int
  | 19 => .array .int
  | 20 => .array .int
  | 21 => .array .int
  | 22 => .array .int
  | 23 => .array .int
  | 24 => .array .int
  | 25 => .int
  | _ => .array .int

theorem nmX6 : ∀ a, a < 27 → ∀ b, b < 27 → a ≠ b → (TX6 a).2.1 ≠ (TX6 b).2.1 := by decide +kernel

theorem tyX6_ok : ∀ k, k < 27 → parseFieldDescriptor (TX6 k).2.2.1 = some (tyX6 k) := by decide +kernel

abbrev vwCl : List vw_C := [(RX0, TX0, 10), (RX1, TX1, 5), (RX2, TX2, 4), (RX3, TX3, 6), (RX4, TX4, 2), (RX5, TX5, 10), (RX6, TX6, 27)]

/-! the small machine's tables: classes by number, methods by number, what the constant pools link, each with its place among the words -/
def x_cns : List String := ["WindowCards$Game", "WindowCards$OpenHands", "WindowCards$Row", "WindowCards$Tape", "WindowCards$Trace", "WindowCards", "WindowCardsModel", "WindowCardsLaw", "java/lang/String", "java/lang/StringLatin1", "java/lang/Integer", "java/lang/Math", "java/util/Arrays", "jdk/internal/util/Preconditions"]
def x_cn (c : Nat) : String := x_cns.getD c ""
def x_T : Nat → u_T := fun c => match c with
  | 0 => TX0
  | 1 => TX1
  | 2 => TX2
  | 3 => TX3
  | 4 => TX4
  | 5 => TX5
  | _ => TX6
def x_ty : Nat → Nat → FieldType := fun c => match c with
  | 0 => tyX0
  | 1 => tyX1
  | 2 => tyX2
  | 3 => tyX3
  | 4 => tyX4
  | 5 => tyX5
  | _ => tyX6
def x_N (c : Nat) : Nat := [10, 5, 4, 6, 2, 10, 27].getD c 0
/-- a field, 32 times its class and its place: class, name, type -/
def x_fd (e : Nat) : String × String × String := if e / 32 = 8 then (if e % 32 = 0 then ("java/lang/String", "value", "[B") else ("java/lang/String", "coder", "B")) else ((x_T (e / 32) (e % 32)).1, (x_T (e / 32) (e % 32)).2.1, (x_T (e / 32) (e % 32)).2.2.1)
def x_ff (e : Nat) : Bool := (x_T (e / 32) (e % 32)).2.2.2
def x_mt_0 : List (Nat × MethodName × ByteArray × Nat × Option FieldType) := [(0, ⟨"WindowCards$Game", "<init>", "()V"⟩, prog_2_method_1_code, 1, none), (0, ⟨"WindowCards$Game", "clear", "()V"⟩, prog_2_method_2_code, 1, none), (0, ⟨"WindowCards$Game", "addCard", "(II)V"⟩, prog_2_method_3_code, 5, none), (0, ⟨"WindowCards$Game", "mirrored", "(I)I"⟩, prog_2_method_16_code, 6, (some .int)), (0, ⟨"WindowCards$Game", "turned", "(I)I"⟩, prog_2_method_15_code, 6, (some .int)), (0, ⟨"WindowCards$Game", "deal", "()V"⟩, prog_2_method_4_code, 1, none), (0, ⟨"WindowCards$Game", "handAfter", "(I)I"⟩, prog_2_method_14_code, 2, (some .int)), (0, ⟨"WindowCards$Game", "become", "(LWindowCards$Game;)V"⟩, prog_2_method_5_code, 2, none), (0, ⟨"WindowCards$Game", "lie", "(II)I"⟩, prog_2_method_6_code, 4, (some .int)), (0, ⟨"WindowCards$Game", "worthOf", "(I)I"⟩, prog_2_method_8_code, 4, (some .int)), (0, ⟨"WindowCards$Game", "mayLay", "(I)Z"⟩, prog_2_method_12_code, 2, (some .boolean)), (0, ⟨"WindowCards$Game", "playable", "()I"⟩, prog_2_method_10_code, 1, (some .int)), (0, ⟨"WindowCards$Game", "lay", "(II)I"⟩, prog_2_method_13_code, 4, (some .int)), (0, ⟨"WindowCards$Game", "cardsLeft", "()I"⟩, prog_2_method_9_code, 1, (some .int)), (0, ⟨"WindowCards$Game", "waiting", "()I"⟩, prog_2_method_11_code, 1, (some .int)), (0, ⟨"WindowCards$Game", "unlikeWays", "(I)I"⟩, prog_2_method_7_code, 5, (some .int)), (1, ⟨"WindowCards$OpenHands", "<init>", "()V"⟩, prog_3_method_1_code, 1, none), (1, ⟨"WindowCards$OpenHands", "begin", "(LWindowCards$Game;)V"⟩, prog_3_method_2_code, 4, none), (1, ⟨"WindowCards$OpenHands", "firstState", "(LWindowCards$Game;)I"⟩, prog_3_method_3_code, 2, (some .int)), (1, ⟨"WindowCards$OpenHands", "stateOf", "(III)I"⟩, prog_3_method_7_code, 3, (some .int)), (1, ⟨"WindowCards$OpenHands", "handOf", "(I)I"⟩, prog_3_method_6_code, 2, (some .int)), (1, ⟨"WindowCards$OpenHands", "holds", "(III)Z"⟩, prog_3_method_5_code, 4, (some .boolean)), (1, ⟨"WindowCards$OpenHands", "stateAfter", "(III)I"⟩, prog_3_method_4_code, 7, (some .int)), (2, ⟨"WindowCards$Row", "<init>", "()V"⟩, prog_4_method_1_code, 1, none)]
def x_mt_1 : List (Nat × MethodName × ByteArray × Nat × Option FieldType) := [(2, ⟨"WindowCards$Row", "begin", "(II)V"⟩, prog_4_method_2_code, 3, none), (2, ⟨"WindowCards$Row", "holdsRun", "(II)Z"⟩, prog_4_method_3_code, 3, (some .boolean)), (2, ⟨"WindowCards$Row", "narrowed", "(I)I"⟩, prog_4_method_5_code, 2, (some .int)), (2, ⟨"WindowCards$Row", "item", "(I)I"⟩, prog_4_method_4_code, 2, (some .int)), (3, ⟨"WindowCards$Tape", "<init>", "()V"⟩, prog_5_method_1_code, 1, none), (3, ⟨"WindowCards$Tape", "append", "(I)V"⟩, prog_5_method_2_code, 2, none), (3, ⟨"WindowCards$Tape", "rewind", "()V"⟩, prog_5_method_3_code, 1, none), (3, ⟨"WindowCards$Tape", "advance", "()V"⟩, prog_5_method_4_code, 1, none), (3, ⟨"WindowCards$Tape", "byteAt", "(I)I"⟩, prog_5_method_9_code, 2, (some .int)), (3, ⟨"WindowCards$Tape", "isBlank", "(I)Z"⟩, prog_5_method_10_code, 1, (some .boolean)), (3, ⟨"WindowCards$Tape", "isLetter", "(I)Z"⟩, prog_5_method_11_code, 1, (some .boolean)), (3, ⟨"WindowCards$Tape", "takeName", "()V"⟩, prog_5_method_7_code, 1, none), (3, ⟨"WindowCards$Tape", "isFigure", "(I)Z"⟩, prog_5_method_12_code, 1, (some .boolean)), (3, ⟨"WindowCards$Tape", "takeNumber", "()V"⟩, prog_5_method_8_code, 1, none), (3, ⟨"WindowCards$Tape", "isWord", "(Ljava/lang/String;)Z"⟩, prog_5_method_5_code, 3, (some .boolean)), (3, ⟨"WindowCards$Tape", "windows", "()I"⟩, prog_5_method_6_code, 4, (some .int)), (4, ⟨"WindowCards$Trace", "<init>", "()V"⟩, prog_6_method_1_code, 1, none), (4, ⟨"WindowCards$Trace", "leave", "(I)V"⟩, prog_6_method_2_code, 2, none), (5, ⟨"WindowCards", "<init>", "()V"⟩, prog_1_method_1_code, 2, none), (5, ⟨"WindowCards", "row", "(III)I"⟩, prog_1_method_2_code, 4, (some .int)), (5, ⟨"WindowCards", "isRow", "(I)Z"⟩, prog_1_method_31_code, 1, (some .boolean)), (5, ⟨"WindowCards", "found", "(I)I"⟩, prog_1_method_29_code, 2, (some .int)), (5, ⟨"WindowCards", "passed", "(I)I"⟩, prog_1_method_30_code, 2, (some .int)), (5, ⟨"WindowCards", "set", "(III)I"⟩, prog_1_method_3_code, 5, (some .int))]
def x_mt_2 : List (Nat × MethodName × ByteArray × Nat × Option FieldType) := [(5, ⟨"WindowCards", "copy", "(IIIII)I"⟩, prog_1_method_4_code, 8, (some .int)), (5, ⟨"WindowCards", "drop", "(I)I"⟩, prog_1_method_5_code, 3, (some .int)), (5, ⟨"WindowCards", "feed", "(JI)I"⟩, prog_1_method_6_code, 5, (some .int)), (5, ⟨"WindowCards", "game", "()I"⟩, prog_1_method_7_code, 3, (some .int)), (5, ⟨"WindowCards", "readGame", "(LWindowCards$Tape;LWindowCards$Game;)I"⟩, prog_1_method_37_code, 4, (some .int)), (5, ⟨"WindowCards", "readTable", "(LWindowCards$Tape;LWindowCards$Game;)I"⟩, prog_1_method_38_code, 4, (some .int)), (5, ⟨"WindowCards", "numberFault", "(LWindowCards$Tape;I)I"⟩, prog_1_method_41_code, 2, (some .int)), (5, ⟨"WindowCards", "readSign", "(LWindowCards$Tape;)I"⟩, prog_1_method_40_code, 1, (some .int)), (5, ⟨"WindowCards", "readCard", "(LWindowCards$Tape;LWindowCards$Game;)I"⟩, prog_1_method_39_code, 4, (some .int)), (5, ⟨"WindowCards", "fault", "()I"⟩, prog_1_method_8_code, 1, (some .int)), (5, ⟨"WindowCards", "holes", "(II)I"⟩, prog_1_method_9_code, 3, (some .int)), (5, ⟨"WindowCards", "isPlay", "(II)Z"⟩, prog_1_method_33_code, 3, (some .boolean)), (5, ⟨"WindowCards", "isCard", "(I)Z"⟩, prog_1_method_32_code, 2, (some .boolean)), (5, ⟨"WindowCards", "worth", "(I)I"⟩, prog_1_method_10_code, 2, (some .int)), (5, ⟨"WindowCards", "arePlaces", "(I)Z"⟩, prog_1_method_34_code, 1, (some .boolean)), (5, ⟨"WindowCards", "play", "(II)I"⟩, prog_1_method_11_code, 3, (some .int)), (5, ⟨"WindowCards", "plays", "(III)I"⟩, prog_1_method_12_code, 6, (some .int)), (5, ⟨"WindowCards", "arePlays", "(LWindowCards$Row;II)Z"⟩, prog_1_method_35_code, 6, (some .boolean)), (5, ⟨"WindowCards", "layAll", "(LWindowCards$Game;LWindowCards$Row;II)Z"⟩, prog_1_method_42_code, 6, (some .boolean)), (5, ⟨"WindowCards", "lots", "(II)I"⟩, prog_1_method_13_code, 6, (some .int)), (5, ⟨"WindowCards", "layByLot", "(LWindowCards$Game;J)V"⟩, prog_1_method_43_code, 5, none), (5, ⟨"WindowCards", "bitAt", "(II)I"⟩, prog_1_method_44_code, 4, (some .int)), (5, ⟨"WindowCards", "now", "(I)I"⟩, prog_1_method_14_code, 2, (some .int)), (5, ⟨"WindowCards", "best", "(I)I"⟩, prog_1_method_15_code, 4, (some .int))]
def x_mt_3 : List (Nat × MethodName × ByteArray × Nat × Option FieldType) := [(5, ⟨"WindowCards", "leadFrom", "(LWindowCards$Game;LWindowCards$OpenHands;II)I"⟩, prog_1_method_45_code, 13, (some .int)), (5, ⟨"WindowCards", "mean", "(III)I"⟩, prog_1_method_16_code, 10, (some .int)), (5, ⟨"WindowCards", "worthOfAll", "(LWindowCards$Game;II)I"⟩, prog_1_method_46_code, 6, (some .int)), (5, ⟨"WindowCards", "sharedDivisor", "(II)I"⟩, prog_1_method_47_code, 6, (some .int)), (5, ⟨"WindowCards", "fewest", "(II)I"⟩, prog_1_method_17_code, 4, (some .int)), (5, ⟨"WindowCards", "findHeap", "(LWindowCards$Game;[IIIIII)Z"⟩, prog_1_method_48_code, 10, (some .boolean)), (5, ⟨"WindowCards", "triples", "(I)I"⟩, prog_1_method_18_code, 6, (some .int)), (5, ⟨"WindowCards", "canShut", "(LWindowCards$Game;III)Z"⟩, prog_1_method_49_code, 7, (some .boolean)), (5, ⟨"WindowCards", "alike", "(II)I"⟩, prog_1_method_19_code, 3, (some .int)), (5, ⟨"WindowCards", "classOf", "(LWindowCards$Game;I)I"⟩, prog_1_method_50_code, 5, (some .int)), (5, ⟨"WindowCards", "leastAlike", "(LWindowCards$Game;I)I"⟩, prog_1_method_51_code, 4, (some .int)), (5, ⟨"WindowCards", "fit", "(III)I"⟩, prog_1_method_20_code, 6, (some .int)), (5, ⟨"WindowCards", "fittingWay", "(LWindowCards$Game;III)I"⟩, prog_1_method_52_code, 5, (some .int)), (5, ⟨"WindowCards", "image", "(I)I"⟩, prog_1_method_21_code, 2, (some .int)), (5, ⟨"WindowCards", "restore", "(I)I"⟩, prog_1_method_22_code, 2, (some .int)), (5, ⟨"WindowCards", "kind", "(I)I"⟩, prog_1_method_23_code, 2, (some .int)), (5, ⟨"WindowCards", "kindOf", "(LWindowCards$Game;I)I"⟩, prog_1_method_53_code, 2, (some .int)), (5, ⟨"WindowCards", "isOfKind", "(LWindowCards$Game;II)Z"⟩, prog_1_method_54_code, 5, (some .boolean)), (5, ⟨"WindowCards", "as", "(II)I"⟩, prog_1_method_24_code, 3, (some .int)), (5, ⟨"WindowCards", "ask", "(II)I"⟩, prog_1_method_25_code, 3, (some .int)), (5, ⟨"WindowCards", "bodyFor", "(LWindowCards$Game;II)I"⟩, prog_1_method_55_code, 5, (some .int)), (5, ⟨"WindowCards", "body", "(ILWindowCards$Game;ILWindowCards$Trace;I)I"⟩, prog_1_method_56_code, 7, (some .int)), (5, ⟨"WindowCards", "trace", "(I)I"⟩, prog_1_method_26_code, 2, (some .int)), (5, ⟨"WindowCards", "count", "(I)I"⟩, prog_1_method_27_code, 2, (some .int))]
def x_mt_4 : List (Nat × MethodName × ByteArray × Nat × Option FieldType) := [(5, ⟨"WindowCards", "rowsThere", "()I"⟩, prog_1_method_36_code, 3, (some .int)), (5, ⟨"WindowCards", "status", "()I"⟩, prog_1_method_28_code, 1, (some .int)), (6, ⟨"WindowCardsModel", "<init>", "()V"⟩, prog_8_method_1_code, 1, none), (6, ⟨"WindowCardsModel", "row", "(III)I"⟩, prog_8_method_8_code, 5, (some .int)), (6, ⟨"WindowCardsModel", "isRow", "(I)Z"⟩, prog_8_method_7_code, 1, (some .boolean)), (6, ⟨"WindowCardsModel", "in", "(JJJ)Z"⟩, prog_8_method_2_code, 6, (some .boolean)), (6, ⟨"WindowCardsModel", "find", "(I)I"⟩, prog_8_method_5_code, 2, (some .int)), (6, ⟨"WindowCardsModel", "give", "(I)I"⟩, prog_8_method_6_code, 2, (some .int)), (6, ⟨"WindowCardsModel", "set", "(III)I"⟩, prog_8_method_9_code, 4, (some .int)), (6, ⟨"WindowCardsModel", "copy", "(IIIII)I"⟩, prog_8_method_11_code, 8, (some .int)), (6, ⟨"WindowCardsModel", "isSpan", "(III)Z"⟩, prog_8_method_10_code, 4, (some .boolean)), (6, ⟨"WindowCardsModel", "drop", "(I)I"⟩, prog_8_method_12_code, 2, (some .int)), (6, ⟨"WindowCardsModel", "feed", "(JI)I"⟩, prog_8_method_13_code, 5, (some .int)), (6, ⟨"WindowCardsModel", "game", "()I"⟩, prog_8_method_26_code, 4, (some .int)), (6, ⟨"WindowCardsModel", "readsAll", "()Z"⟩, prog_8_method_23_code, 1, (some .boolean)), (6, ⟨"WindowCardsModel", "token", "()V"⟩, prog_8_method_15_code, 1, none), (6, ⟨"WindowCardsModel", "sort", "(I)I"⟩, prog_8_method_14_code, 1, (some .int)), (6, ⟨"WindowCardsModel", "readsTable", "()Z"⟩, prog_8_method_19_code, 3, (some .boolean)), (6, ⟨"WindowCardsModel", "isWord", "(II)Z"⟩, prog_8_method_16_code, 5, (some .boolean)), (6, ⟨"WindowCardsModel", "number", "(I)I"⟩, prog_8_method_18_code, 4, (some .int)), (6, ⟨"WindowCardsModel", "readsSign", "()Z"⟩, prog_8_method_20_code, 1, (some .boolean)), (6, ⟨"WindowCardsModel", "isSign", "()Z"⟩, prog_8_method_17_code, 1, (some .boolean)), (6, ⟨"WindowCardsModel", "readsCard", "()Z"⟩, prog_8_method_22_code, 2, (some .boolean)), (6, ⟨"WindowCardsModel", "readsHoles", "()Z"⟩, prog_8_method_21_code, 4, (some .boolean))]
def x_mt_5 : List (Nat × MethodName × ByteArray × Nat × Option FieldType) := [(6, ⟨"WindowCardsModel", "layTurned", "()V"⟩, prog_8_method_25_code, 2, none), (6, ⟨"WindowCardsModel", "holesOf", "(II)I"⟩, prog_8_method_24_code, 8, (some .int)), (6, ⟨"WindowCardsModel", "has", "(II)Z"⟩, prog_8_method_3_code, 2, (some .boolean)), (6, ⟨"WindowCardsModel", "fault", "()I"⟩, prog_8_method_27_code, 1, (some .int)), (6, ⟨"WindowCardsModel", "holes", "(II)I"⟩, prog_8_method_31_code, 3, (some .int)), (6, ⟨"WindowCardsModel", "isCard", "(I)Z"⟩, prog_8_method_28_code, 2, (some .boolean)), (6, ⟨"WindowCardsModel", "isWay", "(I)Z"⟩, prog_8_method_29_code, 1, (some .boolean)), (6, ⟨"WindowCardsModel", "worth", "(I)I"⟩, prog_8_method_33_code, 2, (some .int)), (6, ⟨"WindowCardsModel", "isPlaces", "(I)Z"⟩, prog_8_method_30_code, 1, (some .boolean)), (6, ⟨"WindowCardsModel", "worthOf", "(I)I"⟩, prog_8_method_32_code, 4, (some .int)), (6, ⟨"WindowCardsModel", "play", "(II)I"⟩, prog_8_method_36_code, 3, (some .int)), (6, ⟨"WindowCardsModel", "isInHand", "(I)Z"⟩, prog_8_method_34_code, 2, (some .boolean)), (6, ⟨"WindowCardsModel", "playOf", "(I)I"⟩, prog_8_method_35_code, 5, (some .int)), (6, ⟨"WindowCardsModel", "plays", "(III)I"⟩, prog_8_method_38_code, 9, (some .int)), (6, ⟨"WindowCardsModel", "refuses", "(II)I"⟩, prog_8_method_37_code, 5, (some .int)), (6, ⟨"WindowCardsModel", "lots", "(II)I"⟩, prog_8_method_39_code, 10, (some .int)), (6, ⟨"WindowCardsModel", "bits", "(I)I"⟩, prog_8_method_4_code, 3, (some .int)), (6, ⟨"WindowCardsModel", "now", "(I)I"⟩, prog_8_method_41_code, 2, (some .int)), (6, ⟨"WindowCardsModel", "isOver", "()Z"⟩, prog_8_method_40_code, 1, (some .boolean)), (6, ⟨"WindowCardsModel", "best", "(I)I"⟩, prog_8_method_45_code, 2, (some .int)), (6, ⟨"WindowCardsModel", "layBest", "()V"⟩, prog_8_method_44_code, 4, none), (6, ⟨"WindowCardsModel", "openLevel", "(III)V"⟩, prog_8_method_42_code, 4, none), (6, ⟨"WindowCardsModel", "goDown", "(I)Z"⟩, prog_8_method_43_code, 5, (some .boolean)), (6, ⟨"WindowCardsModel", "mean", "(III)I"⟩, prog_8_method_47_code, 12, (some .int))]
def x_mt_6 : List (Nat × MethodName × ByteArray × Nat × Option FieldType) := [(6, ⟨"WindowCardsModel", "divisor", "(II)I"⟩, prog_8_method_46_code, 5, (some .int)), (6, ⟨"WindowCardsModel", "fewest", "(II)I"⟩, prog_8_method_50_code, 4, (some .int)), (6, ⟨"WindowCardsModel", "layHeap", "(I)I"⟩, prog_8_method_49_code, 7, (some .int)), (6, ⟨"WindowCardsModel", "least", "(I)I"⟩, prog_8_method_48_code, 1, (some .int)), (6, ⟨"WindowCardsModel", "triples", "(I)I"⟩, prog_8_method_52_code, 6, (some .int)), (6, ⟨"WindowCardsModel", "shuts", "(III)Z"⟩, prog_8_method_51_code, 6, (some .boolean)), (6, ⟨"WindowCardsModel", "alike", "(II)I"⟩, prog_8_method_56_code, 6, (some .int)), (6, ⟨"WindowCardsModel", "waysOf", "(I)I"⟩, prog_8_method_55_code, 6, (some .int)), (6, ⟨"WindowCardsModel", "likeOf", "(I)I"⟩, prog_8_method_54_code, 3, (some .int)), (6, ⟨"WindowCardsModel", "areAlike", "(II)Z"⟩, prog_8_method_53_code, 5, (some .boolean)), (6, ⟨"WindowCardsModel", "fit", "(III)I"⟩, prog_8_method_58_code, 6, (some .int)), (6, ⟨"WindowCardsModel", "fitOf", "(III)I"⟩, prog_8_method_57_code, 5, (some .int)), (6, ⟨"WindowCardsModel", "image", "(I)I"⟩, prog_8_method_60_code, 2, (some .int)), (6, ⟨"WindowCardsModel", "move", "(II)V"⟩, prog_8_method_59_code, 4, none), (6, ⟨"WindowCardsModel", "restore", "(I)I"⟩, prog_8_method_61_code, 2, (some .int)), (6, ⟨"WindowCardsModel", "kind", "(I)I"⟩, prog_8_method_63_code, 2, (some .int)), (6, ⟨"WindowCardsModel", "kindOf", "(I)I"⟩, prog_8_method_62_code, 4, (some .int)), (6, ⟨"WindowCardsModel", "as", "(II)I"⟩, prog_8_method_64_code, 5, (some .int)), (6, ⟨"WindowCardsModel", "ask", "(II)I"⟩, prog_8_method_72_code, 3, (some .int)), (6, ⟨"WindowCardsModel", "sizeOf", "(I)I"⟩, prog_8_method_71_code, 3, (some .int)), (6, ⟨"WindowCardsModel", "leave", "(I)V"⟩, prog_8_method_65_code, 2, none), (6, ⟨"WindowCardsModel", "piercedSize", "(I)I"⟩, prog_8_method_70_code, 3, (some .int)), (6, ⟨"WindowCardsModel", "lentSize", "(I)I"⟩, prog_8_method_66_code, 2, (some .int)), (6, ⟨"WindowCardsModel", "markOf", "(I)I"⟩, prog_8_method_69_code, 4, (some .int))]
def x_mt_7 : List (Nat × MethodName × ByteArray × Nat × Option FieldType) := [(6, ⟨"WindowCardsModel", "piercedMark", "(I)I"⟩, prog_8_method_68_code, 3, (some .int)), (6, ⟨"WindowCardsModel", "lentMark", "(I)I"⟩, prog_8_method_67_code, 2, (some .int)), (6, ⟨"WindowCardsModel", "trace", "(I)I"⟩, prog_8_method_73_code, 2, (some .int)), (6, ⟨"WindowCardsModel", "count", "(I)I"⟩, prog_8_method_74_code, 4, (some .int)), (6, ⟨"WindowCardsModel", "status", "()I"⟩, prog_8_method_75_code, 1, (some .int)), (8, ⟨"java/lang/String", "length", "()I"⟩, prog_11_method_54_code, 1, (some .int)), (8, ⟨"java/lang/String", "coder", "()B"⟩, prog_11_method_152_code, 1, (some .byte)), (8, ⟨"java/lang/String", "charAt", "(I)C"⟩, prog_11_method_56_code, 2, (some .char)), (8, ⟨"java/lang/String", "isLatin1", "()Z"⟩, prog_11_method_154_code, 1, (some .boolean)), (8, ⟨"java/lang/String", "checkIndex", "(II)V"⟩, prog_11_method_155_code, 2, none), (9, ⟨"java/lang/StringLatin1", "charAt", "([BI)C"⟩, prog_12_method_2_code, 2, (some .char)), (10, ⟨"java/lang/Integer", "bitCount", "(I)I"⟩, prog_9_method_49_code, 1, (some .int)), (11, ⟨"java/lang/Math", "abs", "(I)I"⟩, prog_10_method_59_code, 1, (some .int)), (11, ⟨"java/lang/Math", "max", "(II)I"⟩, prog_10_method_65_code, 2, (some .int)), (12, ⟨"java/util/Arrays", "fill", "([II)V"⟩, prog_15_method_103_code, 4, none), (13, ⟨"jdk/internal/util/Preconditions", "checkIndex", "(IILjava/util/function/BiFunction;)I"⟩, prog_16_method_11_code, 3, (some .int)), (7, x, code, 4, ret)]
def x_mt : List (Nat × MethodName × ByteArray × Nat × Option FieldType) := x_mt_0 ++ (x_mt_1 ++ (x_mt_2 ++ (x_mt_3 ++ (x_mt_4 ++ (x_mt_5 ++ (x_mt_6 ++ (x_mt_7)))))))
def x_mw_0 : List (Nat × Nat × Nat × Nat × Nat × Nat) := [(1, 2, 107, 106, 0, 50), (1, 1, 313, 311, 312, 50), (3, 1, 419, 417, 418, 50), (1, 0, 422, 421, 0, 50), (1, 0, 425, 424, 0, 50), (1, 1, 430, 428, 429, 50), (2, 1, 434, 433, 5, 50), (2, 1, 439, 437, 438, 50), (3, 1, 461, 459, 460, 50), (2, 1, 473, 471, 472, 50), (2, 1, 481, 479, 480, 50), (1, 1, 485, 483, 484, 50), (3, 1, 489, 487, 488, 50), (1, 1, 540, 538, 539, 50), (1, 1, 579, 577, 578, 50), (2, 1, 619, 617, 618, 50), (1, 2, 158, 157, 0, 51), (2, 1, 545, 543, 544, 51), (2, 1, 551, 549, 550, 51), (3, 0, 554, 553, 0, 51), (2, 1, 562, 560, 561, 51), (4, 1, 566, 564, 565, 51), (4, 1, 570, 568, 569, 51), (1, 2, 197, 196, 0, 53)]
def x_mw_1 : List (Nat × Nat × Nat × Nat × Nat × Nat) := [(3, 1, 263, 261, 262, 53), (3, 1, 278, 276, 277, 53), (2, 1, 282, 280, 281, 53), (2, 1, 504, 502, 503, 53), (1, 2, 77, 76, 0, 49), (2, 1, 302, 300, 301, 49), (1, 1, 317, 315, 316, 49), (1, 1, 321, 319, 320, 49), (2, 1, 325, 324, 2, 49), (1, 0, 328, 327, 0, 49), (1, 0, 331, 330, 0, 49), (1, 1, 335, 334, 3, 49), (1, 0, 338, 337, 0, 49), (1, 1, 342, 341, 4, 49), (2, 1, 350, 348, 349, 49), (1, 1, 413, 411, 412, 49), (1, 2, 183, 182, 0, 52), (2, 1, 666, 664, 665, 52), (1, 2, 67, 66, 0, 48), (4, 1, 250, 248, 249, 48), (1, 0, 253, 252, 0, 48), (2, 1, 258, 257, 0, 48), (2, 1, 270, 269, 1, 48), (4, 1, 274, 272, 273, 48)]
def x_mw_2 : List (Nat × Nat × Nat × Nat × Nat × Nat) := [(6, 1, 286, 284, 285, 48), (2, 1, 293, 291, 292, 48), (3, 1, 297, 295, 296, 48), (1, 1, 306, 304, 305, 48), (2, 0, 309, 308, 0, 48), (2, 0, 345, 344, 0, 48), (2, 0, 402, 401, 0, 48), (1, 0, 405, 404, 0, 48), (2, 0, 408, 407, 0, 48), (1, 1, 445, 443, 444, 48), (3, 1, 449, 447, 448, 48), (3, 1, 453, 452, 6, 48), (2, 1, 457, 456, 7, 48), (2, 1, 465, 463, 464, 48), (1, 0, 469, 468, 0, 48), (3, 1, 477, 475, 476, 48), (4, 1, 496, 494, 495, 48), (4, 1, 500, 499, 8, 48), (4, 0, 508, 507, 0, 48), (3, 1, 512, 510, 511, 48), (2, 0, 519, 518, 0, 48), (2, 0, 528, 527, 0, 48), (2, 1, 532, 530, 531, 48), (2, 1, 536, 534, 535, 48)]
def x_mw_3 : List (Nat × Nat × Nat × Nat × Nat × Nat) := [(4, 0, 557, 556, 0, 48), (4, 1, 575, 573, 574, 48), (3, 0, 582, 581, 0, 48), (2, 0, 588, 587, 0, 48), (3, 1, 595, 593, 594, 48), (7, 0, 598, 597, 0, 48), (2, 1, 602, 600, 601, 48), (4, 0, 605, 604, 0, 48), (3, 1, 609, 607, 608, 48), (2, 0, 612, 611, 0, 48), (2, 0, 615, 614, 0, 48), (4, 1, 623, 621, 622, 48), (4, 0, 626, 625, 0, 48), (2, 1, 630, 628, 629, 48), (2, 1, 634, 632, 633, 48), (2, 1, 638, 636, 637, 48), (2, 0, 641, 640, 0, 48), (3, 0, 644, 643, 0, 48), (3, 1, 648, 646, 647, 48), (3, 1, 652, 650, 651, 48), (3, 0, 655, 654, 0, 48), (5, 0, 662, 661, 0, 48), (2, 1, 670, 668, 669, 48), (2, 1, 674, 672, 673, 48)]
def x_mw_4 : List (Nat × Nat × Nat × Nat × Nat × Nat) := [(1, 1, 678, 677, 9, 48), (1, 1, 682, 680, 681, 48), (1, 2, 687, 686, 0, 54), (4, 1, 775, 773, 774, 54), (1, 0, 778, 777, 0, 54), (3, 0, 782, 781, 0, 54), (2, 1, 788, 787, 10, 54), (2, 1, 793, 792, 11, 54), (4, 1, 797, 795, 796, 54), (6, 1, 801, 799, 800, 54), (4, 1, 805, 804, 12, 54), (2, 1, 809, 807, 808, 54), (3, 1, 813, 811, 812, 54), (1, 1, 820, 818, 819, 54), (1, 1, 824, 823, 13, 54), (1, 1, 828, 827, 14, 54), (1, 0, 831, 830, 0, 54), (1, 1, 835, 834, 15, 54), (3, 1, 840, 839, 16, 54), (2, 1, 844, 843, 17, 54), (1, 1, 848, 847, 18, 54), (1, 1, 852, 851, 19, 54), (1, 1, 856, 855, 20, 54), (1, 1, 861, 860, 21, 54)]
def x_mw_5 : List (Nat × Nat × Nat × Nat × Nat × Nat) := [(1, 1, 866, 865, 22, 54), (2, 0, 869, 868, 0, 54), (2, 0, 872, 871, 0, 54), (1, 1, 876, 874, 875, 54), (3, 1, 880, 878, 879, 54), (2, 1, 884, 883, 23, 54), (1, 0, 887, 886, 0, 54), (2, 1, 891, 889, 890, 54), (1, 0, 895, 894, 0, 54), (2, 1, 900, 899, 24, 54), (3, 1, 904, 902, 903, 54), (2, 1, 908, 907, 25, 54), (2, 1, 912, 911, 26, 54), (4, 1, 916, 914, 915, 54), (3, 1, 921, 920, 27, 54), (3, 1, 925, 923, 924, 54), (1, 0, 931, 930, 0, 54), (2, 1, 935, 933, 934, 54), (1, 1, 939, 938, 28, 54), (2, 1, 943, 941, 942, 54), (1, 1, 947, 946, 29, 54), (4, 1, 951, 950, 30, 54), (2, 1, 956, 955, 31, 54), (4, 1, 960, 958, 959, 54)]
def x_mw_6 : List (Nat × Nat × Nat × Nat × Nat × Nat) := [(2, 0, 963, 962, 0, 54), (3, 1, 967, 965, 966, 54), (2, 1, 971, 970, 32, 54), (1, 0, 974, 973, 0, 54), (2, 1, 978, 976, 977, 54), (4, 1, 982, 981, 33, 54), (3, 1, 986, 984, 985, 54), (2, 1, 990, 989, 34, 54), (2, 1, 994, 993, 35, 54), (3, 1, 998, 997, 36, 54), (4, 1, 1002, 1000, 1001, 54), (4, 1, 1006, 1005, 37, 54), (2, 1, 1010, 1008, 1009, 54), (3, 1, 1014, 1013, 38, 54), (2, 1, 1018, 1016, 1017, 54), (2, 1, 1022, 1020, 1021, 54), (2, 1, 1026, 1025, 39, 54), (3, 1, 1030, 1028, 1029, 54), (3, 1, 1035, 1033, 1034, 54), (2, 1, 1039, 1038, 40, 54), (2, 1, 1043, 1042, 41, 54), (2, 1, 1047, 1046, 42, 54), (2, 1, 1051, 1050, 43, 54), (2, 1, 1055, 1054, 44, 54)]
def x_mw_7 : List (Nat × Nat × Nat × Nat × Nat × Nat) := [(2, 1, 1059, 1058, 45, 54), (2, 1, 1063, 1062, 46, 54), (2, 1, 1067, 1065, 1066, 54), (2, 1, 1071, 1069, 1070, 54), (1, 1, 1075, 1073, 1074, 54), (1, 1, 354, 352, 353, 57), (1, 1, 358, 356, 357, 57), (2, 1, 364, 362, 363, 57), (1, 1, 368, 366, 367, 57), (2, 0, 374, 373, 0, 57), (2, 0, 371, 370, 0, 58), (1, 0, 522, 521, 0, 61), (1, 0, 585, 584, 0, 62), (2, 0, 591, 590, 0, 62), (2, 0, 266, 265, 0, 55), (3, 0, 379, 378, 0, 59), (1, 0, 0, 0, 0, 0)]
def x_mw : List (Nat × Nat × Nat × Nat × Nat × Nat) := x_mw_0 ++ (x_mw_1 ++ (x_mw_2 ++ (x_mw_3 ++ (x_mw_4 ++ (x_mw_5 ++ (x_mw_6 ++ (x_mw_7)))))))
def x_m0 : Nat × MethodName × ByteArray × Nat × Option FieldType := (0, x, code, 0, none)
def x_me (y : Nat) : Nat × MethodName × ByteArray × Nat × Option FieldType := x_mt.getD y x_m0
def x_cy (y : Nat) : Nat := (x_me y).1
def x_nm (y : Nat) : MethodName := (x_me y).2.1
def x_by (y : Nat) : ByteArray := (x_me y).2.2.1
def x_ml (y : Nat) : Nat := (x_me y).2.2.2.1
def x_rt (y : Nat) : Option FieldType := (x_me y).2.2.2.2
def x_wo (y : Nat) : Nat × Nat × Nat × Nat × Nat × Nat := x_mw.getD y (0, 0, 0, 0, 0, 0)
def x_na (y : Nat) : Nat := (x_wo y).1
/-- 0 static, 1 virtual, 2 a constructor -/
def x_kd (y : Nat) : Nat := (x_wo y).2.1
def x_ft : List (Nat × Nat × Nat × Nat) := [(3, 9, 96, 79), (3, 15, 97, 80), (5, 98, 97, 81), (3, 36, 98, 82), (5, 281, 98, 83), (3, 25, 99, 84), (5, 108, 99, 85), (3, 19, 100, 86), (3, 61, 101, 87), (5, 302, 101, 88), (0, 9, 0, 109), (5, 300, 0, 110), (0, 15, 1, 111), (0, 18, 2, 112), (1, 29, 2, 113), (5, 179, 2, 114), (0, 21, 3, 115), (5, 154, 3, 116), (0, 35, 4, 117), (5, 132, 4, 118), (0, 24, 5, 119), (1, 25, 5, 120), (5, 122, 5, 121), (1, 42, 6, 122), (0, 39, 6, 123), (5, 170, 6, 124), (0, 42, 7, 125), (5, 173, 7, 126), (1, 39, 8, 127), (0, 51, 8, 128), (5, 176, 8, 129), (0, 45, 9, 130), (5, 182, 9, 131), (1, 9, 32, 160), (5, 334, 32, 161), (1, 15, 33, 162), (1, 18, 34, 163), (5, 320, 34, 164), (1, 21, 35, 165), (5, 327, 35, 166), (5, 199, 36, 167), (4, 9, 128, 185), (5, 259, 128, 186), (4, 15, 129, 187), (5, 251, 129, 188), (2, 9, 64, 199), (5, 79, 64, 200), (2, 15, 65, 201), (5, 71, 65, 202), (2, 19, 66, 203), (5, 85, 66, 204), (2, 23, 67, 205), (5, 95, 67, 206), (5, 11, 160, 216), (5, 18, 161, 217), (5, 25, 162, 218), (5, 29, 163, 219), (5, 32, 164, 220), (5, 39, 165, 221), (5, 43, 166, 222), (5, 50, 167, 223), (5, 111, 168, 224), (5, 265, 169, 225), (6, 7, 192, 690), (6, 13, 193, 691), (6, 96, 194, 692), (6, 114, 195, 693), (6, 65, 196, 694), (6, 17, 197, 695), (6, 20, 198, 696), (6, 23, 199, 697), (6, 26, 200, 698), (6, 248, 201, 699), (6, 102, 202, 700), (6, 105, 203, 701), (6, 111, 204, 702), (6, 29, 205, 703), (6, 32, 206, 704), (6, 35, 207, 705), (6, 135, 208, 706), (6, 38, 209, 707), (6, 41, 210, 708), (6, 44, 211, 709), (6, 47, 212, 710), (6, 50, 213, 711), (6, 53, 214, 712), (6, 56, 215, 713), (6, 59, 216, 714), (6, 205, 217, 715), (6, 62, 218, 716), (8, 9, 256, 1077), (8, 15, 257, 1078)]
def x_sf : List (Nat × Nat × Nat × Nat) := [(8, 38, 2, 359), (8, 1053, 3, 375), (5, 346, 0, 656), (5, 349, 1, 658)]
def x_ct : List (Nat × Nat × Nat × Nat × Nat) := [(7, 9, 42, 2, 65), (5, 17, 28, 3, 75), (5, 24, 0, 3, 105), (5, 38, 16, 3, 156), (5, 49, 40, 3, 181), (5, 54, 23, 3, 195), (7, 13, 43, 1, 247), (5, 55, 44, 0, 251), (5, 60, 45, 1, 255), (5, 64, 24, 1, 260), (2, 26, 182, 0, 264), (5, 68, 46, 1, 267), (7, 18, 47, 1, 271), (5, 75, 25, 1, 275), (5, 82, 26, 1, 279), (7, 22, 48, 1, 283), (7, 27, 49, 1, 290), (7, 34, 50, 1, 294), (5, 100, 29, 1, 299), (7, 39, 51, 1, 303), (5, 104, 52, 0, 307), (5, 272, 1, 1, 310), (5, 275, 30, 1, 314), (3, 22, 31, 1, 318), (3, 28, 32, 1, 322), (3, 32, 33, 0, 326), (3, 39, 34, 0, 329), (3, 42, 35, 1, 332), (3, 45, 36, 0, 336), (3, 48, 37, 1, 339), (5, 278, 53, 0, 343), (5, 289, 38, 1, 347), (3, 51, 173, 1, 351), (8, 335, 174, 1, 355), (3, 56, 175, 1, 361), (8, 492, 176, 1, 365), (8, 495, 178, 0, 369), (9, 9, 177, 0, 372), (8, 1059, 183, 0, 377), (5, 293, 31, 1, 399), (5, 296, 54, 0, 400), (5, 305, 55, 0, 403), (5, 284, 56, 0, 406), (5, 311, 39, 1, 410), (5, 314, 2, 1, 416), (0, 28, 3, 0, 420), (0, 32, 4, 0, 423), (5, 115, 5, 1, 427), (0, 48, 6, 1, 431), (5, 118, 7, 1, 436), (7, 44, 57, 1, 442), (7, 48, 58, 1, 446), (5, 125, 59, 1, 450), (5, 230, 60, 1, 454), (5, 128, 8, 1, 458), (7, 53, 61, 1, 462), (5, 134, 62, 0, 467), (5, 137, 9, 1, 470), (7, 57, 63, 1, 474), (5, 140, 10, 1, 478), (0, 69, 11, 1, 482), (5, 143, 12, 1, 486), (0, 73, 10, 1, 490), (0, 60, 8, 1, 491), (0, 77, 9, 1, 492), (7, 61, 64, 1, 493), (5, 146, 65, 1, 497), (5, 269, 27, 1, 501), (5, 150, 66, 0, 506), (7, 65, 67, 1, 509), (5, 158, 11, 1, 514), (5, 166, 68, 0, 517), (5, 205, 179, 0, 520), (5, 317, 69, 0, 526), (7, 69, 70, 1, 529), (7, 73, 71, 1, 533), (5, 185, 13, 1, 537), (0, 64, 179, 0, 541), (5, 189, 17, 1, 542), (1, 33, 182, 0, 547), (5, 191, 18, 1, 548), (1, 45, 19, 0, 552), (5, 195, 72, 0, 555), (5, 324, 20, 1, 559), (5, 330, 21, 1, 563), (5, 336, 22, 1, 567), (1, 49, 20, 1, 571), (7, 77, 73, 1, 572), (5, 202, 14, 1, 576), (5, 210, 74, 0, 580), (5, 214, 180, 0, 583), (5, 219, 75, 0, 586), (5, 340, 181, 0, 589), (7, 81, 76, 1, 592), (5, 222, 77, 0, 596), (7, 85, 78, 1, 599), (5, 226, 79, 0, 603), (7, 89, 80, 1, 606), (5, 233, 81, 0, 610), (5, 343, 82, 0, 613), (5, 237, 15, 1, 616), (7, 93, 83, 1, 620), (5, 240, 84, 0, 624), (7, 97, 85, 1, 627), (7, 101, 86, 1, 631), (7, 105, 87, 1, 635), (5, 244, 88, 0, 639), (5, 247, 89, 0, 642), (7, 109, 90, 1, 645), (7, 113, 91, 1, 649), (5, 252, 92, 0, 653), (5, 255, 93, 0, 660), (5, 352, 41, 1, 663), (7, 117, 94, 1, 667), (7, 121, 95, 1, 671), (5, 262, 96, 1, 675), (7, 125, 97, 1, 679), (7, 12, 98, 2, 685), (7, 17, 99, 1, 772), (6, 76, 100, 0, 776), (6, 72, 101, 0, 780), (6, 83, 102, 1, 785), (6, 87, 103, 1, 790), (7, 21, 104, 1, 794), (7, 26, 105, 1, 798), (6, 90, 106, 1, 802), (7, 31, 107, 1, 806), (7, 38, 108, 1, 810), (7, 43, 109, 1, 817), (6, 155, 110, 1, 821), (6, 117, 111, 1, 825), (6, 108, 112, 0, 829), (6, 142, 113, 1, 832), (6, 121, 114, 1, 837), (6, 125, 115, 1, 841), (6, 128, 116, 1, 845), (6, 132, 117, 1, 849), (6, 145, 118, 1, 853), (6, 139, 119, 1, 858), (6, 159, 120, 1, 863), (6, 151, 121, 0, 867), (6, 148, 122, 0, 870), (7, 47, 123, 1, 873), (7, 52, 124, 1, 877), (6, 164, 125, 1, 881), (6, 167, 126, 0, 885), (7, 56, 127, 1, 888), (6, 171, 128, 0, 893), (6, 174, 129, 1, 897), (7, 60, 130, 1, 901), (6, 177, 131, 1, 905), (6, 180, 132, 1, 909), (7, 64, 133, 1, 913), (6, 185, 134, 1, 918), (7, 68, 135, 1, 922), (6, 194, 136, 0, 929), (7, 72, 137, 1, 932), (6, 197, 138, 1, 936), (7, 76, 139, 1, 940), (6, 211, 140, 1, 944), (6, 201, 141, 1, 948), (6, 208, 142, 1, 953), (7, 80, 143, 1, 957), (6, 214, 144, 0, 961), (7, 84, 145, 1, 964), (6, 220, 146, 1, 968), (6, 217, 147, 0, 972), (7, 88, 148, 1, 975), (6, 223, 149, 1, 979), (7, 92, 150, 1, 983), (6, 229, 151, 1, 987), (6, 232, 152, 1, 991), (6, 226, 153, 1, 995), (7, 96, 154, 1, 999), (6, 235, 155, 1, 1003), (7, 100, 156, 1, 1007), (6, 239, 157, 1, 1011), (7, 104, 158, 1, 1015), (7, 108, 159, 1, 1019), (6, 243, 160, 1, 1023), (7, 112, 161, 1, 1027), (7, 116, 162, 1, 1032), (6, 270, 163, 1, 1036), (6, 251, 164, 1, 1040), (6, 267, 165, 1, 1044), (6, 261, 166, 1, 1048), (6, 264, 167, 1, 1052), (6, 258, 168, 1, 1056), (6, 255, 169, 1, 1060), (7, 120, 170, 1, 1064), (7, 124, 171, 1, 1068), (7, 128, 172, 1, 1072)]
def x_oi : List (Nat × Nat × Nat) := [(5, 1, 68), (3, 3, 78), (0, 3, 108), (1, 3, 159), (4, 3, 184), (2, 3, 198), (6, 1, 688)]
def x_ac : List (Nat × Nat × Nat) := [(5, 89, 287), (0, 54, 440)]
def x_kl : List (Nat × Nat × Nat × Nat) := [(5, 162, 16807, 515), (5, 164, 2147483647, 516), (6, 70, 7, 779), (6, 80, 2, 783), (6, 94, 8, 814), (6, 100, 255, 816), (6, 162, 511, 896), (6, 183, 14, 917), (6, 188, 999999, 926), (6, 190, 16807, 927), (6, 192, 2147483647, 928), (6, 246, 5, 1031), (7, 32, 4294967295, 1076)]
def x_nt : List (Nat × Nat × Nat × Nat × Nat × Nat) := [(7, 7, 5, 63, 64, 48), (5, 9, 2, 71, 194, 53), (5, 15, 3, 73, 74, 49), (5, 22, 0, 103, 104, 50), (5, 36, 1, 154, 155, 51), (5, 47, 4, 179, 180, 52), (7, 10, 6, 683, 684, 54)]
def x_kt : List (Nat × Nat × Int32 × Nat) := [(5, 59, (-1000001), 254), (5, 268, (-1000010), 259), (5, 99, (-1000003), 298), (3, 60, (-1000000), 414), (5, 188, (-1000000), 415), (5, 114, (-1000100), 426), (0, 80, (-1000000), 435), (5, 133, (-1000002), 466), (2, 32, (-1000000), 505), (5, 157, 999999, 513), (10, 265, 1431655765, 523), (10, 266, 858993459, 524), (10, 267, 252645135, 525), (1, 32, (-1000000000), 546), (5, 323, (-1000000000), 558), (6, 16, (-1000000), 689), (6, 82, (-1000001), 784), (6, 69, (-1000010), 789), (6, 99, (-1000003), 815), (6, 120, 5638196, 836), (6, 138, 149539, 857), (6, 158, (-1000100), 862), (6, 170, (-1000002), 892), (6, 200, (-268435456), 952)]
def x_sd (j : Nat) : String × String × String := [("WindowCards", "SIZE_BODIES", "[I"), ("WindowCards", "MARK_BODIES", "[I"), ("java/lang/String", "COMPACT_STRINGS", "Z"), ("jdk/internal/util/Preconditions", "SIOOBE_FORMATTER", "Ljava/util/function/BiFunction;")].getD j ("", "", "")
def x_aoR : Nat := 72
def x_aoG : Nat := 153
def x_aci : Nat := 102
def x_oiI : Nat := 69
def x_oiC : Nat := 70
def x_acN : Nat := 289
def x_acS : Nat := 288
def x_acI : Nat := 56
def x_nm_all : Nat := 185
def x_abs : Nat := 180
def x_max : Nat := 181
/-- a word stands at a place, and may be handed on to a callee -/
def x_at (i : Nat) (w : Jvm.Cond) : Bool := decide (lw_tbl[i]? = some w) && goodWord w
def x_TB : List Jvm.Cond := lw_tbl.filter goodWord
theorem x_at_in {i : Nat} {w : Jvm.Cond} (h : x_at i w = true) : w ∈ x_TB := by
  simp only [x_at, Bool.and_eq_true, decide_eq_true_eq] at h
  exact List.mem_filter.mpr ⟨List.mem_of_getElem? h.1, h.2⟩
theorem x_TB_good : GoodIn x_TB x_TB := fun w hw => ⟨hw, good_of_word (List.mem_filter.mp hw).2⟩
end
section
theorem x_ft_ok : x_ft.all (fun r => x_at r.2.2.2 (.fieldLink (x_cn r.1) r.2.1 (x_fd r.2.2.1).1 (x_fd r.2.2.1).2.1 (x_fd r.2.2.1).2.2)) = true := by decide +kernel
theorem x_sf_ok : x_sf.all (fun r => x_at r.2.2.2 (.fieldLink (x_cn r.1) r.2.1 (x_sd r.2.2.1).1 (x_sd r.2.2.1).2.1 (x_sd r.2.2.1).2.2)) = true := by decide +kernel
/-- words that hold from the start but are handed on by hand -/
def x_ne : List (Nat × Nat × Nat) := (x_ct.filter fun r => r.2.2.2.1 == 3).map fun r => (r.2.1, r.2.2.1, r.2.2.2.2)
theorem x_ne_ok : x_ne.all (fun r => decide (lw_tbl[r.2.2]? = some (.methodLinkNest "WindowCards" r.1 (x_nm r.2.1) "WindowCards"))) = true := by decide +kernel
theorem x_ct_ok : x_ct.all (fun r => decide (r.2.2.1 < x_nm_all) && (if r.2.2.2.1 = 3 then decide (x_kd r.2.2.1 = 2) && decide (r.1 = 5) else decide (x_kd r.2.2.1 = r.2.2.2.1) && x_at r.2.2.2.2 (.methodLink (x_cn r.1) r.2.1 (x_nm r.2.2.1)))) = true := by decide +kernel
theorem x_oi_ok : x_oi.all (fun r => x_at r.2.2 (.methodLink (x_cn r.1) r.2.1 Lib.objectInit)) = true := by decide +kernel
theorem x_ac_ok : x_ac.all (fun r => x_at r.2.2 (.methodLink (x_cn r.1) r.2.1 arraycopyName)) = true := by decide +kernel
theorem x_kt_ok : x_kt.all (fun r => x_at r.2.2.2 (.constant (x_cn r.1) r.2.1 r.2.2.1)) = true := by decide +kernel
theorem x_kl_ok : x_kl.all (fun r => x_at r.2.2.2 (.constantLong (x_cn r.1) r.2.1 (Int64.ofNat r.2.2.1))) = true := by decide +kernel
theorem x_nt_ok : x_nt.all (fun r => decide (r.2.2.1 < 7) && x_at r.2.2.2.1 (.classLink (x_cn r.1) r.2.1 (x_cn r.2.2.1)) && x_at r.2.2.2.2.1 (.instantiable (x_cn r.2.2.1) (x_N r.2.2.1)) && x_at r.2.2.2.2.2 (.initialized (x_cn r.2.2.1))) = true := by decide +kernel
theorem x_ao_ok : (decide (lw_tbl[x_aoR]? = some (.arrayOver (.object RX2))) && decide (lw_tbl[x_aoG]? = some (.arrayOver (.object RX0))) && x_at x_aci (.arrayClass .int)) = true := by decide +kernel
theorem x_oj_ok : (x_at x_oiI (.instanceMethod Lib.objectInit) && x_at x_oiC (.code Lib.objectInit ⟨#[0xb1]⟩ 1 none)) = true := by decide +kernel
theorem x_an_ok : (x_at x_acN (.native arraycopyName) && x_at x_acS (.static arraycopyName) && x_at x_acI (.initialized "java/lang/System")) = true := by decide +kernel
end
section
/-- what is said of the y-th method -/
def x_mok (y : Nat) : Bool := x_at (x_wo y).2.2.1 (.code (x_nm y) (x_by y) (x_ml y) (x_rt y)) && x_at (x_wo y).2.2.2.1 (if x_kd y = 0 then .static (x_nm y) else .instanceMethod (x_nm y)) && (decide (x_kd y ≠ 1) || x_at (x_wo y).2.2.2.2.1 (.selects (x_cn (x_cy y)) (x_nm y) (x_nm y))) && x_at (x_wo y).2.2.2.2.2 (.initialized (x_nm y).cls) && plainName (x_nm y).cls && decide ((x_nm y).cls ≠ "java/lang/invoke/MethodHandle") && decide ((x_nm y).cls ≠ "java/lang/invoke/VarHandle") && decide ((parseMethodDescriptor (x_nm y).desc).map (fun d => d.parameters.length + (if x_kd y = 0 then 0 else 1)) = some (x_na y)) && decide ((x_nm y).cls = x_cn (x_cy y)) && decide (x_ml y ≤ 41) && (decide (x_kd y ≠ 2) || (decide ((x_nm y).name = "<init>") && decide (x_rt y = none)))
theorem x_ma_ok : (decide (x_nm x_abs = Lib.Math.abs.name) && decide (x_nm x_max = Lib.Math.max.name) && x_at (x_wo x_abs).2.2.1 (.code Lib.Math.abs.name Lib.Math.abs.code 1 (some .int)) && x_at (x_wo x_max).2.2.1 (.code Lib.Math.max.name Lib.Math.max.code 2 (some .int)) && x_at (x_wo x_abs).2.2.2.1 (.static Lib.Math.abs.name) && x_at (x_wo x_max).2.2.2.1 (.static Lib.Math.max.name) && x_at (x_wo x_abs).2.2.2.2.2 (.initialized "java/lang/Math")) = true := by decide +kernel
theorem x_mok_0 : ((List.range 6).map (· + 0)).all x_mok = true := by decide +kernel
theorem x_mok_6 : ((List.range 6).map (· + 6)).all x_mok = true := by decide +kernel
theorem x_mok_12 : ((List.range 6).map (· + 12)).all x_mok = true := by decide +kernel
theorem x_mok_18 : ((List.range 6).map (· + 18)).all x_mok = true := by decide +kernel
theorem x_mok_24 : ((List.range 6).map (· + 24)).all x_mok = true := by decide +kernel
theorem x_mok_30 : ((List.range 6).map (· + 30)).all x_mok = true := by decide +kernel
theorem x_mok_36 : ((List.range 6).map (· + 36)).all x_mok = true := by decide +kernel
theorem x_mok_42 : ((List.range 6).map (· + 42)).all x_mok = true := by decide +kernel
theorem x_mok_48 : ((List.range 6).map (· + 48)).all x_mok = true := by decide +kernel
theorem x_mok_54 : ((List.range 6).map (· + 54)).all x_mok = true := by decide +kernel
theorem x_mok_60 : ((List.range 6).map (· + 60)).all x_mok = true := by decide +kernel
theorem x_mok_66 : ((List.range 6).map (· + 66)).all x_mok = true := by decide +kernel
theorem x_mok_72 : ((List.range 6).map (· + 72)).all x_mok = true := by decide +kernel
theorem x_mok_78 : ((List.range 6).map (· + 78)).all x_mok = true := by decide +kernel
theorem x_mok_84 : ((List.range 6).map (· + 84)).all x_mok = true := by decide +kernel
theorem x_mok_90 : ((List.range 6).map (· + 90)).all x_mok = true := by decide +kernel
theorem x_mok_96 : ((List.range 6).map (· + 96)).all x_mok = true := by decide +kernel
theorem x_mok_102 : ((List.range 6).map (· + 102)).all x_mok = true := by decide +kernel
theorem x_mok_108 : ((List.range 6).map (· + 108)).all x_mok = true := by decide +kernel
theorem x_mok_114 : ((List.range 6).map (· + 114)).all x_mok = true := by decide +kernel
theorem x_mok_120 : ((List.range 6).map (· + 120)).all x_mok = true := by decide +kernel
theorem x_mok_126 : ((List.range 6).map (· + 126)).all x_mok = true := by decide +kernel
theorem x_mok_132 : ((List.range 6).map (· + 132)).all x_mok = true := by decide +kernel
theorem x_mok_138 : ((List.range 6).map (· + 138)).all x_mok = true := by decide +kernel
theorem x_mok_144 : ((List.range 6).map (· + 144)).all x_mok = true := by decide +kernel
theorem x_mok_150 : ((List.range 6).map (· + 150)).all x_mok = true := by decide +kernel
theorem x_mok_156 : ((List.range 6).map (· + 156)).all x_mok = true := by decide +kernel
theorem x_mok_162 : ((List.range 6).map (· + 162)).all x_mok = true := by decide +kernel
theorem x_mok_168 : ((List.range 1).map (· + 168)).all x_mok = true := by decide +kernel
theorem x_mok_169 : ((List.range 1).map (· + 169)).all x_mok = true := by decide +kernel
theorem x_mok_170 : ((List.range 1).map (· + 170)).all x_mok = true := by decide +kernel
theorem x_mok_171 : ((List.range 1).map (· + 171)).all x_mok = true := by decide +kernel
theorem x_mok_172 : ((List.range 1).map (· + 172)).all x_mok = true := by decide +kernel
theorem x_mok_173 : ((List.range 1).map (· + 173)).all x_mok = true := by decide +kernel
theorem x_mok_174 : ((List.range 1).map (· + 174)).all x_mok = true := by decide +kernel
theorem x_mok_175 : ((List.range 1).map (· + 175)).all x_mok = true := by decide +kernel
theorem x_mok_176 : ((List.range 1).map (· + 176)).all x_mok = true := by decide +kernel
theorem x_mok_177 : ((List.range 1).map (· + 177)).all x_mok = true := by decide +kernel
theorem x_mok_178 : ((List.range 1).map (· + 178)).all x_mok = true := by decide +kernel
theorem x_mok_179 : ((List.range 1).map (· + 179)).all x_mok = true := by decide +kernel
theorem x_mok_182 : ((List.range 1).map (· + 182)).all x_mok = true := by decide +kernel
theorem x_mok_183 : ((List.range 1).map (· + 183)).all x_mok = true := by decide +kernel
theorem x_mok_at {z : Nat} (hz : z < 184) (h1 : z ≠ x_abs) (h2 : z ≠ x_max) : x_mok z = true := by
  have h1 : z ≠ 180 := h1
  have h2 : z ≠ 181 := h2
  by_cases g0 : 0 ≤ z ∧ z < 6
  · exact List.all_eq_true.mp x_mok_0 z (List.mem_map.mpr ⟨z - 0, List.mem_range.mpr (by omega), by omega⟩)
  by_cases g6 : 6 ≤ z ∧ z < 12
  · exact List.all_eq_true.mp x_mok_6 z (List.mem_map.mpr ⟨z - 6, List.mem_range.mpr (by omega), by omega⟩)
  by_cases g12 : 12 ≤ z ∧ z < 18
  · exact List.all_eq_true.mp x_mok_12 z (List.mem_map.mpr ⟨z - 12, List.mem_range.mpr (by omega), by omega⟩)
  by_cases g18 : 18 ≤ z ∧ z < 24
  · exact List.all_eq_true.mp x_mok_18 z (List.mem_map.mpr ⟨z - 18, List.mem_range.mpr (by omega), by omega⟩)
  by_cases g24 : 24 ≤ z ∧ z < 30
  · exact List.all_eq_true.mp x_mok_24 z (List.mem_map.mpr ⟨z - 24, List.mem_range.mpr (by omega), by omega⟩)
  by_cases g30 : 30 ≤ z ∧ z < 36
  · exact List.all_eq_true.mp x_mok_30 z (List.mem_map.mpr ⟨z - 30, List.mem_range.mpr (by omega), by omega⟩)
  by_cases g36 : 36 ≤ z ∧ z < 42
  · exact List.all_eq_true.mp x_mok_36 z (List.mem_map.mpr ⟨z - 36, List.mem_range.mpr (by omega), by omega⟩)
  by_cases g42 : 42 ≤ z ∧ z < 48
  · exact List.all_eq_true.mp x_mok_42 z (List.mem_map.mpr ⟨z - 42, List.mem_range.mpr (by omega), by omega⟩)
  by_cases g48 : 48 ≤ z ∧ z < 54
  · exact List.all_eq_true.mp x_mok_48 z (List.mem_map.mpr ⟨z - 48, List.mem_range.mpr (by omega), by omega⟩)
  by_cases g54 : 54 ≤ z ∧ z < 60
  · exact List.all_eq_true.mp x_mok_54 z (List.mem_map.mpr ⟨z - 54, List.mem_range.mpr (by omega), by omega⟩)
  by_cases g60 : 60 ≤ z ∧ z < 66
  · exact List.all_eq_true.mp x_mok_60 z (List.mem_map.mpr ⟨z - 60, List.mem_range.mpr (by omega), by omega⟩)
  by_cases g66 : 66 ≤ z ∧ z < 72
  · exact List.all_eq_true.mp x_mok_66 z (List.mem_map.mpr ⟨z - 66, List.mem_range.mpr (by omega), by omega⟩)
  by_cases g72 : 72 ≤ z ∧ z < 78
  · exact List.all_eq_true.mp x_mok_72 z (List.mem_map.mpr ⟨z - 72, List.mem_range.mpr (by omega), by omega⟩)
  by_cases g78 : 78 ≤ z ∧ z < 84
  · exact List.all_eq_true.mp x_mok_78 z (List.mem_map.mpr ⟨z - 78, List.mem_range.mpr (by omega), by omega⟩)
  by_cases g84 : 84 ≤ z ∧ z < 90
  · exact List.all_eq_true.mp x_mok_84 z (List.mem_map.mpr ⟨z - 84, List.mem_range.mpr (by omega), by omega⟩)
  by_cases g90 : 90 ≤ z ∧ z < 96
  · exact List.all_eq_true.mp x_mok_90 z (List.mem_map.mpr ⟨z - 90, List.mem_range.mpr (by omega), by omega⟩)
  by_cases g96 : 96 ≤ z ∧ z < 102
  · exact List.all_eq_true.mp x_mok_96 z (List.mem_map.mpr ⟨z - 96, List.mem_range.mpr (by omega), by omega⟩)
  by_cases g102 : 102 ≤ z ∧ z < 108
  · exact List.all_eq_true.mp x_mok_102 z (List.mem_map.mpr ⟨z - 102, List.mem_range.mpr (by omega), by omega⟩)
  by_cases g108 : 108 ≤ z ∧ z < 114
  · exact List.all_eq_true.mp x_mok_108 z (List.mem_map.mpr ⟨z - 108, List.mem_range.mpr (by omega), by omega⟩)
  by_cases g114 : 114 ≤ z ∧ z < 120
  · exact List.all_eq_true.mp x_mok_114 z (List.mem_map.mpr ⟨z - 114, List.mem_range.mpr (by omega), by omega⟩)
  by_cases g120 : 120 ≤ z ∧ z < 126
  · exact List.all_eq_true.mp x_mok_120 z (List.mem_map.mpr ⟨z - 120, List.mem_range.mpr (by omega), by omega⟩)
  by_cases g126 : 126 ≤ z ∧ z < 132
  · exact List.all_eq_true.mp x_mok_126 z (List.mem_map.mpr ⟨z - 126, List.mem_range.mpr (by omega), by omega⟩)
  by_cases g132 : 132 ≤ z ∧ z < 138
  · exact List.all_eq_true.mp x_mok_132 z (List.mem_map.mpr ⟨z - 132, List.mem_range.mpr (by omega), by omega⟩)
  by_cases g138 : 138 ≤ z ∧ z < 144
  · exact List.all_eq_true.mp x_mok_138 z (List.mem_map.mpr ⟨z - 138, List.mem_range.mpr (by omega), by omega⟩)
  by_cases g144 : 144 ≤ z ∧ z < 150
  · exact List.all_eq_true.mp x_mok_144 z (List.mem_map.mpr ⟨z - 144, List.mem_range.mpr (by omega), by omega⟩)
  by_cases g150 : 150 ≤ z ∧ z < 156
  · exact List.all_eq_true.mp x_mok_150 z (List.mem_map.mpr ⟨z - 150, List.mem_range.mpr (by omega), by omega⟩)
  by_cases g156 : 156 ≤ z ∧ z < 162
  · exact List.all_eq_true.mp x_mok_156 z (List.mem_map.mpr ⟨z - 156, List.mem_range.mpr (by omega), by omega⟩)
  by_cases g162 : 162 ≤ z ∧ z < 168
  · exact List.all_eq_true.mp x_mok_162 z (List.mem_map.mpr ⟨z - 162, List.mem_range.mpr (by omega), by omega⟩)
  by_cases g168 : 168 ≤ z ∧ z < 169
  · exact List.all_eq_true.mp x_mok_168 z (List.mem_map.mpr ⟨z - 168, List.mem_range.mpr (by omega), by omega⟩)
  by_cases g169 : 169 ≤ z ∧ z < 170
  · exact List.all_eq_true.mp x_mok_169 z (List.mem_map.mpr ⟨z - 169, List.mem_range.mpr (by omega), by omega⟩)
  by_cases g170 : 170 ≤ z ∧ z < 171
  · exact List.all_eq_true.mp x_mok_170 z (List.mem_map.mpr ⟨z - 170, List.mem_range.mpr (by omega), by omega⟩)
  by_cases g171 : 171 ≤ z ∧ z < 172
  · exact List.all_eq_true.mp x_mok_171 z (List.mem_map.mpr ⟨z - 171, List.mem_range.mpr (by omega), by omega⟩)
  by_cases g172 : 172 ≤ z ∧ z < 173
  · exact List.all_eq_true.mp x_mok_172 z (List.mem_map.mpr ⟨z - 172, List.mem_range.mpr (by omega), by omega⟩)
  by_cases g173 : 173 ≤ z ∧ z < 174
  · exact List.all_eq_true.mp x_mok_173 z (List.mem_map.mpr ⟨z - 173, List.mem_range.mpr (by omega), by omega⟩)
  by_cases g174 : 174 ≤ z ∧ z < 175
  · exact List.all_eq_true.mp x_mok_174 z (List.mem_map.mpr ⟨z - 174, List.mem_range.mpr (by omega), by omega⟩)
  by_cases g175 : 175 ≤ z ∧ z < 176
  · exact List.all_eq_true.mp x_mok_175 z (List.mem_map.mpr ⟨z - 175, List.mem_range.mpr (by omega), by omega⟩)
  by_cases g176 : 176 ≤ z ∧ z < 177
  · exact List.all_eq_true.mp x_mok_176 z (List.mem_map.mpr ⟨z - 176, List.mem_range.mpr (by omega), by omega⟩)
  by_cases g177 : 177 ≤ z ∧ z < 178
  · exact List.all_eq_true.mp x_mok_177 z (List.mem_map.mpr ⟨z - 177, List.mem_range.mpr (by omega), by omega⟩)
  by_cases g178 : 178 ≤ z ∧ z < 179
  · exact List.all_eq_true.mp x_mok_178 z (List.mem_map.mpr ⟨z - 178, List.mem_range.mpr (by omega), by omega⟩)
  by_cases g179 : 179 ≤ z ∧ z < 180
  · exact List.all_eq_true.mp x_mok_179 z (List.mem_map.mpr ⟨z - 179, List.mem_range.mpr (by omega), by omega⟩)
  by_cases g182 : 182 ≤ z ∧ z < 183
  · exact List.all_eq_true.mp x_mok_182 z (List.mem_map.mpr ⟨z - 182, List.mem_range.mpr (by omega), by omega⟩)
  by_cases g183 : 183 ≤ z ∧ z < 184
  · exact List.all_eq_true.mp x_mok_183 z (List.mem_map.mpr ⟨z - 183, List.mem_range.mpr (by omega), by omega⟩)
  exact absurd rfl (by omega : ¬ z = z)
theorem x_ct_z : x_ct.all (fun r => decide (r.2.2.1 < 184)) = true := by decide +kernel
theorem x_kd_1 : ((List.range 184).all fun z => decide (x_kd z ≠ 1) || decide (x_cy z < 7) || decide (x_cy z = 8)) = true := by decide +kernel
theorem x_kd_am : x_kd x_abs = 0 ∧ x_kd x_max = 0 := by decide +kernel
theorem x_in_u : ((List.range 7).all fun c => (u_ws (x_cn c) (x_T c) (x_N c)).all fun w => decide (w ∈ lw_tbl) && goodWord w) = true := by decide +kernel
end
section
/-! THE SMALL MACHINE: numbers of places instead of addresses, a list of cells, instructions whose links are resolved by the tables of part 01 -/
abbrev x_C : Type := Nat × List Value
abbrev x_H : Type := List x_C
def x_cat (l : List Value) : Nat := (l.map fun v => v.category).sum
def x_sz (h : x_H) : Nat := (h.map fun c => c.2.length).sum
def x_clr (L : List Value) : Nat → List Value
  | 0 => L
  | j + 1 => match L[j]? with
    | some v => if v.category = 2 then L.set j .null else L
    | none => L
def x_st1 (L : List Value) (i : Nat) (v : Value) : List Value := (x_clr L i).set i v
def x_st2 (L : List Value) (i : Nat) (v : Value) : List Value := (x_st1 L i v).set (i + 1) .null
def x_ent : List Value → List Value
  | [] => []
  | v :: vs => if v.category = 2 then v :: .null :: x_ent vs else v :: x_ent vs
def x_loc (n : Nat) (vs : List Value) : List Value := x_ent vs ++ List.replicate (n - (x_ent vs).length) .null
def x_lk (T : List (Nat × Nat × Nat × Nat)) (c i : Nat) : Option Nat := (T.find? fun r => r.1 == c && r.2.1 == i).map fun r => r.2.2.1
def x_k (c i : Nat) : Option Int32 := (x_kt.find? fun r => r.1 == c && r.2.1 == i).map fun r => r.2.2.1
def x_call (c i : Nat) : Option (Nat × Nat) := (x_ct.find? fun r => r.1 == c && r.2.1 == i).map fun r => (r.2.2.1, r.2.2.2.1)
def x_new (c i : Nat) : Option Nat := (x_nt.find? fun r => r.1 == c && r.2.1 == i).map fun r => r.2.2.1
def x_is (T : List (Nat × Nat × Nat)) (c i : Nat) : Bool := T.any fun r => r.1 == c && r.2.1 == i
def x_to (pc : Nat) (off : Int) : Option Nat := if 0 ≤ (pc : Int) + off then some ((pc : Int) + off).toNat else none
def x_sw : Instr → Bool
  | .tableswitch .. | .lookupswitch .. => true
  | _ => false
def x_len : Instr → Nat
  | .iload _ | .istore _ | .aload _ | .astore _ | .lload _ | .lstore _ | .bipush _ | .ldc _ | .newarray _ => 2
  | .sipush _ | .ldc_w _ | .ldc2_w _ | .iinc _ _ | .ifCond _ _ | .if_icmp _ _ | .goto _ | .getfield _ | .putfield _ | .getstatic _ | .invokevirtual _ | .invokestatic _ | .invokespecial _ | .new _ | .anewarray _ => 3
  | _ => 1
/-- an instruction of class c at pc, its links resolved; '.d2f' is Object.<init>, '.d2i' is arraycopy, '.f2d' Math.abs, '.f2i' Math.max, '.putstatic' a final field's first write -/
def x_res (c pc : Nat) (r : Instr) : Option Instr := match r with
  | .iconst v => some (.iconst v)
  | .bipush v => some (.iconst (Int8.ofInt v).toInt32.toInt)
  | .sipush v => some (.iconst (Int16.ofInt v).toInt32.toInt)
  | .ldc k => match x_k c k with
    | some v => some (.iconst v.toInt)
    | none => if c = 5 ∧ k = 287 then some (.ldc 3) else if c = 5 ∧ k = 309 then some (.ldc 4) else none
  | .ldc_w k => match x_k c k with
    | some v => some (.iconst v.toInt)
    | none => none
  | .lconst l => some (.ldc2_w l)
  | .ldc2_w k => match x_lk x_kl c k with
    | some n => some (.ldc2_w n)
    | none => none
  | .iload_n n => some (.iload n)
  | .iload n => some (.iload n)
  | .lload_n n => some (.lload n)
  | .lload n => some (.lload n)
  | .aload_n n => some (.aload n)
  | .aload n => some (.aload n)
  | .istore_n n => some (.istore n)
  | .istore n => some (.istore n)
  | .lstore_n n => some (.lstore n)
  | .lstore n => some (.lstore n)
  | .astore_n n => some (.astore n)
  | .astore n => some (.astore n)
  | .iinc k v => some (.iinc k v)
  | .ifCond q off => match x_to pc off with
    | some t => some (.ifCond q (Int.ofNat t))
    | none => none
  | .if_icmp q off => match x_to pc off with
    | some t => some (.if_icmp q (Int.ofNat t))
    | none => none
  | .goto off => match x_to pc off with
    | some t => some (.goto (Int.ofNat t))
    | none => none
  | .tableswitch d lo hi offs => some (.tableswitch d lo hi offs)
  | .lookupswitch d ps => some (.lookupswitch d ps)
  | .getfield k => match x_lk x_ft c k with
    | some e => some (.getfield e)
    | none => none
  | .putfield k => match x_lk x_ft c k with
    | some e => if e / 32 < 7 then (if x_ff e = true then (if (x_fd e).1 = x_cn c then some (.putstatic e) else none) else some (.putfield e)) else none
    | none => none
  | .getstatic k => match x_lk x_sf c k with
    | some j => some (.getstatic j)
    | none => none
  | .invokevirtual k => match x_call c k with
    | some (z, 1) => some (.invokevirtual z)
    | _ => none
  | .invokestatic k => if x_is x_ac c k = true then some .d2i else match x_call c k with
    | some (z, 0) => if z = x_abs then some .f2d else if z = x_max then some .f2i else some (.invokestatic z)
    | _ => none
  | .invokespecial k => if x_is x_oi c k = true then some .d2f else match x_call c k with
    | some (z, 2) => some (.invokespecial z)
    | some (z, 3) => some (.invokespecial z)
    | _ => none
  | .new k => match x_new c k with
    | some ci => some (.new ci)
    | none => none
  | .newarray .int => some (.newarray .int)
  | .anewarray k => match x_new c k with
    | some 2 => some (.anewarray 2)
    | some 0 => some (.anewarray 0)
    | _ => none
  | .iadd => some .iadd
  | .isub => some .isub
  | .imul => some .imul
  | .idiv => some .idiv
  | .irem => some .irem
  | .ineg => some .ineg
  | .iand => some .iand
  | .ior => some .ior
  | .ixor => some .ixor
  | .ishl => some .ishl
  | .ishr => some .ishr
  | .iushr => some .iushr
  | .ladd => some .ladd
  | .lmul => some .lmul
  | .lrem => some .lrem
  | .land => some .land
  | .lor => some .lor
  | .lshl => some .lshl
  | .lshr => some .lshr
  | .lcmp => some .lcmp
  | .i2l => some .i2l
  | .l2i => some .l2i
  | .i2b => some .i2b
  | .i2s => some .i2s
  | .i2c => some .i2c
  | .dup => some .dup
  | .dup2 => some .dup2
  | .pop => some .pop
  | .iaload => some .iaload
  | .baload => some .baload
  | .aaload => some .aaload
  | .iastore => some .iastore
  | .aastore => some .aastore
  | .arraylength => some .arraylength
  | .ireturn => some .ireturn
  | .return_ => some .return_
  | _ => none
/-- the instruction at pc of method y, and the pc behind it -/
def x_fe (y pc : Nat) : Option (Instr × Nat) := match decode (x_by y) pc with
  | .ok (r, n) => if x_sw r || n == x_len r then (match x_res (x_cy y) pc r with
    | some i => some (i, pc + n)
    | none => none) else none
  | _ => none
abbrev x_Z : Type := Option (Nat × List Value × List Value × x_H)
def x_bi (S : List Value) (f : Int32 → Int32 → Option Int32) (nx : Nat) (L : List Value) (h : x_H) : x_Z := match S with
  | .int y :: .int x :: st => match f x y with
    | some v => some (nx, L, .int v :: st, h)
    | none => none
  | _ => none
def x_un (S : List Value) (f : Int32 → Int32) (nx : Nat) (L : List Value) (h : x_H) : x_Z := match S with
  | .int x :: st => some (nx, L, .int (f x) :: st, h)
  | _ => none
def x_bl (S : List Value) (f : Int64 → Int64 → Option Int64) (nx : Nat) (L : List Value) (h : x_H) : x_Z := match S with
  | .long y :: .long x :: st => match f x y with
    | some v => some (nx, L, .long v :: st, h)
    | none => none
  | _ => none
def x_cc (q : ClassFile.Cond) (x y : Int32) : Bool := match q with
  | .eq => decide (x = y)
  | .ne => decide (¬ x = y)
  | .lt => decide (x < y)
  | .ge => decide (y ≤ x)
  | .gt => decide (y < x)
  | .le => decide (x ≤ y)
def x_fit (e : Nat) (v : Value) : Bool := decide (v ≠ .ref 7) && decide (narrow (x_ty (e / 32) (e % 32)) v = v) && fits (x_ty (e / 32) (e % 32)) v
def x_def (c : Nat) : List Value := (List.range (x_N c)).map fun k => defaultValue (x_ty c k)
def x_cpy (f g : List Value) (sp dp n : Nat) : List Value := (List.range g.length).map fun k => if dp ≤ k ∧ k < dp + n then f.getD (sp + (k - dp)) .null else g.getD k .null
/-- one step of no call and no return; ini: in a constructor -/
def x_step (ini : Bool) (i : Instr) (pc nx : Nat) (L S : List Value) (h : x_H) : x_Z := match i with
  | .iconst v => some (nx, L, .int (Int32.ofInt v) :: S, h)
  | .ldc2_w n => some (nx, L, .long (Int64.ofNat n) :: S, h)
  | .ldc p => some (nx, L, .ref p :: S, h)
  | .iload k => match L[k]? with
    | some (.int x) => some (nx, L, .int x :: S, h)
    | _ => none
  | .lload k => match L[k]? with
    | some (.long x) => some (nx, L, .long x :: S, h)
    | _ => none
  | .aload k => match L[k]? with
    | some (.ref p) => if p = 7 then none else some (nx, L, .ref p :: S, h)
    | _ => none
  | .istore k => match S with
    | .int x :: st => if k < L.length then some (nx, x_st1 L k (.int x), st, h) else none
    | _ => none
  | .astore k => match S with
    | .ref p :: st => if k < L.length ∧ p ≠ 7 then some (nx, x_st1 L k (.ref p), st, h) else none
    | _ => none
  | .lstore k => match S with
    | .long x :: st => if k + 1 < L.length then some (nx, x_st2 L k (.long x), st, h) else none
    | _ => none
  | .iinc k v => match L[k]? with
    | some (.int x) => some (nx, x_st1 L k (.int (x + Int32.ofInt v)), S, h)
    | _ => none
  | .iadd => x_bi S (fun x y => some (x + y)) nx L h
  | .isub => x_bi S (fun x y => some (x - y)) nx L h
  | .imul => x_bi S (fun x y => some (x * y)) nx L h
  | .idiv => x_bi S (fun x y => if y = 0 then none else some (x / y)) nx L h
  | .irem => x_bi S (fun x y => if y = 0 then none else some (x - x / y * y)) nx L h
  | .iand => x_bi S (fun x y => some (x &&& y)) nx L h
  | .ior => x_bi S (fun x y => some (x ||| y)) nx L h
  | .ixor => x_bi S (fun x y => some (x ^^^ y)) nx L h
  | .ishl => x_bi S (fun x y => some (x <<< (y &&& 31))) nx L h
  | .ishr => x_bi S (fun x y => some (x >>> (y &&& 31))) nx L h
  | .iushr => x_bi S (fun x y => some (x.toUInt32 >>> (y.toUInt32 &&& Int32.toUInt32 31)).toInt32) nx L h
  | .ineg => x_un S (fun x => -x) nx L h
  | .i2b => x_un S (fun x => x.toInt8.toInt32) nx L h
  | .i2s => x_un S (fun x => x.toInt16.toInt32) nx L h
  | .i2c => x_un S (fun x => (x.toUInt32 % 65536).toInt32) nx L h
  | .ladd => x_bl S (fun x y => some (x + y)) nx L h
  | .lmul => x_bl S (fun x y => some (x * y)) nx L h
  | .land => x_bl S (fun x y => some (x &&& y)) nx L h
  | .lor => x_bl S (fun x y => some (x ||| y)) nx L h
  | .lrem => x_bl S (fun x y => if y = 0 then none else some (x - x / y * y)) nx L h
  | .lcmp => match S with
    | .long y :: .long x :: st => some (nx, L, .int (lg_cmp x y) :: st, h)
    | _ => none
  | .lshl => match S with
    | .int y :: .long x :: st => some (nx, L, .long (x <<< (y.toInt64 &&& 63)) :: st, h)
    | _ => none
  | .lshr => match S with
    | .int y :: .long x :: st => some (nx, L, .long (x >>> (y.toInt64 &&& 63)) :: st, h)
    | _ => none
  | .i2l => match S with
    | .int x :: st => some (nx, L, .long x.toInt64 :: st, h)
    | _ => none
  | .l2i => match S with
    | .long x :: st => some (nx, L, .int x.toInt32 :: st, h)
    | _ => none
  | .dup => match S with
    | v :: st => if v.category = 1 then some (nx, L, v :: v :: st, h) else none
    | _ => none
  | .pop => match S with
    | v :: st => if v.category = 1 then some (nx, L, st, h) else none
    | _ => none
  | .dup2 => match S with
    | a :: b :: st => if a.category = 1 ∧ b.category = 1 then some (nx, L, a :: b :: a :: b :: st, h) else none
    | _ => none
  | .goto t => some (t.toNat, L, S, h)
  | .ifCond q t => match S with
    | .int x :: st => some (if x_cc q x 0 = true then t.toNat else nx, L, st, h)
    | _ => none
  | .if_icmp q t => match S with
    | .int y :: .int x :: st => some (if x_cc q x y = true then t.toNat else nx, L, st, h)
    | _ => none
  | .tableswitch d lo hi offs => match S with
    | .int x :: st => if x.toInt < lo ∨ hi < x.toInt then (match x_to pc d with
        | some t => some (t, L, st, h)
        | none => none) else (match offs[(x.toInt - lo).toNat]? with
        | some o => (match x_to pc o with
          | some t => some (t, L, st, h)
          | none => none)
        | none => none)
    | _ => none
  | .lookupswitch d ps => match S with
    | .int x :: st => if (ps.toList.zip (ps.toList.drop 1)).all (fun (a, next) => a.1 < next.1) = true then (match x_to pc (Op.lookupswitch.offset ps.toList d x.toInt) with
        | some t => some (t, L, st, h)
        | none => none) else none
    | _ => none
  | .getfield e => match S with
    | .ref p :: st => match h[p]? with
      | some (c, fs) => if c = e / 32 then (match fs[e % 32]? with
        | some v => some (nx, L, v :: st, h)
        | none => none) else none
      | none => none
    | _ => none
  | .putfield e => match S with
    | v :: .ref p :: st => match h[p]? with
      | some (c, fs) => if c = e / 32 ∧ 8 ≤ p ∧ e % 32 < fs.length ∧ x_fit e v = true then some (nx, L, st, h.set p (c, fs.set (e % 32) v)) else none
      | none => none
    | _ => none
  | .putstatic e => match S with
    | v :: .ref p :: st => match h[p]? with
      | some (c, fs) => if ini = true ∧ c = e / 32 ∧ 8 ≤ p ∧ e % 32 < fs.length ∧ x_fit e v = true then some (nx, L, st, h.set p (c, fs.set (e % 32) v)) else none
      | none => none
    | _ => none
  | .getstatic j => match j with
    | 0 => some (nx, L, .ref 1 :: S, h)
    | 1 => some (nx, L, .ref 2 :: S, h)
    | 2 => some (nx, L, .int 1 :: S, h)
    | 3 => some (nx, L, .ref 7 :: S, h)
    | _ => none
  | .iaload => match S with
    | .int i :: .ref p :: st => match h[p]? with
      | some (c, vs) => if c = 10 ∧ ¬ i < 0 then (match vs[i.toNatClampNeg]? with
        | some (.int v) => some (nx, L, .int v :: st, h)
        | _ => none) else none
      | none => none
    | _ => none
  | .baload => match S with
    | .int i :: .ref p :: st => match h[p]? with
      | some (c, vs) => if c = 14 ∧ ¬ i < 0 then (match vs[i.toNatClampNeg]? with
        | some (.int v) => some (nx, L, .int v :: st, h)
        | _ => none) else none
      | none => none
    | _ => none
  | .aaload => match S with
    | .int i :: .ref p :: st => match h[p]? with
      | some (c, vs) => if (c = 11 ∨ c = 12) ∧ ¬ i < 0 then (match vs[i.toNatClampNeg]? with
        | some (.ref q) => if q = 7 then none else some (nx, L, .ref q :: st, h)
        | _ => none) else none
      | none => none
    | _ => none
  | .iastore => match S with
    | .int v :: .int i :: .ref p :: st => match h[p]? with
      | some (c, vs) => if c = 10 ∧ 8 ≤ p ∧ ¬ i < 0 ∧ i.toNatClampNeg < vs.length then some (nx, L, st, h.set p (c, vs.set i.toNatClampNeg (.int v))) else none
      | none => none
    | _ => none
  | .aastore => match S with
    | .ref q :: .int i :: .ref p :: st => match h[p]? with
      | some (c, vs) => match h[q]? with
        | some (d, _) => if ((c = 11 ∧ d = 2) ∨ (c = 12 ∧ d = 0)) ∧ 8 ≤ p ∧ 8 ≤ q ∧ ¬ i < 0 ∧ i.toNatClampNeg < vs.length then some (nx, L, st, h.set p (c, vs.set i.toNatClampNeg (.ref q))) else none
        | none => none
      | none => none
    | _ => none
  | .arraylength => match S with
    | .ref p :: st => match h[p]? with
      | some (c, vs) => if 10 ≤ c ∧ c ≤ 14 then some (nx, L, .int (Int32.ofNat vs.length) :: st, h) else none
      | none => none
    | _ => none
  | .new c => if c < 7 then some (nx, L, .ref h.length :: S, h ++ [(c, x_def c)]) else none
  | .newarray _ => match S with
    | .int n :: st => if ¬ n < 0 ∧ n.toNatClampNeg ≤ 100000 then some (nx, L, .ref h.length :: st, h ++ [(10, List.replicate n.toNatClampNeg (.int 0))]) else none
    | _ => none
  | .anewarray c => match S with
    | .int n :: st => if ¬ n < 0 ∧ n.toNatClampNeg ≤ 100000 ∧ (c = 0 ∨ c = 2) then some (nx, L, .ref h.length :: st, h ++ [(if c = 2 then 11 else 12, List.replicate n.toNatClampNeg .null)]) else none
    | _ => none
  | .d2f => match S with
    | .ref p :: st => if p ≠ 7 ∧ x_cat st ≤ 8 then some (nx, L, st, h) else none
    | _ => none
  | .f2d => match S with
    | .int x :: st => if x_cat st ≤ 8 then some (nx, L, .int (if 0 ≤ x then x else 0 - x) :: st, h) else none
    | _ => none
  | .f2i => match S with
    | .int y :: .int x :: st => if x_cat st ≤ 8 then some (nx, L, .int (if x < y then y else x) :: st, h) else none
    | _ => none
  | .d2i => match S with
    | .int n :: .int dp :: .ref q :: .int sp :: .ref p :: st => match h[p]? with
      | some (c, f) => match h[q]? with
        | some (d, g) => if c = 10 ∧ d = 10 ∧ 8 ≤ p ∧ 8 ≤ q ∧ ¬ sp < 0 ∧ ¬ dp < 0 ∧ ¬ n < 0 ∧ sp.toNatClampNeg + n.toNatClampNeg ≤ f.length ∧ dp.toNatClampNeg + n.toNatClampNeg ≤ g.length ∧ x_cat st ≤ 8 then some (nx, L, st, h.set q (10, x_cpy f g sp.toNatClampNeg dp.toNatClampNeg n.toNatClampNeg)) else none
        | none => none
      | none => none
    | _ => none
  | _ => none
def x_cal : Instr → Option Nat
  | .invokestatic z | .invokevirtual z | .invokespecial z => some z
  | _ => none
/-- what a call asks of the stack -/
def x_okc (i : Instr) (z : Nat) (S : List Value) (h : x_H) : Bool :=
  decide (x_na z ≤ S.length) && decide (x_cat (S.drop (x_na z)) ≤ 8) && decide ((x_ent (S.take (x_na z)).reverse).length ≤ x_ml z) && (match i with
    | .invokevirtual _ => (match S[x_na z - 1]? with
      | some (.ref p) => (match h[p]? with
        | some (c, _) => decide (c = x_cy z) && decide (p ≠ 7)
        | none => false)
      | _ => false)
    | .invokespecial _ => (match S[x_na z - 1]? with
      | some (.ref p) => decide (p ≠ 7)
      | _ => false)
    | _ => true)
/-- a run of method y, by fuel and by depth of calls -/
def x_run : Nat → Nat → Nat → Nat → List Value → List Value → x_H → Option (Option Value × x_H)
  | 0, _, _, _, _, _, _ => none
  | n + 1, d, y, pc, L, S, h => match x_fe y pc with
    | none => none
    | some (i, nx) => match x_cal i with
      | some z => match d with
        | 0 => none
        | d' + 1 => if x_okc i z S h = true then (match x_run n d' z 0 (x_loc (x_ml z) (S.take (x_na z)).reverse) [] h with
          | some (r, h') => x_run n (d' + 1) y nx L (r.toList ++ S.drop (x_na z)) h'
          | none => none) else none
      | none => match i, S with
        | .ireturn, [.int v] => (match x_rt y with
          | some ty => if narrow ty (.int v) = .int v then some (some (.int v), h) else none
          | none => none)
        | .return_, [] => (match x_rt y with
          | some _ => none
          | none => some (none, h))
        | i, S => match x_step (x_kd y == 2) i pc nx L S h with
          | some (pc', L', S', h') => x_run n d y pc' L' S' h'
          | none => none
end
section
/-! THE SMALL MACHINE AND THE GREAT ONE: worlds -/
def x_sizeB : List Int32 := [10, 11, 14, 12, 13, 12]
def x_markB : List Int32 := [20, 21, 23, 21, 24, 22]
def x_str0 : List Int32 := [116, 97, 98, 108, 101]
def x_str1 : List Int32 := [99, 97, 114, 100]
def x_old (xs : List Int32) : x_H := [(10, xs.map .int), (10, x_sizeB.map .int), (10, x_markB.map .int), (8, [.ref 5, .int 0]), (8, [.ref 6, .int 0]), (14, x_str0.map .int), (14, x_str1.map .int), (99, [])]
def x_A (sz : Nat) : Nat → Prop := fun q => sz ≤ q
def x_ad (o : Nat → Nat) (sz k : Nat) : Nat := if k < 8 then o k else sz + (k - 8)
def x_tr (o : Nat → Nat) (sio : Value) (sz : Nat) (v : Value) : Value := match v with
  | .ref k => if k = 7 then sio else .ref (x_ad o sz k)
  | v => v
theorem x_tr_ref {o : Nat → Nat} {sio : Value} {sz k : Nat} (h : k ≠ 7) : x_tr o sio sz (.ref k) = .ref (x_ad o sz k) := by
  show (if k = 7 then sio else .ref (x_ad o sz k)) = _
  rw [if_neg h]
theorem x_tr_cat {o : Nat → Nat} {sio : Value} {sz : Nat} (hsio : sio = .null ∨ ∃ t, sio = .ref t) (v : Value) : (x_tr o sio sz v).category = v.category := by
  cases v with
  | ref k =>
    show (if k = 7 then sio else .ref (x_ad o sz k)).category = 1
    split
    · rcases hsio with rfl | ⟨t, rfl⟩ <;> rfl
    · rfl
  | _ => rfl
theorem x_cat_tr {o : Nat → Nat} {sio : Value} {sz : Nat} (hsio : sio = .null ∨ ∃ t, sio = .ref t) (l : List Value) : ((l.map (x_tr o sio sz)).map fun v => v.category).sum = x_cat l := by
  unfold x_cat
  rw [List.map_map]
  congr 1
  exact List.map_congr_left fun v _ => x_tr_cat hsio v
def x_Old (o : Nat → Nat) (sio : Value) (sz : Nat) (xs : List Int32) (U : State) (H : Heap) : Prop :=
  (va_T .int (o 0) xs.length (fun j => .int (xs.getD j 0)) (x_A sz) U H ∧ va_T .int (o 1) 6 (fun j => .int (x_sizeB.getD j 0)) (x_A sz) U H ∧ va_T .int (o 2) 6 (fun j => .int (x_markB.getD j 0)) (x_A sz) U H) ∧
  (va_Z "WindowCards" "SIZE_BODIES" "[I" (.ref (o 1)) (x_A sz) U H ∧ va_Z "WindowCards" "MARK_BODIES" "[I" (.ref (o 2)) (x_A sz) U H ∧ va_Z "java/lang/String" "COMPACT_STRINGS" "Z" (.int 1) (x_A sz) U H ∧ va_Z "jdk/internal/util/Preconditions" "SIOOBE_FORMATTER" "Ljava/util/function/BiFunction;" sio (x_A sz) U H) ∧
  vk_S 2 [5, 4] [x_str0, x_str1] (fun i => o (3 + i)) (fun i => o (5 + i)) (x_A sz) U H ∧
  (vk_R "WindowCards" 287 "table" (o 3) U ∧ vk_R "WindowCards" 309 "card" (o 4) U) ∧
  (va_AO RX2 U ∧ va_AO RX0 U ∧ ∀ r ∈ x_ne, va_Nw (.methodLinkNest "WindowCards" r.1 (x_nm r.2.1) "WindowCards") U)
theorem x_Old.kept {o : Nat → Nat} {sio : Value} {sz : Nat} {xs : List Int32} {U : State} {H H1 : Heap} (h : x_Old o sio sz xs U H) (hq : ∀ a : Nat, a < H.size → ¬ x_A sz a → H1[a]? = H[a]?) : x_Old o sio sz xs U H1 := by
  obtain ⟨⟨a1, a2, a3⟩, ⟨b1, b2, b3, b4⟩, c1, d1⟩ := h
  exact ⟨⟨a1.kept hq, a2.kept hq, a3.kept hq⟩, ⟨b1.kept hq, b2.kept hq, b3.kept hq, b4.kept hq⟩, c1.kept hq, d1⟩
theorem x_Old.warm {o : Nat → Nat} {sio : Value} {sz : Nat} {xs : List Int32} {s U : State} {H : Heap} (h : x_Old o sio sz xs s H) (hW : s.WarmedH U.vm) : x_Old o sio sz xs U H := by
  obtain ⟨⟨a1, a2, a3⟩, ⟨b1, b2, b3, b4⟩, c1, ⟨d1, d2⟩, e1, e2, e3⟩ := h
  have hv := hW.alike
  exact ⟨⟨va_T.moved hv a1, va_T.moved hv a2, va_T.moved hv a3⟩, ⟨va_Z.moved hv b1, va_Z.moved hv b2, va_Z.moved hv b3, va_Z.moved hv b4⟩, vk_S.moved hv c1, ⟨vk_R.warm hW d1, vk_R.warm hW d2⟩, va_AO.moved hv e1, va_AO.moved hv e2, fun r hr => va_Nw.warmM hW (e3 r hr)⟩
theorem x_Old.same {o : Nat → Nat} {sio : Value} {sz : Nat} {xs : List Int32} {u U : State} {H : Heap} (h : x_Old o sio sz xs u H) (hv : U.vm = u.vm) : x_Old o sio sz xs U H := by
  obtain ⟨⟨a1, a2, a3⟩, ⟨b1, b2, b3, b4⟩, c1, ⟨d1, d2⟩, e1, e2, e3⟩ := h
  have ha : u.vm.Alike U.vm := by rw [hv]; exact Vm.Alike.refl u.vm
  exact ⟨⟨va_T.moved ha a1, va_T.moved ha a2, va_T.moved ha a3⟩, ⟨va_Z.moved ha b1, va_Z.moved ha b2, va_Z.moved ha b3, va_Z.moved ha b4⟩, vk_S.moved ha c1, ⟨vk_R.same hv d1, vk_R.same hv d2⟩, va_AO.moved ha e1, va_AO.moved ha e2, fun r hr => va_Nw.same rfl hv.symm (e3 r hr)⟩
/-- a cell of the small machine, and what the great one holds there -/
def x_R (o : Nat → Nat) (sio : Value) (sz : Nat) (tys : List (ClassId × FieldType)) (c : x_C) (e : va_E) : Prop := match e with
  | .inr q => c.1 = q.1 ∧ q.1 < 7 ∧ q.2 = c.2.map (x_tr o sio sz)
  | .inl (cA, n, .inl f) => c.1 = 10 ∧ (∃ t0 : Nat, tys[t0]? = some (cA, FieldType.int)) ∧ n = c.2.length ∧ ∀ (j : Nat) (v : Value), c.2[j]? = some v → v = .int (f j)
  | .inl (cA, n, .inr (.inr (.inr (.inr f)))) => ((c.1 = 11 ∧ ∃ t0 : Nat, tys[t0]? = some (cA, FieldType.object RX2)) ∨ (c.1 = 12 ∧ ∃ t0 : Nat, tys[t0]? = some (cA, FieldType.object RX0))) ∧ n = c.2.length ∧ ∀ (j : Nat) (v : Value), c.2[j]? = some v → x_tr o sio sz v = va_rf (f j)
  | _ => False
def x_Q (o : Nat → Nat) (sio : Value) (sz : Nat) (xs : List Int32) (h : x_H) (ws : va_W) (tys : List (ClassId × FieldType)) : Prop := ws.length + 8 = h.length ∧ h.take 8 = x_old xs ∧ ∀ (i : Nat) (q : Nat × va_E), ws[i]? = some q → q.1 = sz + i ∧ ∃ c, h[8 + i]? = some c ∧ x_R o sio sz tys c q.2
def x_W (o : Nat → Nat) (sio : Value) (sz : Nat) (xs : List Int32) (D : va_G) (h : x_H) (H : Heap) (U : State) : Prop := ∃ (ws : va_W) (tys : List (ClassId × FieldType)), va_P D vwCl ws H ∧ va_D (x_A sz) ws ∧ va_K D vwCl tys U ∧ x_Q o sio sz xs h ws tys
theorem x_W.moved {o : Nat → Nat} {sio : Value} {sz : Nat} {xs : List Int32} {D : va_G} {h : x_H} {H : Heap} {u U : State} (hw : x_W o sio sz xs D h H u) (hv : u.vm.Alike U.vm) : x_W o sio sz xs D h H U := by
  obtain ⟨ws, tys, h1, h2, h3, h4⟩ := hw
  exact ⟨ws, tys, h1, h2, va_K.moved hv h3, h4⟩
theorem x_R.more {o : Nat → Nat} {sio : Value} {sz : Nat} {tys t2 : List (ClassId × FieldType)} {c : x_C} {e : va_E} (h : x_R o sio sz tys c e) : x_R o sio sz (tys ++ t2) c e := by
  have key : ∀ {q : ClassId × FieldType}, (∃ t0 : Nat, tys[t0]? = some q) → ∃ t0 : Nat, (tys ++ t2)[t0]? = some q := by
    rintro q ⟨t0, h0⟩
    exact ⟨t0, by rw [List.getElem?_append_left (List.getElem?_eq_some_iff.mp h0).1]; exact h0⟩
  match e, h with
  | .inr q, h => exact h
  | .inl (cA, n, .inl f), ⟨h1, h2, h3⟩ => exact ⟨h1, key h2, h3⟩
  | .inl (cA, n, .inr (.inr (.inr (.inr f)))), ⟨h1, h3⟩ =>
    refine ⟨?_, h3⟩
    rcases h1 with ⟨a, b⟩ | ⟨a, b⟩
    · exact Or.inl ⟨a, key b⟩
    · exact Or.inr ⟨a, key b⟩
theorem x_Q.new {o : Nat → Nat} {sio : Value} {sz : Nat} {xs : List Int32} {h : x_H} {ws : va_W} {tys : List (ClassId × FieldType)} (hq : x_Q o sio sz xs h ws tys) {p : Nat} {c : x_C} (hp : 8 ≤ p) (hc : h[p]? = some c) : ∃ e, ws[p - 8]? = some (x_ad o sz p, e) ∧ x_R o sio sz tys c e := by
  obtain ⟨h1, h2, h3⟩ := hq
  have hl : p < h.length := (List.getElem?_eq_some_iff.mp hc).1
  have hl2 : p - 8 < ws.length := by omega
  obtain ⟨h4, c', h5, h6⟩ := h3 (p - 8) ws[p - 8] (List.getElem?_eq_getElem hl2)
  rw [show 8 + (p - 8) = p by omega, hc] at h5
  cases h5
  refine ⟨ws[p - 8].2, ?_, h6⟩
  have ha : x_ad o sz p = sz + (p - 8) := by unfold x_ad; rw [if_neg (by omega)]
  rw [List.getElem?_eq_getElem hl2, ha, ← h4]
theorem x_Q.old {o : Nat → Nat} {sio : Value} {sz : Nat} {xs : List Int32} {h : x_H} {ws : va_W} {tys : List (ClassId × FieldType)} (hq : x_Q o sio sz xs h ws tys) {p : Nat} {c : x_C} (hp : p < 8) (hc : h[p]? = some c) : (x_old xs)[p]? = some c := by
  rw [← hq.2.1, List.getElem?_take, if_pos hp]
  exact hc
theorem x_Q.set {o : Nat → Nat} {sio : Value} {sz : Nat} {xs : List Int32} {h : x_H} {ws : va_W} {tys : List (ClassId × FieldType)} (hq : x_Q o sio sz xs h ws tys) {p : Nat} {c : x_C} {e : va_E} (hp : 8 ≤ p) (hl : p < h.length) (hr : x_R o sio sz tys c e) : x_Q o sio sz xs (h.set p c) (ws.set (p - 8) (x_ad o sz p, e)) tys := by
  obtain ⟨h1, h2, h3⟩ := hq
  have ha : x_ad o sz p = sz + (p - 8) := by unfold x_ad; rw [if_neg (by omega)]
  refine ⟨by rw [List.length_set, List.length_set]; exact h1, ?_, fun i q hi => ?_⟩
  · rw [← h2, List.take_set_of_le hp]
  · by_cases hip : i = p - 8
    · subst hip
      rw [List.getElem?_set_self (by omega)] at hi
      cases hi
      refine ⟨ha, c, ?_, hr⟩
      rw [show 8 + (p - 8) = p by omega, List.getElem?_set_self hl]
    · rw [List.getElem?_set_ne (Ne.symm hip)] at hi
      obtain ⟨g1, c', g2, g3⟩ := h3 i q hi
      exact ⟨g1, c', by rw [List.getElem?_set_ne (by omega)]; exact g2, g3⟩
theorem x_Q.push {o : Nat → Nat} {sio : Value} {sz : Nat} {xs : List Int32} {h : x_H} {ws : va_W} {tys t2 : List (ClassId × FieldType)} (hq : x_Q o sio sz xs h ws tys) {c : x_C} {e : va_E} (hr : x_R o sio sz (tys ++ t2) c e) : x_Q o sio sz xs (h ++ [c]) (ws ++ [(x_ad o sz h.length, e)]) (tys ++ t2) := by
  obtain ⟨h1, h2, h3⟩ := hq
  have ha : x_ad o sz h.length = sz + ws.length := by unfold x_ad; rw [if_neg (by omega)]; omega
  refine ⟨by simp; omega, by rw [List.take_append_of_le_length (by omega)]; exact h2, fun i q hi => ?_⟩
  by_cases hil : i < ws.length
  · rw [List.getElem?_append_left hil] at hi
    obtain ⟨g1, c', g2, g3⟩ := h3 i q hi
    exact ⟨g1, c', by rw [List.getElem?_append_left (by omega)]; exact g2, g3.more⟩
  · rw [List.getElem?_append_right (by omega)] at hi
    have hz : i - ws.length < 1 := (List.getElem?_eq_some_iff.mp hi).1
    have hi0 : i = ws.length := by omega
    subst hi0
    rw [Nat.sub_self] at hi
    cases hi
    exact ⟨ha, c, by rw [List.getElem?_append_right (by omega), show 8 + ws.length - h.length = 0 by omega]; rfl, hr⟩
/-! locals -/
def x_L (o : Nat → Nat) (sio : Value) (sz : Nat) (ls : Array Slot) (L : List Value) : Prop := ls.size = L.length ∧ lv_wf ls ∧ ∀ (i : Nat) (v : Value), L[i]? = some v → v ≠ .null → ls[i]? = some (.val (x_tr o sio sz v))
def x_ll (o : Nat → Nat) (sio : Value) (sz : Nat) (L : List Value) : List (Nat × Value) := (L.zipIdx.filter (fun q => decide (q.1 ≠ Value.null))).map (fun q => (q.2, x_tr o sio sz q.1))
theorem x_mem_ll {o : Nat → Nat} {sio : Value} {sz : Nat} {L : List Value} {q : Nat × Value} : q ∈ x_ll o sio sz L ↔ ∃ v, L[q.1]? = some v ∧ v ≠ .null ∧ q.2 = x_tr o sio sz v := by
  unfold x_ll
  simp only [List.mem_map, List.mem_filter, decide_eq_true_eq, Prod.exists]
  constructor
  · rintro ⟨v, i, ⟨h1, h2⟩, rfl⟩
    exact ⟨v, List.mem_zipIdx_iff_getElem?.mp h1, h2, rfl⟩
  · rintro ⟨v, h1, h2, h3⟩
    exact ⟨v, q.1, ⟨List.mem_zipIdx_iff_getElem?.mpr h1, h2⟩, by rw [← h3]⟩
theorem x_L.has {o : Nat → Nat} {sio : Value} {sz : Nat} {ls : Array Slot} {L : List Value} (h : x_L o sio sz ls L) : lv_has ls L.length (x_ll o sio sz L) := by
  refine ⟨h.1, h.2.1, fun q hq => ?_⟩
  obtain ⟨v, h1, h2, h3⟩ := x_mem_ll.mp hq
  rw [h3]
  exact h.2.2 q.1 v h1 h2
theorem x_clr_succ (L : List Value) (j : Nat) : x_clr L (j + 1) = (match L[j]? with
    | some v => if v.category = 2 then L.set j .null else L
    | none => L) := rfl
theorem x_clr_len (L : List Value) (i : Nat) : (x_clr L i).length = L.length := by
  cases i with
  | zero => rfl
  | succ j =>
    rw [x_clr_succ]
    split
    · split
      · exact List.length_set
      · rfl
    · rfl
theorem x_st1_len (L : List Value) (i : Nat) (v : Value) : (x_st1 L i v).length = L.length := by unfold x_st1; rw [List.length_set, x_clr_len]
theorem x_st2_len (L : List Value) (i : Nat) (v : Value) : (x_st2 L i v).length = L.length := by unfold x_st2; rw [List.length_set, x_st1_len]
theorem x_clr_at {L : List Value} {i j : Nat} {v : Value} (h : (x_clr L i)[j]? = some v) (hv : v ≠ .null) : L[j]? = some v ∧ ¬ (j + 1 = i ∧ v.category = 2) := by
  cases i with
  | zero => exact ⟨h, fun z => by omega⟩
  | succ k =>
    rw [x_clr_succ] at h
    split at h
    next w hw =>
      split at h
      next hc =>
        by_cases hj : j = k
        · subst hj
          rw [List.getElem?_set_self (List.getElem?_eq_some_iff.mp hw).1] at h
          cases h
          exact absurd rfl hv
        · rw [List.getElem?_set_ne (Ne.symm hj)] at h
          exact ⟨h, fun z => hj (by omega)⟩
      next hc =>
        refine ⟨h, fun z => ?_⟩
        have hj : j = k := by omega
        subst hj
        rw [hw] at h
        cases h
        exact hc z.2
    next hw =>
      refine ⟨h, fun z => ?_⟩
      have hj : j = k := by omega
      subst hj
      rw [hw] at h
      cases h
theorem x_L.st1 {o : Nat → Nat} {sio : Value} {sz : Nat} (hsio : sio = .null ∨ ∃ t, sio = .ref t) {ls' : Array Slot} {L : List Value} {i : Nat} {v : Value} (h : lv_has ls' L.length ((i, x_tr o sio sz v) :: (x_ll o sio sz L).filter (fun q => !(q.1 == i) && !(q.1 + 1 == i && q.2.category == 2)))) (hi : i < L.length) : x_L o sio sz ls' (x_st1 L i v) := by
  refine ⟨by rw [x_st1_len]; exact h.1, h.2.1, fun j w hj hw => ?_⟩
  by_cases hji : j = i
  · subst hji
    unfold x_st1 at hj
    rw [List.getElem?_set_self (by rw [x_clr_len]; exact hi)] at hj
    cases hj
    exact h.2.2 (j, _) List.mem_cons_self
  · unfold x_st1 at hj
    rw [List.getElem?_set_ne (Ne.symm hji)] at hj
    obtain ⟨h1, h2⟩ := x_clr_at hj hw
    refine h.2.2 (j, x_tr o sio sz w) (List.mem_cons_of_mem _ (List.mem_filter.mpr ⟨x_mem_ll.mpr ⟨w, h1, hw, rfl⟩, ?_⟩))
    simp only [x_tr_cat hsio, Bool.and_eq_true, Bool.not_eq_true', beq_eq_false_iff_ne, ne_eq, Bool.and_eq_false_iff]
    refine ⟨hji, ?_⟩
    by_cases hz : j + 1 = i
    · exact Or.inr fun z => h2 ⟨hz, z⟩
    · exact Or.inl hz
theorem x_L.st2 {o : Nat → Nat} {sio : Value} {sz : Nat} (hsio : sio = .null ∨ ∃ t, sio = .ref t) {ls' : Array Slot} {L : List Value} {i : Nat} {v : Value} (h : lv_has ls' L.length ((i, x_tr o sio sz v) :: (x_ll o sio sz L).filter (fun q => !(q.1 == i) && (!(q.1 == i + 1) && !(q.1 + 1 == i && q.2.category == 2))))) (hi : i + 1 < L.length) : x_L o sio sz ls' (x_st2 L i v) := by
  refine ⟨by rw [x_st2_len]; exact h.1, h.2.1, fun j w hj hw => ?_⟩
  unfold x_st2 at hj
  by_cases hj2 : j = i + 1
  · subst hj2
    rw [List.getElem?_set_self (by rw [x_st1_len]; exact hi)] at hj
    cases hj
    exact absurd rfl hw
  · rw [List.getElem?_set_ne (Ne.symm hj2)] at hj
    by_cases hji : j = i
    · subst hji
      unfold x_st1 at hj
      rw [List.getElem?_set_self (by rw [x_clr_len]; omega)] at hj
      cases hj
      exact h.2.2 (j, _) List.mem_cons_self
    · unfold x_st1 at hj
      rw [List.getElem?_set_ne (Ne.symm hji)] at hj
      obtain ⟨h1, h2⟩ := x_clr_at hj hw
      refine h.2.2 (j, x_tr o sio sz w) (List.mem_cons_of_mem _ (List.mem_filter.mpr ⟨x_mem_ll.mpr ⟨w, h1, hw, rfl⟩, ?_⟩))
      simp only [x_tr_cat hsio, Bool.and_eq_true, Bool.not_eq_true', beq_eq_false_iff_ne, ne_eq, Bool.and_eq_false_iff]
      refine ⟨hji, hj2, ?_⟩
      by_cases hz : j + 1 = i
      · exact Or.inr fun z => h2 ⟨hz, z⟩
      · exact Or.inl hz
/-- the locals with which a method begins -/
theorem x_ent_args {o : Nat → Nat} {sio : Value} {sz : Nat} (hsio : sio = .null ∨ ∃ t, sio = .ref t) (vs : List Value) : ∀ (b i : Nat) (v : Value), (x_ent vs)[i]? = some v → v ≠ .null → (b + i, x_tr o sio sz v) ∈ lv_args b (vs.map (x_tr o sio sz)) := by
  induction vs with
  | nil => intro b i v h; simp [x_ent] at h
  | cons w vs ih =>
    intro b i v h hv
    show _ ∈ (b, x_tr o sio sz w) :: lv_args (if (x_tr o sio sz w).category = 2 then b + 2 else b + 1) (vs.map (x_tr o sio sz))
    rw [x_tr_cat hsio]
    unfold x_ent at h
    split at h
    next hc =>
      rw [if_pos hc]
      match i, h with
      | 0, h => cases h; exact List.mem_cons_self
      | 1, h => cases h; exact absurd rfl hv
      | i + 2, h =>
        have h2 := ih (b + 2) i v (by simpa using h) hv
        rw [show b + (i + 2) = b + 2 + i by omega]
        exact List.mem_cons_of_mem _ h2
    next hc =>
      rw [if_neg hc]
      match i, h with
      | 0, h => cases h; exact List.mem_cons_self
      | i + 1, h =>
        have h2 := ih (b + 1) i v (by simpa using h) hv
        rw [show b + (i + 1) = b + 1 + i by omega]
        exact List.mem_cons_of_mem _ h2
theorem x_ent_len {o : Nat → Nat} {sio : Value} {sz : Nat} (hsio : sio = .null ∨ ∃ t, sio = .ref t) (vs : List Value) : (lg_sl (vs.map (x_tr o sio sz))).length = (x_ent vs).length := by
  induction vs with
  | nil => rfl
  | cons w vs ih =>
    show (List.flatMap _ (x_tr o sio sz w :: vs.map (x_tr o sio sz))).length = _
    rw [List.flatMap_cons, x_tr_cat hsio, List.length_append]
    unfold x_ent
    have ih' : (List.flatMap (fun v => if Value.category v = 2 then [Slot.val v, Slot.second] else [Slot.val v]) (vs.map (x_tr o sio sz))).length = (x_ent vs).length := ih
    rw [ih']
    split <;> simp <;> omega
theorem x_L.entry {o : Nat → Nat} {sio : Value} {sz : Nat} (hsio : sio = .null ∨ ∃ t, sio = .ref t) {vs : List Value} {n : Nat} (hn : (x_ent vs).length ≤ n) : x_L o sio sz ((lg_sl (vs.map (x_tr o sio sz)) ++ List.replicate (n - (lg_sl (vs.map (x_tr o sio sz))).length) Slot.unset).toArray) (x_loc n vs) := by
  have h := lv_entry (vs.map (x_tr o sio sz)) (n := n) (by rw [x_ent_len hsio]; exact hn)
  have hlen : (x_loc n vs).length = n := by unfold x_loc; simp; omega
  refine ⟨by rw [hlen]; exact h.1, h.2.1, fun i v hi hv => ?_⟩
  unfold x_loc at hi
  by_cases hil : i < (x_ent vs).length
  · rw [List.getElem?_append_left hil] at hi
    have h2 := h.2.2 _ (x_ent_args hsio vs 0 i v hi hv)
    simpa using h2
  · rw [List.getElem?_append_right (by omega)] at hi
    exact absurd (List.eq_of_mem_replicate (List.mem_of_getElem? hi)) hv
end
section
/-! ONE STEP -/
theorem x_lk_in {T : List (Nat × Nat × Nat × Nat)} {c i e : Nat} (h : x_lk T c i = some e) : ∃ r ∈ T, r.1 = c ∧ r.2.1 = i ∧ r.2.2.1 = e := by
  unfold x_lk at h
  rw [Option.map_eq_some_iff] at h
  obtain ⟨r, h1, h2⟩ := h
  have h3 := List.find?_some h1
  simp only [Bool.and_eq_true, beq_iff_eq] at h3
  exact ⟨r, List.mem_of_find?_eq_some h1, h3.1, h3.2, h2⟩
theorem x_ft_w {c i e : Nat} (h : x_lk x_ft c i = some e) : Jvm.Cond.fieldLink (x_cn c) i (x_fd e).1 (x_fd e).2.1 (x_fd e).2.2 ∈ x_TB := by
  obtain ⟨r, h1, h2, h3, h4⟩ := x_lk_in h
  have := List.all_eq_true.mp x_ft_ok r h1
  rw [h2, h3, h4] at this
  exact x_at_in this
theorem x_ft_e : x_ft.all (fun r => (r.2.2.1 / 32 == 8 && decide (r.2.2.1 % 32 < 2)) || (decide (r.2.2.1 / 32 < 7) && decide (r.2.2.1 % 32 < x_N (r.2.2.1 / 32)))) = true := by decide +kernel
theorem x_ft_b {c i e : Nat} (h : x_lk x_ft c i = some e) : (e / 32 = 8 ∧ e % 32 < 2) ∨ (e / 32 < 7 ∧ e % 32 < x_N (e / 32)) := by
  obtain ⟨r, h1, h2, h3, h4⟩ := x_lk_in h
  have := List.all_eq_true.mp x_ft_e r h1
  rw [h4] at this
  simpa only [Bool.or_eq_true, Bool.and_eq_true, beq_iff_eq, decide_eq_true_eq] using this
theorem x_sf_w {c i j : Nat} (h : x_lk x_sf c i = some j) : Jvm.Cond.fieldLink (x_cn c) i (x_sd j).1 (x_sd j).2.1 (x_sd j).2.2 ∈ x_TB := by
  obtain ⟨r, h1, h2, h3, h4⟩ := x_lk_in h
  have := List.all_eq_true.mp x_sf_ok r h1
  rw [h2, h3, h4] at this
  exact x_at_in this
theorem x_kl_w {c i n : Nat} (h : x_lk x_kl c i = some n) : Jvm.Cond.constantLong (x_cn c) i (Int64.ofNat n) ∈ x_TB := by
  obtain ⟨r, h1, h2, h3, h4⟩ := x_lk_in h
  have := List.all_eq_true.mp x_kl_ok r h1
  rw [h2, h3, h4] at this
  exact x_at_in this
theorem x_kt_w {c i : Nat} {v : Int32} (h : x_k c i = some v) : Jvm.Cond.constant (x_cn c) i v ∈ x_TB := by
  unfold x_k at h
  rw [Option.map_eq_some_iff] at h
  obtain ⟨r, h1, h2⟩ := h
  have h3 := List.find?_some h1
  simp only [Bool.and_eq_true, beq_iff_eq] at h3
  have := List.all_eq_true.mp x_kt_ok r (List.mem_of_find?_eq_some h1)
  rw [h3.1, h3.2, h2] at this
  exact x_at_in this
theorem x_nt_w {c i ci : Nat} (h : x_new c i = some ci) : ci < 7 ∧ Jvm.Cond.classLink (x_cn c) i (x_cn ci) ∈ x_TB ∧ Jvm.Cond.instantiable (x_cn ci) (x_N ci) ∈ x_TB ∧ Jvm.Cond.initialized (x_cn ci) ∈ x_TB := by
  unfold x_new at h
  rw [Option.map_eq_some_iff] at h
  obtain ⟨r, h1, h2⟩ := h
  have h3 := List.find?_some h1
  simp only [Bool.and_eq_true, beq_iff_eq] at h3
  have := List.all_eq_true.mp x_nt_ok r (List.mem_of_find?_eq_some h1)
  rw [h3.1, h3.2, h2] at this
  simp only [Bool.and_eq_true, decide_eq_true_eq] at this
  exact ⟨this.1.1.1, x_at_in this.1.1.2, x_at_in this.1.2, x_at_in this.2⟩
theorem x_oi_w {c i : Nat} (h : x_is x_oi c i = true) : Jvm.Cond.methodLink (x_cn c) i Lib.objectInit ∈ x_TB := by
  unfold x_is at h
  obtain ⟨r, h1, h2⟩ := List.any_eq_true.mp h
  simp only [Bool.and_eq_true, beq_iff_eq] at h2
  have := List.all_eq_true.mp x_oi_ok r h1
  rw [h2.1, h2.2] at this
  exact x_at_in this
theorem x_ac_w {c i : Nat} (h : x_is x_ac c i = true) : Jvm.Cond.methodLink (x_cn c) i arraycopyName ∈ x_TB := by
  unfold x_is at h
  obtain ⟨r, h1, h2⟩ := List.any_eq_true.mp h
  simp only [Bool.and_eq_true, beq_iff_eq] at h2
  have := List.all_eq_true.mp x_ac_ok r h1
  rw [h2.1, h2.2] at this
  exact x_at_in this
theorem x_cl7 {ci : Nat} (h : ci < 7) : vwCl[ci]? = some (x_cn ci, x_T ci, x_N ci) := by
  rcases (by omega : ci = 0 ∨ ci = 1 ∨ ci = 2 ∨ ci = 3 ∨ ci = 4 ∨ ci = 5 ∨ ci = 6) with rfl | rfl | rfl | rfl | rfl | rfl | rfl <;> rfl
theorem x_hin {ci : Nat} (h : ci < 7) : ∀ w ∈ u_ws (x_cn ci) (x_T ci) (x_N ci), w ∈ x_TB := by
  intro w hw
  have h1 := List.all_eq_true.mp x_in_u ci (List.mem_range.mpr h)
  have h2 := List.all_eq_true.mp h1 w hw
  simp only [Bool.and_eq_true, decide_eq_true_eq] at h2
  exact List.mem_filter.mpr h2
theorem x_hty {ci : Nat} (h : ci < 7) : ∀ k, k < x_N ci → parseFieldDescriptor (x_T ci k).2.2.1 = some (x_ty ci k) := by
  rcases (by omega : ci = 0 ∨ ci = 1 ∨ ci = 2 ∨ ci = 3 ∨ ci = 4 ∨ ci = 5 ∨ ci = 6) with rfl | rfl | rfl | rfl | rfl | rfl | rfl
  · exact tyX0_ok
  · exact tyX1_ok
  · exact tyX2_ok
  · exact tyX3_ok
  · exact tyX4_ok
  · exact tyX5_ok
  · exact tyX6_ok
theorem x_hnm {ci : Nat} (h : ci < 7) : ∀ a, a < x_N ci → ∀ b, b < x_N ci → a ≠ b → (x_T ci a).2.1 ≠ (x_T ci b).2.1 := by
  rcases (by omega : ci = 0 ∨ ci = 1 ∨ ci = 2 ∨ ci = 3 ∨ ci = 4 ∨ ci = 5 ∨ ci = 6) with rfl | rfl | rfl | rfl | rfl | rfl | rfl
  · exact nmX0
  · exact nmX1
  · exact nmX2
  · exact nmX3
  · exact nmX4
  · exact nmX5
  · exact nmX6
theorem x_fd7 {e : Nat} (h : e / 32 < 7) : x_fd e = ((x_T (e / 32) (e % 32)).1, (x_T (e / 32) (e % 32)).2.1, (x_T (e / 32) (e % 32)).2.2.1) := by
  unfold x_fd
  rw [if_neg (by omega)]
theorem x_fit_tr {o : Nat → Nat} {sio : Value} {sz e : Nat} {v : Value} (h : x_fit e v = true) : narrow (x_ty (e / 32) (e % 32)) (x_tr o sio sz v) = x_tr o sio sz v ∧ fits (x_ty (e / 32) (e % 32)) (x_tr o sio sz v) = true := by
  unfold x_fit at h
  simp only [Bool.and_eq_true, decide_eq_true_eq] at h
  obtain ⟨⟨h1, h2⟩, h3⟩ := h
  cases v with
  | ref k =>
    have hk : k ≠ 7 := fun z => h1 (by rw [z])
    rw [x_tr_ref hk]
    revert h3
    cases x_ty (e / 32) (e % 32) <;> simp [narrow, fits]
  | _ => exact ⟨h2, h3⟩
theorem x_to_w {pc t : Nat} {off : Int} (h : x_to pc off = some t) : (pc : Int) + off = (t : Int) := by
  unfold x_to at h
  split at h
  next hp =>
    cases h
    exact (Int.toNat_of_nonneg hp).symm
  next => cases h
theorem x_bi_w {S : List Value} {f : Int32 → Int32 → Option Int32} {nx pc' : Nat} {L L' S' : List Value} {h h' : x_H} (hs : x_bi S f nx L h = some (pc', L', S', h')) : ∃ x y st v, S = .int y :: .int x :: st ∧ f x y = some v ∧ pc' = nx ∧ L' = L ∧ S' = .int v :: st ∧ h' = h := by
  unfold x_bi at hs
  split at hs
  next y x st =>
    split at hs
    next v hv =>
      cases hs
      exact ⟨x, y, st, v, rfl, hv, rfl, rfl, rfl, rfl⟩
    next => cases hs
  next => cases hs
theorem x_un_w {S : List Value} {f : Int32 → Int32} {nx pc' : Nat} {L L' S' : List Value} {h h' : x_H} (hs : x_un S f nx L h = some (pc', L', S', h')) : ∃ x st, S = .int x :: st ∧ pc' = nx ∧ L' = L ∧ S' = .int (f x) :: st ∧ h' = h := by
  unfold x_un at hs
  split at hs
  next x st =>
    cases hs
    exact ⟨x, st, rfl, rfl, rfl, rfl, rfl⟩
  next => cases hs
theorem x_bl_w {S : List Value} {f : Int64 → Int64 → Option Int64} {nx pc' : Nat} {L L' S' : List Value} {h h' : x_H} (hs : x_bl S f nx L h = some (pc', L', S', h')) : ∃ x y st v, S = .long y :: .long x :: st ∧ f x y = some v ∧ pc' = nx ∧ L' = L ∧ S' = .long v :: st ∧ h' = h := by
  unfold x_bl at hs
  split at hs
  next y x st =>
    split at hs
    next v hv =>
      cases hs
      exact ⟨x, y, st, v, rfl, hv, rfl, rfl, rfl, rfl⟩
    next => cases hs
  next => cases hs
theorem x_sz_set {h : x_H} {p : Nat} {c c' : x_C} (hc : h[p]? = some c) (hl : c'.2.length = c.2.length) : x_sz (h.set p c') = x_sz h := by
  unfold x_sz
  induction h generalizing p with
  | nil => simp at hc
  | cons a h ih =>
    cases p with
    | zero =>
      rw [List.getElem?_cons_zero] at hc
      cases hc
      simp [hl]
    | succ p =>
      rw [List.getElem?_cons_succ] at hc
      simp only [List.set_cons_succ, List.map_cons, List.sum_cons]
      rw [ih hc]
theorem x_sz_push (h : x_H) (c : x_C) : x_sz (h ++ [c]) = x_sz h + c.2.length := by
  unfold x_sz
  simp
theorem x_cpy_len (f g : List Value) (sp dp n : Nat) : (x_cpy f g sp dp n).length = g.length := by unfold x_cpy; simp
set_option maxHeartbeats 4000000 in
theorem x_step_mono {ini : Bool} {i : Instr} {pc nx pc' : Nat} {L S L' S' : List Value} {h h' : x_H} (hs : x_step ini i pc nx L S h = some (pc', L', S', h')) : (h.length ≤ h'.length ∧ x_sz h ≤ x_sz h') ∧ (L'.length = L.length) := by
  have same : ∀ {A B : x_H}, A = B → A.length ≤ B.length ∧ x_sz A ≤ x_sz B := fun e => by rw [e]; exact ⟨Nat.le_refl _, Nat.le_refl _⟩
  have bi : ∀ {f : Int32 → Int32 → Option Int32}, x_bi S f nx L h = some (pc', L', S', h') → (h.length ≤ h'.length ∧ x_sz h ≤ x_sz h') ∧ L'.length = L.length := by
    intro f q
    obtain ⟨x, y, st, v, -, -, -, rfl, -, rfl⟩ := x_bi_w q
    exact ⟨same rfl, rfl⟩
  have un : ∀ {f : Int32 → Int32}, x_un S f nx L h = some (pc', L', S', h') → (h.length ≤ h'.length ∧ x_sz h ≤ x_sz h') ∧ L'.length = L.length := by
    intro f q
    obtain ⟨x, st, -, -, rfl, -, rfl⟩ := x_un_w q
    exact ⟨same rfl, rfl⟩
  have bl : ∀ {f : Int64 → Int64 → Option Int64}, x_bl S f nx L h = some (pc', L', S', h') → (h.length ≤ h'.length ∧ x_sz h ≤ x_sz h') ∧ L'.length = L.length := by
    intro f q
    obtain ⟨x, y, st, v, -, -, -, rfl, -, rfl⟩ := x_bl_w q
    exact ⟨same rfl, rfl⟩
  unfold x_step at hs
  split at hs <;> first | exact bi hs | exact un hs | exact bl hs | skip
  all_goals repeat' (split at hs)
  all_goals first
    | (cases hs; done)
    | (cases hs; exact ⟨same rfl, rfl⟩)
    | (cases hs; exact ⟨same rfl, x_st1_len _ _ _⟩)
    | (cases hs; exact ⟨same rfl, x_st2_len _ _ _⟩)
    | (cases hs; exact ⟨⟨by simp, by rw [x_sz_push]; omega⟩, rfl⟩)
    | (cases hs; refine ⟨⟨by rw [List.length_set]; exact Nat.le_refl _, Nat.le_of_eq (x_sz_set (by assumption) (by first | exact List.length_set | exact x_cpy_len _ _ _ _ _)).symm⟩, rfl⟩)
    | (cases hs; exact ⟨⟨by rw [List.length_set]; exact Nat.le_refl _, Nat.le_of_eq (x_sz_set (by assumption) (List.length_set)).symm⟩, rfl⟩)
theorem x_call_w {c i z k : Nat} (h : x_call c i = some (z, k)) : z < x_nm_all ∧ ((k = 3 ∧ c = 5 ∧ x_kd z = 2 ∧ ∃ w, (i, z, w) ∈ x_ne) ∨ (k ≠ 3 ∧ x_kd z = k ∧ Jvm.Cond.methodLink (x_cn c) i (x_nm z) ∈ x_TB)) := by
  unfold x_call at h
  rw [Option.map_eq_some_iff] at h
  obtain ⟨r, h1, h2⟩ := h
  have h3 := List.find?_some h1
  simp only [Bool.and_eq_true, beq_iff_eq] at h3
  have hm := List.mem_of_find?_eq_some h1
  have h4 := List.all_eq_true.mp x_ct_ok r hm
  simp only [Bool.and_eq_true, decide_eq_true_eq] at h4
  cases h2
  refine ⟨h4.1, ?_⟩
  by_cases hk : r.2.2.2.1 = 3
  · rw [if_pos hk] at h4
    simp only [Bool.and_eq_true, decide_eq_true_eq] at h4
    refine Or.inl ⟨hk, by rw [← h3.1]; exact h4.2.2, h4.2.1, r.2.2.2.2, ?_⟩
    unfold x_ne
    refine List.mem_map.mpr ⟨r, List.mem_filter.mpr ⟨hm, by simpa using hk⟩, by rw [h3.2]⟩
  · rw [if_neg hk] at h4
    simp only [Bool.and_eq_true, decide_eq_true_eq] at h4
    refine Or.inr ⟨hk, h4.2.1, ?_⟩
    have h5 := x_at_in h4.2.2
    rw [h3.1, h3.2] at h5
    exact h5
end
section
/-! ONE STEP IS SOUND -/
def x_Ctx (o : Nat → Nat) (sio : Value) (sz : Nat) (xs : List Int32) (y dR n0 : Nat) (p : Program) (R : Room) (s : State) (m : MethodId) (args : Array Value) (meth : Method) (c : Code) : Prop :=
  p.tables.exec = Jvm.exec ∧ c.code = x_by y ∧ c.maxLocals = x_ml y ∧ s.vm.findClass (x_cn (x_cy y)) = some m.cls ∧ (∀ w ∈ x_TB, w.before args s = true) ∧ x_Old o sio sz xs s s.heap ∧ s.heap.size + 8 = sz + n0 ∧ 8 ≤ n0 ∧ (x_kd y = 2 → meth.name = "<init>") ∧ dR + 1 ≤ R.frames ∧ 60 * dR + 60 ≤ R.locals ∧ meth.locks = false ∧ (sio = .null ∨ ∃ t, sio = .ref t)
section XST
variable {o : Nat → Nat} {sio : Value} {sz : Nat} {xs : List Int32} {D : va_G} {y dR n0 s0 : Nat}
variable {p : Program} {l : Launch} {e : Env} {R : Room} {s : State} {m : MethodId} {args : Array Value} {below : List Frame} {meth : Method} {c : Code} {H : Heap} {locs : List Loc} {cells slots : Nat} {Q : State → Prop}
theorem x_size (g : JFrame) (k : H.size ≤ s.heap.size + cells → W p l e R s m args below meth c H locs cells slots Q g) : W p l e R s m args below meth c H locs cells slots Q g := by
  intro T hT X
  have h1 := X.heapSize
  rw [hT] at h1
  exact k h1 T hT X
theorem x_fresh {ws : va_W} {q : Nat} {ev : va_E} {H1 : Heap} (hP : va_P D vwCl (ws ++ [(q, ev)]) H1) (hD : va_D (x_A sz) (ws ++ [(q, ev)])) (hw : ∀ (i : Nat) (r : Nat × va_E), ws[i]? = some r → r.1 = sz + i) (hz : H1.size ≤ sz + ws.length + 1) : q = sz + ws.length := by
  have hq : (ws ++ [(q, ev)])[ws.length]? = some (q, ev) := by rw [List.getElem?_append_right (Nat.le_refl _), Nat.sub_self]; rfl
  have h1 := (hP _ _ hq).lt
  have h2 : sz ≤ q := hD.2 _ _ hq
  have h1' : q < H1.size := h1
  by_cases hlt : q < sz + ws.length
  · exfalso
    have hi : q - sz < ws.length := by omega
    have h3 := hw (q - sz) ws[q - sz] (List.getElem?_eq_getElem hi)
    have h4 : (ws ++ [(q, ev)])[q - sz]? = some ws[q - sz] := by rw [List.getElem?_append_left hi, List.getElem?_eq_getElem hi]
    have h5 := hD.1 (q - sz) ws.length _ _ h4 hq (by rw [h3]; show sz + (q - sz) = q; omega)
    omega
  · omega
theorem x_arr {tys : List (ClassId × FieldType)} {vs : List Value} {ev : va_E} (h : x_R o sio sz tys (10, vs) ev) : ∃ (cA : ClassId) (f : Nat → Int32) (t0 : Nat), ev = .inl (cA, vs.length, .inl f) ∧ tys[t0]? = some (cA, FieldType.int) ∧ ∀ (j : Nat) (v : Value), vs[j]? = some v → v = .int (f j) := by
  match ev, h with
  | .inr q, ⟨h1, h2, _⟩ => exact absurd (h1 ▸ h2) (by omega)
  | .inl (cA, n, .inl f), ⟨_, ⟨t0, h2⟩, h3, h4⟩ => exact ⟨cA, f, t0, by rw [h3], h2, h4⟩
  | .inl (cA, n, .inr (.inr (.inr (.inr f)))), ⟨h1, _⟩ => rcases h1 with ⟨h1, -⟩ | ⟨h1, -⟩ <;> exact absurd h1 (by simp)
theorem x_obj {tys : List (ClassId × FieldType)} {ci : Nat} {fs : List Value} {ev : va_E} (h : x_R o sio sz tys (ci, fs) ev) (hc : ci < 10) : ci < 7 ∧ ev = .inr (ci, fs.map (x_tr o sio sz)) := by
  match ev, h with
  | .inr q, ⟨h1, h2, h3⟩ =>
    obtain ⟨q1, q2⟩ := q
    cases h1
    cases h3
    exact ⟨h2, rfl⟩
  | .inl (cA, n, .inl f), ⟨h1, _⟩ => exact absurd h1 (by show ¬ ci = 10; omega)
  | .inl (cA, n, .inr (.inr (.inr (.inr f)))), ⟨h1, _⟩ => rcases h1 with ⟨h1, -⟩ | ⟨h1, -⟩ <;> exact absurd h1 (by show ¬ ci = _; omega)
theorem x_arq {tys : List (ClassId × FieldType)} {ct : Nat} {vs : List Value} {ev : va_E} (h : x_R o sio sz tys (ct, vs) ev) (hc : ct = 11 ∨ ct = 12) : ∃ (cA : ClassId) (f : Nat → Option Nat) (t0 : Nat), ev = .inl (cA, vs.length, .inr (.inr (.inr (.inr f)))) ∧ ((ct = 11 ∧ tys[t0]? = some (cA, FieldType.object RX2)) ∨ (ct = 12 ∧ tys[t0]? = some (cA, FieldType.object RX0))) ∧ ∀ (j : Nat) (v : Value), vs[j]? = some v → x_tr o sio sz v = va_rf (f j) := by
  match ev, h with
  | .inr q, ⟨h1, h2, _⟩ =>
    have h1' : ct = q.1 := h1
    exact absurd h2 (by omega)
  | .inl (cA, n, .inl f), ⟨h1, _⟩ =>
    have h1' : ct = 10 := h1
    exact absurd h1' (by omega)
  | .inl (cA, n, .inr (.inr (.inr (.inr f)))), ⟨h1, h2, h3⟩ =>
    rcases h1 with ⟨h1, t0, ht⟩ | ⟨h1, t0, ht⟩
    · exact ⟨cA, f, t0, by rw [h2], Or.inl ⟨h1, ht⟩, h3⟩
    · exact ⟨cA, f, t0, by rw [h2], Or.inr ⟨h1, ht⟩, h3⟩
theorem x_tr8 {k : Nat} (h : 8 ≤ k) : x_tr o sio sz (.ref k) = .ref (x_ad o sz k) := x_tr_ref (by omega)
theorem x_lt8 {q : Nat} (h : ¬ 8 ≤ q) : q = 0 ∨ q = 1 ∨ q = 2 ∨ q = 3 ∨ q = 4 ∨ q = 5 ∨ q = 6 ∨ q = 7 := by omega
theorem x_in_of {i : Int32} {n : Nat} (h0 : ¬ i < 0) (h : i.toNatClampNeg < n) : vp_in i n := fun z => z.elim h0 (fun z => by omega)
theorem x_gD {xs : List Int32} {k : Nat} {v : Int32} (h : (xs.map Value.int)[k]? = some (.int v)) : xs.getD k 0 = v := by
  rw [List.getElem?_map, Option.map_eq_some_iff] at h
  obtain ⟨w, h1, h2⟩ := h
  cases h2
  rw [List.getD_eq_getElem?_getD, h1]
  rfl
set_option maxHeartbeats 16000000 in
set_option maxRecDepth 20000 in
theorem x_sound1 {r i : Instr} {n pc pc' : Nat} {L S L' S' : List Value} {h h' : x_H} {ls : Array Slot} (C : x_Ctx o sio sz xs y dR n0 p R s m args meth c)
    (hd : decode (x_by y) pc = .ok (r, n)) (hn : (x_sw r || n == x_len r) = true) (hr : x_res (x_cy y) pc r = some i) (hs : x_step (x_kd y == 2) i pc (pc + n) L S h = some (pc', L', S', h'))
    (hL : x_L o sio sz ls L) (hLl : L.length = x_ml y) (hW : x_W o sio sz xs D h H s) (hS : va_S (x_A sz) s.heap H locs) (hn0 : n0 ≤ h.length) (hs0 : s0 ≤ x_sz h) (hR1 : h'.length - n0 ≤ R.cells) (hR2 : x_sz h' - s0 ≤ R.slots)
    (kk : ∀ (ls' : Array Slot) (H' : Heap) (locs' : List Loc), x_L o sio sz ls' L' → x_W o sio sz xs D h' H' s → va_S (x_A sz) s.heap H' locs' → W p l e R s m args below meth c H' locs' (h'.length - n0) (x_sz h' - s0) Q (F0 m pc' ls' (S'.map (x_tr o sio sz)))) :
    W p l e R s m args below meth c H locs (h.length - n0) (x_sz h - s0) Q (F0 m pc ls (S.map (x_tr o sio sz))) := by
  obtain ⟨hx, hb, hml, hown, hts, hO, hsz, h8, hini, hRf, hRl, hlk, hsio⟩ := C
  have hlL : lv_has ls L.length (x_ll o sio sz L) := hL.has
  have hAA : ∀ q, s.heap.size ≤ q → x_A sz q := fun q hq => by show sz ≤ q; omega
  cases r with
  | iconst v =>
    cases hr
    cases (show n = 1 by simpa [x_sw, x_len] using hn)
    cases hs
    exact lv_iconst hx hb hd rfl (kk ls H locs hL hW hS)
  | bipush v =>
    cases hr
    cases (show n = 2 by simpa [x_sw, x_len] using hn)
    cases hs
    refine lv_bipush hx hb hd rfl ?_
    have := kk ls H locs hL hW hS
    simp only [Int32.ofInt_toInt] at this
    exact this
  | sipush v =>
    cases hr
    cases (show n = 3 by simpa [x_sw, x_len] using hn)
    cases hs
    refine lv_sipush hx hb hd rfl ?_
    have := kk ls H locs hL hW hS
    simp only [Int32.ofInt_toInt] at this
    exact this
  | ldc k =>
    cases (show n = 2 by simpa [x_sw, x_len] using hn)
    simp only [x_res] at hr
    split at hr
    next v hv =>
      cases hr
      cases hs
      refine lv_ldc hx hb hown (hts _ (x_kt_w hv)) hd ?_
      have := kk ls H locs hL hW hS
      simp only [Int32.ofInt_toInt] at this
      exact this
    next =>
      split at hr
      next hc =>
        cases hr
        cases hs
        rw [hc.1] at hown
        rw [hc.2] at hd
        exact va_ldcS hx hb (own := "WindowCards") hown hO.2.2.2.1.1 hd (kk ls H locs hL hW hS)
      next =>
        split at hr
        next hc =>
          cases hr
          cases hs
          rw [hc.1] at hown
          rw [hc.2] at hd
          exact va_ldcS hx hb (own := "WindowCards") hown hO.2.2.2.1.2 hd (kk ls H locs hL hW hS)
        next => cases hr
  | ldc_w k =>
    cases (show n = 3 by simpa [x_sw, x_len] using hn)
    simp only [x_res] at hr
    split at hr
    next v hv =>
      cases hr
      cases hs
      refine lv_ldcw hx hb hown (hts _ (x_kt_w hv)) hd ?_
      have := kk ls H locs hL hW hS
      simp only [Int32.ofInt_toInt] at this
      exact this
    next => cases hr
  | lconst k =>
    cases hr
    cases (show n = 1 by simpa [x_sw, x_len] using hn)
    cases hs
    exact lv_lconst hx hb hd rfl (kk ls H locs hL hW hS)
  | ldc2_w k =>
    cases (show n = 3 by simpa [x_sw, x_len] using hn)
    simp only [x_res] at hr
    split at hr
    next v hv =>
      cases hr
      cases hs
      exact lv_ldc2 hx hb hown (hts _ (x_kl_w hv)) hd (kk ls H locs hL hW hS)
    next => cases hr
  | iload_n k =>
    cases hr
    cases (show n = 1 by simpa [x_sw, x_len] using hn)
    simp only [x_step] at hs
    split at hs
    next x hx1 =>
      cases hs
      exact lv_iload_n hx hb hd rfl (hL.2.2 _ _ hx1 (by simp)) (kk ls H locs hL hW hS)
    next => cases hs
  | iload k =>
    cases hr
    cases (show n = 2 by simpa [x_sw, x_len] using hn)
    simp only [x_step] at hs
    split at hs
    next x hx1 =>
      cases hs
      exact lv_iload hx hb hd (hL.2.2 _ _ hx1 (by simp)) (kk ls H locs hL hW hS)
    next => cases hs
  | lload_n k =>
    cases hr
    cases (show n = 1 by simpa [x_sw, x_len] using hn)
    simp only [x_step] at hs
    split at hs
    next x hx1 =>
      cases hs
      exact lv_lload_n hx hb hd rfl (hL.2.2 _ _ hx1 (by simp)) (kk ls H locs hL hW hS)
    next => cases hs
  | lload k =>
    cases hr
    cases (show n = 2 by simpa [x_sw, x_len] using hn)
    simp only [x_step] at hs
    split at hs
    next x hx1 =>
      cases hs
      exact lv_lload hx hb hd (hL.2.2 _ _ hx1 (by simp)) (kk ls H locs hL hW hS)
    next => cases hs
  | aload_n k =>
    cases hr
    cases (show n = 1 by simpa [x_sw, x_len] using hn)
    simp only [x_step] at hs
    split at hs
    next q hx1 =>
      split at hs
      next => cases hs
      next hq =>
        cases hs
        have h1 := hL.2.2 _ _ hx1 (by simp)
        have h2 := kk ls H locs hL hW hS
        rw [List.map_cons] at h2
        rw [x_tr_ref hq] at h1 h2
        exact lv_aload_n hx hb hd rfl h1 h2
    next => cases hs
  | aload k =>
    cases hr
    cases (show n = 2 by simpa [x_sw, x_len] using hn)
    simp only [x_step] at hs
    split at hs
    next q hx1 =>
      split at hs
      next => cases hs
      next hq =>
        cases hs
        have h1 := hL.2.2 _ _ hx1 (by simp)
        have h2 := kk ls H locs hL hW hS
        rw [List.map_cons] at h2
        rw [x_tr_ref hq] at h1 h2
        exact lv_aload hx hb hd h1 h2
    next => cases hs
  | istore_n k =>
    cases hr
    cases (show n = 1 by simpa [x_sw, x_len] using hn)
    simp only [x_step] at hs
    split at hs
    next x st =>
      split at hs
      next hk =>
        cases hs
        exact lv_istore_n hx hb hd rfl hlL hk rfl (fun ls' hl' => kk ls' H locs (x_L.st1 (v := .int x) hsio hl' hk) hW hS)
      next => cases hs
    next => cases hs
  | istore k =>
    cases hr
    cases (show n = 2 by simpa [x_sw, x_len] using hn)
    simp only [x_step] at hs
    split at hs
    next x st =>
      split at hs
      next hk =>
        cases hs
        exact lv_istore hx hb hd hlL hk rfl (fun ls' hl' => kk ls' H locs (x_L.st1 (v := .int x) hsio hl' hk) hW hS)
      next => cases hs
    next => cases hs
  | lstore_n k =>
    cases hr
    cases (show n = 1 by simpa [x_sw, x_len] using hn)
    simp only [x_step] at hs
    split at hs
    next x st =>
      split at hs
      next hk =>
        cases hs
        exact lv_lstore_n hx hb hd rfl hlL hk rfl (fun ls' hl' => kk ls' H locs (x_L.st2 (v := .long x) hsio hl' hk) hW hS)
      next => cases hs
    next => cases hs
  | lstore k =>
    cases hr
    cases (show n = 2 by simpa [x_sw, x_len] using hn)
    simp only [x_step] at hs
    split at hs
    next x st =>
      split at hs
      next hk =>
        cases hs
        exact lv_lstore hx hb hd hlL hk rfl (fun ls' hl' => kk ls' H locs (x_L.st2 (v := .long x) hsio hl' hk) hW hS)
      next => cases hs
    next => cases hs
  | astore_n k =>
    cases hr
    cases (show n = 1 by simpa [x_sw, x_len] using hn)
    simp only [x_step] at hs
    split at hs
    next q st =>
      split at hs
      next hk =>
        cases hs
        rw [List.map_cons, x_tr_ref hk.2]
        exact lv_astore_n hx hb hd rfl hlL hk.1 rfl (fun ls' hl' => kk ls' H locs (x_L.st1 (v := .ref q) hsio (by rw [x_tr_ref hk.2]; exact hl') hk.1) hW hS)
      next => cases hs
    next => cases hs
  | astore k =>
    cases hr
    cases (show n = 2 by simpa [x_sw, x_len] using hn)
    simp only [x_step] at hs
    split at hs
    next q st =>
      split at hs
      next hk =>
        cases hs
        rw [List.map_cons, x_tr_ref hk.2]
        exact lv_astore hx hb hd hlL hk.1 rfl (fun ls' hl' => kk ls' H locs (x_L.st1 (v := .ref q) hsio (by rw [x_tr_ref hk.2]; exact hl') hk.1) hW hS)
      next => cases hs
    next => cases hs
  | iinc k v =>
    cases hr
    cases (show n = 3 by simpa [x_sw, x_len] using hn)
    simp only [x_step] at hs
    split at hs
    next x hx1 =>
      cases hs
      have hk : k < L.length := (List.getElem?_eq_some_iff.mp hx1).1
      obtain ⟨j, hj⟩ := List.getElem?_of_mem (x_mem_ll (o := o) (sio := sio) (sz := sz) (q := (k, .int x)) |>.mpr ⟨.int x, hx1, by simp, rfl⟩)
      exact lv_iinc hx hb hd hlL hj rfl hk rfl (fun ls' hl' => kk ls' H locs (x_L.st1 (v := .int (x + Int32.ofInt v)) hsio hl' hk) hW hS)
    next => cases hs
  | iadd =>
    cases hr
    cases (show n = 1 by simpa [x_sw, x_len] using hn)
    simp only [x_step] at hs
    obtain ⟨x, z, st, v, rfl, hf, rfl, rfl, rfl, rfl⟩ := x_bi_w hs
    cases hf
    exact lv_iadd hx hb hd (kk ls H locs hL hW hS)
  | isub =>
    cases hr
    cases (show n = 1 by simpa [x_sw, x_len] using hn)
    simp only [x_step] at hs
    obtain ⟨x, z, st, v, rfl, hf, rfl, rfl, rfl, rfl⟩ := x_bi_w hs
    cases hf
    exact lv_isub hx hb hd (kk ls H locs hL hW hS)
  | imul =>
    cases hr
    cases (show n = 1 by simpa [x_sw, x_len] using hn)
    simp only [x_step] at hs
    obtain ⟨x, z, st, v, rfl, hf, rfl, rfl, rfl, rfl⟩ := x_bi_w hs
    cases hf
    exact lv_imul hx hb hd (kk ls H locs hL hW hS)
  | idiv =>
    cases hr
    cases (show n = 1 by simpa [x_sw, x_len] using hn)
    simp only [x_step] at hs
    obtain ⟨x, z, st, v, rfl, hf, rfl, rfl, rfl, rfl⟩ := x_bi_w hs
    split at hf
    next => cases hf
    next hne =>
      cases hf
      exact lv_idiv hx hb hd hne (kk ls H locs hL hW hS)
  | irem =>
    cases hr
    cases (show n = 1 by simpa [x_sw, x_len] using hn)
    simp only [x_step] at hs
    obtain ⟨x, z, st, v, rfl, hf, rfl, rfl, rfl, rfl⟩ := x_bi_w hs
    split at hf
    next => cases hf
    next hne =>
      cases hf
      exact lv_irem hx hb hd hne (kk ls H locs hL hW hS)
  | ineg =>
    cases hr
    cases (show n = 1 by simpa [x_sw, x_len] using hn)
    simp only [x_step] at hs
    obtain ⟨x, st, rfl, rfl, rfl, rfl, rfl⟩ := x_un_w hs
    exact lv_ineg hx hb hd (kk ls H locs hL hW hS)
  | iand =>
    cases hr
    cases (show n = 1 by simpa [x_sw, x_len] using hn)
    simp only [x_step] at hs
    obtain ⟨x, z, st, v, rfl, hf, rfl, rfl, rfl, rfl⟩ := x_bi_w hs
    cases hf
    exact lv_iand hx hb hd (kk ls H locs hL hW hS)
  | ior =>
    cases hr
    cases (show n = 1 by simpa [x_sw, x_len] using hn)
    simp only [x_step] at hs
    obtain ⟨x, z, st, v, rfl, hf, rfl, rfl, rfl, rfl⟩ := x_bi_w hs
    cases hf
    exact lv_ior hx hb hd (kk ls H locs hL hW hS)
  | ixor =>
    cases hr
    cases (show n = 1 by simpa [x_sw, x_len] using hn)
    simp only [x_step] at hs
    obtain ⟨x, z, st, v, rfl, hf, rfl, rfl, rfl, rfl⟩ := x_bi_w hs
    cases hf
    exact lv_ixor hx hb hd (kk ls H locs hL hW hS)
  | ishl =>
    cases hr
    cases (show n = 1 by simpa [x_sw, x_len] using hn)
    simp only [x_step] at hs
    obtain ⟨x, z, st, v, rfl, hf, rfl, rfl, rfl, rfl⟩ := x_bi_w hs
    cases hf
    exact lv_ishl hx hb hd (kk ls H locs hL hW hS)
  | ishr =>
    cases hr
    cases (show n = 1 by simpa [x_sw, x_len] using hn)
    simp only [x_step] at hs
    obtain ⟨x, z, st, v, rfl, hf, rfl, rfl, rfl, rfl⟩ := x_bi_w hs
    cases hf
    exact lv_ishr hx hb hd (kk ls H locs hL hW hS)
  | iushr =>
    cases hr
    cases (show n = 1 by simpa [x_sw, x_len] using hn)
    simp only [x_step] at hs
    obtain ⟨x, z, st, v, rfl, hf, rfl, rfl, rfl, rfl⟩ := x_bi_w hs
    cases hf
    exact lv_iushr hx hb hd rfl (kk ls H locs hL hW hS)
  | i2b =>
    cases hr
    cases (show n = 1 by simpa [x_sw, x_len] using hn)
    simp only [x_step] at hs
    obtain ⟨x, st, rfl, rfl, rfl, rfl, rfl⟩ := x_un_w hs
    exact lv_i2b hx hb hd rfl (kk ls H locs hL hW hS)
  | i2s =>
    cases hr
    cases (show n = 1 by simpa [x_sw, x_len] using hn)
    simp only [x_step] at hs
    obtain ⟨x, st, rfl, rfl, rfl, rfl, rfl⟩ := x_un_w hs
    exact lv_i2s hx hb hd rfl (kk ls H locs hL hW hS)
  | i2c =>
    cases hr
    cases (show n = 1 by simpa [x_sw, x_len] using hn)
    simp only [x_step] at hs
    obtain ⟨x, st, rfl, rfl, rfl, rfl, rfl⟩ := x_un_w hs
    exact lv_i2c hx hb hd rfl (kk ls H locs hL hW hS)
  | ladd =>
    cases hr
    cases (show n = 1 by simpa [x_sw, x_len] using hn)
    simp only [x_step] at hs
    obtain ⟨x, z, st, v, rfl, hf, rfl, rfl, rfl, rfl⟩ := x_bl_w hs
    cases hf
    exact lv_ladd hx hb hd (kk ls H locs hL hW hS)
  | lmul =>
    cases hr
    cases (show n = 1 by simpa [x_sw, x_len] using hn)
    simp only [x_step] at hs
    obtain ⟨x, z, st, v, rfl, hf, rfl, rfl, rfl, rfl⟩ := x_bl_w hs
    cases hf
    exact lv_lmul hx hb hd (kk ls H locs hL hW hS)
  | land =>
    cases hr
    cases (show n = 1 by simpa [x_sw, x_len] using hn)
    simp only [x_step] at hs
    obtain ⟨x, z, st, v, rfl, hf, rfl, rfl, rfl, rfl⟩ := x_bl_w hs
    cases hf
    exact lv_land hx hb hd (kk ls H locs hL hW hS)
  | lor =>
    cases hr
    cases (show n = 1 by simpa [x_sw, x_len] using hn)
    simp only [x_step] at hs
    obtain ⟨x, z, st, v, rfl, hf, rfl, rfl, rfl, rfl⟩ := x_bl_w hs
    cases hf
    exact lv_lor hx hb hd (kk ls H locs hL hW hS)
  | lrem =>
    cases hr
    cases (show n = 1 by simpa [x_sw, x_len] using hn)
    simp only [x_step] at hs
    obtain ⟨x, z, st, v, rfl, hf, rfl, rfl, rfl, rfl⟩ := x_bl_w hs
    split at hf
    next => cases hf
    next hne =>
      cases hf
      exact lv_lrem hx hb hd hne (kk ls H locs hL hW hS)
  | lcmp =>
    cases hr
    cases (show n = 1 by simpa [x_sw, x_len] using hn)
    simp only [x_step] at hs
    split at hs
    next z x st =>
      cases hs
      exact W.lcmp hx hb hd (kk ls H locs hL hW hS)
    next => cases hs
  | lshl =>
    cases hr
    cases (show n = 1 by simpa [x_sw, x_len] using hn)
    simp only [x_step] at hs
    split at hs
    next z x st =>
      cases hs
      exact lv_lshl hx hb hd rfl (kk ls H locs hL hW hS)
    next => cases hs
  | lshr =>
    cases hr
    cases (show n = 1 by simpa [x_sw, x_len] using hn)
    simp only [x_step] at hs
    split at hs
    next z x st =>
      cases hs
      exact lv_lshr hx hb hd rfl (kk ls H locs hL hW hS)
    next => cases hs
  | i2l =>
    cases hr
    cases (show n = 1 by simpa [x_sw, x_len] using hn)
    simp only [x_step] at hs
    split at hs
    next x st =>
      cases hs
      exact lv_i2l hx hb hd rfl (kk ls H locs hL hW hS)
    next => cases hs
  | l2i =>
    cases hr
    cases (show n = 1 by simpa [x_sw, x_len] using hn)
    simp only [x_step] at hs
    split at hs
    next x st =>
      cases hs
      exact lv_l2i hx hb hd rfl (kk ls H locs hL hW hS)
    next => cases hs
  | dup =>
    cases hr
    cases (show n = 1 by simpa [x_sw, x_len] using hn)
    simp only [x_step] at hs
    split at hs
    next v st =>
      split at hs
      next hv =>
        cases hs
        exact lv_dup hx hb hd (by rw [x_tr_cat hsio]; exact hv) (kk ls H locs hL hW hS)
      next => cases hs
    next => cases hs
  | pop =>
    cases hr
    cases (show n = 1 by simpa [x_sw, x_len] using hn)
    simp only [x_step] at hs
    split at hs
    next v st =>
      split at hs
      next hv =>
        cases hs
        exact lv_pop hx hb hd (by rw [x_tr_cat hsio]; exact hv) (kk ls H locs hL hW hS)
      next => cases hs
    next => cases hs
  | dup2 =>
    cases hr
    cases (show n = 1 by simpa [x_sw, x_len] using hn)
    simp only [x_step] at hs
    split at hs
    next v w st =>
      split at hs
      next hv =>
        cases hs
        exact lv_dup2_11 hx hb hd (by rw [x_tr_cat hsio]; exact hv.1) (by rw [x_tr_cat hsio]; exact hv.2) (kk ls H locs hL hW hS)
      next => cases hs
    next => cases hs
  | goto off =>
    cases (show n = 3 by simpa [x_sw, x_len] using hn)
    simp only [x_res] at hr
    split at hr
    next t ht =>
      cases hr
      cases hs
      exact lv_goto hx hb hd (x_to_w ht) (kk ls H locs hL hW hS)
    next => cases hr
  | ifCond q off =>
    cases (show n = 3 by simpa [x_sw, x_len] using hn)
    simp only [x_res] at hr
    split at hr
    next t ht =>
      cases hr
      simp only [x_step] at hs
      split at hs
      next x st =>
        cases hs
        have k := kk ls H locs hL hW hS
        have ht' := x_to_w ht
        cases q with
        | eq => exact lv_if_eq hx hb hd ht' (fun z => by rw [if_pos (by simpa [x_cc] using z)] at k; exact k) (fun z => by rw [if_neg (by simpa [x_cc] using z)] at k; exact k)
        | ne => exact lv_if_ne hx hb hd ht' (fun z => by rw [if_pos (by simpa [x_cc] using z)] at k; exact k) (fun z => by rw [if_neg (by simpa [x_cc] using z)] at k; exact k)
        | lt => exact lv_if_lt hx hb hd ht' (fun z => by rw [if_pos (by simpa only [x_cc, decide_eq_true_eq] using z)] at k; exact k) (fun z => by rw [if_neg (by simpa only [x_cc, decide_eq_true_eq] using z)] at k; exact k)
        | ge => exact lv_if_ge hx hb hd ht' (fun z => by rw [if_pos (by simpa only [x_cc, decide_eq_true_eq] using z)] at k; exact k) (fun z => by rw [if_neg (by simpa only [x_cc, decide_eq_true_eq] using z)] at k; exact k)
        | gt => exact lv_if_gt hx hb hd ht' (fun z => by rw [if_pos (by simpa only [x_cc, decide_eq_true_eq] using z)] at k; exact k) (fun z => by rw [if_neg (by simpa only [x_cc, decide_eq_true_eq] using z)] at k; exact k)
        | le => exact lv_if_le hx hb hd ht' (fun z => by rw [if_pos (by simpa only [x_cc, decide_eq_true_eq] using z)] at k; exact k) (fun z => by rw [if_neg (by simpa only [x_cc, decide_eq_true_eq] using z)] at k; exact k)
      next => cases hs
    next => cases hr
  | if_icmp q off =>
    cases (show n = 3 by simpa [x_sw, x_len] using hn)
    simp only [x_res] at hr
    split at hr
    next t ht =>
      cases hr
      simp only [x_step] at hs
      split at hs
      next x2 x st =>
        cases hs
        have k := kk ls H locs hL hW hS
        have ht' := x_to_w ht
        cases q with
        | eq => exact lv_icmp_eq hx hb hd ht' (fun z => by rw [if_pos (by simpa only [x_cc, decide_eq_true_eq] using z)] at k; exact k) (fun z => by rw [if_neg (by simpa only [x_cc, decide_eq_true_eq] using z)] at k; exact k)
        | ne => exact lv_icmp_ne hx hb hd ht' (fun z => by rw [if_pos (by simpa only [x_cc, decide_eq_true_eq] using z)] at k; exact k) (fun z => by rw [if_neg (by simp only [x_cc, decide_eq_true_eq]; exact not_not_intro z)] at k; exact k)
        | lt => exact lv_icmp_lt hx hb hd ht' (fun z => by rw [if_pos (by simpa only [x_cc, decide_eq_true_eq] using z)] at k; exact k) (fun z => by rw [if_neg (by simpa only [x_cc, decide_eq_true_eq] using z)] at k; exact k)
        | ge => exact lv_icmp_ge hx hb hd ht' (fun z => by rw [if_pos (by simpa only [x_cc, decide_eq_true_eq] using z)] at k; exact k) (fun z => by rw [if_neg (by simpa only [x_cc, decide_eq_true_eq] using z)] at k; exact k)
        | gt => exact lv_icmp_gt hx hb hd ht' (fun z => by rw [if_pos (by simpa only [x_cc, decide_eq_true_eq] using z)] at k; exact k) (fun z => by rw [if_neg (by simpa only [x_cc, decide_eq_true_eq] using z)] at k; exact k)
        | le => exact lv_icmp_le hx hb hd ht' (fun z => by rw [if_pos (by simpa only [x_cc, decide_eq_true_eq] using z)] at k; exact k) (fun z => by rw [if_neg (by simpa only [x_cc, decide_eq_true_eq] using z)] at k; exact k)
      next => cases hs
    next => cases hr
  | tableswitch d lo hi offs =>
    cases hr
    simp only [x_step] at hs
    split at hs
    next x st =>
      split at hs
      next hc =>
        split at hs
        next t ht =>
          cases hs
          exact lv_tableOut hx hb hd hc (x_to_w ht) (kk ls H locs hL hW hS)
        next => cases hs
      next hc =>
        split at hs
        next of hof =>
          split at hs
          next t ht =>
            cases hs
            exact lv_tableIn hx hb hd (fun z => hc (Or.inl z)) (fun z => hc (Or.inr z)) hof (x_to_w ht) (kk ls H locs hL hW hS)
          next => cases hs
        next => cases hs
    next => cases hs
  | lookupswitch d ps =>
    cases hr
    simp only [x_step] at hs
    split at hs
    next x st =>
      split at hs
      next hc =>
        split at hs
        next t ht =>
          cases hs
          exact lv_lookup hx hb hd hc rfl (x_to_w ht) (kk ls H locs hL hW hS)
        next => cases hs
      next => cases hs
    next => cases hs
  | getfield k =>
    cases (show n = 3 by simpa [x_sw, x_len] using hn)
    simp only [x_res] at hr
    split at hr
    next ev hev =>
      cases hr
      have hb8 := x_ft_b hev
      have hw := hts _ (x_ft_w hev)
      simp only [x_step] at hs
      split at hs
      next q st =>
        split at hs
        next ci fs hq =>
          split at hs
          next hci =>
            split at hs
            next v hv =>
              cases hs
              subst hci
              by_cases hq8 : 8 ≤ q
              · obtain ⟨ws, tys, hP, hD, hK, hQ⟩ := hW
                obtain ⟨cv, g1, g2⟩ := hQ.new hq8 hq
                obtain ⟨h7, rfl⟩ := x_obj g2 (by omega)
                rw [List.map_cons, x_tr8 hq8]
                rw [x_fd7 h7] at hw
                have hkN : ev % 32 < x_N (ev / 32) := by
                  rcases hb8 with z | z
                  · omega
                  · exact z.2
                exact va_get (D := D) hx hb hts (x_hin h7) hown hK hP (q - 8) g1 (x_cl7 h7) (ev % 32) hkN hw (fun _ z => z) (v := x_tr o sio sz v) (by rw [List.getElem?_map, hv]; rfl) hd (kk ls H locs hL ⟨ws, tys, hP, hD, hK, hQ⟩ hS)
              · have hW' := hW
                obtain ⟨ws, tys, hP, hD, hK, hQ⟩ := hW'
                have ho := hQ.old (Nat.lt_of_not_le hq8) hq
                have hO3 := hO.2.2.1
                rcases x_lt8 hq8 with rfl | rfl | rfl | rfl | rfl | rfl | rfl | rfl
                · exact absurd (congrArg Prod.fst (Option.some.inj ho)) (by show ¬ (10 : Nat) = _; omega)
                · exact absurd (congrArg Prod.fst (Option.some.inj ho)) (by show ¬ (10 : Nat) = _; omega)
                · exact absurd (congrArg Prod.fst (Option.some.inj ho)) (by show ¬ (10 : Nat) = _; omega)
                · have h1 : 8 = ev / 32 := congrArg Prod.fst (Option.some.inj ho)
                  have h2 : ([.ref 5, .int 0] : List Value) = fs := congrArg Prod.snd (Option.some.inj ho)
                  subst h2
                  rcases (by omega : ev % 32 = 0 ∨ ev % 32 = 1) with h3 | h3
                  · rw [h3] at hv
                    cases hv
                    have hfd : x_fd ev = ("java/lang/String", "value", "[B") := by unfold x_fd; rw [if_pos h1.symm, if_pos h3]
                    rw [hfd] at hw
                    exact vk_getf hx hb (hO3.1 0 (by decide)).2.2.1 hS hown hw (fun _ z => z) hd (kk ls H locs hL hW hS)
                  · rw [h3] at hv
                    cases hv
                    have hfd : x_fd ev = ("java/lang/String", "coder", "B") := by unfold x_fd; rw [if_pos h1.symm, if_neg (by omega)]
                    rw [hfd] at hw
                    exact vk_getf hx hb (hO3.1 0 (by decide)).2.1 hS hown hw (fun _ z => z) hd (kk ls H locs hL hW hS)
                · have h1 : 8 = ev / 32 := congrArg Prod.fst (Option.some.inj ho)
                  have h2 : ([.ref 6, .int 0] : List Value) = fs := congrArg Prod.snd (Option.some.inj ho)
                  subst h2
                  rcases (by omega : ev % 32 = 0 ∨ ev % 32 = 1) with h3 | h3
                  · rw [h3] at hv
                    cases hv
                    have hfd : x_fd ev = ("java/lang/String", "value", "[B") := by unfold x_fd; rw [if_pos h1.symm, if_pos h3]
                    rw [hfd] at hw
                    exact vk_getf hx hb (hO3.1 1 (by decide)).2.2.1 hS hown hw (fun _ z => z) hd (kk ls H locs hL hW hS)
                  · rw [h3] at hv
                    cases hv
                    have hfd : x_fd ev = ("java/lang/String", "coder", "B") := by unfold x_fd; rw [if_pos h1.symm, if_neg (by omega)]
                    rw [hfd] at hw
                    exact vk_getf hx hb (hO3.1 1 (by decide)).2.1 hS hown hw (fun _ z => z) hd (kk ls H locs hL hW hS)
                · exact absurd (congrArg Prod.fst (Option.some.inj ho)) (by show ¬ (14 : Nat) = _; omega)
                · exact absurd (congrArg Prod.fst (Option.some.inj ho)) (by show ¬ (14 : Nat) = _; omega)
                · exact absurd (congrArg Prod.fst (Option.some.inj ho)) (by show ¬ (99 : Nat) = _; omega)
            next => cases hs
          next => cases hs
        next => cases hs
      next => cases hs
    next => cases hr
  | putfield k =>
    cases (show n = 3 by simpa [x_sw, x_len] using hn)
    simp only [x_res] at hr
    split at hr
    next ev hev =>
      have hw := hts _ (x_ft_w hev)
      have hb8 := x_ft_b hev
      split at hr
      next h7 =>
        rw [x_fd7 h7] at hw
        have hkN : ev % 32 < x_N (ev / 32) := by
          rcases hb8 with z | z
          · omega
          · exact z.2
        split at hr
        next hff =>
          split at hr
          next hdc =>
            cases hr
            simp only [x_step] at hs
            split at hs
            next v q st =>
              split at hs
              next ci fs hq =>
                split at hs
                next hc =>
                  cases hs
                  obtain ⟨hin2, rfl, hq8, hkl, hfit⟩ := hc
                  obtain ⟨ws, tys, hP, hD, hK, hQ⟩ := hW
                  obtain ⟨cv, g1, g2⟩ := hQ.new hq8 hq
                  obtain ⟨-, rfl⟩ := x_obj g2 (by omega)
                  have hft := x_fit_tr (o := o) (sio := sio) (sz := sz) hfit
                  rw [List.map_cons, List.map_cons, x_tr8 hq8]
                  rw [x_fd7 h7] at hdc
                  refine va_putF (D := D) hx hb hts (x_hin h7) (x_ty (ev / 32)) (x_hty h7) (x_hnm h7) hown hK hP hD hS (q - 8) g1 (x_cl7 h7) (ev % 32) hkN hw (fun _ z => z) hff (hini (by simpa using hin2)) hdc (x_hty h7 _ hkN) hft.1 hft.2 (by rw [List.length_map]; exact hkl) hd (fun H1 locs1 hP1 hD1 hS1 => ?_)
                  have k1 := kk ls H1 locs1 hL ⟨_, tys, hP1, hD1, hK, hQ.set hq8 (List.getElem?_eq_some_iff.mp hq).1 ⟨rfl, h7, by simp only [List.map_set]⟩⟩ hS1
                  rw [List.length_set, x_sz_set hq List.length_set] at k1
                  exact k1
                next => cases hs
              next => cases hs
            next => cases hs
          next => cases hr
        next hff =>
          cases hr
          simp only [x_step] at hs
          split at hs
          next v q st =>
            split at hs
            next ci fs hq =>
              split at hs
              next hc =>
                cases hs
                obtain ⟨rfl, hq8, hkl, hfit⟩ := hc
                obtain ⟨ws, tys, hP, hD, hK, hQ⟩ := hW
                obtain ⟨cv, g1, g2⟩ := hQ.new hq8 hq
                obtain ⟨-, rfl⟩ := x_obj g2 (by omega)
                have hft := x_fit_tr (o := o) (sio := sio) (sz := sz) hfit
                rw [List.map_cons, List.map_cons, x_tr8 hq8]
                refine va_put (D := D) hx hb hts (x_hin h7) (x_ty (ev / 32)) (x_hty h7) (x_hnm h7) hown hK hP hD hS (q - 8) g1 (x_cl7 h7) (ev % 32) hkN hw (fun _ z => z) (by simpa [x_ff] using hff) (x_hty h7 _ hkN) hft.1 hft.2 (by rw [List.length_map]; exact hkl) hd (fun H1 locs1 hP1 hD1 hS1 => ?_)
                have k1 := kk ls H1 locs1 hL ⟨_, tys, hP1, hD1, hK, hQ.set hq8 (List.getElem?_eq_some_iff.mp hq).1 ⟨rfl, h7, by simp only [List.map_set]⟩⟩ hS1
                rw [List.length_set, x_sz_set hq List.length_set] at k1
                exact k1
              next => cases hs
            next => cases hs
          next => cases hs
      next => cases hr
    next => cases hr
  | getstatic k =>
    cases (show n = 3 by simpa [x_sw, x_len] using hn)
    simp only [x_res] at hr
    split at hr
    next j hj =>
      cases hr
      have hw := hts _ (x_sf_w hj)
      match j, hs, hw with
      | 0, hs, hw =>
        cases hs
        exact va_gets hx hb hO.2.1.1 hS hown hw (fun _ z => z) hd (kk ls H locs hL hW hS)
      | 1, hs, hw =>
        cases hs
        exact va_gets hx hb hO.2.1.2.1 hS hown hw (fun _ z => z) hd (kk ls H locs hL hW hS)
      | 2, hs, hw =>
        cases hs
        exact va_gets hx hb hO.2.1.2.2.1 hS hown hw (fun _ z => z) hd (kk ls H locs hL hW hS)
      | 3, hs, hw =>
        cases hs
        exact va_gets hx hb hO.2.1.2.2.2 hS hown hw (fun _ z => z) hd (kk ls H locs hL hW hS)
      | j + 4, hs, hw => cases hs
    next => cases hr
  | iaload =>
    cases hr
    cases (show n = 1 by simpa [x_sw, x_len] using hn)
    simp only [x_step] at hs
    split at hs
    next ix q st =>
      split at hs
      next ci vs hq =>
        split at hs
        next hc =>
          split at hs
          next v hv =>
            cases hs
            obtain ⟨rfl, h0⟩ := hc
            have hlt : ix.toNatClampNeg < vs.length := (List.getElem?_eq_some_iff.mp hv).1
            have k1 := kk ls H locs hL hW hS
            by_cases hq8 : 8 ≤ q
            · obtain ⟨ws, tys, hP, hD, hK, hQ⟩ := hW
              obtain ⟨cv, g1, g2⟩ := hQ.new hq8 hq
              obtain ⟨cA, f, t0, rfl, ht, hf⟩ := x_arr g2
              rw [List.map_cons, List.map_cons, x_tr8 hq8]
              have e1 := Value.int.inj (hf _ _ hv)
              subst e1
              exact va_iald hx hb hK hP (q - 8) t0 g1 ht (x_in_of h0 hlt) hd k1
            · obtain ⟨ws, tys, hP, hD, hK, hQ⟩ := hW
              have ho := hQ.old (Nat.lt_of_not_le hq8) hq
              rcases x_lt8 hq8 with rfl | rfl | rfl | rfl | rfl | rfl | rfl | rfl
              · have h2 : xs.map Value.int = vs := congrArg Prod.snd (Option.some.inj ho)
                subst h2
                exact va_ti hx hb hO.1.1 hS (x_in_of h0 (by rw [List.length_map] at hlt; exact hlt)) (congrArg Value.int (x_gD hv)) hd k1
              · have h2 : x_sizeB.map Value.int = vs := congrArg Prod.snd (Option.some.inj ho)
                subst h2
                exact va_ti hx hb hO.1.2.1 hS (x_in_of h0 (by rw [List.length_map] at hlt; exact hlt)) (congrArg Value.int (x_gD hv)) hd k1
              · have h2 : x_markB.map Value.int = vs := congrArg Prod.snd (Option.some.inj ho)
                subst h2
                exact va_ti hx hb hO.1.2.2 hS (x_in_of h0 (by rw [List.length_map] at hlt; exact hlt)) (congrArg Value.int (x_gD hv)) hd k1
              · have h2 : (8 : Nat) = 10 := congrArg Prod.fst (Option.some.inj ho)
                omega
              · have h2 : (8 : Nat) = 10 := congrArg Prod.fst (Option.some.inj ho)
                omega
              · have h2 : (14 : Nat) = 10 := congrArg Prod.fst (Option.some.inj ho)
                omega
              · have h2 : (14 : Nat) = 10 := congrArg Prod.fst (Option.some.inj ho)
                omega
              · have h2 : (99 : Nat) = 10 := congrArg Prod.fst (Option.some.inj ho)
                omega
          next => cases hs
        next => cases hs
      next => cases hs
    next => cases hs
  | baload =>
    cases hr
    cases (show n = 1 by simpa [x_sw, x_len] using hn)
    simp only [x_step] at hs
    split at hs
    next ix q st =>
      split at hs
      next ci vs hq =>
        split at hs
        next hc =>
          split at hs
          next v hv =>
            cases hs
            obtain ⟨rfl, h0⟩ := hc
            have hlt : ix.toNatClampNeg < vs.length := (List.getElem?_eq_some_iff.mp hv).1
            have k1 := kk ls H locs hL hW hS
            by_cases hq8 : 8 ≤ q
            · exfalso
              obtain ⟨ws, tys, hP, hD, hK, hQ⟩ := hW
              obtain ⟨cv, g1, g2⟩ := hQ.new hq8 hq
              match cv, g2 with
              | .inr q, ⟨h1, h2, _⟩ =>
                have h1' : 14 = q.1 := h1
                omega
              | .inl (cA, n, .inl f), ⟨h1, _⟩ => exact absurd h1 (by simp)
              | .inl (cA, n, .inr (.inr (.inr (.inr f)))), ⟨h1, _⟩ => rcases h1 with ⟨h1, -⟩ | ⟨h1, -⟩ <;> exact absurd h1 (by simp)
            · obtain ⟨ws, tys, hP, hD, hK, hQ⟩ := hW
              have ho := hQ.old (Nat.lt_of_not_le hq8) hq
              have hO3 := hO.2.2.1
              rcases x_lt8 hq8 with rfl | rfl | rfl | rfl | rfl | rfl | rfl | rfl
              · have h2 : (10 : Nat) = 14 := congrArg Prod.fst (Option.some.inj ho)
                omega
              · have h2 : (10 : Nat) = 14 := congrArg Prod.fst (Option.some.inj ho)
                omega
              · have h2 : (10 : Nat) = 14 := congrArg Prod.fst (Option.some.inj ho)
                omega
              · have h2 : (8 : Nat) = 14 := congrArg Prod.fst (Option.some.inj ho)
                omega
              · have h2 : (8 : Nat) = 14 := congrArg Prod.fst (Option.some.inj ho)
                omega
              · have h2 : x_str0.map Value.int = vs := congrArg Prod.snd (Option.some.inj ho)
                subst h2
                exact va_tb hx hb (hO3.1 0 (by decide)).2.2.2 hS (x_in_of h0 (by rw [List.length_map] at hlt; exact hlt)) (congrArg Value.int (x_gD hv)) hd k1
              · have h2 : x_str1.map Value.int = vs := congrArg Prod.snd (Option.some.inj ho)
                subst h2
                exact va_tb hx hb (hO3.1 1 (by decide)).2.2.2 hS (x_in_of h0 (by rw [List.length_map] at hlt; exact hlt)) (congrArg Value.int (x_gD hv)) hd k1
              · have h2 : (99 : Nat) = 14 := congrArg Prod.fst (Option.some.inj ho)
                omega
          next => cases hs
        next => cases hs
      next => cases hs
    next => cases hs
  | aaload =>
    cases hr
    cases (show n = 1 by simpa [x_sw, x_len] using hn)
    simp only [x_step] at hs
    split at hs
    next ix q st =>
      split at hs
      next ci vs hq =>
        split at hs
        next hc =>
          split at hs
          next q2 hv =>
            split at hs
            next => cases hs
            next hq2 =>
              cases hs
              obtain ⟨hc1, h0⟩ := hc
              have hlt : ix.toNatClampNeg < vs.length := (List.getElem?_eq_some_iff.mp hv).1
              have k1 := kk ls H locs hL hW hS
              obtain ⟨ws, tys, hP, hD, hK, hQ⟩ := hW
              by_cases hq8 : 8 ≤ q
              · obtain ⟨cv, g1, g2⟩ := hQ.new hq8 hq
                obtain ⟨cA, f, t0, rfl, ht, hf⟩ := x_arq g2 hc1
                rw [List.map_cons, List.map_cons, x_tr8 hq8]
                rw [List.map_cons, hf _ _ hv] at k1
                rcases ht with ⟨-, ht⟩ | ⟨-, ht⟩
                · exact va_aldq hx hb hK hP (q - 8) t0 g1 ht (x_in_of h0 hlt) hd k1
                · exact va_aldq hx hb hK hP (q - 8) t0 g1 ht (x_in_of h0 hlt) hd k1
              · exfalso
                have ho := hQ.old (Nat.lt_of_not_le hq8) hq
                rcases x_lt8 hq8 with rfl | rfl | rfl | rfl | rfl | rfl | rfl | rfl
                · have h2 : (10 : Nat) = ci := congrArg Prod.fst (Option.some.inj ho)
                  omega
                · have h2 : (10 : Nat) = ci := congrArg Prod.fst (Option.some.inj ho)
                  omega
                · have h2 : (10 : Nat) = ci := congrArg Prod.fst (Option.some.inj ho)
                  omega
                · have h2 : (8 : Nat) = ci := congrArg Prod.fst (Option.some.inj ho)
                  omega
                · have h2 : (8 : Nat) = ci := congrArg Prod.fst (Option.some.inj ho)
                  omega
                · have h2 : (14 : Nat) = ci := congrArg Prod.fst (Option.some.inj ho)
                  omega
                · have h2 : (14 : Nat) = ci := congrArg Prod.fst (Option.some.inj ho)
                  omega
                · have h2 : (99 : Nat) = ci := congrArg Prod.fst (Option.some.inj ho)
                  omega
          next => cases hs
        next => cases hs
      next => cases hs
    next => cases hs
  | iastore =>
    cases hr
    cases (show n = 1 by simpa [x_sw, x_len] using hn)
    simp only [x_step] at hs
    split at hs
    next v ix q st =>
      split at hs
      next ci vs hq =>
        split at hs
        next hc =>
          cases hs
          obtain ⟨rfl, hq8, h0, hlt⟩ := hc
          obtain ⟨ws, tys, hP, hD, hK, hQ⟩ := hW
          obtain ⟨cv, g1, g2⟩ := hQ.new hq8 hq
          obtain ⟨cA, f, t0, rfl, ht, hf⟩ := x_arr g2
          rw [List.map_cons, List.map_cons, List.map_cons, x_tr8 hq8]
          refine va_iast hx hb hK hP hD hS (q - 8) t0 g1 ht (x_in_of h0 hlt) hd (fun H1 locs1 hP1 hD1 hS1 => ?_)
          have k1 := kk ls H1 locs1 hL ⟨_, tys, hP1, hD1, hK, hQ.set hq8 (List.getElem?_eq_some_iff.mp hq).1 ⟨rfl, ⟨t0, ht⟩, by rw [List.length_set], fun j w hj => ?_⟩⟩ hS1
          · rw [List.length_set, x_sz_set hq List.length_set] at k1
            exact k1
          · by_cases hji : j = ix.toNatClampNeg
            · subst hji
              rw [List.getElem?_set_self hlt] at hj
              cases hj
              show Value.int v = .int (if _ = _ then v else _)
              rw [if_pos rfl]
            · rw [List.getElem?_set_ne (Ne.symm hji)] at hj
              show w = .int (if _ = _ then v else _)
              rw [if_neg hji]
              exact hf _ _ hj
        next => cases hs
      next => cases hs
    next => cases hs
  | aastore =>
    cases hr
    cases (show n = 1 by simpa [x_sw, x_len] using hn)
    simp only [x_step] at hs
    split at hs
    next q2 ix q st =>
      split at hs
      next ci vs hq =>
        split at hs
        next d fs2 hq2 =>
          split at hs
          next hc =>
            cases hs
            obtain ⟨hc1, hq8, hq28, h0, hlt⟩ := hc
            obtain ⟨ws, tys, hP, hD, hK, hQ⟩ := hW
            obtain ⟨cv, g1, g2⟩ := hQ.new hq8 hq
            obtain ⟨cA, f, t0, rfl, ht, hf⟩ := x_arq g2 (by omega)
            obtain ⟨cw, g3, g4⟩ := hQ.new hq28 hq2
            obtain ⟨-, rfl⟩ := x_obj g4 (by omega)
            rw [List.map_cons, List.map_cons, List.map_cons, x_tr8 hq8, x_tr8 hq28]
            have key : ∀ (H1 : Heap) (locs1 : List Loc), va_P D vwCl (ws.set (q - 8) (x_ad o sz q, .inl (cA, vs.length, .inr (.inr (.inr (.inr (va_up f ix.toNatClampNeg (some (x_ad o sz q2)))))))) ) H1 → va_D (x_A sz) (ws.set (q - 8) (x_ad o sz q, .inl (cA, vs.length, .inr (.inr (.inr (.inr (va_up f ix.toNatClampNeg (some (x_ad o sz q2)))))))) ) → va_S (x_A sz) s.heap H1 locs1 → W p l e R s m args below meth c H1 locs1 (h.length - n0) (x_sz h - s0) Q (F0 m (pc + 1) ls (S'.map (x_tr o sio sz))) := by
              intro H1 locs1 hP1 hD1 hS1
              have k1 := kk ls H1 locs1 hL ⟨_, tys, hP1, hD1, hK, hQ.set hq8 (List.getElem?_eq_some_iff.mp hq).1 (c := (ci, vs.set ix.toNatClampNeg (.ref q2))) ⟨?_, by rw [List.length_set], fun j w hj => ?_⟩⟩ hS1
              · rw [List.length_set, x_sz_set hq List.length_set] at k1
                exact k1
              · rcases ht with ⟨ha, hb'⟩ | ⟨ha, hb'⟩
                · exact Or.inl ⟨ha, t0, hb'⟩
                · exact Or.inr ⟨ha, t0, hb'⟩
              · by_cases hji : j = ix.toNatClampNeg
                · subst hji
                  rw [List.getElem?_set_self hlt] at hj
                  cases hj
                  rw [x_tr8 hq28]
                  show _ = va_rf (if _ = _ then some _ else _)
                  rw [if_pos rfl]
                  rfl
                · rw [List.getElem?_set_ne (Ne.symm hji)] at hj
                  show _ = va_rf (if _ = _ then some _ else _)
                  rw [if_neg hji]
                  exact hf _ _ hj
            rcases ht with ⟨ha, ht⟩ | ⟨ha, ht⟩
            · have hd2 : d = 2 := by omega
              subst hd2
              exact va_astq (r := (RX2, TX2, 4)) hx hb hK hP hD hS (q - 8) t0 (q2 - 8) 2 g1 ht g3 rfl (x_in_of h0 hlt) hd key
            · have hd2 : d = 0 := by omega
              subst hd2
              exact va_astq (r := (RX0, TX0, 10)) hx hb hK hP hD hS (q - 8) t0 (q2 - 8) 0 g1 ht g3 rfl (x_in_of h0 hlt) hd key
          next => cases hs
        next => cases hs
      next => cases hs
    next => cases hs
  | arraylength =>
    cases hr
    cases (show n = 1 by simpa [x_sw, x_len] using hn)
    simp only [x_step] at hs
    split at hs
    next q st =>
      split at hs
      next ci vs hq =>
        split at hs
        next hc =>
          cases hs
          have k1 := kk ls H locs hL hW hS
          obtain ⟨ws, tys, hP, hD, hK, hQ⟩ := hW
          by_cases hq8 : 8 ≤ q
          · obtain ⟨cv, g1, g2⟩ := hQ.new hq8 hq
            rw [List.map_cons, x_tr8 hq8]
            match cv, g2 with
            | .inr r, ⟨h1, h2, _⟩ =>
              have h1' : ci = r.1 := h1
              omega
            | .inl (cA, n, .inl f), ⟨_, ⟨t0, ht⟩, h3, _⟩ => exact va_alen hx hb hK hP (q - 8) t0 g1 ht (by rw [h3]) hd k1
            | .inl (cA, n, .inr (.inr (.inr (.inr f)))), ⟨h1, h3, _⟩ =>
              rcases h1 with ⟨-, t0, ht⟩ | ⟨-, t0, ht⟩
              · exact va_alen hx hb hK hP (q - 8) t0 g1 ht (by rw [h3]) hd k1
              · exact va_alen hx hb hK hP (q - 8) t0 g1 ht (by rw [h3]) hd k1
          · have ho := hQ.old (Nat.lt_of_not_le hq8) hq
            have hO3 := hO.2.2.1
            rcases x_lt8 hq8 with rfl | rfl | rfl | rfl | rfl | rfl | rfl | rfl
            · have h2 : xs.map Value.int = vs := congrArg Prod.snd (Option.some.inj ho)
              exact va_tlen hx hb hO.1.1 hS (by rw [← h2, List.length_map]) hd k1
            · have h2 : x_sizeB.map Value.int = vs := congrArg Prod.snd (Option.some.inj ho)
              exact va_tlen hx hb hO.1.2.1 hS (by rw [← h2, List.length_map]; rfl) hd k1
            · have h2 : x_markB.map Value.int = vs := congrArg Prod.snd (Option.some.inj ho)
              exact va_tlen hx hb hO.1.2.2 hS (by rw [← h2, List.length_map]; rfl) hd k1
            · have h2 : 8 = ci := congrArg Prod.fst (Option.some.inj ho)
              omega
            · have h2 : 8 = ci := congrArg Prod.fst (Option.some.inj ho)
              omega
            · have h2 : x_str0.map Value.int = vs := congrArg Prod.snd (Option.some.inj ho)
              exact va_tlen hx hb (hO3.1 0 (by decide)).2.2.2 hS (by rw [← h2, List.length_map]; rfl) hd k1
            · have h2 : x_str1.map Value.int = vs := congrArg Prod.snd (Option.some.inj ho)
              exact va_tlen hx hb (hO3.1 1 (by decide)).2.2.2 hS (by rw [← h2, List.length_map]; rfl) hd k1
            · have h2 : 99 = ci := congrArg Prod.fst (Option.some.inj ho)
              omega
        next => cases hs
      next => cases hs
    next => cases hs
  | new k =>
    cases (show n = 3 by simpa [x_sw, x_len] using hn)
    simp only [x_res] at hr
    split at hr
    next ci hci =>
      cases hr
      obtain ⟨h7, w1, w2, w3⟩ := x_nt_w hci
      simp only [x_step, if_pos h7] at hs
      · cases hs
        obtain ⟨ws, tys, hP, hD, hK, hQ⟩ := hW
        have hdl : (x_def ci).length = x_N ci := by unfold x_def; simp
        rw [List.length_append, List.length_singleton] at hR1
        rw [x_sz_push] at hR2
        have hR2' : x_sz h + x_N ci - s0 ≤ R.slots := by rw [← hdl]; exact hR2
        refine va_new (D := D) (fs := (x_def ci).map (x_tr o sio sz)) hx hb hts (x_hin h7) (x_ty ci) (x_hty h7) hown (hts _ w1) (hts _ w2) (hts _ w3) hK hP hD hS hAA (x_cl7 h7) (fun j hj => ?_) (by omega) (by omega) hd (fun q H1 hP1 hD1 hS1 => ?_)
        · unfold vp_V x_def
          rw [List.map_map, List.getD_eq_getElem?_getD, List.getElem?_map, List.getElem?_range hj]
          show _ = x_tr o sio sz (defaultValue (x_ty ci j))
          cases x_ty ci j <;> rfl
        · refine x_size _ (fun hz => ?_)
          have hl2 := hQ.1
          have hq : q = sz + ws.length := x_fresh hP1 hD1 (fun i r hr => (hQ.2.2 i r hr).1) (by omega)
          have hq2 : q = x_ad o sz h.length := by unfold x_ad; rw [if_neg (by omega)]; omega
          subst hq2
          have hQ1 := hQ.push (t2 := []) (c := (ci, x_def ci)) (e := .inr (ci, (x_def ci).map (x_tr o sio sz))) ⟨rfl, h7, rfl⟩
          rw [List.append_nil] at hQ1
          have k1 := kk ls H1 locs hL ⟨_, tys, hP1, hD1, hK, hQ1⟩ hS1
          rw [List.map_cons, x_tr8 (show 8 ≤ h.length by omega), List.length_append, List.length_singleton, x_sz_push] at k1
          have e1 : h.length + 1 - n0 = h.length - n0 + 1 := by omega
          have e2 : x_sz h + (x_def ci).length - s0 = x_sz h - s0 + x_N ci := by rw [hdl]; omega
          rw [e1] at k1
          have k2 : W p l e R s m args below meth c H1 locs (h.length - n0 + 1) (x_sz h - s0 + x_N ci) Q (F0 m (pc + 3) ls (.ref (x_ad o sz h.length) :: S.map (x_tr o sio sz))) := by rw [← e2]; exact k1
          exact k2
    next => cases hr
  | newarray t =>
    cases (show n = 2 by simpa [x_sw, x_len] using hn)
    cases t with
    | int =>
      cases hr
      simp only [x_step] at hs
      split at hs
      next nn st =>
        split at hs
        next hc =>
          cases hs
          obtain ⟨ws, tys, hP, hD, hK, hQ⟩ := hW
          rw [List.length_append, List.length_singleton] at hR1
          rw [x_sz_push] at hR2
          have hR2' : x_sz h + nn.toNatClampNeg - s0 ≤ R.slots := by simpa using hR2
          have hac : (Jvm.Cond.arrayClass FieldType.int).before args s = true := by
            have h1 := x_ao_ok
            simp only [Bool.and_eq_true] at h1
            exact hts _ (x_at_in h1.2)
          rw [List.map_cons]
          refine va_newa (D := D) (atype := .int) (ty := .int) (a0 := (nn.toNatClampNeg, .inl fun _ => 0)) hx hb hac rfl hK hP hD hS hAA (fun cA => rfl) hc.1 rfl (by show _ * 4 ≤ _; omega) (by omega) (by omega) hd (fun q cA H1 hK1 hP1 hD1 hS1 => ?_)
          refine x_size _ (fun hz => ?_)
          have hl2 := hQ.1
          have hq : q = sz + ws.length := x_fresh hP1 hD1 (fun i r hr => (hQ.2.2 i r hr).1) (by omega)
          have hq2 : q = x_ad o sz h.length := by unfold x_ad; rw [if_neg (by omega)]; omega
          subst hq2
          have hQ1 := hQ.push (t2 := [(cA, FieldType.int)]) (c := (10, List.replicate nn.toNatClampNeg (.int 0))) (e := .inl (cA, nn.toNatClampNeg, .inl fun _ => 0)) ⟨rfl, ⟨tys.length, by rw [List.getElem?_append_right (Nat.le_refl _), Nat.sub_self]; rfl⟩, by simp, fun j v hj => List.eq_of_mem_replicate (List.mem_of_getElem? hj)⟩
          have k1 := kk ls H1 locs hL ⟨_, _, hP1, hD1, hK1, hQ1⟩ hS1
          rw [List.map_cons, x_tr8 (show 8 ≤ h.length by omega), List.length_append, List.length_singleton, x_sz_push] at k1
          have e1 : h.length + 1 - n0 = h.length - n0 + 1 := by omega
          have e2 : x_sz h + (List.replicate nn.toNatClampNeg (Value.int 0)).length - s0 = x_sz h - s0 + nn.toNatClampNeg := by rw [List.length_replicate]; omega
          have k2 : W p l e R s m args below meth c H1 locs (h.length - n0 + 1) (x_sz h - s0 + nn.toNatClampNeg) Q (F0 m (pc + 2) ls (.ref (x_ad o sz h.length) :: st.map (x_tr o sio sz))) := by rw [← e2, ← e1]; exact k1
          exact k2
        next => cases hs
      next => cases hs
    | _ => cases hr
  | anewarray k =>
    cases (show n = 3 by simpa [x_sw, x_len] using hn)
    have key : ∀ (ci : Nat) (C0 : String) (ct : Nat), ((ci = 2 ∧ C0 = RX2 ∧ ct = 11) ∨ (ci = 0 ∧ C0 = RX0 ∧ ct = 12)) → x_new (x_cy y) k = some ci → va_AO C0 s → x_step (x_kd y == 2) (.anewarray ci) pc (pc + 3) L S h = some (pc', L', S', h') → W p l e R s m args below meth c H locs (h.length - n0) (x_sz h - s0) Q (F0 m pc ls (S.map (x_tr o sio sz))) := by
      intro ci C0 ct hci hnew hAO hs
      obtain ⟨h7, w1, w2, w3⟩ := x_nt_w hnew
      have w1' : Jvm.Cond.classLink (x_cn (x_cy y)) k C0 ∈ x_TB := by
        rcases hci with ⟨rfl, rfl, -⟩ | ⟨rfl, rfl, -⟩ <;> exact w1
      simp only [x_step] at hs
      split at hs
      next nn st _ =>
        split at hs
        next hc =>
          cases hs
          have hct : (if ci = 2 then 11 else 12) = ct := by rcases hci with ⟨rfl, -, rfl⟩ | ⟨rfl, -, rfl⟩ <;> rfl
          rw [hct] at kk hR1 hR2
          obtain ⟨ws, tys, hP, hD, hK, hQ⟩ := hW
          rw [List.length_append, List.length_singleton] at hR1
          rw [x_sz_push] at hR2
          have hR2' : x_sz h + nn.toNatClampNeg - s0 ≤ R.slots := by simpa using hR2
          rw [List.map_cons]
          refine va_newq (D := D) hx hb hown (hts _ w1') hAO hK hP hD hS hAA hc.1 rfl (by omega) (by omega) (by omega) hd (fun q cA H1 hK1 hP1 hD1 hS1 => ?_)
          refine x_size _ (fun hz => ?_)
          have hl2 := hQ.1
          have hq : q = sz + ws.length := x_fresh hP1 hD1 (fun i r hr => (hQ.2.2 i r hr).1) (by omega)
          have hq2 : q = x_ad o sz h.length := by unfold x_ad; rw [if_neg (by omega)]; omega
          subst hq2
          have hty : (tys ++ [(cA, FieldType.object C0)])[tys.length]? = some (cA, FieldType.object C0) := by rw [List.getElem?_append_right (Nat.le_refl _), Nat.sub_self]; rfl
          have hQ1 := hQ.push (t2 := [(cA, FieldType.object C0)]) (c := (ct, List.replicate nn.toNatClampNeg .null)) (e := .inl (cA, nn.toNatClampNeg, .inr (.inr (.inr (.inr fun _ => none))))) ⟨by
            rcases hci with ⟨-, rfl, rfl⟩ | ⟨-, rfl, rfl⟩
            · exact Or.inl ⟨rfl, _, hty⟩
            · exact Or.inr ⟨rfl, _, hty⟩, by simp, fun j v hj => by rw [List.eq_of_mem_replicate (List.mem_of_getElem? hj)]; rfl⟩
          have k1 := kk ls H1 locs hL ⟨_, _, hP1, hD1, hK1, hQ1⟩ hS1
          rw [List.map_cons, x_tr8 (show 8 ≤ h.length by omega), List.length_append, List.length_singleton, x_sz_push] at k1
          have e1 : h.length + 1 - n0 = h.length - n0 + 1 := by omega
          have e2 : x_sz h + (List.replicate nn.toNatClampNeg Value.null).length - s0 = x_sz h - s0 + nn.toNatClampNeg := by rw [List.length_replicate]; omega
          have k2 : W p l e R s m args below meth c H1 locs (h.length - n0 + 1) (x_sz h - s0 + nn.toNatClampNeg) Q (F0 m (pc + 3) ls (.ref (x_ad o sz h.length) :: st.map (x_tr o sio sz))) := by rw [← e2, ← e1]; exact k1
          exact k2
        next => cases hs
      next => cases hs
    simp only [x_res] at hr
    split at hr
    next hnew =>
      cases hr
      exact key 2 RX2 11 (Or.inl ⟨rfl, rfl, rfl⟩) hnew hO.2.2.2.2.1 hs
    next hnew =>
      cases hr
      exact key 0 RX0 12 (Or.inr ⟨rfl, rfl, rfl⟩) hnew hO.2.2.2.2.2.1 hs
    next => cases hr
  | invokespecial k =>
    cases (show n = 3 by simpa [x_sw, x_len] using hn)
    simp only [x_res] at hr
    split at hr
    next hoi =>
      cases hr
      simp only [x_step] at hs
      split at hs
      next q st =>
        split at hs
        next hc =>
          cases hs
          have h1 := x_oj_ok
          simp only [Bool.and_eq_true] at h1
          rw [List.map_cons, x_tr_ref hc.1]
          refine W.objInit hx hb hown (hts _ (x_oi_w hoi)) (hts _ (x_at_in h1.1)) (hts _ (x_at_in h1.2)) rfl (by rw [hml, ← hLl]; exact hL.1) rfl hd (by omega) ?_ (kk ls H locs hL hW hS)
          show 2 * 0 + _ + 12 ≤ _
          rw [x_cat_tr hsio]
          omega
        next => cases hs
      next => cases hs
    next =>
      split at hr
      next => cases hr; cases hs
      next => cases hr; cases hs
      next => cases hr
  | invokestatic k =>
    cases (show n = 3 by simpa [x_sw, x_len] using hn)
    simp only [x_res] at hr
    split at hr
    next hac =>
      cases hr
      simp only [x_step] at hs
      split at hs
      next nn dp q sp q0 st =>
        split at hs
        next ci f hq0 =>
          split at hs
          next di g hq =>
            split at hs
            next hc =>
              cases hs
              obtain ⟨rfl, rfl, hq08, hq8, a1, a2, a3, a4, a5, a6⟩ := hc
              obtain ⟨ws, tys, hP, hD, hK, hQ⟩ := hW
              obtain ⟨cv, g1, g2⟩ := hQ.new hq08 hq0
              obtain ⟨cA, f1, t0, rfl, ht0, hf1⟩ := x_arr g2
              obtain ⟨cw, g3, g4⟩ := hQ.new hq8 hq
              obtain ⟨cB, f2, t1, rfl, ht1, hf2⟩ := x_arr g4
              have h1 := x_an_ok
              simp only [Bool.and_eq_true] at h1
              have e1 : nativeFrameWords "java/lang/System" "arraycopy" 5 ≤ 30 := by decide +kernel
              simp only [List.map_cons]
              rw [x_tr8 hq8, x_tr8 hq08]
              refine va_copyi (D := D) (ty := .int) hx hb (by rw [hml, ← hLl]; exact hL.1.symm) hown (hts _ (x_ac_w hac)) (hts _ (x_at_in h1.1.1)) (hts _ (x_at_in h1.1.2)) (hts _ (x_at_in h1.2)) hK hP hD hS (q0 - 8) (q - 8) t0 t1 g1 g3 ht0 ht1 rfl a1 a2 a3 a4 a5 (fun _ _ => rfl) (by omega) (by rw [x_cat_tr hsio]; omega) hd (fun H1 locs1 hP1 hD1 hS1 => ?_)
              have k1 := kk ls H1 locs1 hL ⟨_, tys, hP1, hD1, hK, hQ.set hq8 (List.getElem?_eq_some_iff.mp hq).1 ⟨rfl, ⟨t1, ht1⟩, by rw [x_cpy_len], fun j w hj => ?_⟩⟩ hS1
              · rw [List.length_set, x_sz_set hq (x_cpy_len _ _ _ _ _)] at k1
                exact k1
              · unfold x_cpy at hj
                rw [List.getElem?_map, Option.map_eq_some_iff] at hj
                obtain ⟨j', hj1, hj2⟩ := hj
                have hjl : j < g.length := by simpa using (List.getElem?_eq_some_iff.mp hj1).1
                rw [List.getElem?_range hjl] at hj1
                cases hj1
                subst hj2
                unfold va_cpy
                split
                · have hidx : sp.toNatClampNeg + (j - dp.toNatClampNeg) < f.length := by omega
                  rw [List.getD_eq_getElem?_getD, List.getElem?_eq_getElem hidx]
                  exact hf1 _ _ (List.getElem?_eq_getElem hidx)
                · rw [List.getD_eq_getElem?_getD, List.getElem?_eq_getElem hjl]
                  exact hf2 _ _ (List.getElem?_eq_getElem hjl)
            next => cases hs
          next => cases hs
        next => cases hs
      next => cases hs
    next =>
      split at hr
      next z hz =>
        have hcw := x_call_w hz
        have hma := x_ma_ok
        simp only [Bool.and_eq_true, decide_eq_true_eq] at hma
        split at hr
        next hz2 =>
          cases hr
          simp only [x_step] at hs
          split at hs
          next x st =>
            split at hs
            next hc =>
              cases hs
              rcases hcw.2 with hq | hq
              · exact absurd hq.1 (by decide)
              · have hlink := hq.2.2
                rw [hz2, hma.1.1.1.1.1.1] at hlink
                exact va_mabs hx hb (by rw [hml, ← hLl]; exact hL.1.symm) hown (hts _ hlink) (hts _ (x_at_in hma.1.1.2)) (hts _ (x_at_in hma.2)) (hts _ (x_at_in hma.1.1.1.1.2)) (by omega) (by rw [x_cat_tr hsio]; omega) hR1 hR2 hd (kk ls H locs hL hW hS)
            next => cases hs
          next => cases hs
        next =>
          split at hr
          next hz2 =>
            cases hr
            simp only [x_step] at hs
            split at hs
            next x2 x st =>
              split at hs
              next hc =>
                cases hs
                rcases hcw.2 with hq | hq
                · exact absurd hq.1 (by decide)
                · have hlink := hq.2.2
                  rw [hz2, hma.1.1.1.1.1.2] at hlink
                  exact va_mmax hx hb (by rw [hml, ← hLl]; exact hL.1.symm) hown (hts _ hlink) (hts _ (x_at_in hma.1.2)) (hts _ (x_at_in hma.2)) (hts _ (x_at_in hma.1.1.1.2)) (by omega) (by rw [x_cat_tr hsio]; omega) hR1 hR2 hd (kk ls H locs hL hW hS)
              next => cases hs
            next => cases hs
          next => cases hr; cases hs
      next => cases hr
  | invokevirtual k =>
    simp only [x_res] at hr
    split at hr
    next => cases hr; cases hs
    next => cases hr
  | ireturn => cases hr; cases hs
  | return_ => cases hr; cases hs
  | _ => cases hr
end XST
end
section
/-! A RUN IS SOUND -/
theorem x_mo {z : Nat} (hz : x_mok z = true) : (Jvm.Cond.code (x_nm z) (x_by z) (x_ml z) (x_rt z) ∈ x_TB ∧ (if x_kd z = 0 then Jvm.Cond.static (x_nm z) else Jvm.Cond.instanceMethod (x_nm z)) ∈ x_TB ∧ (x_kd z = 1 → Jvm.Cond.selects (x_cn (x_cy z)) (x_nm z) (x_nm z) ∈ x_TB) ∧ Jvm.Cond.initialized (x_nm z).cls ∈ x_TB) ∧ plainName (x_nm z).cls = true ∧ ((x_nm z).cls ≠ "java/lang/invoke/MethodHandle" ∧ (x_nm z).cls ≠ "java/lang/invoke/VarHandle") ∧ (parseMethodDescriptor (x_nm z).desc).map (fun d => d.parameters.length + (if x_kd z = 0 then 0 else 1)) = some (x_na z) ∧ (x_nm z).cls = x_cn (x_cy z) ∧ x_ml z ≤ 41 ∧ (x_kd z = 2 → (x_nm z).name = "<init>" ∧ x_rt z = none) := by
  unfold x_mok at hz
  simp only [Bool.and_eq_true, decide_eq_true_eq, Bool.or_eq_true] at hz
  obtain ⟨⟨⟨⟨⟨⟨⟨⟨⟨⟨a1, a2⟩, a3⟩, a4⟩, a5⟩, a6⟩, a7⟩, a8⟩, a9⟩, a10⟩, a11⟩ := hz
  exact ⟨⟨x_at_in a1, x_at_in a2, fun h => a3.elim (fun z => absurd h z) (fun z => x_at_in z), x_at_in a4⟩, a5, ⟨a6, a7⟩, a8, a9, a10, fun h => a11.elim (fun z => absurd h z) id⟩
theorem x_fe_w {y pc nx : Nat} {i : Instr} (h : x_fe y pc = some (i, nx)) : ∃ r n, decode (x_by y) pc = .ok (r, n) ∧ (x_sw r || n == x_len r) = true ∧ x_res (x_cy y) pc r = some i ∧ nx = pc + n := by
  unfold x_fe at h
  split at h
  next r n hd =>
    split at h
    next hn =>
      split at h
      next j hj =>
        cases h
        exact ⟨r, n, hd, hn, hj, rfl⟩
      next => cases h
    next => cases h
  next => cases h
/-- the end of a run -/
def x_fin (r : Option Value) (y pc : Nat) (WW : List Value → Prop) : Prop :=
  (∀ v : Int32, r = some (.int v) → decode (x_by y) pc = .ok (.ireturn, 1) → (∃ ty, x_rt y = some ty ∧ narrow ty (.int v) = .int v) → WW [.int v]) ∧ (r = none → decode (x_by y) pc = .ok (.return_, 1) → x_rt y = none → WW [])
theorem x_run_succ (n d y pc : Nat) (L S : List Value) (h : x_H) : x_run (n + 1) d y pc L S h = (match x_fe y pc with
    | none => none
    | some (i, nx) => match x_cal i with
      | some z => match d with
        | 0 => none
        | d' + 1 => if x_okc i z S h = true then (match x_run n d' z 0 (x_loc (x_ml z) (S.take (x_na z)).reverse) [] h with
          | some (r, h') => x_run n (d' + 1) y nx L (r.toList ++ S.drop (x_na z)) h'
          | none => none) else none
      | none => match i, S with
        | .ireturn, [.int v] => (match x_rt y with
          | some ty => if narrow ty (.int v) = .int v then some (some (.int v), h) else none
          | none => none)
        | .return_, [] => (match x_rt y with
          | some _ => none
          | none => some (none, h))
        | i, S => match x_step (x_kd y == 2) i pc nx L S h with
          | some (pc', L', S', h') => x_run n d y pc' L' S' h'
          | none => none) := rfl
/-- a run's first step: a call, an end, or a step -/
theorem x_run_w {n d y pc : Nat} {L S : List Value} {h hf : x_H} {r : Option Value} (hr : x_run (n + 1) d y pc L S h = some (r, hf)) : ∃ i nx, x_fe y pc = some (i, nx) ∧
    ((∃ z d' r1 h1, x_cal i = some z ∧ d = d' + 1 ∧ x_okc i z S h = true ∧ x_run n d' z 0 (x_loc (x_ml z) (S.take (x_na z)).reverse) [] h = some (r1, h1) ∧ x_run n d y nx L (r1.toList ++ S.drop (x_na z)) h1 = some (r, hf)) ∨
     (∃ v ty, i = .ireturn ∧ S = [.int v] ∧ x_rt y = some ty ∧ narrow ty (.int v) = .int v ∧ r = some (.int v) ∧ hf = h) ∨
     (i = .return_ ∧ S = [] ∧ x_rt y = none ∧ r = none ∧ hf = h) ∨
     (∃ pc' L' S' h', x_cal i = none ∧ x_step (x_kd y == 2) i pc nx L S h = some (pc', L', S', h') ∧ x_run n d y pc' L' S' h' = some (r, hf))) := by
  rw [x_run_succ] at hr
  split at hr
  next => cases hr
  next i nx hfe =>
    refine ⟨i, nx, hfe, ?_⟩
    split at hr
    next z hz =>
      split at hr
      next => cases hr
      next d' =>
        split at hr
        next hok =>
          split at hr
          next r1 h1 hrun => exact Or.inl ⟨z, d', r1, h1, hz, rfl, hok, hrun, hr⟩
          next => cases hr
        next => cases hr
    next hz =>
      split at hr
      next v =>
        split at hr
        next ty hty =>
          split at hr
          next hnr =>
            cases hr
            exact Or.inr (Or.inl ⟨v, ty, rfl, rfl, hty, hnr, rfl, rfl⟩)
          next => cases hr
        next => cases hr
      next =>
        split at hr
        next => cases hr
        next hty =>
          cases hr
          exact Or.inr (Or.inr (Or.inl ⟨rfl, rfl, hty, rfl, rfl⟩))
      next =>
        split at hr
        next pc' L' S' h' hs => exact Or.inr (Or.inr (Or.inr ⟨pc', L', S', h', hz, hs, hr⟩))
        next => cases hr
theorem x_run_mono : ∀ (n d y pc : Nat) (L S : List Value) (h hf : x_H) (r : Option Value), x_run n d y pc L S h = some (r, hf) → h.length ≤ hf.length ∧ x_sz h ≤ x_sz hf := by
  intro n
  induction n with
  | zero => intro d y pc L S h hf r hr; cases hr
  | succ n ih =>
    intro d y pc L S h hf r hr
    obtain ⟨i, nx, hfe, h1 | h1 | h1 | h1⟩ := x_run_w hr
    · obtain ⟨z, d', r1, h1, -, -, -, g1, g2⟩ := h1
      have a1 := ih _ _ _ _ _ _ _ _ g1
      have a2 := ih _ _ _ _ _ _ _ _ g2
      omega
    · obtain ⟨v, ty, -, -, -, -, -, rfl⟩ := h1
      exact ⟨Nat.le_refl _, Nat.le_refl _⟩
    · obtain ⟨-, -, -, -, rfl⟩ := h1
      exact ⟨Nat.le_refl _, Nat.le_refl _⟩
    · obtain ⟨pc', L', S', h', -, g1, g2⟩ := h1
      have a1 := (x_step_mono g1).1
      have a2 := ih _ _ _ _ _ _ _ _ g2
      omega
section XRN
variable {o : Nat → Nat} {sio : Value} {sz : Nat} {xs : List Int32} {D : va_G}
/-- that the n-th fuel's runs are sound -/
def x_Snd (o : Nat → Nat) (sio : Value) (sz : Nat) (xs : List Int32) (D : va_G) (n : Nat) : Prop :=
  ∀ (d y pc : Nat) (L S : List Value) (h hf : x_H) (r : Option Value), x_run n d y pc L S h = some (r, hf) →
  ∀ (n0 s0 : Nat) (p : Program) (l : Launch) (e : Env) (R : Room) (s : State) (m : MethodId) (args : Array Value) (below : List Frame) (meth : Method) (c : Code) (H : Heap) (locs : List Loc) (Q : State → Prop) (ls : Array Slot),
  x_Ctx o sio sz xs y d n0 p R s m args meth c → x_L o sio sz ls L → L.length = x_ml y → x_W o sio sz xs D h H s → va_S (x_A sz) s.heap H locs → n0 ≤ h.length → s0 ≤ x_sz h → hf.length - n0 ≤ R.cells → x_sz hf - s0 ≤ R.slots →
  (∀ (ls' : Array Slot) (H' : Heap) (locs' : List Loc) (pc' : Nat), x_W o sio sz xs D hf H' s → va_S (x_A sz) s.heap H' locs' → x_fin r y pc' (fun st => W p l e R s m args below meth c H' locs' (hf.length - n0) (x_sz hf - s0) Q (F0 m pc' ls' st))) →
  W p l e R s m args below meth c H locs (h.length - n0) (x_sz h - s0) Q (F0 m pc ls (S.map (x_tr o sio sz)))
def x_Pc (o : Nat → Nat) (sio : Value) (sz : Nat) (xs : List Int32) (D : va_G) (vs : List Value) (h : x_H) : Array Value → State → Prop := va_Pc (vs.map (x_tr o sio sz)) (fun U => x_W o sio sz xs D h U.heap U ∧ x_Old o sio sz xs U U.heap ∧ U.heap.size + 8 = sz + h.length)
theorem x_Pc_blind {vs : List Value} {h : x_H} : FrameBlind (x_Pc o sio sz xs D vs h) := fun a U g mk q => ⟨q.1, q.2.1.moved (u := U) (U := U.calling g mk a) (Vm.Alike.refl U.vm), q.2.2.1.same (u := U) (U := U.calling g mk a) rfl, q.2.2.2⟩
def x_Qi (o : Nat → Nat) (sio : Value) (sz : Nat) (xs : List Int32) (D : va_G) (v : Int32) (h : x_H) : Array Value → State → Outcome → State → Prop := va_Qi (fun (r : Int32) (_ : Unit) => r = v) (fun _ t => x_W o sio sz xs D h t.heap t) (x_A sz)
def x_Qv (o : Nat → Nat) (sio : Value) (sz : Nat) (xs : List Int32) (D : va_G) (h : x_H) : Array Value → State → Outcome → State → Prop := va_Qv (fun _ : Unit => True) (fun _ t => x_W o sio sz xs D h t.heap t) (x_A sz)
abbrev x_rm (d mc ms : Nat) : Room := { frames := d + 1, cells := mc, slots := ms, locals := 60 * d + 60 }
abbrev x_ws (z : Nat) : List Jvm.Cond := Jvm.Cond.code (x_nm z) (x_by z) (x_ml z) (x_rt z) :: x_TB
theorem x_ws_good {z : Nat} (hz : x_mok z = true) : GoodIn x_TB (x_ws z) := by
  intro w hw
  rcases List.mem_cons.mp hw with rfl | hw
  · exact x_TB_good _ (x_mo hz).1.1
  · exact x_TB_good _ hw
set_option maxHeartbeats 2000000 in
/-- a run of a method from its entry, as a contract -/
theorem x_met {n : Nat} (ih : x_Snd o sio sz xs D n) (hsio : sio = .null ∨ ∃ t, sio = .ref t) (l : Launch) {d z : Nat} {vs : List Value} {h h1 : x_H} {r : Option Value} (hz : x_mok z = true) (h8 : 8 ≤ h.length) (hvs : (x_ent vs).length ≤ x_ml z) (hr : x_run n d z 0 (x_loc (x_ml z) vs) [] h = some (r, h1))
    {Qc : Array Value → State → Outcome → State → Prop} (hQi : ∀ v : Int32, r = some (.int v) → Qc = x_Qi o sio sz xs D v h1) (hQv : r = none → Qc = x_Qv o sio sz xs D h1) :
    Met l (x_nm z) (x_ws z) (x_rm d (h1.length - h.length) (x_sz h1 - x_sz h)) (x_Pc o sio sz xs D vs h) Qc (h1.length - h.length) (x_sz h1 - x_sz h) (x_A sz) := by
  refine Met.ofW (cc := x_by z) (maxL := x_ml z) (ret := x_rt z) (x_mo hz).2.1 rfl ?_
  intro p e s m args below meth c s₁ B hml hv
  obtain ⟨rfl, hW, hO, hsz⟩ := hv
  have hts0 := atoms_spec (ws := x_ws z) B.pre
  have hts : ∀ w ∈ x_TB, w.before (vs.map (x_tr o sio sz)).toArray s = true := fun w hw => hts0 w (List.mem_cons_of_mem _ hw)
  have hown : s.vm.findClass (x_cn (x_cy z)) = some m.cls := (x_mo hz).2.2.2.2.1 ▸ findClass_of_methodNamed B.named
  have hnm : meth.name = (x_nm z).name := (name_of_methodNamed B.named B.method).1
  have hC : x_Ctx o sio sz xs z d h.length p (x_rm d (h1.length - h.length) (x_sz h1 - x_sz h)) s m (vs.map (x_tr o sio sz)).toArray meth c := ⟨B.exec, B.bytes, hml, hown, hts, hO, hsz, h8, fun hk => by rw [hnm]; exact ((x_mo hz).2.2.2.2.2.2 hk).1, Nat.le_refl _, Nat.le_refl _, B.notSynchronized, hsio⟩
  have hlen : (x_loc (x_ml z) vs).length = x_ml z := by unfold x_loc; simp; omega
  rw [lg_entry_eq]
  have k := ih d z 0 (x_loc (x_ml z) vs) [] h h1 r hr h.length (x_sz h) p l e (x_rm d (h1.length - h.length) (x_sz h1 - x_sz h)) s m (vs.map (x_tr o sio sz)).toArray below meth c s.heap [] (MQ below Qc (vs.map (x_tr o sio sz)).toArray s (h1.length - h.length) (x_sz h1 - x_sz h) (x_A sz)) _ hC (x_L.entry hsio hvs) hlen hW va_S.rf (Nat.le_refl _) (Nat.le_refl _) (Nat.le_refl _) (Nat.le_refl _) ?_
  · rw [Nat.sub_self, Nat.sub_self] at k
    exact k
  · intro ls' H' locs' pc' hW' hS'
    refine ⟨fun v hv hd ⟨ty, hty, hnr⟩ => ?_, fun hv hd hty => ?_⟩
    · have hq := hQi v hv
      subst hq
      exact W.zret B.exec B.bytes (by rw [B.returns]; exact hty) hnr (fun t ht hWm => ⟨⟨v, (), rfl, rfl, by subst ht; exact hW'.moved hWm.alike⟩, hS'.F ht⟩) hS'.2.2 hd B.notSynchronized
    · have hq := hQv hv
      subst hq
      exact W.vret B.exec B.bytes (by rw [B.returns]; exact hty) (fun t ht hWm => ⟨⟨(), rfl, trivial, by subst ht; exact hW'.moved hWm.alike⟩, hS'.F ht⟩) hS'.2.2 hd B.notSynchronized
theorem x_take_rev {S : List Value} {k : Nat} {w : Value} (h : S[k]? = some w) : ∃ vs, (S.take (k + 1)).reverse = w :: vs := by
  refine ⟨(S.take k).reverse, ?_⟩
  rw [List.take_succ, h]
  simp
end XRN
end
section
section XSD
variable {o : Nat → Nat} {sio : Value} {sz : Nat} {xs : List Int32} {D : va_G}
/-- who stands where a virtual call asks: a cell of that class -/
theorem x_recv {h : x_H} {H : Heap} {s : State} {locs : List Loc} {q ci : Nat} {fs : List Value} (hW : x_W o sio sz xs D h H s) (hO : x_Old o sio sz xs s s.heap) (hS : va_S (x_A sz) s.heap H locs) (hq : h[q]? = some (ci, fs)) (hc : ci < 7 ∨ ci = 8) : ∃ cell : Cell, H[x_ad o sz q]? = some cell ∧ cell.vm.isStatics = false ∧ s.vm.findClass (x_cn ci) = some cell.cls := by
  obtain ⟨ws, tys, hP, hD, hK, hQ⟩ := hW
  by_cases hq8 : 8 ≤ q
  · obtain ⟨cv, g1, g2⟩ := hQ.new hq8 hq
    obtain ⟨h7, rfl⟩ := x_obj g2 (by omega)
    exact va_recv hK hP (x_cl7 h7) g1
  · have ho := hQ.old (Nat.lt_of_not_le hq8) hq
    have hO3 := hO.2.2.1
    rcases x_lt8 hq8 with rfl | rfl | rfl | rfl | rfl | rfl | rfl | rfl
    · have h2 : (10 : Nat) = ci := congrArg Prod.fst (Option.some.inj ho)
      omega
    · have h2 : (10 : Nat) = ci := congrArg Prod.fst (Option.some.inj ho)
      omega
    · have h2 : (10 : Nat) = ci := congrArg Prod.fst (Option.some.inj ho)
      omega
    · have h2 : (8 : Nat) = ci := congrArg Prod.fst (Option.some.inj ho)
      subst h2
      exact vk_recv hO3 (i := 0) (by decide) hS
    · have h2 : (8 : Nat) = ci := congrArg Prod.fst (Option.some.inj ho)
      subst h2
      exact vk_recv hO3 (i := 1) (by decide) hS
    · have h2 : (14 : Nat) = ci := congrArg Prod.fst (Option.some.inj ho)
      omega
    · have h2 : (14 : Nat) = ci := congrArg Prod.fst (Option.some.inj ho)
      omega
    · have h2 : (99 : Nat) = ci := congrArg Prod.fst (Option.some.inj ho)
      omega
theorem x_run_shape : ∀ (n d y pc : Nat) (L S : List Value) (h hf : x_H) (r : Option Value), x_run n d y pc L S h = some (r, hf) → (∃ v, r = some (.int v)) ∨ r = none := by
  intro n
  induction n with
  | zero => intro d y pc L S h hf r hr; cases hr
  | succ n ih =>
    intro d y pc L S h hf r hr
    obtain ⟨i2, nx2, -, g | g | g | g⟩ := x_run_w hr
    · obtain ⟨z2, d2, r2, h2, -, -, -, -, g2⟩ := g
      exact ih _ _ _ _ _ _ _ _ g2
    · obtain ⟨v, ty, -, -, -, -, rfl, -⟩ := g
      exact Or.inl ⟨v, rfl⟩
    · obtain ⟨-, -, -, rfl, -⟩ := g
      exact Or.inr rfl
    · obtain ⟨_, _, _, _, -, -, g2⟩ := g
      exact ih _ _ _ _ _ _ _ _ g2
/-- from which instruction a call came -/
theorem x_cal_w {c pc z : Nat} {r i : Instr} (hr : x_res c pc r = some i) (hc : x_cal i = some z) :
    (∃ k, r = .invokestatic k ∧ i = .invokestatic z ∧ x_call c k = some (z, 0) ∧ z ≠ x_abs ∧ z ≠ x_max) ∨ (∃ k, r = .invokevirtual k ∧ i = .invokevirtual z ∧ x_call c k = some (z, 1)) ∨ (∃ k q, r = .invokespecial k ∧ i = .invokespecial z ∧ x_call c k = some (z, q) ∧ (q = 2 ∨ q = 3)) := by
  cases r
  case invokestatic k =>
    refine Or.inl ⟨k, rfl, ?_⟩
    simp only [x_res] at hr
    split at hr
    next => cases hr; cases hc
    next =>
      split at hr
      next z' hz =>
        split at hr
        next => cases hr; cases hc
        next h1 =>
          split at hr
          next => cases hr; cases hc
          next h2 =>
            cases hr
            cases hc
            exact ⟨rfl, hz, h1, h2⟩
      next => cases hr
  case invokevirtual k =>
    refine Or.inr (Or.inl ⟨k, rfl, ?_⟩)
    simp only [x_res] at hr
    split at hr
    next z' hz =>
      cases hr
      cases hc
      exact ⟨rfl, hz⟩
    next => cases hr
  case invokespecial k =>
    refine Or.inr (Or.inr ?_)
    simp only [x_res] at hr
    split at hr
    next => cases hr; cases hc
    next =>
      split at hr
      next z' hz =>
        cases hr
        cases hc
        exact ⟨k, 2, rfl, rfl, hz, Or.inl rfl⟩
      next z' hz =>
        cases hr
        cases hc
        exact ⟨k, 3, rfl, rfl, hz, Or.inr rfl⟩
      next => cases hr
  case newarray t =>
    exfalso
    cases t <;> first | (cases hr; done) | (cases hr; cases hc; done)
  all_goals
    exfalso
    simp only [x_res] at hr
    repeat' (split at hr)
    all_goals first
      | (cases hr; done)
      | (cases hr; cases hc; done)
theorem x_call_z {c k z q : Nat} (h : x_call c k = some (z, q)) : z < 184 := by
  unfold x_call at h
  rw [Option.map_eq_some_iff] at h
  obtain ⟨r, h1, h2⟩ := h
  have h4 := List.all_eq_true.mp x_ct_z r (List.mem_of_find?_eq_some h1)
  cases h2
  simpa using h4
set_option maxHeartbeats 4000000 in
theorem x_sound (hD0 : True) : ∀ n, x_Snd o sio sz xs D n := by
  intro n
  induction n with
  | zero => intro d y pc L S h hf r hr; cases hr
  | succ n ih =>
    intro d y pc L S h hf r hr n0 s0 p l e R s m args below meth c H locs Q ls C hL hLl hW hS hn0 hs0 hR1 hR2 fin
    have C' := C
    obtain ⟨hx, hb, hml, hown, hts, hO, hsz, h8, hini, hRf, hRl, hlk, hsio⟩ := C'
    obtain ⟨i, nx, hfe, hcase⟩ := x_run_w hr
    obtain ⟨rw, n1, hd, hn, hres, rfl⟩ := x_fe_w hfe
    rcases hcase with hcase | hcase | hcase | hcase
    · obtain ⟨z, d', r1, h1, hcal, rfl, hok, hrun1, hrun2⟩ := hcase
      have m1 := x_run_mono _ _ _ _ _ _ _ _ _ hrun1
      have m2 := x_run_mono _ _ _ _ _ _ _ _ _ hrun2
      simp only [x_okc, Bool.and_eq_true, decide_eq_true_eq] at hok
      obtain ⟨⟨⟨ok1, ok2⟩, ok3⟩, ok4⟩ := hok
      refine x_size _ (fun hz0 => ?_)
      have hHs : H.size + 8 = sz + h.length := by
        obtain ⟨ws, tys, hP, hD, hK, hQ⟩ := hW
        have hl2 := hQ.1
        by_cases hw0 : ws.length = 0
        · have := hS.1
          omega
        · have hg : ws[ws.length - 1]? = some ws[ws.length - 1] := List.getElem?_eq_getElem (by omega)
          have h3 := (hQ.2.2 _ _ hg).1
          have h4 := (hP _ _ hg).lt
          omega
      have h8h : 8 ≤ h.length := by omega
      have fwd : ∀ (t : State) (H1 : Heap) (locs1 : List Loc) (hH : t.heap = H1) (hvm : s.vm.Alike t.vm) (hB : x_W o sio sz xs D h1 t.heap t) (hS1 : va_S (x_A sz) s.heap H1 locs1), W p l e R s m args below meth c H1 locs1 (h.length - n0 + (h1.length - h.length)) (x_sz h - s0 + (x_sz h1 - x_sz h)) Q (F0 m (pc + n1) ls ((r1.toList ++ S.drop (x_na z)).map (x_tr o sio sz))) := by
        intro t H1 locs1 hH hvm hB hS1
        subst hH
        have k := ih (d' + 1) y (pc + n1) L (r1.toList ++ S.drop (x_na z)) h1 hf r hrun2 n0 s0 p l e R s m args below meth c t.heap locs1 Q ls C hL hLl (hB.moved hvm.symm) hS1 (by omega) (by omega) hR1 hR2 fin
        rw [show h.length - n0 + (h1.length - h.length) = h1.length - n0 by omega, show x_sz h - s0 + (x_sz h1 - x_sz h) = x_sz h1 - s0 by omega]
        exact k
      have hstk : S.map (x_tr o sio sz) = ((S.take (x_na z)).reverse.map (x_tr o sio sz)).reverse ++ (S.drop (x_na z)).map (x_tr o sio sz) := by
        rw [← List.map_reverse, List.reverse_reverse, ← List.map_append, List.take_append_drop]
      have hroom : 2 * (F0 m pc ls (S.map (x_tr o sio sz))).monitorRoom + (((S.drop (x_na z)).map (x_tr o sio sz)).map fun v => v.category).sum ≤ 8 := lv_room (by rw [x_cat_tr hsio]; exact ok2)
      have hcells : h.length - n0 + (h1.length - h.length) ≤ R.cells ∧ x_sz h - s0 + (x_sz h1 - x_sz h) ≤ R.slots := by omega
      have hPU : ∀ U : State, U.heap = H → s.WarmedH U.vm → (x_W o sio sz xs D h U.heap U ∧ x_Old o sio sz xs U U.heap ∧ U.heap.size + 8 = sz + h.length) := by
        intro U hU hWm
        subst hU
        exact ⟨hW.moved hWm.alike, (hO.kept hS.2.1).warm hWm, hHs⟩
      have hAA : ∀ q, q < H.size → x_A sz q → x_A sz q := fun _ _ h => h
      have hfree : ∀ q, x_A sz q → x_A sz q := fun _ h => h
      have hsize : (F0 m pc ls (S.map (x_tr o sio sz))).locals.size = x_ml y := by show ls.size = _; rw [hL.1, hLl]
      -- the callee's contract, and what comes behind it
      have go : ∀ (hzm : x_mok z = true), n1 = 3 → (∀ (Qc : Array Value → State → Outcome → State → Prop), Met l (x_nm z) (x_ws z) (x_rm d' (h1.length - h.length) (x_sz h1 - x_sz h)) (x_Pc o sio sz xs D (S.take (x_na z)).reverse h) Qc (h1.length - h.length) (x_sz h1 - x_sz h) (x_A sz) → va_Run p l e R s m args below meth c H locs (h.length - n0) (x_sz h - s0) (h1.length - h.length) (x_sz h1 - x_sz h) (F0 m pc ls (S.map (x_tr o sio sz))) ((S.drop (x_na z)).map (x_tr o sio sz)) (Qc ((S.take (x_na z)).reverse.map (x_tr o sio sz)).toArray) (x_A sz)) → W p l e R s m args below meth c H locs (h.length - n0) (x_sz h - s0) Q (F0 m pc ls (S.map (x_tr o sio sz))) := by
        intro hzm hn1 run
        subst hn1
        have rshape : (∃ v, r1 = some (.int v)) ∨ r1 = none := x_run_shape _ _ _ _ _ _ _ _ _ hrun1
        rcases rshape with ⟨v, rfl⟩ | rfl
        · have hM := x_met (l := l) ih hsio hzm h8h ok3 hrun1 (Qc := x_Qi o sio sz xs D v h1) (fun w hw => by cases hw; rfl) (fun hw => by cases hw)
          exact va_calli (run _ hM) hS hAA hfree (fun r2 u t H1 locs1 hH hvm hp hB hsz1 hk1 hS1 => by
            have hp' : r2 = v := hp
            subst hp'
            exact fwd t H1 locs1 hH hvm hB hS1)
        · have hM := x_met (l := l) ih hsio hzm h8h ok3 hrun1 (Qc := x_Qv o sio sz xs D h1) (fun w hw => by cases hw) (fun _ => rfl)
          exact va_callv (run _ hM) hS hAA hfree (fun u t H1 locs1 hH hvm hp hB hsz1 hk1 hS1 => fwd t H1 locs1 hH hvm hB hS1)
      have callB : ∀ (hzm : x_mok z = true) (k np : Nat), (parseMethodDescriptor (x_nm z).desc).map (fun dd => dd.parameters.length) = some np → (Jvm.Cond.methodLink (x_cn (x_cy y)) k (x_nm z)).before args s = true → CallB R s args (x_cn (x_cy y)) k (x_nm z) (x_by z) (x_ml z) (x_rt z) (x_ws z) (x_rm d' (h1.length - h.length) (x_sz h1 - x_sz h)) (h1.length - h.length) (x_sz h1 - x_sz h) np := by
        intro hzm k np hnp hlink
        have hz := x_mo hzm
        refine ⟨rfl, rfl, by show d' + 1 + 1 ≤ _; omega, by show 8 + (x_ml z + 11) + (60 * d' + 60) ≤ _; have := hz.2.2.2.2.2.1; omega, pay_in hts (x_ws_good hzm), List.mem_cons_self, hts _ hz.1.1, hts _ hz.1.2.2.2, hz.2.2.1, fun sig hsig => ?_, hlink⟩
        rw [hsig] at hnp
        exact (Option.some.inj hnp).symm
      rcases x_cal_w hres hcal with ⟨k, rfl, rfl, hcl, hza, hzx⟩ | ⟨k, rfl, rfl, hcl⟩ | ⟨k, q, rfl, rfl, hcl, hq⟩
      · have hzm := x_mok_at (x_call_z hcl) hza hzx
        have hz := x_mo hzm
        have hcw := (x_call_w hcl).2
        rcases hcw with hcw | hcw
        · exact absurd hcw.1 (by decide)
        · have hkd := hcw.2.1
          refine go hzm (by simpa [x_sw, x_len] using hn) (fun Qc hM => ?_)
          have hnp := hz.2.2.2.1
          simp only [hkd, if_true, Nat.add_zero] at hnp
          have hst := hz.1.2.1
          rw [if_pos hkd] at hst
          exact va_runS ⟨hx, hb, hml, hown, hts⟩ hM ⟨callB hzm k (x_na z) hnp (hts _ hcw.2.2), hts _ hst⟩ ⟨x_Pc_blind, fun U hU hWm => ⟨rfl, hPU U hU hWm⟩⟩ rfl (by simp; omega) hsize hstk hroom (by cases (show n1 = 3 by simpa [x_sw, x_len] using hn); exact hd) hcells
      · have hcw := (x_call_w hcl).2
        rcases hcw with hcw | hcw
        · exact absurd hcw.1 (by decide)
        · have hkd := hcw.2.1
          have hzm := x_mok_at (x_call_z hcl) (fun zz => by rw [zz, x_kd_am.1] at hkd; cases hkd) (fun zz => by rw [zz, x_kd_am.2] at hkd; cases hkd)
          have hz := x_mo hzm
          refine go hzm (by simpa [x_sw, x_len] using hn) (fun Qc hM => ?_)
          dsimp only at ok4
          split at ok4
          next q hq =>
            split at ok4
            next ci fs hci =>
              simp only [Bool.and_eq_true, decide_eq_true_eq] at ok4
              have hna : ∃ np, x_na z = np + 1 ∧ (parseMethodDescriptor (x_nm z).desc).map (fun dd => dd.parameters.length) = some np := by
                have hnp := hz.2.2.2.1
                rw [hkd] at hnp
                simp only [Nat.one_ne_zero, if_false] at hnp
                cases hps : parseMethodDescriptor (x_nm z).desc with
                | none => rw [hps] at hnp; cases hnp
                | some dd => rw [hps] at hnp; exact ⟨dd.parameters.length, (Option.some.inj hnp).symm, rfl⟩
              obtain ⟨np, hnp1, hnp2⟩ := hna
              rw [hnp1, Nat.add_sub_cancel] at hq
              obtain ⟨vs, hvs⟩ := x_take_rev hq
              rw [← hnp1] at hvs
              have hvl : vs.length = np := by
                have := congrArg List.length hvs
                simp at this
                omega
              have hin := hz.1.2.1
              rw [if_neg (by omega)] at hin
              have hcy : x_cy z < 7 ∨ x_cy z = 8 := by
                have h5 := List.all_eq_true.mp x_kd_1 z (List.mem_range.mpr (x_call_z hcl))
                simp only [Bool.or_eq_true, decide_eq_true_eq] at h5
                rcases h5 with (h5 | h5) | h5
                · exact absurd hkd h5
                · exact Or.inl h5
                · exact Or.inr h5
              have hrc := x_recv hW hO hS hci (by rw [ok4.1]; exact hcy)
              rw [hvs, List.map_cons, x_tr_ref ok4.2] at hstk ⊢
              rw [hvs] at hM
              refine va_runV ⟨hx, hb, hml, hown, hts⟩ hM ⟨callB hzm k np hnp2 (hts _ hcw.2.2), hts _ hin, hts _ (hz.1.2.2.1 hkd)⟩ ⟨x_Pc_blind, by rw [← ok4.1]; exact hrc, fun U hU hWm => ⟨by rw [List.map_cons, x_tr_ref ok4.2], hPU U hU hWm⟩⟩ rfl (by rw [List.length_map]; exact hvl) hsize (by rw [List.reverse_cons, List.append_assoc] at hstk; exact hstk) hroom (by cases (show n1 = 3 by simpa [x_sw, x_len] using hn); exact hd) hcells
            next => cases ok4
          next => cases ok4
      · have hkd : x_kd z = 2 := by
          rcases (x_call_w hcl).2 with hcw | hcw
          · exact hcw.2.2.1
          · rcases hq with rfl | rfl
            · exact hcw.2.1
            · exact absurd rfl hcw.1
        have hzm := x_mok_at (x_call_z hcl) (fun zz => by rw [zz, x_kd_am.1] at hkd; cases hkd) (fun zz => by rw [zz, x_kd_am.2] at hkd; cases hkd)
        have hz := x_mo hzm
        refine go hzm (by simpa [x_sw, x_len] using hn) (fun Qc hM => ?_)
        dsimp only at ok4
        split at ok4
        next q1 hq1 =>
          simp only [decide_eq_true_eq] at ok4
          have hna : ∃ np, x_na z = np + 1 ∧ (parseMethodDescriptor (x_nm z).desc).map (fun dd => dd.parameters.length) = some np := by
            have hnp := hz.2.2.2.1
            rw [hkd] at hnp
            cases hps : parseMethodDescriptor (x_nm z).desc with
            | none => rw [hps] at hnp; cases hnp
            | some dd => rw [hps] at hnp; exact ⟨dd.parameters.length, (Option.some.inj hnp).symm, rfl⟩
          obtain ⟨np, hnp1, hnp2⟩ := hna
          rw [hnp1, Nat.add_sub_cancel] at hq1
          obtain ⟨vs, hvs⟩ := x_take_rev hq1
          rw [← hnp1] at hvs
          have hvl : vs.length = np := by
            have := congrArg List.length hvs
            simp at this
            omega
          have hin := hz.1.2.1
          rw [if_neg (by omega)] at hin
          have hrt := (hz.2.2.2.2.2.2 hkd).2
          have hname := (hz.2.2.2.2.2.2 hkd).1
          rw [hvs, List.map_cons, x_tr_ref ok4] at hstk ⊢
          rw [hvs] at hM
          have hd3 : decode (x_by y) pc = .ok (.invokespecial k, 3) := by cases (show n1 = 3 by simpa [x_sw, x_len] using hn); exact hd
          have hpre : PreS s H (x_Pc o sio sz xs D (Value.ref q1 :: vs) h) (.ref (x_ad o sz q1) :: vs.map (x_tr o sio sz)) := ⟨x_Pc_blind, fun U hU hWm => ⟨by rw [List.map_cons, x_tr_ref ok4], hPU U hU hWm⟩⟩
          have hstk' : S.map (x_tr o sio sz) = (vs.map (x_tr o sio sz)).reverse ++ (.ref (x_ad o sz q1) :: (S.drop (x_na z)).map (x_tr o sio sz)) := by rw [List.reverse_cons, List.append_assoc] at hstk; exact hstk
          have hrtw : x_ws z = Jvm.Cond.code (x_nm z) (x_by z) (x_ml z) none :: x_TB := by show Jvm.Cond.code _ _ _ (x_rt z) :: _ = _; rw [hrt]
          rcases (x_call_w hcl).2 with hcw | hcw
          · obtain ⟨-, hcy5, -, w, hne⟩ := hcw
            have hnl := hO.2.2.2.2.2.2 _ hne
            have hown5 : s.vm.findClass "WindowCards" = some m.cls := by rw [hcy5] at hown; exact hown
            have hcn : va_CN R s args "WindowCards" k (x_nm z) "WindowCards" (x_by z) (x_ml z) none (x_ws z) (x_rm d' (h1.length - h.length) (x_sz h1 - x_sz h)) (h1.length - h.length) (x_sz h1 - x_sz h) np :=
              va_cnB np hts (x_ws_good hzm) hrtw rfl rfl hnl (hts _ hz.1.2.2.2) ⟨hz.2.2.1.1, hz.2.2.1.2, hnp2⟩ ⟨by show d' + 1 + 1 ≤ _; omega, by show 8 + (x_ml z + 11) + (60 * d' + 60) ≤ _; have := hz.2.2.2.2.2.1; omega⟩
            exact va_runIN ⟨hx, hb, hml, hown5, hts⟩ hM ⟨hcn, hname, hts _ hin⟩ hpre rfl (by rw [List.length_map]; exact hvl) hsize hstk' hroom hd3 hcells
          · have hcb := callB hzm k np hnp2 (hts _ hcw.2.2)
            rw [hrt] at hcb
            exact va_runI ⟨hx, hb, hml, hown, hts⟩ hM ⟨hcb, hname, hts _ hin⟩ hpre rfl (by rw [List.length_map]; exact hvl) hsize hstk' hroom hd3 hcells
        next => cases ok4
    · obtain ⟨v, ty, rfl, rfl, hty, hnr, rfl, rfl⟩ := hcase
      have hrw : rw = .ireturn := by
        cases rw
        case ireturn => rfl
        case newarray t => cases t <;> cases hres
        all_goals
          exfalso
          simp only [x_res] at hres
          repeat' (split at hres)
          all_goals (cases hres; done)
      subst hrw
      cases (show n1 = 1 by simpa [x_sw, x_len] using hn)
      exact (fin ls H locs pc hW hS).1 v rfl hd ⟨ty, hty, hnr⟩
    · obtain ⟨rfl, rfl, hty, rfl, rfl⟩ := hcase
      have hrw : rw = .return_ := by
        cases rw
        case return_ => rfl
        case newarray t => cases t <;> cases hres
        all_goals
          exfalso
          simp only [x_res] at hres
          repeat' (split at hres)
          all_goals (cases hres; done)
      subst hrw
      cases (show n1 = 1 by simpa [x_sw, x_len] using hn)
      exact (fin ls H locs pc hW hS).2 rfl hd hty
    · obtain ⟨pc', L', S', h', hcal, hst, hrun⟩ := hcase
      have m1 := x_step_mono hst
      have m2 := x_run_mono _ _ _ _ _ _ _ _ _ hrun
      exact x_sound1 (D := D) C hd hn hres hst hL hLl hW hS hn0 hs0 (by omega) (by omega) (fun ls' H' locs' hL' hW' hS' => ih d y pc' L' S' h' hf r hrun n0 s0 p l e R s m args below meth c H' locs' Q ls' C hL' (by rw [m1.2]; exact hLl) hW' hS' (by omega) (by omega) hR1 hR2 fin)
end XSD
end
section
/-! MEMORY: all shapes are fixed behind the two constructors: tag, length, references by place; the rest is a function of ints -/
abbrev x_M : Type := Nat → Nat → Int32
def x_tgs : List Nat := [100, 100, 100, 100, 100, 100, 100, 100, 5, 11, 3, 10, 0, 10, 10, 10, 10, 0, 10, 10, 10, 10, 12, 1, 10, 10, 10, 10, 4, 10, 2, 10, 2, 10, 2, 10, 2, 10, 2, 10, 2, 10, 2, 10, 2, 10, 0, 10, 10, 10, 10, 0, 10, 10, 10, 10, 6, 10, 10, 10, 10, 10, 10, 10, 10, 10, 10, 10, 10, 10, 10, 10, 10, 10, 10]
def x_lns : List Nat := [0, 0, 0, 0, 0, 0, 0, 0, 10, 8, 6, 400, 10, 9, 112, 2, 2, 10, 9, 112, 2, 2, 2, 5, 4, 2, 16384, 3, 2, 16, 4, 40, 4, 40, 4, 40, 4, 40, 4, 40, 4, 40, 4, 40, 4, 40, 10, 9, 112, 2, 2, 10, 9, 112, 2, 2, 27, 99, 400, 8, 8, 320, 16, 9, 14, 14, 112, 3, 6, 6, 12, 6, 6, 6, 3]
def x_rfs : List (List (Option Nat)) := [[], [], [], [], [], [], [], [], [some 9, some 10, some 12, some 17, some 22, some 23, some 27, some 28], [some 30, some 32, some 34, some 36, some 38, some 40, some 42, some 44], [some 11], [], [some 13, some 14, some 15, some 16], [], [], [], [], [some 18, some 19, some 20, some 21], [], [], [], [], [some 46, some 51], [some 24, some 25, some 26], [], [], [], [], [some 29], [], [some 31], [], [some 33], [], [some 35], [], [some 37], [], [some 39], [], [some 41], [], [some 43], [], [some 45], [], [some 47, some 48, some 49, some 50], [], [], [], [], [some 52, some 53, some 54, some 55], [], [], [], [], [some 57, some 58, none, none, none, some 59, some 60, some 61, some 62, none, none, none, none, some 63, some 64, some 65, none, some 66, some 67, some 68, some 69, some 70, some 71, some 72, some 73, none, some 74], [], [], [], [], [], [], [], [], [], [], [], [], [], [], [], [], [], []]
def x_tg (p : Nat) : Nat := x_tgs.getD p 99
def x_ln (p : Nat) : Nat := x_lns.getD p 0
def x_rf (p j : Nat) : Option Nat := (x_rfs.getD p []).getD j none
def x_rr (p j : Nat) : Nat := (x_rf p j).getD 0
/-- of a reference field of a class: the tag and the length of what it refers to -/
def x_fss : List (List (Nat × Nat)) := [[(10, 9), (10, 112), (10, 2), (10, 2)], [(10, 4), (10, 2), (10, 16384)], [(10, 40)], [(10, 400)], [(10, 16)], [(11, 8), (3, 6), (0, 10), (0, 10), (12, 2), (1, 5), (10, 3), (4, 2)], [(10, 99), (10, 400), (0, 0), (0, 0), (0, 0), (10, 8), (10, 8), (10, 320), (10, 16), (0, 0), (0, 0), (0, 0), (0, 0), (10, 9), (10, 14), (10, 14), (0, 0), (10, 112), (10, 3), (10, 6), (10, 6), (10, 12), (10, 6), (10, 6), (10, 6), (0, 0), (10, 3)]]
def x_fs (c j : Nat) : Nat × Nat := (x_fss.getD c []).getD j (0, 0)
def x_isr (c j : Nat) : Bool := match x_ty c j with
  | .array _ => true
  | .object _ => true
  | _ => false
def x_vl (S : x_M) (p j : Nat) : Value := match x_rf p j with
  | some r => .ref r
  | none => .int (S p j)
def x_ce (S : x_M) (p : Nat) : x_C := (x_tg p, (List.range (x_ln p)).map (x_vl S p))
def x_hp (xs : List Int32) (S : x_M) : x_H := x_old xs ++ (List.range 67).map (fun i => x_ce S (8 + i))
def x_up (S : x_M) (p k : Nat) (v : Int32) : x_M := fun q j => if q = p ∧ j = k then v else S q j
/-- n ints of p from sp on come to q from dp on -/
def x_cp (S : x_M) (p sp q dp n : Nat) : x_M := fun r j => if r = q ∧ dp ≤ j ∧ j < dp + n then S p (sp + (j - dp)) else S r j
theorem x_sh1 : ((List.range 75).all fun p => if p < 8 then decide (x_tg p = 100) else (decide (x_tg p < 7) || decide (x_tg p = 10) || decide (x_tg p = 11) || decide (x_tg p = 12)) && (if x_tg p < 7 then decide (x_ln p = x_N (x_tg p)) && ((List.range (x_ln p)).all fun j => (x_rf p j).isSome == x_isr (x_tg p) j && (!(x_isr (x_tg p) j) || (decide (x_tg (x_rr p j) = (x_fs (x_tg p) j).1) && decide (x_ln (x_rr p j) = (x_fs (x_tg p) j).2)))) else if x_tg p = 10 then decide (x_rfs.getD p [] = []) else (List.range (x_ln p)).all fun j => (x_rf p j).isSome && decide (x_tg (x_rr p j) = if x_tg p = 11 then 2 else 0))) = true := by decide +kernel
theorem x_tg_lt {p c : Nat} (h : x_tg p = c) (hc : c < 99) : 8 ≤ p ∧ p < 75 := by
  have h75 : p < 75 := by
    by_cases hp : p < 75
    · exact hp
    · exfalso
      have h2 : x_tg p = 99 := by
        unfold x_tg
        rw [List.getD_eq_getElem?_getD, List.getElem?_eq_none (by show 75 ≤ p; omega)]
        rfl
      omega
  refine ⟨?_, h75⟩
  by_cases hp : 8 ≤ p
  · exact hp
  · exfalso
    have h1 := List.all_eq_true.mp x_sh1 p (List.mem_range.mpr h75)
    rw [if_pos (by omega)] at h1
    simp only [decide_eq_true_eq] at h1
    omega
theorem x_tg_all {p c : Nat} (h : x_tg p = c) (hc : c < 99) : (if c < 7 then decide (x_ln p = x_N c) && ((List.range (x_ln p)).all fun j => (x_rf p j).isSome == x_isr c j && (!(x_isr c j) || (decide (x_tg (x_rr p j) = (x_fs c j).1) && decide (x_ln (x_rr p j) = (x_fs c j).2)))) else if c = 10 then decide (x_rfs.getD p [] = []) else (List.range (x_ln p)).all fun j => (x_rf p j).isSome && decide (x_tg (x_rr p j) = if c = 11 then 2 else 0)) = true := by
  obtain ⟨h8, h75⟩ := x_tg_lt h hc
  have h1 := List.all_eq_true.mp x_sh1 p (List.mem_range.mpr h75)
  rw [if_neg (by omega), h, Bool.and_eq_true] at h1
  exact h1.2
theorem x_tg_n {p c : Nat} (h : x_tg p = c) (hc : c < 7) : x_ln p = x_N c := by
  have h1 := x_tg_all h (by omega)
  rw [if_pos hc] at h1
  simp only [Bool.and_eq_true, decide_eq_true_eq] at h1
  exact h1.1
theorem x_tg_i {p c j : Nat} (h : x_tg p = c) (hc : c < 7) (hj : j < x_N c) (hi : x_isr c j = false) : x_rf p j = none := by
  have h0 := x_tg_n h hc
  have h1 := x_tg_all h (by omega)
  rw [if_pos hc] at h1
  simp only [Bool.and_eq_true] at h1
  have h2 := List.all_eq_true.mp h1.2 j (List.mem_range.mpr (by omega))
  simp only [Bool.and_eq_true, hi, beq_iff_eq] at h2
  cases hr : x_rf p j with
  | none => rfl
  | some r => rw [hr] at h2; exact absurd h2.1 (by simp)
theorem x_tg_r {p c j : Nat} (h : x_tg p = c) (hc : c < 7) (hj : j < x_N c) (hi : x_isr c j = true) : x_rf p j = some (x_rr p j) ∧ x_tg (x_rr p j) = (x_fs c j).1 ∧ x_ln (x_rr p j) = (x_fs c j).2 := by
  have h0 := x_tg_n h hc
  have h1 := x_tg_all h (by omega)
  rw [if_pos hc] at h1
  simp only [Bool.and_eq_true] at h1
  have h2 := List.all_eq_true.mp h1.2 j (List.mem_range.mpr (by omega))
  simp only [Bool.and_eq_true, hi, beq_iff_eq, Bool.not_true, Bool.false_or, decide_eq_true_eq] at h2
  refine ⟨?_, h2.2⟩
  unfold x_rr
  cases hr : x_rf p j with
  | none => rw [hr] at h2; exact absurd h2.1 (by simp)
  | some r => rfl
theorem x_tg_a {p j : Nat} (h : x_tg p = 10) : x_rf p j = none := by
  have h1 := x_tg_all h (by omega)
  simp only [show ¬ (10 : Nat) < 7 by omega, if_false, if_true, decide_eq_true_eq] at h1
  unfold x_rf
  rw [h1]
  rfl
theorem x_tg_q {p c j : Nat} (h : x_tg p = c) (hc : c = 11 ∨ c = 12) (hj : j < x_ln p) : x_rf p j = some (x_rr p j) ∧ x_tg (x_rr p j) = if c = 11 then 2 else 0 := by
  have h1 := x_tg_all h (by omega)
  rw [if_neg (by omega), if_neg (by omega)] at h1
  have h2 := List.all_eq_true.mp h1 j (List.mem_range.mpr hj)
  simp only [Bool.and_eq_true, decide_eq_true_eq] at h2
  refine ⟨?_, h2.2⟩
  unfold x_rr
  cases hr : x_rf p j with
  | none => rw [hr] at h2; exact absurd h2.1 (by simp)
  | some r => rfl
theorem x_hp_at {xs : List Int32} {S : x_M} {p : Nat} (h8 : 8 ≤ p) (h75 : p < 75) : (x_hp xs S)[p]? = some (x_ce S p) := by
  unfold x_hp
  have hl : (x_old xs).length = 8 := rfl
  rw [List.getElem?_append_right (by omega), List.getElem?_map, List.getElem?_range (by omega), hl]
  show some (x_ce S (8 + (p - 8))) = _
  rw [show 8 + (p - 8) = p by omega]
theorem x_hp_tg {xs : List Int32} {S : x_M} {p c : Nat} (h : x_tg p = c) (hc : c < 99) : (x_hp xs S)[p]? = some (c, (List.range (x_ln p)).map (x_vl S p)) := by
  obtain ⟨h8, h75⟩ := x_tg_lt h hc
  rw [x_hp_at h8 h75]
  unfold x_ce
  rw [h]
theorem x_hp_len {xs : List Int32} {S : x_M} : (x_hp xs S).length = 75 := by
  unfold x_hp
  rw [List.length_append, List.length_map, List.length_range]
  rfl
theorem x_hp_ext {xs : List Int32} {S S' : x_M} {p : Nat} {c : x_C} (h8 : 8 ≤ p) (h75 : p < 75) (hc : c = x_ce S' p) (hS : ∀ q, q ≠ p → S' q = S q) : (x_hp xs S).set p c = x_hp xs S' := by
  apply List.ext_getElem?
  intro i
  by_cases hi : i = p
  · subst hi
    rw [List.getElem?_set_self (by rw [x_hp_len]; exact h75), x_hp_at h8 h75, hc]
  · rw [List.getElem?_set_ne (Ne.symm hi)]
    by_cases hi8 : 8 ≤ i
    · by_cases hi75 : i < 75
      · rw [x_hp_at hi8 hi75, x_hp_at hi8 hi75]
        unfold x_ce x_vl
        rw [hS i hi]
      · rw [List.getElem?_eq_none (by rw [x_hp_len]; omega), List.getElem?_eq_none (by rw [x_hp_len]; omega)]
    · unfold x_hp
      have hl : (x_old xs).length = 8 := rfl
      rw [List.getElem?_append_left (by omega), List.getElem?_append_left (by omega)]
theorem x_hp_set {xs : List Int32} {S : x_M} {p c k : Nat} {v : Int32} (h : x_tg p = c) (hc : c < 99) (hk : k < x_ln p) (hr : x_rf p k = none) : (x_hp xs S).set p (c, ((List.range (x_ln p)).map (x_vl S p)).set k (.int v)) = x_hp xs (x_up S p k v) := by
  obtain ⟨h8, h75⟩ := x_tg_lt h hc
  refine x_hp_ext h8 h75 ?_ (fun q hq => ?_)
  · unfold x_ce
    rw [h]
    congr 1
    apply List.ext_getElem?
    intro j
    by_cases hj : j = k
    · subst hj
      rw [List.getElem?_set_self (by simpa using hk), List.getElem?_map, List.getElem?_range hk]
      show _ = some (x_vl _ p j)
      unfold x_vl
      rw [hr]
      show _ = some (Value.int (if p = p ∧ j = j then v else _))
      rw [if_pos ⟨rfl, rfl⟩]
    · rw [List.getElem?_set_ne (Ne.symm hj), List.getElem?_map, List.getElem?_map]
      by_cases hjl : j < x_ln p
      · rw [List.getElem?_range hjl]
        show some (x_vl _ p j) = some (x_vl _ p j)
        unfold x_vl x_up
        rw [if_neg (fun z => hj z.2)]
      · rw [List.getElem?_eq_none (by simp; omega)]
        rfl
  · funext j
    show (if q = p ∧ j = k then v else S q j) = _
    rw [if_neg (fun z => hq z.1)]
/-! RUNS, upward in fuel and depth -/
theorem x_run_call {n d y pc nx z : Nat} {i : Instr} {L K : List Value} {h h1 : x_H} {r1 : Option Value} {w : Option Value × x_H} (hf : x_fe y pc = some (i, nx)) (hc : x_cal i = some z) (ho : x_okc i z K h = true) (h1r : x_run n d z 0 (x_loc (x_ml z) (K.take (x_na z)).reverse) [] h = some (r1, h1)) (h2r : x_run n (d + 1) y nx L (r1.toList ++ K.drop (x_na z)) h1 = some w) : x_run (n + 1) (d + 1) y pc L K h = some w := by
  rw [x_run_succ, hf]
  simp only [hc, ho, if_true, h1r, h2r]
theorem x_run_step {n d y pc nx : Nat} {i : Instr} {L K : List Value} {h : x_H} {pc' : Nat} {L' K' : List Value} {h' : x_H} {w : Option Value × x_H} (hf : x_fe y pc = some (i, nx)) (hc : x_cal i = none) (hs : x_step (x_kd y == 2) i pc nx L K h = some (pc', L', K', h')) (h2r : x_run n d y pc' L' K' h' = some w) : x_run (n + 1) d y pc L K h = some w := by
  rw [x_run_succ, hf]
  simp only [hc]
  split
  · cases hs
  · cases hs
  · rw [hs]
    exact h2r
theorem x_run_up : ∀ (n d y pc : Nat) (L K : List Value) (h : x_H) (w : Option Value × x_H), x_run n d y pc L K h = some w → ∀ n' d', n ≤ n' → d ≤ d' → x_run n' d' y pc L K h = some w := by
  intro n
  induction n with
  | zero => intro d y pc L K h w hr; cases hr
  | succ n ih =>
    intro d y pc L K h w hr n' d' hn hd
    obtain ⟨r, hf⟩ := w
    cases n' with
    | zero => omega
    | succ n' =>
      obtain ⟨i, nx, hfe, g | g | g | g⟩ := x_run_w hr
      · obtain ⟨z, d1, r1, h1, g1, rfl, g3, g4, g5⟩ := g
        cases d' with
        | zero => omega
        | succ d' => exact x_run_call hfe g1 g3 (ih _ _ _ _ _ _ _ g4 n' d' (by omega) (by omega)) (ih _ _ _ _ _ _ _ g5 n' (d' + 1) (by omega) (by omega))
      · obtain ⟨v, ty, rfl, rfl, g3, g4, rfl, rfl⟩ := g
        rw [x_run_succ, hfe]
        simp only [x_cal, g3, g4, if_true]
      · obtain ⟨rfl, rfl, g3, rfl, rfl⟩ := g
        rw [x_run_succ, hfe]
        simp only [x_cal, g3]
      · obtain ⟨pc', L', K', h', g1, g2, g3⟩ := g
        exact x_run_step hfe g1 g2 (ih _ _ _ _ _ _ _ g3 n' d' (by omega) hd)
/-! E: the run from here comes to an end with Q -/
def x_E (xs : List Int32) (d y pc : Nat) (L K : List Value) (S : x_M) (Q : Option Value → x_M → Prop) : Prop := ∃ (n : Nat) (r : Option Value) (S' : x_M), x_run n d y pc L K (x_hp xs S) = some (r, x_hp xs S') ∧ Q r S'
def x_Ci (xs : List Int32) (d z : Nat) (A : List Value) (S : x_M) (P : Int32 → x_M → Prop) : Prop := x_E xs d z 0 (x_loc (x_ml z) A) [] S (fun r S' => ∃ v : Int32, r = some (.int v) ∧ P v S')
def x_Cv (xs : List Int32) (d z : Nat) (A : List Value) (S : x_M) (P : x_M → Prop) : Prop := x_E xs d z 0 (x_loc (x_ml z) A) [] S (fun r S' => r = none ∧ P S')
section XE
variable {xs : List Int32} {d y pc nx : Nat} {L K : List Value} {S : x_M} {Q : Option Value → x_M → Prop}
theorem x_E_weak {Q' : Option Value → x_M → Prop} (h : x_E xs d y pc L K S Q) (hq : ∀ r S', Q r S' → Q' r S') : x_E xs d y pc L K S Q' := by
  obtain ⟨n, r, S', h1, h2⟩ := h
  exact ⟨n, r, S', h1, hq _ _ h2⟩
theorem x_E_step {i : Instr} {pc' : Nat} {L' K' : List Value} {S' : x_M} (hf : x_fe y pc = some (i, nx)) (hc : x_cal i = none) (hs : x_step (x_kd y == 2) i pc nx L K (x_hp xs S) = some (pc', L', K', x_hp xs S')) (k : x_E xs d y pc' L' K' S' Q) : x_E xs d y pc L K S Q := by
  obtain ⟨n, r, S2, h1, h2⟩ := k
  exact ⟨n + 1, r, S2, x_run_step hf hc hs h1, h2⟩
theorem e_iconst {n : Int} {c : Int32} (hf : x_fe y pc = some (.iconst n, nx)) (hc : Int32.ofInt n = c) (k : x_E xs d y nx L (.int c :: K) S Q) : x_E xs d y pc L K S Q := x_E_step hf rfl (by rw [← hc]; rfl) k
theorem e_lconst {n : Nat} {c : Int64} (hf : x_fe y pc = some (.ldc2_w n, nx)) (hc : Int64.ofNat n = c) (k : x_E xs d y nx L (.long c :: K) S Q) : x_E xs d y pc L K S Q := x_E_step hf rfl (by rw [← hc]; rfl) k
theorem e_ldc {p : Nat} (hf : x_fe y pc = some (.ldc p, nx)) (k : x_E xs d y nx L (.ref p :: K) S Q) : x_E xs d y pc L K S Q := x_E_step hf rfl rfl k
theorem e_iload {j : Nat} {v : Int32} (hf : x_fe y pc = some (.iload j, nx)) (hl : L[j]? = some (.int v)) (k : x_E xs d y nx L (.int v :: K) S Q) : x_E xs d y pc L K S Q := x_E_step hf rfl (by simp only [x_step, hl]) k
theorem e_lload {j : Nat} {v : Int64} (hf : x_fe y pc = some (.lload j, nx)) (hl : L[j]? = some (.long v)) (k : x_E xs d y nx L (.long v :: K) S Q) : x_E xs d y pc L K S Q := x_E_step hf rfl (by simp only [x_step, hl]) k
theorem e_aload {j p : Nat} (hf : x_fe y pc = some (.aload j, nx)) (hl : L[j]? = some (.ref p)) (hp : p ≠ 7) (k : x_E xs d y nx L (.ref p :: K) S Q) : x_E xs d y pc L K S Q := x_E_step hf rfl (by simp only [x_step, hl, if_neg hp]) k
theorem e_istore {j : Nat} {v : Int32} {L' : List Value} (hf : x_fe y pc = some (.istore j, nx)) (hj : j < L.length) (hl : x_st1 L j (.int v) = L') (k : x_E xs d y nx L' K S Q) : x_E xs d y pc L (.int v :: K) S Q := x_E_step hf rfl (by simp only [x_step, if_pos hj, hl]) k
theorem e_astore {j p : Nat} {L' : List Value} (hf : x_fe y pc = some (.astore j, nx)) (hj : j < L.length) (hp : p ≠ 7) (hl : x_st1 L j (.ref p) = L') (k : x_E xs d y nx L' K S Q) : x_E xs d y pc L (.ref p :: K) S Q := x_E_step hf rfl (by simp only [x_step, if_pos (And.intro hj hp), hl]) k
theorem e_lstore {j : Nat} {v : Int64} {L' : List Value} (hf : x_fe y pc = some (.lstore j, nx)) (hj : j + 1 < L.length) (hl : x_st2 L j (.long v) = L') (k : x_E xs d y nx L' K S Q) : x_E xs d y pc L (.long v :: K) S Q := x_E_step hf rfl (by simp only [x_step, if_pos hj, hl]) k
theorem e_iinc {j : Nat} {n : Int} {v w : Int32} {L' : List Value} (hf : x_fe y pc = some (.iinc j n, nx)) (h0 : L[j]? = some (.int v)) (hw : v + Int32.ofInt n = w) (hl : x_st1 L j (.int w) = L') (k : x_E xs d y nx L' K S Q) : x_E xs d y pc L K S Q := x_E_step hf rfl (by simp only [x_step, h0, hw, hl]) k
theorem e_bi {i : Instr} {a b v : Int32} {f : Int32 → Int32 → Option Int32} (hf : x_fe y pc = some (i, nx)) (hc : x_cal i = none) (hi : ∀ (S0 : List Value) (h : x_H), x_step (x_kd y == 2) i pc nx L S0 h = x_bi S0 f nx L h) (hv : f a b = some v) (k : x_E xs d y nx L (.int v :: K) S Q) : x_E xs d y pc L (.int b :: .int a :: K) S Q := x_E_step hf hc (by rw [hi]; simp only [x_bi, hv]) k
theorem e_iadd {a b : Int32} (hf : x_fe y pc = some (.iadd, nx)) (k : x_E xs d y nx L (.int (a + b) :: K) S Q) : x_E xs d y pc L (.int b :: .int a :: K) S Q := x_E_step hf rfl rfl k
theorem e_isub {a b : Int32} (hf : x_fe y pc = some (.isub, nx)) (k : x_E xs d y nx L (.int (a - b) :: K) S Q) : x_E xs d y pc L (.int b :: .int a :: K) S Q := x_E_step hf rfl rfl k
theorem e_imul {a b : Int32} (hf : x_fe y pc = some (.imul, nx)) (k : x_E xs d y nx L (.int (a * b) :: K) S Q) : x_E xs d y pc L (.int b :: .int a :: K) S Q := x_E_step hf rfl rfl k
theorem e_idiv {a b : Int32} (hf : x_fe y pc = some (.idiv, nx)) (hb : ¬ b = 0) (k : x_E xs d y nx L (.int (a / b) :: K) S Q) : x_E xs d y pc L (.int b :: .int a :: K) S Q := x_E_step hf rfl (by simp only [x_step, x_bi, if_neg hb]) k
theorem e_irem {a b : Int32} (hf : x_fe y pc = some (.irem, nx)) (hb : ¬ b = 0) (k : x_E xs d y nx L (.int (a - a / b * b) :: K) S Q) : x_E xs d y pc L (.int b :: .int a :: K) S Q := x_E_step hf rfl (by simp only [x_step, x_bi, if_neg hb]) k
theorem e_iand {a b : Int32} (hf : x_fe y pc = some (.iand, nx)) (k : x_E xs d y nx L (.int (a &&& b) :: K) S Q) : x_E xs d y pc L (.int b :: .int a :: K) S Q := x_E_step hf rfl rfl k
theorem e_ior {a b : Int32} (hf : x_fe y pc = some (.ior, nx)) (k : x_E xs d y nx L (.int (a ||| b) :: K) S Q) : x_E xs d y pc L (.int b :: .int a :: K) S Q := x_E_step hf rfl rfl k
theorem e_ixor {a b : Int32} (hf : x_fe y pc = some (.ixor, nx)) (k : x_E xs d y nx L (.int (a ^^^ b) :: K) S Q) : x_E xs d y pc L (.int b :: .int a :: K) S Q := x_E_step hf rfl rfl k
theorem e_ishl {a b : Int32} (hf : x_fe y pc = some (.ishl, nx)) (k : x_E xs d y nx L (.int (a <<< (b &&& 31)) :: K) S Q) : x_E xs d y pc L (.int b :: .int a :: K) S Q := x_E_step hf rfl rfl k
theorem e_ishr {a b : Int32} (hf : x_fe y pc = some (.ishr, nx)) (k : x_E xs d y nx L (.int (a >>> (b &&& 31)) :: K) S Q) : x_E xs d y pc L (.int b :: .int a :: K) S Q := x_E_step hf rfl rfl k
theorem e_iushr {a b : Int32} (hf : x_fe y pc = some (.iushr, nx)) (k : x_E xs d y nx L (.int (a.toUInt32 >>> (b.toUInt32 &&& Int32.toUInt32 31)).toInt32 :: K) S Q) : x_E xs d y pc L (.int b :: .int a :: K) S Q := x_E_step hf rfl rfl k
theorem e_ineg {a : Int32} (hf : x_fe y pc = some (.ineg, nx)) (k : x_E xs d y nx L (.int (-a) :: K) S Q) : x_E xs d y pc L (.int a :: K) S Q := x_E_step hf rfl rfl k
theorem e_i2b {a : Int32} (hf : x_fe y pc = some (.i2b, nx)) (k : x_E xs d y nx L (.int a.toInt8.toInt32 :: K) S Q) : x_E xs d y pc L (.int a :: K) S Q := x_E_step hf rfl rfl k
theorem e_i2s {a : Int32} (hf : x_fe y pc = some (.i2s, nx)) (k : x_E xs d y nx L (.int a.toInt16.toInt32 :: K) S Q) : x_E xs d y pc L (.int a :: K) S Q := x_E_step hf rfl rfl k
theorem e_i2c {a : Int32} (hf : x_fe y pc = some (.i2c, nx)) (k : x_E xs d y nx L (.int (a.toUInt32 % 65536).toInt32 :: K) S Q) : x_E xs d y pc L (.int a :: K) S Q := x_E_step hf rfl rfl k
theorem e_ladd {a b : Int64} (hf : x_fe y pc = some (.ladd, nx)) (k : x_E xs d y nx L (.long (a + b) :: K) S Q) : x_E xs d y pc L (.long b :: .long a :: K) S Q := x_E_step hf rfl rfl k
theorem e_lmul {a b : Int64} (hf : x_fe y pc = some (.lmul, nx)) (k : x_E xs d y nx L (.long (a * b) :: K) S Q) : x_E xs d y pc L (.long b :: .long a :: K) S Q := x_E_step hf rfl rfl k
theorem e_land {a b : Int64} (hf : x_fe y pc = some (.land, nx)) (k : x_E xs d y nx L (.long (a &&& b) :: K) S Q) : x_E xs d y pc L (.long b :: .long a :: K) S Q := x_E_step hf rfl rfl k
theorem e_lor {a b : Int64} (hf : x_fe y pc = some (.lor, nx)) (k : x_E xs d y nx L (.long (a ||| b) :: K) S Q) : x_E xs d y pc L (.long b :: .long a :: K) S Q := x_E_step hf rfl rfl k
theorem e_lrem {a b : Int64} (hf : x_fe y pc = some (.lrem, nx)) (hb : ¬ b = 0) (k : x_E xs d y nx L (.long (a - a / b * b) :: K) S Q) : x_E xs d y pc L (.long b :: .long a :: K) S Q := x_E_step hf rfl (by simp only [x_step, x_bl, if_neg hb]) k
theorem e_lcmp {a b : Int64} (hf : x_fe y pc = some (.lcmp, nx)) (k : x_E xs d y nx L (.int (lg_cmp a b) :: K) S Q) : x_E xs d y pc L (.long b :: .long a :: K) S Q := x_E_step hf rfl rfl k
theorem e_lshl {a : Int64} {b : Int32} (hf : x_fe y pc = some (.lshl, nx)) (k : x_E xs d y nx L (.long (a <<< (b.toInt64 &&& 63)) :: K) S Q) : x_E xs d y pc L (.int b :: .long a :: K) S Q := x_E_step hf rfl rfl k
theorem e_lshr {a : Int64} {b : Int32} (hf : x_fe y pc = some (.lshr, nx)) (k : x_E xs d y nx L (.long (a >>> (b.toInt64 &&& 63)) :: K) S Q) : x_E xs d y pc L (.int b :: .long a :: K) S Q := x_E_step hf rfl rfl k
theorem e_i2l {a : Int32} (hf : x_fe y pc = some (.i2l, nx)) (k : x_E xs d y nx L (.long a.toInt64 :: K) S Q) : x_E xs d y pc L (.int a :: K) S Q := x_E_step hf rfl rfl k
theorem e_l2i {a : Int64} (hf : x_fe y pc = some (.l2i, nx)) (k : x_E xs d y nx L (.int a.toInt32 :: K) S Q) : x_E xs d y pc L (.long a :: K) S Q := x_E_step hf rfl rfl k
theorem e_dup {v : Value} (hf : x_fe y pc = some (.dup, nx)) (hv : v.category = 1) (k : x_E xs d y nx L (v :: v :: K) S Q) : x_E xs d y pc L (v :: K) S Q := x_E_step hf rfl (by simp only [x_step, if_pos hv]) k
theorem e_pop {v : Value} (hf : x_fe y pc = some (.pop, nx)) (hv : v.category = 1) (k : x_E xs d y nx L K S Q) : x_E xs d y pc L (v :: K) S Q := x_E_step hf rfl (by simp only [x_step, if_pos hv]) k
theorem e_dup2 {v w : Value} (hf : x_fe y pc = some (.dup2, nx)) (hv : v.category = 1 ∧ w.category = 1) (k : x_E xs d y nx L (v :: w :: v :: w :: K) S Q) : x_E xs d y pc L (v :: w :: K) S Q := x_E_step hf rfl (by simp only [x_step, if_pos hv]) k
theorem e_goto {t : Nat} (hf : x_fe y pc = some (.goto (Int.ofNat t), nx)) (k : x_E xs d y t L K S Q) : x_E xs d y pc L K S Q := x_E_step hf rfl rfl k
theorem e_if {q : ClassFile.Cond} {t : Nat} {a : Int32} (hf : x_fe y pc = some (.ifCond q (Int.ofNat t), nx)) (kt : x_cc q a 0 = true → x_E xs d y t L K S Q) (kf : ¬ x_cc q a 0 = true → x_E xs d y nx L K S Q) : x_E xs d y pc L (.int a :: K) S Q := by
  by_cases hc : x_cc q a 0 = true
  · exact x_E_step hf rfl (by simp only [x_step, if_pos hc]; rfl) (kt hc)
  · exact x_E_step hf rfl (by simp only [x_step, if_neg hc]) (kf hc)
theorem e_icmp {q : ClassFile.Cond} {t : Nat} {a b : Int32} (hf : x_fe y pc = some (.if_icmp q (Int.ofNat t), nx)) (kt : x_cc q a b = true → x_E xs d y t L K S Q) (kf : ¬ x_cc q a b = true → x_E xs d y nx L K S Q) : x_E xs d y pc L (.int b :: .int a :: K) S Q := by
  by_cases hc : x_cc q a b = true
  · exact x_E_step hf rfl (by simp only [x_step, if_pos hc]; rfl) (kt hc)
  · exact x_E_step hf rfl (by simp only [x_step, if_neg hc]) (kf hc)
theorem x_vl_i {p j : Nat} (h : x_rf p j = none) : x_vl S p j = .int (S p j) := by
  unfold x_vl
  rw [h]
theorem x_vl_r {p j r : Nat} (h : x_rf p j = some r) : x_vl S p j = .ref r := by
  unfold x_vl
  rw [h]
def x_ib (i : Int32) (n : Nat) : Prop := ¬ i < 0 ∧ i.toNatClampNeg < n
theorem e_gf {e c j p : Nat} (hf : x_fe y pc = some (.getfield e, nx)) (he : e / 32 = c ∧ e % 32 = j) (hc : c < 7 ∧ j < x_N c ∧ x_isr c j = false) (ht : x_tg p = c) (k : x_E xs d y nx L (.int (S p j) :: K) S Q) : x_E xs d y pc L (.ref p :: K) S Q := by
  refine x_E_step hf rfl ?_ k
  have h1 := x_tg_n ht hc.1
  have h2 := x_tg_i ht hc.1 hc.2.1 hc.2.2
  simp only [x_step, x_hp_tg ht (by omega), he.1, he.2, if_true]
  rw [List.getElem?_map, List.getElem?_range (by omega)]
  simp only [Option.map_some, x_vl_i h2]
theorem e_gr {e c j p r : Nat} (hf : x_fe y pc = some (.getfield e, nx)) (he : e / 32 = c ∧ e % 32 = j) (hc : c < 7 ∧ j < x_N c ∧ x_isr c j = true) (ht : x_tg p = c) (hr : x_rr p j = r) (k : x_E xs d y nx L (.ref r :: K) S Q) : x_E xs d y pc L (.ref p :: K) S Q := by
  refine x_E_step hf rfl ?_ k
  have h1 := x_tg_n ht hc.1
  have h2 := (x_tg_r ht hc.1 hc.2.1 hc.2.2).1
  simp only [x_step, x_hp_tg ht (by omega), he.1, he.2, if_true]
  rw [List.getElem?_map, List.getElem?_range (by omega)]
  simp only [Option.map_some, x_vl_r h2, hr]
theorem e_pf {e c j p : Nat} {v : Int32} (hf : x_fe y pc = some (.putfield e, nx)) (he : e / 32 = c ∧ e % 32 = j) (hc : c < 7 ∧ j < x_N c ∧ x_isr c j = false) (ht : x_tg p = c) (hv : x_fit e (.int v) = true) (k : x_E xs d y nx L K (x_up S p j v) Q) : x_E xs d y pc L (.int v :: .ref p :: K) S Q := by
  refine x_E_step hf rfl ?_ k
  have h1 := x_tg_n ht hc.1
  have h2 := x_tg_i ht hc.1 hc.2.1 hc.2.2
  have h3 := (x_tg_lt ht (by omega)).1
  simp only [x_step, x_hp_tg ht (by omega), he.1, he.2]
  rw [if_pos ⟨by trivial, h3, by simp; omega, hv⟩, x_hp_set ht (by omega) (by omega) h2]
theorem e_ia {p n : Nat} {i : Int32} (hf : x_fe y pc = some (.iaload, nx)) (ht : x_tg p = 10) (hn : x_ln p = n) (hi : x_ib i n) (k : x_E xs d y nx L (.int (S p i.toNatClampNeg) :: K) S Q) : x_E xs d y pc L (.int i :: .ref p :: K) S Q := by
  refine x_E_step hf rfl ?_ k
  simp only [x_step, x_hp_tg ht (by omega)]
  rw [if_pos ⟨by trivial, hi.1⟩, List.getElem?_map, List.getElem?_range (by rw [hn]; exact hi.2)]
  simp only [Option.map_some, x_vl_i (x_tg_a ht)]
theorem e_is {p n : Nat} {i v : Int32} (hf : x_fe y pc = some (.iastore, nx)) (ht : x_tg p = 10) (hn : x_ln p = n) (hi : x_ib i n) (k : x_E xs d y nx L K (x_up S p i.toNatClampNeg v) Q) : x_E xs d y pc L (.int v :: .int i :: .ref p :: K) S Q := by
  refine x_E_step hf rfl ?_ k
  have h3 := (x_tg_lt ht (by omega)).1
  simp only [x_step, x_hp_tg ht (by omega)]
  rw [if_pos ⟨by trivial, h3, hi.1, by simp; rw [hn]; exact hi.2⟩, x_hp_set ht (by omega) (by rw [hn]; exact hi.2) (x_tg_a ht)]
theorem e_aa {p c n : Nat} {i : Int32} (hf : x_fe y pc = some (.aaload, nx)) (ht : x_tg p = c) (hc : c = 11 ∨ c = 12) (hn : x_ln p = n) (hi : x_ib i n) (k : x_tg (x_rr p i.toNatClampNeg) = (if c = 11 then 2 else 0) → x_E xs d y nx L (.ref (x_rr p i.toNatClampNeg) :: K) S Q) : x_E xs d y pc L (.int i :: .ref p :: K) S Q := by
  have h2 := x_tg_q ht hc (j := i.toNatClampNeg) (by rw [hn]; exact hi.2)
  refine x_E_step hf rfl ?_ (k h2.2)
  have h4 := (x_tg_lt h2.2 (by split <;> omega)).1
  simp only [x_step, x_hp_tg ht (by omega)]
  rw [if_pos ⟨hc, hi.1⟩, List.getElem?_map, List.getElem?_range (by rw [hn]; exact hi.2)]
  simp only [Option.map_some, x_vl_r h2.1]
  rw [if_neg (fun z => absurd h4 (by rw [show x_rr p i.toNatClampNeg = 7 from z]; decide))]
theorem e_al {p c n : Nat} {v : Int32} (hf : x_fe y pc = some (.arraylength, nx)) (ht : x_tg p = c) (hc : c = 10 ∨ c = 11 ∨ c = 12) (hn : x_ln p = n) (hv : Int32.ofNat n = v) (k : x_E xs d y nx L (.int v :: K) S Q) : x_E xs d y pc L (.ref p :: K) S Q := by
  refine x_E_step hf rfl ?_ k
  simp only [x_step, x_hp_tg ht (by omega)]
  rw [if_pos (by omega), List.length_map, List.length_range, hn, hv]
theorem e_abs {a : Int32} (hf : x_fe y pc = some (.f2d, nx)) (hk : x_cat K ≤ 8) (k : x_E xs d y nx L (.int (if 0 ≤ a then a else 0 - a) :: K) S Q) : x_E xs d y pc L (.int a :: K) S Q := x_E_step hf rfl (by simp only [x_step, if_pos hk]) k
theorem e_max {a b : Int32} (hf : x_fe y pc = some (.f2i, nx)) (hk : x_cat K ≤ 8) (k : x_E xs d y nx L (.int (if a < b then b else a) :: K) S Q) : x_E xs d y pc L (.int b :: .int a :: K) S Q := x_E_step hf rfl (by simp only [x_step, if_pos hk]) k
theorem x_cp_w {S : x_M} {p q np nq sp dp n : Nat} (hp : x_tg p = 10) (hq : x_tg q = 10) (hnp : x_ln p = np) (hnq : x_ln q = nq) (h1 : sp + n ≤ np) (h2 : dp + n ≤ nq) : (x_hp xs S).set q (10, x_cpy ((List.range (x_ln p)).map (x_vl S p)) ((List.range (x_ln q)).map (x_vl S q)) sp dp n) = x_hp xs (x_cp S p sp q dp n) := by
  obtain ⟨h8, h75⟩ := x_tg_lt hq (by omega)
  refine x_hp_ext h8 h75 ?_ (fun r hr => ?_)
  · unfold x_ce
    rw [hq]
    congr 1
    unfold x_cpy
    rw [List.length_map, List.length_range]
    apply List.map_congr_left
    intro j hj
    have hjl := List.mem_range.mp hj
    show _ = x_vl _ q j
    have hv : ∀ T : x_M, x_vl T q j = .int (T q j) := fun T => by unfold x_vl; rw [x_tg_a hq]
    rw [hv]
    show _ = Value.int (if q = q ∧ _ then _ else _)
    by_cases hc : dp ≤ j ∧ j < dp + n
    · rw [if_pos hc, if_pos ⟨rfl, hc⟩, List.getD_eq_getElem?_getD, List.getElem?_map, List.getElem?_range (by omega)]
      show x_vl S p _ = _
      unfold x_vl
      rw [x_tg_a hp]
    · rw [if_neg hc, if_neg (fun z => hc z.2), List.getD_eq_getElem?_getD, List.getElem?_map, List.getElem?_range hjl]
      exact hv S
  · funext j
    show (if r = q ∧ _ then _ else _) = _
    rw [if_neg (fun z => hr z.1)]
theorem e_cp {p q np nq : Nat} {sp dp n : Int32} (hf : x_fe y pc = some (.d2i, nx)) (hp : x_tg p = 10) (hq : x_tg q = 10) (hnp : x_ln p = np) (hnq : x_ln q = nq) (hk : x_cat K ≤ 8) (h0 : ¬ sp < 0 ∧ ¬ dp < 0 ∧ ¬ n < 0 ∧ sp.toNatClampNeg + n.toNatClampNeg ≤ np ∧ dp.toNatClampNeg + n.toNatClampNeg ≤ nq)
    (k : x_E xs d y nx L K (x_cp S p sp.toNatClampNeg q dp.toNatClampNeg n.toNatClampNeg) Q) : x_E xs d y pc L (.int n :: .int dp :: .ref q :: .int sp :: .ref p :: K) S Q := by
  refine x_E_step hf rfl ?_ k
  obtain ⟨a1, a2, a3, a4, a5⟩ := h0
  simp only [x_step, x_hp_tg hp (by omega), x_hp_tg hq (by omega)]
  rw [if_pos ⟨by trivial, by trivial, (x_tg_lt hp (by omega)).1, (x_tg_lt hq (by omega)).1, a1, a2, a3, by simp; omega, by simp; omega, hk⟩, x_cp_w hp hq hnp hnq a4 a5]
theorem e_ireturn {v : Int32} {ty : FieldType} (hf : x_fe y pc = some (.ireturn, nx)) (ht : x_rt y = some ty) (hn : narrow ty (.int v) = .int v) (k : Q (some (.int v)) S) : x_E xs d y pc L [.int v] S Q := by
  refine ⟨1, some (.int v), S, ?_, k⟩
  rw [x_run_succ, hf]
  simp only [x_cal, ht, hn, if_true]
theorem e_return (hf : x_fe y pc = some (.return_, nx)) (ht : x_rt y = none) (k : Q none S) : x_E xs d y pc L [] S Q := by
  refine ⟨1, none, S, ?_, k⟩
  rw [x_run_succ, hf]
  simp only [x_cal, ht]
theorem e_call {i : Instr} {z n : Nat} {A R : List Value} {P : Option Value → x_M → Prop} (hf : x_fe y pc = some (i, nx)) (hc : x_cal i = some z) (hn : x_na z = n) (hA : K.take n = A.reverse) (hR : K.drop n = R) (ho : x_okc i z K (x_hp xs S) = true) (h1 : x_E xs d z 0 (x_loc (x_ml z) A) [] S P) (k : ∀ r S', P r S' → x_E xs (d + 1) y nx L (r.toList ++ R) S' Q) : x_E xs (d + 1) y pc L K S Q := by
  obtain ⟨n1, r1, S1, g1, g2⟩ := h1
  obtain ⟨n2, r2, S2, g3, g4⟩ := k r1 S1 g2
  refine ⟨max n1 n2 + 1, r2, S2, x_run_call hf hc ho (h1 := x_hp xs S1) (r1 := r1) ?_ ?_, g4⟩
  · rw [hn, hA, List.reverse_reverse]
    exact x_run_up _ _ _ _ _ _ _ _ g1 _ _ (Nat.le_max_left _ _) (Nat.le_refl _)
  · rw [hn, hR]
    exact x_run_up _ _ _ _ _ _ _ _ g3 _ _ (Nat.le_max_right _ _) (Nat.le_refl _)
theorem x_ok_s {z n : Nat} {A : List Value} (hn : x_na z = n) (h1 : n ≤ K.length) (h2 : x_cat (K.drop n) ≤ 8) (hA : K.take n = A.reverse) (h3 : (x_ent A).length ≤ x_ml z) : x_okc (.invokestatic z) z K (x_hp xs S) = true := by
  unfold x_okc
  rw [hn, hA, List.reverse_reverse]
  simp only [Bool.and_eq_true, decide_eq_true_eq]
  exact ⟨⟨⟨h1, h2⟩, h3⟩, by trivial⟩
theorem x_ok_v {z n p : Nat} {A : List Value} (hn : x_na z = n) (h1 : n ≤ K.length) (h2 : x_cat (K.drop n) ≤ 8) (hA : K.take n = A.reverse) (h3 : (x_ent A).length ≤ x_ml z) (hp : K[n - 1]? = some (.ref p)) (hc : x_cy z < 7) (ht : x_tg p = x_cy z) : x_okc (.invokevirtual z) z K (x_hp xs S) = true := by
  unfold x_okc
  rw [hn, hA, List.reverse_reverse]
  simp only [Bool.and_eq_true, decide_eq_true_eq, hp, x_hp_tg ht (by omega)]
  have := (x_tg_lt ht (by omega)).1
  exact ⟨⟨⟨h1, h2⟩, h3⟩, trivial, fun z => absurd this (by rw [show p = 7 from z]; decide)⟩
theorem e_si {z n : Nat} {A R : List Value} {P : Int32 → x_M → Prop} (hf : x_fe y pc = some (.invokestatic z, nx)) (hn : x_na z = n) (hA : K.take n = A.reverse) (hR : K.drop n = R) (h1 : n ≤ K.length) (h2 : x_cat R ≤ 8) (h3 : (x_ent A).length ≤ x_ml z) (hcl : x_Ci xs d z A S P) (k : ∀ v S', P v S' → x_E xs (d + 1) y nx L (.int v :: R) S' Q) : x_E xs (d + 1) y pc L K S Q :=
  e_call hf rfl hn hA hR (x_ok_s hn h1 (by rw [hR]; exact h2) hA h3) hcl (fun r S' ⟨v, hv, hp⟩ => by subst hv; exact k v S' hp)
theorem e_sv {z n : Nat} {A R : List Value} {P : x_M → Prop} (hf : x_fe y pc = some (.invokestatic z, nx)) (hn : x_na z = n) (hA : K.take n = A.reverse) (hR : K.drop n = R) (h1 : n ≤ K.length) (h2 : x_cat R ≤ 8) (h3 : (x_ent A).length ≤ x_ml z) (hcl : x_Cv xs d z A S P) (k : ∀ S', P S' → x_E xs (d + 1) y nx L R S' Q) : x_E xs (d + 1) y pc L K S Q :=
  e_call hf rfl hn hA hR (x_ok_s hn h1 (by rw [hR]; exact h2) hA h3) hcl (fun r S' ⟨hv, hp⟩ => by subst hv; exact k S' hp)
theorem e_vi {z n p : Nat} {A R : List Value} {P : Int32 → x_M → Prop} (hf : x_fe y pc = some (.invokevirtual z, nx)) (hn : x_na z = n) (hA : K.take n = A.reverse) (hR : K.drop n = R) (h1 : n ≤ K.length) (h2 : x_cat R ≤ 8) (h3 : (x_ent A).length ≤ x_ml z) (hp : K[n - 1]? = some (.ref p)) (hc : x_cy z < 7) (ht : x_tg p = x_cy z) (hcl : x_Ci xs d z A S P) (k : ∀ v S', P v S' → x_E xs (d + 1) y nx L (.int v :: R) S' Q) : x_E xs (d + 1) y pc L K S Q :=
  e_call hf rfl hn hA hR (x_ok_v hn h1 (by rw [hR]; exact h2) hA h3 hp hc ht) hcl (fun r S' ⟨v, hv, hp⟩ => by subst hv; exact k v S' hp)
theorem e_vv {z n p : Nat} {A R : List Value} {P : x_M → Prop} (hf : x_fe y pc = some (.invokevirtual z, nx)) (hn : x_na z = n) (hA : K.take n = A.reverse) (hR : K.drop n = R) (h1 : n ≤ K.length) (h2 : x_cat R ≤ 8) (h3 : (x_ent A).length ≤ x_ml z) (hp : K[n - 1]? = some (.ref p)) (hc : x_cy z < 7) (ht : x_tg p = x_cy z) (hcl : x_Cv xs d z A S P) (k : ∀ S', P S' → x_E xs (d + 1) y nx L R S' Q) : x_E xs (d + 1) y pc L K S Q :=
  e_call hf rfl hn hA hR (x_ok_v hn h1 (by rw [hR]; exact h2) hA h3 hp hc ht) hcl (fun r S' ⟨hv, hp⟩ => by subst hv; exact k S' hp)
end XE
end
section
theorem f_0_0 : x_fe 0 0 = some (.aload 0, 1) := by decide +kernel
theorem f_0_1 : x_fe 0 1 = some (.d2f, 4) := by decide +kernel
theorem f_0_4 : x_fe 0 4 = some (.aload 0, 5) := by decide +kernel
theorem f_0_5 : x_fe 0 5 = some (.iconst (9), 7) := by decide +kernel
theorem f_0_7 : x_fe 0 7 = some (.newarray .int, 9) := by decide +kernel
theorem f_0_9 : x_fe 0 9 = some (.putstatic 0, 12) := by decide +kernel
theorem f_0_12 : x_fe 0 12 = some (.aload 0, 13) := by decide +kernel
theorem f_0_13 : x_fe 0 13 = some (.iconst (112), 15) := by decide +kernel
theorem f_0_15 : x_fe 0 15 = some (.newarray .int, 17) := by decide +kernel
theorem f_0_17 : x_fe 0 17 = some (.putstatic 1, 20) := by decide +kernel
theorem f_0_20 : x_fe 0 20 = some (.aload 0, 21) := by decide +kernel
theorem f_0_21 : x_fe 0 21 = some (.iconst (2), 22) := by decide +kernel
theorem f_0_22 : x_fe 0 22 = some (.newarray .int, 24) := by decide +kernel
theorem f_0_24 : x_fe 0 24 = some (.putstatic 2, 27) := by decide +kernel
theorem f_0_27 : x_fe 0 27 = some (.aload 0, 28) := by decide +kernel
theorem f_0_28 : x_fe 0 28 = some (.iconst (2), 29) := by decide +kernel
theorem f_0_29 : x_fe 0 29 = some (.newarray .int, 31) := by decide +kernel
theorem f_0_31 : x_fe 0 31 = some (.putstatic 3, 34) := by decide +kernel
theorem f_0_34 : x_fe 0 34 = some (.return_, 35) := by decide +kernel
theorem f_1_0 : x_fe 1 0 = some (.aload 0, 1) := by decide +kernel
theorem f_1_1 : x_fe 1 1 = some (.iconst (0), 2) := by decide +kernel
theorem f_1_2 : x_fe 1 2 = some (.putfield 5, 5) := by decide +kernel
theorem f_1_5 : x_fe 1 5 = some (.aload 0, 6) := by decide +kernel
theorem f_1_6 : x_fe 1 6 = some (.getfield 2, 9) := by decide +kernel
theorem f_1_9 : x_fe 1 9 = some (.iconst (0), 10) := by decide +kernel
theorem f_1_10 : x_fe 1 10 = some (.iconst (0), 11) := by decide +kernel
theorem f_1_11 : x_fe 1 11 = some (.iastore, 12) := by decide +kernel
theorem f_1_12 : x_fe 1 12 = some (.aload 0, 13) := by decide +kernel
theorem f_1_13 : x_fe 1 13 = some (.getfield 2, 16) := by decide +kernel
theorem f_1_16 : x_fe 1 16 = some (.iconst (1), 17) := by decide +kernel
theorem f_1_17 : x_fe 1 17 = some (.iconst (0), 18) := by decide +kernel
theorem f_1_18 : x_fe 1 18 = some (.iastore, 19) := by decide +kernel
theorem f_1_19 : x_fe 1 19 = some (.return_, 20) := by decide +kernel
theorem f_2_0 : x_fe 2 0 = some (.aload 0, 1) := by decide +kernel
theorem f_2_1 : x_fe 2 1 = some (.getfield 5, 4) := by decide +kernel
theorem f_2_4 : x_fe 2 4 = some (.iconst (14), 6) := by decide +kernel
theorem f_2_6 : x_fe 2 6 = some (.if_icmp .ge (Int.ofNat 18), 9) := by decide +kernel
theorem f_2_9 : x_fe 2 9 = some (.iload 2, 10) := by decide +kernel
theorem f_2_10 : x_fe 2 10 = some (.ifCond .lt (Int.ofNat 18), 13) := by decide +kernel
theorem f_2_13 : x_fe 2 13 = some (.iload 2, 14) := by decide +kernel
theorem f_2_14 : x_fe 2 14 = some (.iconst (1), 15) := by decide +kernel
theorem f_2_15 : x_fe 2 15 = some (.if_icmp .le (Int.ofNat 19), 18) := by decide +kernel
theorem f_2_18 : x_fe 2 18 = some (.return_, 19) := by decide +kernel
theorem f_2_19 : x_fe 2 19 = some (.iload 1, 20) := by decide +kernel
theorem f_2_20 : x_fe 2 20 = some (.istore 3, 21) := by decide +kernel
theorem f_2_21 : x_fe 2 21 = some (.iconst (0), 22) := by decide +kernel
theorem f_2_22 : x_fe 2 22 = some (.istore 4, 24) := by decide +kernel
theorem f_2_24 : x_fe 2 24 = some (.iload 4, 26) := by decide +kernel
theorem f_2_26 : x_fe 2 26 = some (.iconst (8), 28) := by decide +kernel
theorem f_2_28 : x_fe 2 28 = some (.if_icmp .ge (Int.ofNat 69), 31) := by decide +kernel
theorem f_2_31 : x_fe 2 31 = some (.iload 4, 33) := by decide +kernel
theorem f_2_33 : x_fe 2 33 = some (.iconst (4), 34) := by decide +kernel
theorem f_2_34 : x_fe 2 34 = some (.if_icmp .ne (Int.ofNat 42), 37) := by decide +kernel
theorem f_2_37 : x_fe 2 37 = some (.iload 1, 38) := by decide +kernel
theorem f_2_38 : x_fe 2 38 = some (.invokestatic 3, 41) := by decide +kernel
theorem f_2_41 : x_fe 2 41 = some (.istore 3, 42) := by decide +kernel
theorem f_2_42 : x_fe 2 42 = some (.aload 0, 43) := by decide +kernel
theorem f_2_43 : x_fe 2 43 = some (.getfield 1, 46) := by decide +kernel
theorem f_2_46 : x_fe 2 46 = some (.iconst (8), 48) := by decide +kernel
theorem f_2_48 : x_fe 2 48 = some (.aload 0, 49) := by decide +kernel
theorem f_2_49 : x_fe 2 49 = some (.getfield 5, 52) := by decide +kernel
theorem f_2_52 : x_fe 2 52 = some (.imul, 53) := by decide +kernel
theorem f_2_53 : x_fe 2 53 = some (.iload 4, 55) := by decide +kernel
theorem f_2_55 : x_fe 2 55 = some (.iadd, 56) := by decide +kernel
theorem f_2_56 : x_fe 2 56 = some (.iload 3, 57) := by decide +kernel
theorem f_2_57 : x_fe 2 57 = some (.iastore, 58) := by decide +kernel
theorem f_2_58 : x_fe 2 58 = some (.iload 3, 59) := by decide +kernel
theorem f_2_59 : x_fe 2 59 = some (.invokestatic 4, 62) := by decide +kernel
theorem f_2_62 : x_fe 2 62 = some (.istore 3, 63) := by decide +kernel
theorem f_2_63 : x_fe 2 63 = some (.iinc 4 (1), 66) := by decide +kernel
theorem f_2_66 : x_fe 2 66 = some (.goto (Int.ofNat 24), 69) := by decide +kernel
theorem f_2_69 : x_fe 2 69 = some (.aload 0, 70) := by decide +kernel
theorem f_2_70 : x_fe 2 70 = some (.getfield 2, 73) := by decide +kernel
theorem f_2_73 : x_fe 2 73 = some (.iload 2, 74) := by decide +kernel
theorem f_2_74 : x_fe 2 74 = some (.dup2, 75) := by decide +kernel
theorem f_2_75 : x_fe 2 75 = some (.iaload, 76) := by decide +kernel
theorem f_2_76 : x_fe 2 76 = some (.iconst (1), 77) := by decide +kernel
theorem f_2_77 : x_fe 2 77 = some (.aload 0, 78) := by decide +kernel
theorem f_2_78 : x_fe 2 78 = some (.getfield 5, 81) := by decide +kernel
theorem f_2_81 : x_fe 2 81 = some (.ishl, 82) := by decide +kernel
theorem f_2_82 : x_fe 2 82 = some (.ior, 83) := by decide +kernel
theorem f_2_83 : x_fe 2 83 = some (.iastore, 84) := by decide +kernel
theorem f_2_84 : x_fe 2 84 = some (.aload 0, 85) := by decide +kernel
theorem f_2_85 : x_fe 2 85 = some (.dup, 86) := by decide +kernel
theorem f_2_86 : x_fe 2 86 = some (.getfield 5, 89) := by decide +kernel
theorem f_2_89 : x_fe 2 89 = some (.iconst (1), 90) := by decide +kernel
theorem f_2_90 : x_fe 2 90 = some (.iadd, 91) := by decide +kernel
theorem f_2_91 : x_fe 2 91 = some (.putfield 5, 94) := by decide +kernel
theorem f_2_94 : x_fe 2 94 = some (.return_, 95) := by decide +kernel
theorem f_3_0 : x_fe 3 0 = some (.iconst (0), 1) := by decide +kernel
theorem f_3_1 : x_fe 3 1 = some (.istore 1, 2) := by decide +kernel
theorem f_3_2 : x_fe 3 2 = some (.iconst (0), 3) := by decide +kernel
theorem f_3_3 : x_fe 3 3 = some (.istore 2, 4) := by decide +kernel
theorem f_3_4 : x_fe 3 4 = some (.iload 2, 5) := by decide +kernel
theorem f_3_5 : x_fe 3 5 = some (.iconst (3), 6) := by decide +kernel
theorem f_3_6 : x_fe 3 6 = some (.if_icmp .ge (Int.ofNat 56), 9) := by decide +kernel
theorem f_3_9 : x_fe 3 9 = some (.iconst (0), 10) := by decide +kernel
theorem f_3_10 : x_fe 3 10 = some (.istore 3, 11) := by decide +kernel
theorem f_3_11 : x_fe 3 11 = some (.iload 3, 12) := by decide +kernel
theorem f_3_12 : x_fe 3 12 = some (.iconst (3), 13) := by decide +kernel
theorem f_3_13 : x_fe 3 13 = some (.if_icmp .ge (Int.ofNat 50), 16) := by decide +kernel
theorem f_3_16 : x_fe 3 16 = some (.iload 3, 17) := by decide +kernel
theorem f_3_17 : x_fe 3 17 = some (.iconst (3), 18) := by decide +kernel
theorem f_3_18 : x_fe 3 18 = some (.iload 2, 19) := by decide +kernel
theorem f_3_19 : x_fe 3 19 = some (.imul, 20) := by decide +kernel
theorem f_3_20 : x_fe 3 20 = some (.iadd, 21) := by decide +kernel
theorem f_3_21 : x_fe 3 21 = some (.istore 4, 23) := by decide +kernel
theorem f_3_23 : x_fe 3 23 = some (.iconst (2), 24) := by decide +kernel
theorem f_3_24 : x_fe 3 24 = some (.iload 3, 25) := by decide +kernel
theorem f_3_25 : x_fe 3 25 = some (.isub, 26) := by decide +kernel
theorem f_3_26 : x_fe 3 26 = some (.iconst (3), 27) := by decide +kernel
theorem f_3_27 : x_fe 3 27 = some (.iload 2, 28) := by decide +kernel
theorem f_3_28 : x_fe 3 28 = some (.imul, 29) := by decide +kernel
theorem f_3_29 : x_fe 3 29 = some (.iadd, 30) := by decide +kernel
theorem f_3_30 : x_fe 3 30 = some (.istore 5, 32) := by decide +kernel
theorem f_3_32 : x_fe 3 32 = some (.iload 1, 33) := by decide +kernel
theorem f_3_33 : x_fe 3 33 = some (.iload 0, 34) := by decide +kernel
theorem f_3_34 : x_fe 3 34 = some (.iload 4, 36) := by decide +kernel
theorem f_3_36 : x_fe 3 36 = some (.ishr, 37) := by decide +kernel
theorem f_3_37 : x_fe 3 37 = some (.iconst (1), 38) := by decide +kernel
theorem f_3_38 : x_fe 3 38 = some (.iand, 39) := by decide +kernel
theorem f_3_39 : x_fe 3 39 = some (.iload 5, 41) := by decide +kernel
theorem f_3_41 : x_fe 3 41 = some (.ishl, 42) := by decide +kernel
theorem f_3_42 : x_fe 3 42 = some (.ior, 43) := by decide +kernel
theorem f_3_43 : x_fe 3 43 = some (.istore 1, 44) := by decide +kernel
theorem f_3_44 : x_fe 3 44 = some (.iinc 3 (1), 47) := by decide +kernel
theorem f_3_47 : x_fe 3 47 = some (.goto (Int.ofNat 11), 50) := by decide +kernel
theorem f_3_50 : x_fe 3 50 = some (.iinc 2 (1), 53) := by decide +kernel
theorem f_3_53 : x_fe 3 53 = some (.goto (Int.ofNat 4), 56) := by decide +kernel
theorem f_3_56 : x_fe 3 56 = some (.iload 1, 57) := by decide +kernel
theorem f_3_57 : x_fe 3 57 = some (.ireturn, 58) := by decide +kernel
theorem f_4_0 : x_fe 4 0 = some (.iconst (0), 1) := by decide +kernel
theorem f_4_1 : x_fe 4 1 = some (.istore 1, 2) := by decide +kernel
theorem f_4_2 : x_fe 4 2 = some (.iconst (0), 3) := by decide +kernel
theorem f_4_3 : x_fe 4 3 = some (.istore 2, 4) := by decide +kernel
theorem f_4_4 : x_fe 4 4 = some (.iload 2, 5) := by decide +kernel
theorem f_4_5 : x_fe 4 5 = some (.iconst (3), 6) := by decide +kernel
theorem f_4_6 : x_fe 4 6 = some (.if_icmp .ge (Int.ofNat 56), 9) := by decide +kernel
theorem f_4_9 : x_fe 4 9 = some (.iconst (0), 10) := by decide +kernel
theorem f_4_10 : x_fe 4 10 = some (.istore 3, 11) := by decide +kernel
theorem f_4_11 : x_fe 4 11 = some (.iload 3, 12) := by decide +kernel
theorem f_4_12 : x_fe 4 12 = some (.iconst (3), 13) := by decide +kernel
theorem f_4_13 : x_fe 4 13 = some (.if_icmp .ge (Int.ofNat 50), 16) := by decide +kernel
theorem f_4_16 : x_fe 4 16 = some (.iload 3, 17) := by decide +kernel
theorem f_4_17 : x_fe 4 17 = some (.iconst (3), 18) := by decide +kernel
theorem f_4_18 : x_fe 4 18 = some (.iload 2, 19) := by decide +kernel
theorem f_4_19 : x_fe 4 19 = some (.imul, 20) := by decide +kernel
theorem f_4_20 : x_fe 4 20 = some (.iadd, 21) := by decide +kernel
theorem f_4_21 : x_fe 4 21 = some (.istore 4, 23) := by decide +kernel
theorem f_4_23 : x_fe 4 23 = some (.iconst (2), 24) := by decide +kernel
theorem f_4_24 : x_fe 4 24 = some (.iload 2, 25) := by decide +kernel
theorem f_4_25 : x_fe 4 25 = some (.isub, 26) := by decide +kernel
theorem f_4_26 : x_fe 4 26 = some (.iconst (3), 27) := by decide +kernel
theorem f_4_27 : x_fe 4 27 = some (.iload 3, 28) := by decide +kernel
theorem f_4_28 : x_fe 4 28 = some (.imul, 29) := by decide +kernel
theorem f_4_29 : x_fe 4 29 = some (.iadd, 30) := by decide +kernel
theorem f_4_30 : x_fe 4 30 = some (.istore 5, 32) := by decide +kernel
theorem f_4_32 : x_fe 4 32 = some (.iload 1, 33) := by decide +kernel
theorem f_4_33 : x_fe 4 33 = some (.iload 0, 34) := by decide +kernel
theorem f_4_34 : x_fe 4 34 = some (.iload 4, 36) := by decide +kernel
theorem f_4_36 : x_fe 4 36 = some (.ishr, 37) := by decide +kernel
theorem f_4_37 : x_fe 4 37 = some (.iconst (1), 38) := by decide +kernel
theorem f_4_38 : x_fe 4 38 = some (.iand, 39) := by decide +kernel
theorem f_4_39 : x_fe 4 39 = some (.iload 5, 41) := by decide +kernel
theorem f_4_41 : x_fe 4 41 = some (.ishl, 42) := by decide +kernel
theorem f_4_42 : x_fe 4 42 = some (.ior, 43) := by decide +kernel
theorem f_4_43 : x_fe 4 43 = some (.istore 1, 44) := by decide +kernel
theorem f_4_44 : x_fe 4 44 = some (.iinc 3 (1), 47) := by decide +kernel
theorem f_4_47 : x_fe 4 47 = some (.goto (Int.ofNat 11), 50) := by decide +kernel
theorem f_4_50 : x_fe 4 50 = some (.iinc 2 (1), 53) := by decide +kernel
theorem f_4_53 : x_fe 4 53 = some (.goto (Int.ofNat 4), 56) := by decide +kernel
theorem f_4_56 : x_fe 4 56 = some (.iload 1, 57) := by decide +kernel
theorem f_4_57 : x_fe 4 57 = some (.ireturn, 58) := by decide +kernel
theorem f_5_0 : x_fe 5 0 = some (.aload 0, 1) := by decide +kernel
theorem f_5_1 : x_fe 5 1 = some (.iconst (1), 2) := by decide +kernel
theorem f_5_2 : x_fe 5 2 = some (.putfield 4, 5) := by decide +kernel
theorem f_5_5 : x_fe 5 5 = some (.aload 0, 6) := by decide +kernel
theorem f_5_6 : x_fe 5 6 = some (.getfield 3, 9) := by decide +kernel
theorem f_5_9 : x_fe 5 9 = some (.iconst (0), 10) := by decide +kernel
theorem f_5_10 : x_fe 5 10 = some (.iconst (0), 11) := by decide +kernel
theorem f_5_11 : x_fe 5 11 = some (.iastore, 12) := by decide +kernel
theorem f_5_12 : x_fe 5 12 = some (.aload 0, 13) := by decide +kernel
theorem f_5_13 : x_fe 5 13 = some (.getfield 3, 16) := by decide +kernel
theorem f_5_16 : x_fe 5 16 = some (.iconst (1), 17) := by decide +kernel
theorem f_5_17 : x_fe 5 17 = some (.iconst (0), 18) := by decide +kernel
theorem f_5_18 : x_fe 5 18 = some (.iastore, 19) := by decide +kernel
theorem f_5_19 : x_fe 5 19 = some (.aload 0, 20) := by decide +kernel
theorem f_5_20 : x_fe 5 20 = some (.iconst (511), 23) := by decide +kernel
theorem f_5_23 : x_fe 5 23 = some (.putfield 6, 26) := by decide +kernel
theorem f_5_26 : x_fe 5 26 = some (.aload 0, 27) := by decide +kernel
theorem f_5_27 : x_fe 5 27 = some (.iconst (0), 28) := by decide +kernel
theorem f_5_28 : x_fe 5 28 = some (.putfield 7, 31) := by decide +kernel
theorem f_5_31 : x_fe 5 31 = some (.aload 0, 32) := by decide +kernel
theorem f_5_32 : x_fe 5 32 = some (.iconst (0), 33) := by decide +kernel
theorem f_5_33 : x_fe 5 33 = some (.putfield 9, 36) := by decide +kernel
theorem f_5_36 : x_fe 5 36 = some (.aload 0, 37) := by decide +kernel
theorem f_5_37 : x_fe 5 37 = some (.aload 0, 38) := by decide +kernel
theorem f_5_38 : x_fe 5 38 = some (.iconst (1), 39) := by decide +kernel
theorem f_5_39 : x_fe 5 39 = some (.invokevirtual 6, 42) := by decide +kernel
theorem f_5_42 : x_fe 5 42 = some (.putfield 8, 45) := by decide +kernel
theorem f_5_45 : x_fe 5 45 = some (.return_, 46) := by decide +kernel
theorem f_6_0 : x_fe 6 0 = some (.iload 1, 1) := by decide +kernel
theorem f_6_1 : x_fe 6 1 = some (.ifCond .lt (Int.ofNat 9), 4) := by decide +kernel
theorem f_6_4 : x_fe 6 4 = some (.iload 1, 5) := by decide +kernel
theorem f_6_5 : x_fe 6 5 = some (.iconst (1), 6) := by decide +kernel
theorem f_6_6 : x_fe 6 6 = some (.if_icmp .le (Int.ofNat 12), 9) := by decide +kernel
theorem f_6_9 : x_fe 6 9 = some (.iconst (-1000000), 11) := by decide +kernel
theorem f_6_11 : x_fe 6 11 = some (.ireturn, 12) := by decide +kernel
theorem f_6_12 : x_fe 6 12 = some (.aload 0, 13) := by decide +kernel
theorem f_6_13 : x_fe 6 13 = some (.getfield 2, 16) := by decide +kernel
theorem f_6_16 : x_fe 6 16 = some (.iconst (1), 17) := by decide +kernel
theorem f_6_17 : x_fe 6 17 = some (.iload 1, 18) := by decide +kernel
theorem f_6_18 : x_fe 6 18 = some (.isub, 19) := by decide +kernel
theorem f_6_19 : x_fe 6 19 = some (.iaload, 20) := by decide +kernel
theorem f_6_20 : x_fe 6 20 = some (.ifCond .eq (Int.ofNat 27), 23) := by decide +kernel
theorem f_6_23 : x_fe 6 23 = some (.iconst (1), 24) := by decide +kernel
theorem f_6_24 : x_fe 6 24 = some (.iload 1, 25) := by decide +kernel
theorem f_6_25 : x_fe 6 25 = some (.isub, 26) := by decide +kernel
theorem f_6_26 : x_fe 6 26 = some (.ireturn, 27) := by decide +kernel
theorem f_6_27 : x_fe 6 27 = some (.aload 0, 28) := by decide +kernel
theorem f_6_28 : x_fe 6 28 = some (.getfield 2, 31) := by decide +kernel
theorem f_6_31 : x_fe 6 31 = some (.iload 1, 32) := by decide +kernel
theorem f_6_32 : x_fe 6 32 = some (.iaload, 33) := by decide +kernel
theorem f_6_33 : x_fe 6 33 = some (.ifCond .eq (Int.ofNat 40), 36) := by decide +kernel
theorem f_6_36 : x_fe 6 36 = some (.iload 1, 37) := by decide +kernel
theorem f_6_37 : x_fe 6 37 = some (.goto (Int.ofNat 42), 40) := by decide +kernel
theorem f_6_40 : x_fe 6 40 = some (.iconst (-1000000), 42) := by decide +kernel
theorem f_6_42 : x_fe 6 42 = some (.ireturn, 43) := by decide +kernel
theorem f_7_0 : x_fe 7 0 = some (.aload 1, 1) := by decide +kernel
theorem f_7_1 : x_fe 7 1 = some (.getfield 0, 4) := by decide +kernel
theorem f_7_4 : x_fe 7 4 = some (.iconst (0), 5) := by decide +kernel
theorem f_7_5 : x_fe 7 5 = some (.aload 0, 6) := by decide +kernel
theorem f_7_6 : x_fe 7 6 = some (.getfield 0, 9) := by decide +kernel
theorem f_7_9 : x_fe 7 9 = some (.iconst (0), 10) := by decide +kernel
theorem f_7_10 : x_fe 7 10 = some (.iconst (9), 12) := by decide +kernel
theorem f_7_12 : x_fe 7 12 = some (.d2i, 15) := by decide +kernel
theorem f_7_15 : x_fe 7 15 = some (.aload 1, 16) := by decide +kernel
theorem f_7_16 : x_fe 7 16 = some (.getfield 1, 19) := by decide +kernel
theorem f_7_19 : x_fe 7 19 = some (.iconst (0), 20) := by decide +kernel
theorem f_7_20 : x_fe 7 20 = some (.aload 0, 21) := by decide +kernel
theorem f_7_21 : x_fe 7 21 = some (.getfield 1, 24) := by decide +kernel
theorem f_7_24 : x_fe 7 24 = some (.iconst (0), 25) := by decide +kernel
theorem f_7_25 : x_fe 7 25 = some (.iconst (112), 27) := by decide +kernel
theorem f_7_27 : x_fe 7 27 = some (.d2i, 30) := by decide +kernel
theorem f_7_30 : x_fe 7 30 = some (.aload 1, 31) := by decide +kernel
theorem f_7_31 : x_fe 7 31 = some (.getfield 2, 34) := by decide +kernel
theorem f_7_34 : x_fe 7 34 = some (.iconst (0), 35) := by decide +kernel
theorem f_7_35 : x_fe 7 35 = some (.aload 0, 36) := by decide +kernel
theorem f_7_36 : x_fe 7 36 = some (.getfield 2, 39) := by decide +kernel
theorem f_7_39 : x_fe 7 39 = some (.iconst (0), 40) := by decide +kernel
theorem f_7_40 : x_fe 7 40 = some (.iconst (2), 41) := by decide +kernel
theorem f_7_41 : x_fe 7 41 = some (.d2i, 44) := by decide +kernel
theorem f_7_44 : x_fe 7 44 = some (.aload 1, 45) := by decide +kernel
theorem f_7_45 : x_fe 7 45 = some (.getfield 3, 48) := by decide +kernel
theorem f_7_48 : x_fe 7 48 = some (.iconst (0), 49) := by decide +kernel
theorem f_7_49 : x_fe 7 49 = some (.aload 0, 50) := by decide +kernel
theorem f_7_50 : x_fe 7 50 = some (.getfield 3, 53) := by decide +kernel
theorem f_7_53 : x_fe 7 53 = some (.iconst (0), 54) := by decide +kernel
theorem f_7_54 : x_fe 7 54 = some (.iconst (2), 55) := by decide +kernel
theorem f_7_55 : x_fe 7 55 = some (.d2i, 58) := by decide +kernel
theorem f_7_58 : x_fe 7 58 = some (.aload 0, 59) := by decide +kernel
theorem f_7_59 : x_fe 7 59 = some (.aload 1, 60) := by decide +kernel
theorem f_7_60 : x_fe 7 60 = some (.getfield 4, 63) := by decide +kernel
theorem f_7_63 : x_fe 7 63 = some (.putfield 4, 66) := by decide +kernel
theorem f_7_66 : x_fe 7 66 = some (.aload 0, 67) := by decide +kernel
theorem f_7_67 : x_fe 7 67 = some (.aload 1, 68) := by decide +kernel
theorem f_7_68 : x_fe 7 68 = some (.getfield 5, 71) := by decide +kernel
theorem f_7_71 : x_fe 7 71 = some (.putfield 5, 74) := by decide +kernel
theorem f_7_74 : x_fe 7 74 = some (.aload 0, 75) := by decide +kernel
theorem f_7_75 : x_fe 7 75 = some (.aload 1, 76) := by decide +kernel
theorem f_7_76 : x_fe 7 76 = some (.getfield 6, 79) := by decide +kernel
theorem f_7_79 : x_fe 7 79 = some (.putfield 6, 82) := by decide +kernel
theorem f_7_82 : x_fe 7 82 = some (.aload 0, 83) := by decide +kernel
theorem f_7_83 : x_fe 7 83 = some (.aload 1, 84) := by decide +kernel
theorem f_7_84 : x_fe 7 84 = some (.getfield 7, 87) := by decide +kernel
theorem f_7_87 : x_fe 7 87 = some (.putfield 7, 90) := by decide +kernel
theorem f_7_90 : x_fe 7 90 = some (.aload 0, 91) := by decide +kernel
theorem f_7_91 : x_fe 7 91 = some (.aload 1, 92) := by decide +kernel
theorem f_7_92 : x_fe 7 92 = some (.getfield 8, 95) := by decide +kernel
theorem f_7_95 : x_fe 7 95 = some (.putfield 8, 98) := by decide +kernel
theorem f_7_98 : x_fe 7 98 = some (.aload 0, 99) := by decide +kernel
theorem f_7_99 : x_fe 7 99 = some (.aload 1, 100) := by decide +kernel
theorem f_7_100 : x_fe 7 100 = some (.getfield 9, 103) := by decide +kernel
theorem f_7_103 : x_fe 7 103 = some (.putfield 9, 106) := by decide +kernel
theorem f_7_106 : x_fe 7 106 = some (.return_, 107) := by decide +kernel
theorem f_8_0 : x_fe 8 0 = some (.iconst (8), 2) := by decide +kernel
theorem f_8_2 : x_fe 8 2 = some (.iload 1, 3) := by decide +kernel
theorem f_8_3 : x_fe 8 3 = some (.imul, 4) := by decide +kernel
theorem f_8_4 : x_fe 8 4 = some (.iload 2, 5) := by decide +kernel
theorem f_8_5 : x_fe 8 5 = some (.iadd, 6) := by decide +kernel
theorem f_8_6 : x_fe 8 6 = some (.istore 3, 7) := by decide +kernel
theorem f_8_7 : x_fe 8 7 = some (.iload 3, 8) := by decide +kernel
theorem f_8_8 : x_fe 8 8 = some (.ifCond .lt (Int.ofNat 29), 11) := by decide +kernel
theorem f_8_11 : x_fe 8 11 = some (.iload 3, 12) := by decide +kernel
theorem f_8_12 : x_fe 8 12 = some (.aload 0, 13) := by decide +kernel
theorem f_8_13 : x_fe 8 13 = some (.getfield 1, 16) := by decide +kernel
theorem f_8_16 : x_fe 8 16 = some (.arraylength, 17) := by decide +kernel
theorem f_8_17 : x_fe 8 17 = some (.if_icmp .ge (Int.ofNat 29), 20) := by decide +kernel
theorem f_8_20 : x_fe 8 20 = some (.aload 0, 21) := by decide +kernel
theorem f_8_21 : x_fe 8 21 = some (.getfield 1, 24) := by decide +kernel
theorem f_8_24 : x_fe 8 24 = some (.iload 3, 25) := by decide +kernel
theorem f_8_25 : x_fe 8 25 = some (.iaload, 26) := by decide +kernel
theorem f_8_26 : x_fe 8 26 = some (.goto (Int.ofNat 30), 29) := by decide +kernel
theorem f_8_29 : x_fe 8 29 = some (.iconst (0), 30) := by decide +kernel
theorem f_8_30 : x_fe 8 30 = some (.ireturn, 31) := by decide +kernel
theorem f_9_0 : x_fe 9 0 = some (.iconst (0), 1) := by decide +kernel
theorem f_9_1 : x_fe 9 1 = some (.istore 2, 2) := by decide +kernel
theorem f_9_2 : x_fe 9 2 = some (.iconst (0), 3) := by decide +kernel
theorem f_9_3 : x_fe 9 3 = some (.istore 3, 4) := by decide +kernel
theorem f_9_4 : x_fe 9 4 = some (.iload 3, 5) := by decide +kernel
theorem f_9_5 : x_fe 9 5 = some (.iconst (9), 7) := by decide +kernel
theorem f_9_7 : x_fe 9 7 = some (.if_icmp .ge (Int.ofNat 34), 10) := by decide +kernel
theorem f_9_10 : x_fe 9 10 = some (.iload 1, 11) := by decide +kernel
theorem f_9_11 : x_fe 9 11 = some (.iload 3, 12) := by decide +kernel
theorem f_9_12 : x_fe 9 12 = some (.ishr, 13) := by decide +kernel
theorem f_9_13 : x_fe 9 13 = some (.iconst (1), 14) := by decide +kernel
theorem f_9_14 : x_fe 9 14 = some (.iand, 15) := by decide +kernel
theorem f_9_15 : x_fe 9 15 = some (.iconst (1), 16) := by decide +kernel
theorem f_9_16 : x_fe 9 16 = some (.if_icmp .ne (Int.ofNat 28), 19) := by decide +kernel
theorem f_9_19 : x_fe 9 19 = some (.iload 2, 20) := by decide +kernel
theorem f_9_20 : x_fe 9 20 = some (.aload 0, 21) := by decide +kernel
theorem f_9_21 : x_fe 9 21 = some (.getfield 0, 24) := by decide +kernel
theorem f_9_24 : x_fe 9 24 = some (.iload 3, 25) := by decide +kernel
theorem f_9_25 : x_fe 9 25 = some (.iaload, 26) := by decide +kernel
theorem f_9_26 : x_fe 9 26 = some (.iadd, 27) := by decide +kernel
theorem f_9_27 : x_fe 9 27 = some (.istore 2, 28) := by decide +kernel
theorem f_9_28 : x_fe 9 28 = some (.iinc 3 (1), 31) := by decide +kernel
theorem f_9_31 : x_fe 9 31 = some (.goto (Int.ofNat 4), 34) := by decide +kernel
theorem f_9_34 : x_fe 9 34 = some (.iload 2, 35) := by decide +kernel
theorem f_9_35 : x_fe 9 35 = some (.ireturn, 36) := by decide +kernel
theorem f_10_0 : x_fe 10 0 = some (.iload 1, 1) := by decide +kernel
theorem f_10_1 : x_fe 10 1 = some (.ifCond .lt (Int.ofNat 28), 4) := by decide +kernel
theorem f_10_4 : x_fe 10 4 = some (.iload 1, 5) := by decide +kernel
theorem f_10_5 : x_fe 10 5 = some (.aload 0, 6) := by decide +kernel
theorem f_10_6 : x_fe 10 6 = some (.getfield 5, 9) := by decide +kernel
theorem f_10_9 : x_fe 10 9 = some (.if_icmp .ge (Int.ofNat 28), 12) := by decide +kernel
theorem f_10_12 : x_fe 10 12 = some (.aload 0, 13) := by decide +kernel
theorem f_10_13 : x_fe 10 13 = some (.invokevirtual 11, 16) := by decide +kernel
theorem f_10_16 : x_fe 10 16 = some (.iload 1, 17) := by decide +kernel
theorem f_10_17 : x_fe 10 17 = some (.ishr, 18) := by decide +kernel
theorem f_10_18 : x_fe 10 18 = some (.iconst (1), 19) := by decide +kernel
theorem f_10_19 : x_fe 10 19 = some (.iand, 20) := by decide +kernel
theorem f_10_20 : x_fe 10 20 = some (.iconst (1), 21) := by decide +kernel
theorem f_10_21 : x_fe 10 21 = some (.if_icmp .ne (Int.ofNat 28), 24) := by decide +kernel
theorem f_10_24 : x_fe 10 24 = some (.iconst (1), 25) := by decide +kernel
theorem f_10_25 : x_fe 10 25 = some (.goto (Int.ofNat 29), 28) := by decide +kernel
theorem f_10_28 : x_fe 10 28 = some (.iconst (0), 29) := by decide +kernel
theorem f_10_29 : x_fe 10 29 = some (.ireturn, 30) := by decide +kernel
theorem f_11_0 : x_fe 11 0 = some (.aload 0, 1) := by decide +kernel
theorem f_11_1 : x_fe 11 1 = some (.getfield 8, 4) := by decide +kernel
theorem f_11_4 : x_fe 11 4 = some (.ifCond .eq (Int.ofNat 15), 7) := by decide +kernel
theorem f_11_7 : x_fe 11 7 = some (.aload 0, 8) := by decide +kernel
theorem f_11_8 : x_fe 11 8 = some (.getfield 8, 11) := by decide +kernel
theorem f_11_11 : x_fe 11 11 = some (.iconst (1), 12) := by decide +kernel
theorem f_11_12 : x_fe 11 12 = some (.if_icmp .ne (Int.ofNat 27), 15) := by decide +kernel
theorem f_11_15 : x_fe 11 15 = some (.aload 0, 16) := by decide +kernel
theorem f_11_16 : x_fe 11 16 = some (.getfield 2, 19) := by decide +kernel
theorem f_11_19 : x_fe 11 19 = some (.aload 0, 20) := by decide +kernel
theorem f_11_20 : x_fe 11 20 = some (.getfield 8, 23) := by decide +kernel
theorem f_11_23 : x_fe 11 23 = some (.iaload, 24) := by decide +kernel
theorem f_11_24 : x_fe 11 24 = some (.goto (Int.ofNat 28), 27) := by decide +kernel
theorem f_11_27 : x_fe 11 27 = some (.iconst (0), 28) := by decide +kernel
theorem f_11_28 : x_fe 11 28 = some (.ireturn, 29) := by decide +kernel
theorem f_12_0 : x_fe 12 0 = some (.aload 0, 1) := by decide +kernel
theorem f_12_1 : x_fe 12 1 = some (.iload 1, 2) := by decide +kernel
theorem f_12_2 : x_fe 12 2 = some (.invokevirtual 10, 5) := by decide +kernel
theorem f_12_5 : x_fe 12 5 = some (.ifCond .ne (Int.ofNat 10), 8) := by decide +kernel
theorem f_12_8 : x_fe 12 8 = some (.iconst (0), 9) := by decide +kernel
theorem f_12_9 : x_fe 12 9 = some (.ireturn, 10) := by decide +kernel
theorem f_12_10 : x_fe 12 10 = some (.aload 0, 11) := by decide +kernel
theorem f_12_11 : x_fe 12 11 = some (.dup, 12) := by decide +kernel
theorem f_12_12 : x_fe 12 12 = some (.getfield 6, 15) := by decide +kernel
theorem f_12_15 : x_fe 12 15 = some (.aload 0, 16) := by decide +kernel
theorem f_12_16 : x_fe 12 16 = some (.iload 1, 17) := by decide +kernel
theorem f_12_17 : x_fe 12 17 = some (.iload 2, 18) := by decide +kernel
theorem f_12_18 : x_fe 12 18 = some (.invokevirtual 8, 21) := by decide +kernel
theorem f_12_21 : x_fe 12 21 = some (.iand, 22) := by decide +kernel
theorem f_12_22 : x_fe 12 22 = some (.putfield 6, 25) := by decide +kernel
theorem f_12_25 : x_fe 12 25 = some (.aload 0, 26) := by decide +kernel
theorem f_12_26 : x_fe 12 26 = some (.dup, 27) := by decide +kernel
theorem f_12_27 : x_fe 12 27 = some (.getfield 7, 30) := by decide +kernel
theorem f_12_30 : x_fe 12 30 = some (.iconst (1), 31) := by decide +kernel
theorem f_12_31 : x_fe 12 31 = some (.iadd, 32) := by decide +kernel
theorem f_12_32 : x_fe 12 32 = some (.putfield 7, 35) := by decide +kernel
theorem f_12_35 : x_fe 12 35 = some (.aload 0, 36) := by decide +kernel
theorem f_12_36 : x_fe 12 36 = some (.getfield 2, 39) := by decide +kernel
theorem f_12_39 : x_fe 12 39 = some (.aload 0, 40) := by decide +kernel
theorem f_12_40 : x_fe 12 40 = some (.getfield 8, 43) := by decide +kernel
theorem f_12_43 : x_fe 12 43 = some (.dup2, 44) := by decide +kernel
theorem f_12_44 : x_fe 12 44 = some (.iaload, 45) := by decide +kernel
theorem f_12_45 : x_fe 12 45 = some (.iconst (1), 46) := by decide +kernel
theorem f_12_46 : x_fe 12 46 = some (.iload 1, 47) := by decide +kernel
theorem f_12_47 : x_fe 12 47 = some (.ishl, 48) := by decide +kernel
theorem f_12_48 : x_fe 12 48 = some (.iconst (-1), 49) := by decide +kernel
theorem f_12_49 : x_fe 12 49 = some (.ixor, 50) := by decide +kernel
theorem f_12_50 : x_fe 12 50 = some (.iand, 51) := by decide +kernel
theorem f_12_51 : x_fe 12 51 = some (.iastore, 52) := by decide +kernel
theorem f_12_52 : x_fe 12 52 = some (.aload 0, 53) := by decide +kernel
theorem f_12_53 : x_fe 12 53 = some (.aload 0, 54) := by decide +kernel
theorem f_12_54 : x_fe 12 54 = some (.getfield 6, 57) := by decide +kernel
theorem f_12_57 : x_fe 12 57 = some (.invokevirtual 9, 60) := by decide +kernel
theorem f_12_60 : x_fe 12 60 = some (.istore 3, 61) := by decide +kernel
theorem f_12_61 : x_fe 12 61 = some (.aload 0, 62) := by decide +kernel
theorem f_12_62 : x_fe 12 62 = some (.getfield 3, 65) := by decide +kernel
theorem f_12_65 : x_fe 12 65 = some (.aload 0, 66) := by decide +kernel
theorem f_12_66 : x_fe 12 66 = some (.getfield 8, 69) := by decide +kernel
theorem f_12_69 : x_fe 12 69 = some (.dup2, 70) := by decide +kernel
theorem f_12_70 : x_fe 12 70 = some (.iaload, 71) := by decide +kernel
theorem f_12_71 : x_fe 12 71 = some (.iload 3, 72) := by decide +kernel
theorem f_12_72 : x_fe 12 72 = some (.iadd, 73) := by decide +kernel
theorem f_12_73 : x_fe 12 73 = some (.iastore, 74) := by decide +kernel
theorem f_12_74 : x_fe 12 74 = some (.aload 0, 75) := by decide +kernel
theorem f_12_75 : x_fe 12 75 = some (.getfield 6, 78) := by decide +kernel
theorem f_12_78 : x_fe 12 78 = some (.ifCond .ne (Int.ofNat 103), 81) := by decide +kernel
theorem f_12_81 : x_fe 12 81 = some (.aload 0, 82) := by decide +kernel
theorem f_12_82 : x_fe 12 82 = some (.iconst (511), 85) := by decide +kernel
theorem f_12_85 : x_fe 12 85 = some (.putfield 6, 88) := by decide +kernel
theorem f_12_88 : x_fe 12 88 = some (.aload 0, 89) := by decide +kernel
theorem f_12_89 : x_fe 12 89 = some (.iconst (0), 90) := by decide +kernel
theorem f_12_90 : x_fe 12 90 = some (.putfield 7, 93) := by decide +kernel
theorem f_12_93 : x_fe 12 93 = some (.aload 0, 94) := by decide +kernel
theorem f_12_94 : x_fe 12 94 = some (.dup, 95) := by decide +kernel
theorem f_12_95 : x_fe 12 95 = some (.getfield 9, 98) := by decide +kernel
theorem f_12_98 : x_fe 12 98 = some (.iconst (1), 99) := by decide +kernel
theorem f_12_99 : x_fe 12 99 = some (.iadd, 100) := by decide +kernel
theorem f_12_100 : x_fe 12 100 = some (.putfield 9, 103) := by decide +kernel
theorem f_12_103 : x_fe 12 103 = some (.aload 0, 104) := by decide +kernel
theorem f_12_104 : x_fe 12 104 = some (.aload 0, 105) := by decide +kernel
theorem f_12_105 : x_fe 12 105 = some (.aload 0, 106) := by decide +kernel
theorem f_12_106 : x_fe 12 106 = some (.getfield 8, 109) := by decide +kernel
theorem f_12_109 : x_fe 12 109 = some (.invokevirtual 6, 112) := by decide +kernel
theorem f_12_112 : x_fe 12 112 = some (.putfield 8, 115) := by decide +kernel
theorem f_12_115 : x_fe 12 115 = some (.iload 3, 116) := by decide +kernel
theorem f_12_116 : x_fe 12 116 = some (.ireturn, 117) := by decide +kernel
theorem f_13_0 : x_fe 13 0 = some (.aload 0, 1) := by decide +kernel
theorem f_13_1 : x_fe 13 1 = some (.getfield 2, 4) := by decide +kernel
theorem f_13_4 : x_fe 13 4 = some (.iconst (0), 5) := by decide +kernel
theorem f_13_5 : x_fe 13 5 = some (.iaload, 6) := by decide +kernel
theorem f_13_6 : x_fe 13 6 = some (.invokestatic 179, 9) := by decide +kernel
theorem f_13_9 : x_fe 13 9 = some (.aload 0, 10) := by decide +kernel
theorem f_13_10 : x_fe 13 10 = some (.getfield 2, 13) := by decide +kernel
theorem f_13_13 : x_fe 13 13 = some (.iconst (1), 14) := by decide +kernel
theorem f_13_14 : x_fe 13 14 = some (.iaload, 15) := by decide +kernel
theorem f_13_15 : x_fe 13 15 = some (.invokestatic 179, 18) := by decide +kernel
theorem f_13_18 : x_fe 13 18 = some (.iadd, 19) := by decide +kernel
theorem f_13_19 : x_fe 13 19 = some (.ireturn, 20) := by decide +kernel
theorem f_14_0 : x_fe 14 0 = some (.aload 0, 1) := by decide +kernel
theorem f_14_1 : x_fe 14 1 = some (.getfield 8, 4) := by decide +kernel
theorem f_14_4 : x_fe 14 4 = some (.ifCond .eq (Int.ofNat 15), 7) := by decide +kernel
theorem f_14_7 : x_fe 14 7 = some (.aload 0, 8) := by decide +kernel
theorem f_14_8 : x_fe 14 8 = some (.getfield 8, 11) := by decide +kernel
theorem f_14_11 : x_fe 14 11 = some (.iconst (1), 12) := by decide +kernel
theorem f_14_12 : x_fe 14 12 = some (.if_icmp .ne (Int.ofNat 29), 15) := by decide +kernel
theorem f_14_15 : x_fe 14 15 = some (.aload 0, 16) := by decide +kernel
theorem f_14_16 : x_fe 14 16 = some (.getfield 2, 19) := by decide +kernel
theorem f_14_19 : x_fe 14 19 = some (.iconst (1), 20) := by decide +kernel
theorem f_14_20 : x_fe 14 20 = some (.aload 0, 21) := by decide +kernel
theorem f_14_21 : x_fe 14 21 = some (.getfield 8, 24) := by decide +kernel
theorem f_14_24 : x_fe 14 24 = some (.isub, 25) := by decide +kernel
theorem f_14_25 : x_fe 14 25 = some (.iaload, 26) := by decide +kernel
theorem f_14_26 : x_fe 14 26 = some (.goto (Int.ofNat 30), 29) := by decide +kernel
theorem f_14_29 : x_fe 14 29 = some (.iconst (0), 30) := by decide +kernel
theorem f_14_30 : x_fe 14 30 = some (.ireturn, 31) := by decide +kernel
theorem f_15_0 : x_fe 15 0 = some (.iconst (0), 1) := by decide +kernel
theorem f_15_1 : x_fe 15 1 = some (.istore 2, 2) := by decide +kernel
theorem f_15_2 : x_fe 15 2 = some (.iconst (0), 3) := by decide +kernel
theorem f_15_3 : x_fe 15 3 = some (.istore 3, 4) := by decide +kernel
theorem f_15_4 : x_fe 15 4 = some (.iload 3, 5) := by decide +kernel
theorem f_15_5 : x_fe 15 5 = some (.iconst (8), 7) := by decide +kernel
theorem f_15_7 : x_fe 15 7 = some (.if_icmp .ge (Int.ofNat 56), 10) := by decide +kernel
theorem f_15_10 : x_fe 15 10 = some (.iconst (0), 11) := by decide +kernel
theorem f_15_11 : x_fe 15 11 = some (.istore 4, 13) := by decide +kernel
theorem f_15_13 : x_fe 15 13 = some (.iload 4, 15) := by decide +kernel
theorem f_15_15 : x_fe 15 15 = some (.iload 3, 16) := by decide +kernel
theorem f_15_16 : x_fe 15 16 = some (.if_icmp .ge (Int.ofNat 41), 19) := by decide +kernel
theorem f_15_19 : x_fe 15 19 = some (.aload 0, 20) := by decide +kernel
theorem f_15_20 : x_fe 15 20 = some (.iload 1, 21) := by decide +kernel
theorem f_15_21 : x_fe 15 21 = some (.iload 4, 23) := by decide +kernel
theorem f_15_23 : x_fe 15 23 = some (.invokevirtual 8, 26) := by decide +kernel
theorem f_15_26 : x_fe 15 26 = some (.aload 0, 27) := by decide +kernel
theorem f_15_27 : x_fe 15 27 = some (.iload 1, 28) := by decide +kernel
theorem f_15_28 : x_fe 15 28 = some (.iload 3, 29) := by decide +kernel
theorem f_15_29 : x_fe 15 29 = some (.invokevirtual 8, 32) := by decide +kernel
theorem f_15_32 : x_fe 15 32 = some (.if_icmp .eq (Int.ofNat 41), 35) := by decide +kernel
theorem f_15_35 : x_fe 15 35 = some (.iinc 4 (1), 38) := by decide +kernel
theorem f_15_38 : x_fe 15 38 = some (.goto (Int.ofNat 13), 41) := by decide +kernel
theorem f_15_41 : x_fe 15 41 = some (.iload 4, 43) := by decide +kernel
theorem f_15_43 : x_fe 15 43 = some (.iload 3, 44) := by decide +kernel
theorem f_15_44 : x_fe 15 44 = some (.if_icmp .ne (Int.ofNat 50), 47) := by decide +kernel
theorem f_15_47 : x_fe 15 47 = some (.iinc 2 (1), 50) := by decide +kernel
theorem f_15_50 : x_fe 15 50 = some (.iinc 3 (1), 53) := by decide +kernel
theorem f_15_53 : x_fe 15 53 = some (.goto (Int.ofNat 4), 56) := by decide +kernel
theorem f_15_56 : x_fe 15 56 = some (.iload 2, 57) := by decide +kernel
theorem f_15_57 : x_fe 15 57 = some (.ireturn, 58) := by decide +kernel
theorem f_16_0 : x_fe 16 0 = some (.aload 0, 1) := by decide +kernel
theorem f_16_1 : x_fe 16 1 = some (.d2f, 4) := by decide +kernel
theorem f_16_4 : x_fe 16 4 = some (.aload 0, 5) := by decide +kernel
theorem f_16_5 : x_fe 16 5 = some (.iconst (4), 6) := by decide +kernel
theorem f_16_6 : x_fe 16 6 = some (.newarray .int, 8) := by decide +kernel
theorem f_16_8 : x_fe 16 8 = some (.putstatic 32, 11) := by decide +kernel
theorem f_16_11 : x_fe 16 11 = some (.aload 0, 12) := by decide +kernel
theorem f_16_12 : x_fe 16 12 = some (.iconst (2), 13) := by decide +kernel
theorem f_16_13 : x_fe 16 13 = some (.newarray .int, 15) := by decide +kernel
theorem f_16_15 : x_fe 16 15 = some (.putstatic 33, 18) := by decide +kernel
theorem f_16_18 : x_fe 16 18 = some (.aload 0, 19) := by decide +kernel
theorem f_16_19 : x_fe 16 19 = some (.iconst (16384), 22) := by decide +kernel
theorem f_16_22 : x_fe 16 22 = some (.newarray .int, 24) := by decide +kernel
theorem f_16_24 : x_fe 16 24 = some (.putstatic 34, 27) := by decide +kernel
theorem f_16_27 : x_fe 16 27 = some (.return_, 28) := by decide +kernel
theorem f_17_0 : x_fe 17 0 = some (.aload 0, 1) := by decide +kernel
theorem f_17_1 : x_fe 17 1 = some (.iconst (0), 2) := by decide +kernel
theorem f_17_2 : x_fe 17 2 = some (.putfield 35, 5) := by decide +kernel
theorem f_17_5 : x_fe 17 5 = some (.aload 0, 6) := by decide +kernel
theorem f_17_6 : x_fe 17 6 = some (.getfield 33, 9) := by decide +kernel
theorem f_17_9 : x_fe 17 9 = some (.iconst (0), 10) := by decide +kernel
theorem f_17_10 : x_fe 17 10 = some (.iconst (0), 11) := by decide +kernel
theorem f_17_11 : x_fe 17 11 = some (.iastore, 12) := by decide +kernel
theorem f_17_12 : x_fe 17 12 = some (.aload 0, 13) := by decide +kernel
theorem f_17_13 : x_fe 17 13 = some (.getfield 33, 16) := by decide +kernel
theorem f_17_16 : x_fe 17 16 = some (.iconst (1), 17) := by decide +kernel
theorem f_17_17 : x_fe 17 17 = some (.iconst (0), 18) := by decide +kernel
theorem f_17_18 : x_fe 17 18 = some (.iastore, 19) := by decide +kernel
theorem f_17_19 : x_fe 17 19 = some (.iconst (0), 20) := by decide +kernel
theorem f_17_20 : x_fe 17 20 = some (.istore 2, 21) := by decide +kernel
theorem f_17_21 : x_fe 17 21 = some (.iload 2, 22) := by decide +kernel
theorem f_17_22 : x_fe 17 22 = some (.aload 1, 23) := by decide +kernel
theorem f_17_23 : x_fe 17 23 = some (.getfield 5, 26) := by decide +kernel
theorem f_17_26 : x_fe 17 26 = some (.if_icmp .ge (Int.ofNat 113), 29) := by decide +kernel
theorem f_17_29 : x_fe 17 29 = some (.aload 0, 30) := by decide +kernel
theorem f_17_30 : x_fe 17 30 = some (.getfield 35, 33) := by decide +kernel
theorem f_17_33 : x_fe 17 33 = some (.iconst (4), 34) := by decide +kernel
theorem f_17_34 : x_fe 17 34 = some (.if_icmp .ge (Int.ofNat 113), 37) := by decide +kernel
theorem f_17_37 : x_fe 17 37 = some (.iconst (0), 38) := by decide +kernel
theorem f_17_38 : x_fe 17 38 = some (.istore 3, 39) := by decide +kernel
theorem f_17_39 : x_fe 17 39 = some (.iload 3, 40) := by decide +kernel
theorem f_17_40 : x_fe 17 40 = some (.iconst (2), 41) := by decide +kernel
theorem f_17_41 : x_fe 17 41 = some (.if_icmp .ge (Int.ofNat 107), 44) := by decide +kernel
theorem f_17_44 : x_fe 17 44 = some (.aload 0, 45) := by decide +kernel
theorem f_17_45 : x_fe 17 45 = some (.getfield 35, 48) := by decide +kernel
theorem f_17_48 : x_fe 17 48 = some (.iconst (4), 49) := by decide +kernel
theorem f_17_49 : x_fe 17 49 = some (.if_icmp .ge (Int.ofNat 107), 52) := by decide +kernel
theorem f_17_52 : x_fe 17 52 = some (.aload 1, 53) := by decide +kernel
theorem f_17_53 : x_fe 17 53 = some (.getfield 2, 56) := by decide +kernel
theorem f_17_56 : x_fe 17 56 = some (.iload 3, 57) := by decide +kernel
theorem f_17_57 : x_fe 17 57 = some (.iaload, 58) := by decide +kernel
theorem f_17_58 : x_fe 17 58 = some (.iload 2, 59) := by decide +kernel
theorem f_17_59 : x_fe 17 59 = some (.ishr, 60) := by decide +kernel
theorem f_17_60 : x_fe 17 60 = some (.iconst (1), 61) := by decide +kernel
theorem f_17_61 : x_fe 17 61 = some (.iand, 62) := by decide +kernel
theorem f_17_62 : x_fe 17 62 = some (.iconst (1), 63) := by decide +kernel
theorem f_17_63 : x_fe 17 63 = some (.if_icmp .ne (Int.ofNat 101), 66) := by decide +kernel
theorem f_17_66 : x_fe 17 66 = some (.aload 0, 67) := by decide +kernel
theorem f_17_67 : x_fe 17 67 = some (.getfield 33, 70) := by decide +kernel
theorem f_17_70 : x_fe 17 70 = some (.iload 3, 71) := by decide +kernel
theorem f_17_71 : x_fe 17 71 = some (.dup2, 72) := by decide +kernel
theorem f_17_72 : x_fe 17 72 = some (.iaload, 73) := by decide +kernel
theorem f_17_73 : x_fe 17 73 = some (.iconst (1), 74) := by decide +kernel
theorem f_17_74 : x_fe 17 74 = some (.aload 0, 75) := by decide +kernel
theorem f_17_75 : x_fe 17 75 = some (.getfield 35, 78) := by decide +kernel
theorem f_17_78 : x_fe 17 78 = some (.ishl, 79) := by decide +kernel
theorem f_17_79 : x_fe 17 79 = some (.ior, 80) := by decide +kernel
theorem f_17_80 : x_fe 17 80 = some (.iastore, 81) := by decide +kernel
theorem f_17_81 : x_fe 17 81 = some (.aload 0, 82) := by decide +kernel
theorem f_17_82 : x_fe 17 82 = some (.getfield 32, 85) := by decide +kernel
theorem f_17_85 : x_fe 17 85 = some (.aload 0, 86) := by decide +kernel
theorem f_17_86 : x_fe 17 86 = some (.getfield 35, 89) := by decide +kernel
theorem f_17_89 : x_fe 17 89 = some (.iload 2, 90) := by decide +kernel
theorem f_17_90 : x_fe 17 90 = some (.iastore, 91) := by decide +kernel
theorem f_17_91 : x_fe 17 91 = some (.aload 0, 92) := by decide +kernel
theorem f_17_92 : x_fe 17 92 = some (.dup, 93) := by decide +kernel
theorem f_17_93 : x_fe 17 93 = some (.getfield 35, 96) := by decide +kernel
theorem f_17_96 : x_fe 17 96 = some (.iconst (1), 97) := by decide +kernel
theorem f_17_97 : x_fe 17 97 = some (.iadd, 98) := by decide +kernel
theorem f_17_98 : x_fe 17 98 = some (.putfield 35, 101) := by decide +kernel
theorem f_17_101 : x_fe 17 101 = some (.iinc 3 (1), 104) := by decide +kernel
theorem f_17_104 : x_fe 17 104 = some (.goto (Int.ofNat 39), 107) := by decide +kernel
theorem f_17_107 : x_fe 17 107 = some (.iinc 2 (1), 110) := by decide +kernel
theorem f_17_110 : x_fe 17 110 = some (.goto (Int.ofNat 21), 113) := by decide +kernel
theorem f_17_113 : x_fe 17 113 = some (.aload 0, 114) := by decide +kernel
theorem f_17_114 : x_fe 17 114 = some (.getfield 34, 117) := by decide +kernel
theorem f_17_117 : x_fe 17 117 = some (.iconst (-1000000000), 119) := by decide +kernel
theorem f_17_119 : x_fe 17 119 = some (.invokestatic 182, 122) := by decide +kernel
theorem f_17_122 : x_fe 17 122 = some (.return_, 123) := by decide +kernel
theorem f_18_0 : x_fe 18 0 = some (.iconst (1), 1) := by decide +kernel
theorem f_18_1 : x_fe 18 1 = some (.aload 0, 2) := by decide +kernel
theorem f_18_2 : x_fe 18 2 = some (.getfield 35, 5) := by decide +kernel
theorem f_18_5 : x_fe 18 5 = some (.ishl, 6) := by decide +kernel
theorem f_18_6 : x_fe 18 6 = some (.iconst (1), 7) := by decide +kernel
theorem f_18_7 : x_fe 18 7 = some (.isub, 8) := by decide +kernel
theorem f_18_8 : x_fe 18 8 = some (.aload 1, 9) := by decide +kernel
theorem f_18_9 : x_fe 18 9 = some (.getfield 8, 12) := by decide +kernel
theorem f_18_12 : x_fe 18 12 = some (.iconst (1), 13) := by decide +kernel
theorem f_18_13 : x_fe 18 13 = some (.if_icmp .ne (Int.ofNat 20), 16) := by decide +kernel
theorem f_18_16 : x_fe 18 16 = some (.iconst (1), 17) := by decide +kernel
theorem f_18_17 : x_fe 18 17 = some (.goto (Int.ofNat 21), 20) := by decide +kernel
theorem f_18_20 : x_fe 18 20 = some (.iconst (0), 21) := by decide +kernel
theorem f_18_21 : x_fe 18 21 = some (.aload 1, 22) := by decide +kernel
theorem f_18_22 : x_fe 18 22 = some (.getfield 6, 25) := by decide +kernel
theorem f_18_25 : x_fe 18 25 = some (.invokestatic 19, 28) := by decide +kernel
theorem f_18_28 : x_fe 18 28 = some (.ireturn, 29) := by decide +kernel
theorem f_19_0 : x_fe 19 0 = some (.iload 0, 1) := by decide +kernel
theorem f_19_1 : x_fe 19 1 = some (.iconst (10), 3) := by decide +kernel
theorem f_19_3 : x_fe 19 3 = some (.ishl, 4) := by decide +kernel
theorem f_19_4 : x_fe 19 4 = some (.iload 1, 5) := by decide +kernel
theorem f_19_5 : x_fe 19 5 = some (.iconst (9), 7) := by decide +kernel
theorem f_19_7 : x_fe 19 7 = some (.ishl, 8) := by decide +kernel
theorem f_19_8 : x_fe 19 8 = some (.ior, 9) := by decide +kernel
theorem f_19_9 : x_fe 19 9 = some (.iload 2, 10) := by decide +kernel
theorem f_19_10 : x_fe 19 10 = some (.ior, 11) := by decide +kernel
theorem f_19_11 : x_fe 19 11 = some (.ireturn, 12) := by decide +kernel
theorem f_20_0 : x_fe 20 0 = some (.iload 1, 1) := by decide +kernel
theorem f_20_1 : x_fe 20 1 = some (.iconst (9), 3) := by decide +kernel
theorem f_20_3 : x_fe 20 3 = some (.ishr, 4) := by decide +kernel
theorem f_20_4 : x_fe 20 4 = some (.iconst (1), 5) := by decide +kernel
theorem f_20_5 : x_fe 20 5 = some (.iand, 6) := by decide +kernel
theorem f_20_6 : x_fe 20 6 = some (.ireturn, 7) := by decide +kernel
theorem f_21_0 : x_fe 21 0 = some (.iload 1, 1) := by decide +kernel
theorem f_21_1 : x_fe 21 1 = some (.iconst (10), 3) := by decide +kernel
theorem f_21_3 : x_fe 21 3 = some (.ishr, 4) := by decide +kernel
theorem f_21_4 : x_fe 21 4 = some (.aload 0, 5) := by decide +kernel
theorem f_21_5 : x_fe 21 5 = some (.getfield 33, 8) := by decide +kernel
theorem f_21_8 : x_fe 21 8 = some (.iload 2, 9) := by decide +kernel
theorem f_21_9 : x_fe 21 9 = some (.iaload, 10) := by decide +kernel
theorem f_21_10 : x_fe 21 10 = some (.iand, 11) := by decide +kernel
theorem f_21_11 : x_fe 21 11 = some (.iconst (1), 12) := by decide +kernel
theorem f_21_12 : x_fe 21 12 = some (.iload 3, 13) := by decide +kernel
theorem f_21_13 : x_fe 21 13 = some (.ishl, 14) := by decide +kernel
theorem f_21_14 : x_fe 21 14 = some (.iand, 15) := by decide +kernel
theorem f_21_15 : x_fe 21 15 = some (.ifCond .eq (Int.ofNat 22), 18) := by decide +kernel
theorem f_21_18 : x_fe 21 18 = some (.iconst (1), 19) := by decide +kernel
theorem f_21_19 : x_fe 21 19 = some (.goto (Int.ofNat 23), 22) := by decide +kernel
theorem f_21_22 : x_fe 21 22 = some (.iconst (0), 23) := by decide +kernel
theorem f_21_23 : x_fe 21 23 = some (.ireturn, 24) := by decide +kernel
theorem f_22_0 : x_fe 22 0 = some (.iload 1, 1) := by decide +kernel
theorem f_22_1 : x_fe 22 1 = some (.iconst (10), 3) := by decide +kernel
theorem f_22_3 : x_fe 22 3 = some (.ishr, 4) := by decide +kernel
theorem f_22_4 : x_fe 22 4 = some (.iconst (1), 5) := by decide +kernel
theorem f_22_5 : x_fe 22 5 = some (.iload 2, 6) := by decide +kernel
theorem f_22_6 : x_fe 22 6 = some (.ishl, 7) := by decide +kernel
theorem f_22_7 : x_fe 22 7 = some (.iconst (-1), 8) := by decide +kernel
theorem f_22_8 : x_fe 22 8 = some (.ixor, 9) := by decide +kernel
theorem f_22_9 : x_fe 22 9 = some (.iand, 10) := by decide +kernel
theorem f_22_10 : x_fe 22 10 = some (.istore 4, 12) := by decide +kernel
theorem f_22_12 : x_fe 22 12 = some (.aload 0, 13) := by decide +kernel
theorem f_22_13 : x_fe 22 13 = some (.iload 1, 14) := by decide +kernel
theorem f_22_14 : x_fe 22 14 = some (.invokevirtual 20, 17) := by decide +kernel
theorem f_22_17 : x_fe 22 17 = some (.istore 5, 19) := by decide +kernel
theorem f_22_19 : x_fe 22 19 = some (.iload 4, 21) := by decide +kernel
theorem f_22_21 : x_fe 22 21 = some (.aload 0, 22) := by decide +kernel
theorem f_22_22 : x_fe 22 22 = some (.getfield 33, 25) := by decide +kernel
theorem f_22_25 : x_fe 22 25 = some (.iconst (1), 26) := by decide +kernel
theorem f_22_26 : x_fe 22 26 = some (.iload 5, 28) := by decide +kernel
theorem f_22_28 : x_fe 22 28 = some (.isub, 29) := by decide +kernel
theorem f_22_29 : x_fe 22 29 = some (.iaload, 30) := by decide +kernel
theorem f_22_30 : x_fe 22 30 = some (.iand, 31) := by decide +kernel
theorem f_22_31 : x_fe 22 31 = some (.ifCond .eq (Int.ofNat 41), 34) := by decide +kernel
theorem f_22_34 : x_fe 22 34 = some (.iconst (1), 35) := by decide +kernel
theorem f_22_35 : x_fe 22 35 = some (.iload 5, 37) := by decide +kernel
theorem f_22_37 : x_fe 22 37 = some (.isub, 38) := by decide +kernel
theorem f_22_38 : x_fe 22 38 = some (.goto (Int.ofNat 43), 41) := by decide +kernel
theorem f_22_41 : x_fe 22 41 = some (.iload 5, 43) := by decide +kernel
theorem f_22_43 : x_fe 22 43 = some (.istore 6, 45) := by decide +kernel
theorem f_22_45 : x_fe 22 45 = some (.iload 4, 47) := by decide +kernel
theorem f_22_47 : x_fe 22 47 = some (.iload 6, 49) := by decide +kernel
theorem f_22_49 : x_fe 22 49 = some (.iload 3, 50) := by decide +kernel
theorem f_22_50 : x_fe 22 50 = some (.ifCond .ne (Int.ofNat 59), 53) := by decide +kernel
theorem f_22_53 : x_fe 22 53 = some (.iconst (511), 56) := by decide +kernel
theorem f_22_56 : x_fe 22 56 = some (.goto (Int.ofNat 60), 59) := by decide +kernel
theorem f_22_59 : x_fe 22 59 = some (.iload 3, 60) := by decide +kernel
theorem f_22_60 : x_fe 22 60 = some (.invokestatic 19, 63) := by decide +kernel
theorem f_22_63 : x_fe 22 63 = some (.ireturn, 64) := by decide +kernel
theorem f_23_0 : x_fe 23 0 = some (.aload 0, 1) := by decide +kernel
theorem f_23_1 : x_fe 23 1 = some (.d2f, 4) := by decide +kernel
theorem f_23_4 : x_fe 23 4 = some (.aload 0, 5) := by decide +kernel
theorem f_23_5 : x_fe 23 5 = some (.iconst (40), 7) := by decide +kernel
theorem f_23_7 : x_fe 23 7 = some (.newarray .int, 9) := by decide +kernel
theorem f_23_9 : x_fe 23 9 = some (.putstatic 64, 12) := by decide +kernel
theorem f_23_12 : x_fe 23 12 = some (.return_, 13) := by decide +kernel
theorem f_24_0 : x_fe 24 0 = some (.aload 0, 1) := by decide +kernel
theorem f_24_1 : x_fe 24 1 = some (.iconst (1), 2) := by decide +kernel
theorem f_24_2 : x_fe 24 2 = some (.putfield 65, 5) := by decide +kernel
theorem f_24_5 : x_fe 24 5 = some (.aload 0, 6) := by decide +kernel
theorem f_24_6 : x_fe 24 6 = some (.iload 1, 7) := by decide +kernel
theorem f_24_7 : x_fe 24 7 = some (.putfield 66, 10) := by decide +kernel
theorem f_24_10 : x_fe 24 10 = some (.aload 0, 11) := by decide +kernel
theorem f_24_11 : x_fe 24 11 = some (.iload 2, 12) := by decide +kernel
theorem f_24_12 : x_fe 24 12 = some (.putfield 67, 15) := by decide +kernel
theorem f_24_15 : x_fe 24 15 = some (.aload 0, 16) := by decide +kernel
theorem f_24_16 : x_fe 24 16 = some (.getfield 64, 19) := by decide +kernel
theorem f_24_19 : x_fe 24 19 = some (.iconst (0), 20) := by decide +kernel
theorem f_24_20 : x_fe 24 20 = some (.invokestatic 182, 23) := by decide +kernel
theorem f_24_23 : x_fe 24 23 = some (.return_, 24) := by decide +kernel
theorem f_25_0 : x_fe 25 0 = some (.iload 1, 1) := by decide +kernel
theorem f_25_1 : x_fe 25 1 = some (.ifCond .lt (Int.ofNat 22), 4) := by decide +kernel
theorem f_25_4 : x_fe 25 4 = some (.iload 2, 5) := by decide +kernel
theorem f_25_5 : x_fe 25 5 = some (.ifCond .lt (Int.ofNat 22), 8) := by decide +kernel
theorem f_25_8 : x_fe 25 8 = some (.iload 1, 9) := by decide +kernel
theorem f_25_9 : x_fe 25 9 = some (.aload 0, 10) := by decide +kernel
theorem f_25_10 : x_fe 25 10 = some (.getfield 67, 13) := by decide +kernel
theorem f_25_13 : x_fe 25 13 = some (.iload 2, 14) := by decide +kernel
end
section
theorem f_25_14 : x_fe 25 14 = some (.isub, 15) := by decide +kernel
theorem f_25_15 : x_fe 25 15 = some (.if_icmp .gt (Int.ofNat 22), 18) := by decide +kernel
theorem f_25_18 : x_fe 25 18 = some (.iconst (1), 19) := by decide +kernel
theorem f_25_19 : x_fe 25 19 = some (.goto (Int.ofNat 23), 22) := by decide +kernel
theorem f_25_22 : x_fe 25 22 = some (.iconst (0), 23) := by decide +kernel
theorem f_25_23 : x_fe 25 23 = some (.ireturn, 24) := by decide +kernel
theorem f_26_0 : x_fe 26 0 = some (.aload 0, 1) := by decide +kernel
theorem f_26_1 : x_fe 26 1 = some (.getfield 66, 4) := by decide +kernel
theorem f_26_4 : x_fe 26 4 = some (.lookupswitch (34) #[(0, 28), (1, 31)], 32) := by decide +kernel
theorem f_26_32 : x_fe 26 32 = some (.iload 1, 33) := by decide +kernel
theorem f_26_33 : x_fe 26 33 = some (.i2b, 34) := by decide +kernel
theorem f_26_34 : x_fe 26 34 = some (.ireturn, 35) := by decide +kernel
theorem f_26_35 : x_fe 26 35 = some (.iload 1, 36) := by decide +kernel
theorem f_26_36 : x_fe 26 36 = some (.i2s, 37) := by decide +kernel
theorem f_26_37 : x_fe 26 37 = some (.ireturn, 38) := by decide +kernel
theorem f_26_38 : x_fe 26 38 = some (.iload 1, 39) := by decide +kernel
theorem f_26_39 : x_fe 26 39 = some (.ireturn, 40) := by decide +kernel
theorem f_27_0 : x_fe 27 0 = some (.iload 1, 1) := by decide +kernel
theorem f_27_1 : x_fe 27 1 = some (.ifCond .lt (Int.ofNat 30), 4) := by decide +kernel
theorem f_27_4 : x_fe 27 4 = some (.iload 1, 5) := by decide +kernel
theorem f_27_5 : x_fe 27 5 = some (.aload 0, 6) := by decide +kernel
theorem f_27_6 : x_fe 27 6 = some (.getfield 67, 9) := by decide +kernel
theorem f_27_9 : x_fe 27 9 = some (.if_icmp .ge (Int.ofNat 30), 12) := by decide +kernel
theorem f_27_12 : x_fe 27 12 = some (.iload 1, 13) := by decide +kernel
theorem f_27_13 : x_fe 27 13 = some (.aload 0, 14) := by decide +kernel
theorem f_27_14 : x_fe 27 14 = some (.getfield 64, 17) := by decide +kernel
theorem f_27_17 : x_fe 27 17 = some (.arraylength, 18) := by decide +kernel
theorem f_27_18 : x_fe 27 18 = some (.if_icmp .ge (Int.ofNat 30), 21) := by decide +kernel
theorem f_27_21 : x_fe 27 21 = some (.aload 0, 22) := by decide +kernel
theorem f_27_22 : x_fe 27 22 = some (.getfield 64, 25) := by decide +kernel
theorem f_27_25 : x_fe 27 25 = some (.iload 1, 26) := by decide +kernel
theorem f_27_26 : x_fe 27 26 = some (.iaload, 27) := by decide +kernel
theorem f_27_27 : x_fe 27 27 = some (.goto (Int.ofNat 32), 30) := by decide +kernel
theorem f_27_30 : x_fe 27 30 = some (.iconst (-1000000), 32) := by decide +kernel
theorem f_27_32 : x_fe 27 32 = some (.ireturn, 33) := by decide +kernel
theorem f_28_0 : x_fe 28 0 = some (.aload 0, 1) := by decide +kernel
theorem f_28_1 : x_fe 28 1 = some (.d2f, 4) := by decide +kernel
theorem f_28_4 : x_fe 28 4 = some (.aload 0, 5) := by decide +kernel
theorem f_28_5 : x_fe 28 5 = some (.iconst (400), 8) := by decide +kernel
theorem f_28_8 : x_fe 28 8 = some (.newarray .int, 10) := by decide +kernel
theorem f_28_10 : x_fe 28 10 = some (.putstatic 96, 13) := by decide +kernel
theorem f_28_13 : x_fe 28 13 = some (.return_, 14) := by decide +kernel
theorem f_29_0 : x_fe 29 0 = some (.aload 0, 1) := by decide +kernel
theorem f_29_1 : x_fe 29 1 = some (.getfield 97, 4) := by decide +kernel
theorem f_29_4 : x_fe 29 4 = some (.aload 0, 5) := by decide +kernel
theorem f_29_5 : x_fe 29 5 = some (.getfield 96, 8) := by decide +kernel
theorem f_29_8 : x_fe 29 8 = some (.arraylength, 9) := by decide +kernel
theorem f_29_9 : x_fe 29 9 = some (.if_icmp .ge (Int.ofNat 32), 12) := by decide +kernel
theorem f_29_12 : x_fe 29 12 = some (.aload 0, 13) := by decide +kernel
theorem f_29_13 : x_fe 29 13 = some (.getfield 96, 16) := by decide +kernel
theorem f_29_16 : x_fe 29 16 = some (.aload 0, 17) := by decide +kernel
theorem f_29_17 : x_fe 29 17 = some (.getfield 97, 20) := by decide +kernel
theorem f_29_20 : x_fe 29 20 = some (.iload 1, 21) := by decide +kernel
theorem f_29_21 : x_fe 29 21 = some (.iastore, 22) := by decide +kernel
theorem f_29_22 : x_fe 29 22 = some (.aload 0, 23) := by decide +kernel
theorem f_29_23 : x_fe 29 23 = some (.dup, 24) := by decide +kernel
theorem f_29_24 : x_fe 29 24 = some (.getfield 97, 27) := by decide +kernel
theorem f_29_27 : x_fe 29 27 = some (.iconst (1), 28) := by decide +kernel
theorem f_29_28 : x_fe 29 28 = some (.iadd, 29) := by decide +kernel
theorem f_29_29 : x_fe 29 29 = some (.putfield 97, 32) := by decide +kernel
theorem f_29_32 : x_fe 29 32 = some (.return_, 33) := by decide +kernel
theorem f_30_0 : x_fe 30 0 = some (.aload 0, 1) := by decide +kernel
theorem f_30_1 : x_fe 30 1 = some (.iconst (0), 2) := by decide +kernel
theorem f_30_2 : x_fe 30 2 = some (.putfield 100, 5) := by decide +kernel
theorem f_30_5 : x_fe 30 5 = some (.aload 0, 6) := by decide +kernel
theorem f_30_6 : x_fe 30 6 = some (.invokevirtual 31, 9) := by decide +kernel
theorem f_30_9 : x_fe 30 9 = some (.return_, 10) := by decide +kernel
theorem f_31_0 : x_fe 31 0 = some (.aload 0, 1) := by decide +kernel
theorem f_31_1 : x_fe 31 1 = some (.aload 0, 2) := by decide +kernel
theorem f_31_2 : x_fe 31 2 = some (.getfield 100, 5) := by decide +kernel
theorem f_31_5 : x_fe 31 5 = some (.putfield 99, 8) := by decide +kernel
theorem f_31_8 : x_fe 31 8 = some (.aload 0, 9) := by decide +kernel
theorem f_31_9 : x_fe 31 9 = some (.getfield 99, 12) := by decide +kernel
theorem f_31_12 : x_fe 31 12 = some (.aload 0, 13) := by decide +kernel
theorem f_31_13 : x_fe 31 13 = some (.getfield 97, 16) := by decide +kernel
theorem f_31_16 : x_fe 31 16 = some (.if_icmp .ge (Int.ofNat 46), 19) := by decide +kernel
theorem f_31_19 : x_fe 31 19 = some (.aload 0, 20) := by decide +kernel
theorem f_31_20 : x_fe 31 20 = some (.aload 0, 21) := by decide +kernel
theorem f_31_21 : x_fe 31 21 = some (.getfield 99, 24) := by decide +kernel
theorem f_31_24 : x_fe 31 24 = some (.invokevirtual 32, 27) := by decide +kernel
theorem f_31_27 : x_fe 31 27 = some (.invokestatic 33, 30) := by decide +kernel
theorem f_31_30 : x_fe 31 30 = some (.ifCond .eq (Int.ofNat 46), 33) := by decide +kernel
theorem f_31_33 : x_fe 31 33 = some (.aload 0, 34) := by decide +kernel
theorem f_31_34 : x_fe 31 34 = some (.dup, 35) := by decide +kernel
theorem f_31_35 : x_fe 31 35 = some (.getfield 99, 38) := by decide +kernel
theorem f_31_38 : x_fe 31 38 = some (.iconst (1), 39) := by decide +kernel
theorem f_31_39 : x_fe 31 39 = some (.iadd, 40) := by decide +kernel
theorem f_31_40 : x_fe 31 40 = some (.putfield 99, 43) := by decide +kernel
theorem f_31_43 : x_fe 31 43 = some (.goto (Int.ofNat 8), 46) := by decide +kernel
theorem f_31_46 : x_fe 31 46 = some (.aload 0, 47) := by decide +kernel
theorem f_31_47 : x_fe 31 47 = some (.aload 0, 48) := by decide +kernel
theorem f_31_48 : x_fe 31 48 = some (.getfield 99, 51) := by decide +kernel
theorem f_31_51 : x_fe 31 51 = some (.putfield 100, 54) := by decide +kernel
theorem f_31_54 : x_fe 31 54 = some (.aload 0, 55) := by decide +kernel
theorem f_31_55 : x_fe 31 55 = some (.getfield 99, 58) := by decide +kernel
theorem f_31_58 : x_fe 31 58 = some (.aload 0, 59) := by decide +kernel
theorem f_31_59 : x_fe 31 59 = some (.getfield 97, 62) := by decide +kernel
theorem f_31_62 : x_fe 31 62 = some (.if_icmp .lt (Int.ofNat 73), 65) := by decide +kernel
theorem f_31_65 : x_fe 31 65 = some (.aload 0, 66) := by decide +kernel
theorem f_31_66 : x_fe 31 66 = some (.iconst (0), 67) := by decide +kernel
theorem f_31_67 : x_fe 31 67 = some (.putfield 98, 70) := by decide +kernel
theorem f_31_70 : x_fe 31 70 = some (.goto (Int.ofNat 147), 73) := by decide +kernel
theorem f_31_73 : x_fe 31 73 = some (.aload 0, 74) := by decide +kernel
theorem f_31_74 : x_fe 31 74 = some (.aload 0, 75) := by decide +kernel
theorem f_31_75 : x_fe 31 75 = some (.getfield 99, 78) := by decide +kernel
theorem f_31_78 : x_fe 31 78 = some (.invokevirtual 32, 81) := by decide +kernel
theorem f_31_81 : x_fe 31 81 = some (.invokestatic 34, 84) := by decide +kernel
theorem f_31_84 : x_fe 31 84 = some (.ifCond .eq (Int.ofNat 94), 87) := by decide +kernel
theorem f_31_87 : x_fe 31 87 = some (.aload 0, 88) := by decide +kernel
theorem f_31_88 : x_fe 31 88 = some (.invokevirtual 35, 91) := by decide +kernel
theorem f_31_91 : x_fe 31 91 = some (.goto (Int.ofNat 147), 94) := by decide +kernel
theorem f_31_94 : x_fe 31 94 = some (.aload 0, 95) := by decide +kernel
theorem f_31_95 : x_fe 31 95 = some (.aload 0, 96) := by decide +kernel
theorem f_31_96 : x_fe 31 96 = some (.getfield 99, 99) := by decide +kernel
theorem f_31_99 : x_fe 31 99 = some (.invokevirtual 32, 102) := by decide +kernel
theorem f_31_102 : x_fe 31 102 = some (.invokestatic 36, 105) := by decide +kernel
theorem f_31_105 : x_fe 31 105 = some (.ifCond .eq (Int.ofNat 115), 108) := by decide +kernel
theorem f_31_108 : x_fe 31 108 = some (.aload 0, 109) := by decide +kernel
theorem f_31_109 : x_fe 31 109 = some (.invokevirtual 37, 112) := by decide +kernel
theorem f_31_112 : x_fe 31 112 = some (.goto (Int.ofNat 147), 115) := by decide +kernel
theorem f_31_115 : x_fe 31 115 = some (.aload 0, 116) := by decide +kernel
theorem f_31_116 : x_fe 31 116 = some (.aload 0, 117) := by decide +kernel
theorem f_31_117 : x_fe 31 117 = some (.aload 0, 118) := by decide +kernel
theorem f_31_118 : x_fe 31 118 = some (.getfield 99, 121) := by decide +kernel
theorem f_31_121 : x_fe 31 121 = some (.invokevirtual 32, 124) := by decide +kernel
theorem f_31_124 : x_fe 31 124 = some (.iconst (59), 126) := by decide +kernel
theorem f_31_126 : x_fe 31 126 = some (.if_icmp .ne (Int.ofNat 133), 129) := by decide +kernel
theorem f_31_129 : x_fe 31 129 = some (.iconst (3), 130) := by decide +kernel
theorem f_31_130 : x_fe 31 130 = some (.goto (Int.ofNat 134), 133) := by decide +kernel
theorem f_31_133 : x_fe 31 133 = some (.iconst (4), 134) := by decide +kernel
theorem f_31_134 : x_fe 31 134 = some (.putfield 98, 137) := by decide +kernel
theorem f_31_137 : x_fe 31 137 = some (.aload 0, 138) := by decide +kernel
theorem f_31_138 : x_fe 31 138 = some (.aload 0, 139) := by decide +kernel
theorem f_31_139 : x_fe 31 139 = some (.getfield 99, 142) := by decide +kernel
theorem f_31_142 : x_fe 31 142 = some (.iconst (1), 143) := by decide +kernel
theorem f_31_143 : x_fe 31 143 = some (.iadd, 144) := by decide +kernel
theorem f_31_144 : x_fe 31 144 = some (.putfield 100, 147) := by decide +kernel
theorem f_31_147 : x_fe 31 147 = some (.return_, 148) := by decide +kernel
theorem f_32_0 : x_fe 32 0 = some (.iload 1, 1) := by decide +kernel
theorem f_32_1 : x_fe 32 1 = some (.ifCond .lt (Int.ofNat 30), 4) := by decide +kernel
theorem f_32_4 : x_fe 32 4 = some (.iload 1, 5) := by decide +kernel
theorem f_32_5 : x_fe 32 5 = some (.aload 0, 6) := by decide +kernel
theorem f_32_6 : x_fe 32 6 = some (.getfield 97, 9) := by decide +kernel
theorem f_32_9 : x_fe 32 9 = some (.if_icmp .ge (Int.ofNat 30), 12) := by decide +kernel
theorem f_32_12 : x_fe 32 12 = some (.iload 1, 13) := by decide +kernel
theorem f_32_13 : x_fe 32 13 = some (.aload 0, 14) := by decide +kernel
theorem f_32_14 : x_fe 32 14 = some (.getfield 96, 17) := by decide +kernel
theorem f_32_17 : x_fe 32 17 = some (.arraylength, 18) := by decide +kernel
theorem f_32_18 : x_fe 32 18 = some (.if_icmp .ge (Int.ofNat 30), 21) := by decide +kernel
theorem f_32_21 : x_fe 32 21 = some (.aload 0, 22) := by decide +kernel
theorem f_32_22 : x_fe 32 22 = some (.getfield 96, 25) := by decide +kernel
theorem f_32_25 : x_fe 32 25 = some (.iload 1, 26) := by decide +kernel
theorem f_32_26 : x_fe 32 26 = some (.iaload, 27) := by decide +kernel
theorem f_32_27 : x_fe 32 27 = some (.goto (Int.ofNat 31), 30) := by decide +kernel
theorem f_32_30 : x_fe 32 30 = some (.iconst (-1), 31) := by decide +kernel
theorem f_32_31 : x_fe 32 31 = some (.ireturn, 32) := by decide +kernel
theorem f_33_0 : x_fe 33 0 = some (.iload 0, 1) := by decide +kernel
theorem f_33_1 : x_fe 33 1 = some (.iconst (32), 3) := by decide +kernel
theorem f_33_3 : x_fe 33 3 = some (.if_icmp .eq (Int.ofNat 12), 6) := by decide +kernel
theorem f_33_6 : x_fe 33 6 = some (.iload 0, 7) := by decide +kernel
theorem f_33_7 : x_fe 33 7 = some (.iconst (10), 9) := by decide +kernel
theorem f_33_9 : x_fe 33 9 = some (.if_icmp .ne (Int.ofNat 16), 12) := by decide +kernel
theorem f_33_12 : x_fe 33 12 = some (.iconst (1), 13) := by decide +kernel
theorem f_33_13 : x_fe 33 13 = some (.goto (Int.ofNat 17), 16) := by decide +kernel
theorem f_33_16 : x_fe 33 16 = some (.iconst (0), 17) := by decide +kernel
theorem f_33_17 : x_fe 33 17 = some (.ireturn, 18) := by decide +kernel
theorem f_34_0 : x_fe 34 0 = some (.iload 0, 1) := by decide +kernel
theorem f_34_1 : x_fe 34 1 = some (.iconst (97), 3) := by decide +kernel
theorem f_34_3 : x_fe 34 3 = some (.if_icmp .lt (Int.ofNat 16), 6) := by decide +kernel
theorem f_34_6 : x_fe 34 6 = some (.iload 0, 7) := by decide +kernel
theorem f_34_7 : x_fe 34 7 = some (.iconst (122), 9) := by decide +kernel
theorem f_34_9 : x_fe 34 9 = some (.if_icmp .gt (Int.ofNat 16), 12) := by decide +kernel
theorem f_34_12 : x_fe 34 12 = some (.iconst (1), 13) := by decide +kernel
theorem f_34_13 : x_fe 34 13 = some (.goto (Int.ofNat 17), 16) := by decide +kernel
theorem f_34_16 : x_fe 34 16 = some (.iconst (0), 17) := by decide +kernel
theorem f_34_17 : x_fe 34 17 = some (.ireturn, 18) := by decide +kernel
theorem f_35_0 : x_fe 35 0 = some (.aload 0, 1) := by decide +kernel
theorem f_35_1 : x_fe 35 1 = some (.iconst (1), 2) := by decide +kernel
theorem f_35_2 : x_fe 35 2 = some (.putfield 98, 5) := by decide +kernel
theorem f_35_5 : x_fe 35 5 = some (.aload 0, 6) := by decide +kernel
theorem f_35_6 : x_fe 35 6 = some (.getfield 100, 9) := by decide +kernel
theorem f_35_9 : x_fe 35 9 = some (.aload 0, 10) := by decide +kernel
theorem f_35_10 : x_fe 35 10 = some (.getfield 97, 13) := by decide +kernel
theorem f_35_13 : x_fe 35 13 = some (.if_icmp .ge (Int.ofNat 43), 16) := by decide +kernel
theorem f_35_16 : x_fe 35 16 = some (.aload 0, 17) := by decide +kernel
theorem f_35_17 : x_fe 35 17 = some (.aload 0, 18) := by decide +kernel
theorem f_35_18 : x_fe 35 18 = some (.getfield 100, 21) := by decide +kernel
theorem f_35_21 : x_fe 35 21 = some (.invokevirtual 32, 24) := by decide +kernel
theorem f_35_24 : x_fe 35 24 = some (.invokestatic 34, 27) := by decide +kernel
theorem f_35_27 : x_fe 35 27 = some (.ifCond .eq (Int.ofNat 43), 30) := by decide +kernel
theorem f_35_30 : x_fe 35 30 = some (.aload 0, 31) := by decide +kernel
theorem f_35_31 : x_fe 35 31 = some (.dup, 32) := by decide +kernel
theorem f_35_32 : x_fe 35 32 = some (.getfield 100, 35) := by decide +kernel
theorem f_35_35 : x_fe 35 35 = some (.iconst (1), 36) := by decide +kernel
theorem f_35_36 : x_fe 35 36 = some (.iadd, 37) := by decide +kernel
theorem f_35_37 : x_fe 35 37 = some (.putfield 100, 40) := by decide +kernel
theorem f_35_40 : x_fe 35 40 = some (.goto (Int.ofNat 5), 43) := by decide +kernel
theorem f_35_43 : x_fe 35 43 = some (.return_, 44) := by decide +kernel
theorem f_36_0 : x_fe 36 0 = some (.iload 0, 1) := by decide +kernel
theorem f_36_1 : x_fe 36 1 = some (.iconst (48), 3) := by decide +kernel
theorem f_36_3 : x_fe 36 3 = some (.if_icmp .lt (Int.ofNat 16), 6) := by decide +kernel
theorem f_36_6 : x_fe 36 6 = some (.iload 0, 7) := by decide +kernel
theorem f_36_7 : x_fe 36 7 = some (.iconst (57), 9) := by decide +kernel
theorem f_36_9 : x_fe 36 9 = some (.if_icmp .gt (Int.ofNat 16), 12) := by decide +kernel
theorem f_36_12 : x_fe 36 12 = some (.iconst (1), 13) := by decide +kernel
theorem f_36_13 : x_fe 36 13 = some (.goto (Int.ofNat 17), 16) := by decide +kernel
theorem f_36_16 : x_fe 36 16 = some (.iconst (0), 17) := by decide +kernel
theorem f_36_17 : x_fe 36 17 = some (.ireturn, 18) := by decide +kernel
theorem f_37_0 : x_fe 37 0 = some (.aload 0, 1) := by decide +kernel
theorem f_37_1 : x_fe 37 1 = some (.iconst (0), 2) := by decide +kernel
theorem f_37_2 : x_fe 37 2 = some (.putfield 101, 5) := by decide +kernel
theorem f_37_5 : x_fe 37 5 = some (.aload 0, 6) := by decide +kernel
theorem f_37_6 : x_fe 37 6 = some (.getfield 100, 9) := by decide +kernel
theorem f_37_9 : x_fe 37 9 = some (.aload 0, 10) := by decide +kernel
theorem f_37_10 : x_fe 37 10 = some (.getfield 97, 13) := by decide +kernel
theorem f_37_13 : x_fe 37 13 = some (.if_icmp .ge (Int.ofNat 79), 16) := by decide +kernel
theorem f_37_16 : x_fe 37 16 = some (.aload 0, 17) := by decide +kernel
theorem f_37_17 : x_fe 37 17 = some (.aload 0, 18) := by decide +kernel
theorem f_37_18 : x_fe 37 18 = some (.getfield 100, 21) := by decide +kernel
theorem f_37_21 : x_fe 37 21 = some (.invokevirtual 32, 24) := by decide +kernel
theorem f_37_24 : x_fe 37 24 = some (.invokestatic 36, 27) := by decide +kernel
theorem f_37_27 : x_fe 37 27 = some (.ifCond .eq (Int.ofNat 79), 30) := by decide +kernel
theorem f_37_30 : x_fe 37 30 = some (.aload 0, 31) := by decide +kernel
theorem f_37_31 : x_fe 37 31 = some (.getfield 100, 34) := by decide +kernel
theorem f_37_34 : x_fe 37 34 = some (.aload 0, 35) := by decide +kernel
theorem f_37_35 : x_fe 37 35 = some (.getfield 99, 38) := by decide +kernel
theorem f_37_38 : x_fe 37 38 = some (.isub, 39) := by decide +kernel
theorem f_37_39 : x_fe 37 39 = some (.iconst (3), 40) := by decide +kernel
theorem f_37_40 : x_fe 37 40 = some (.if_icmp .ge (Int.ofNat 66), 43) := by decide +kernel
theorem f_37_43 : x_fe 37 43 = some (.aload 0, 44) := by decide +kernel
theorem f_37_44 : x_fe 37 44 = some (.iconst (10), 46) := by decide +kernel
theorem f_37_46 : x_fe 37 46 = some (.aload 0, 47) := by decide +kernel
theorem f_37_47 : x_fe 37 47 = some (.getfield 101, 50) := by decide +kernel
theorem f_37_50 : x_fe 37 50 = some (.imul, 51) := by decide +kernel
theorem f_37_51 : x_fe 37 51 = some (.aload 0, 52) := by decide +kernel
theorem f_37_52 : x_fe 37 52 = some (.aload 0, 53) := by decide +kernel
theorem f_37_53 : x_fe 37 53 = some (.getfield 100, 56) := by decide +kernel
theorem f_37_56 : x_fe 37 56 = some (.invokevirtual 32, 59) := by decide +kernel
theorem f_37_59 : x_fe 37 59 = some (.iadd, 60) := by decide +kernel
theorem f_37_60 : x_fe 37 60 = some (.iconst (48), 62) := by decide +kernel
theorem f_37_62 : x_fe 37 62 = some (.isub, 63) := by decide +kernel
theorem f_37_63 : x_fe 37 63 = some (.putfield 101, 66) := by decide +kernel
theorem f_37_66 : x_fe 37 66 = some (.aload 0, 67) := by decide +kernel
theorem f_37_67 : x_fe 37 67 = some (.dup, 68) := by decide +kernel
theorem f_37_68 : x_fe 37 68 = some (.getfield 100, 71) := by decide +kernel
theorem f_37_71 : x_fe 37 71 = some (.iconst (1), 72) := by decide +kernel
theorem f_37_72 : x_fe 37 72 = some (.iadd, 73) := by decide +kernel
theorem f_37_73 : x_fe 37 73 = some (.putfield 100, 76) := by decide +kernel
theorem f_37_76 : x_fe 37 76 = some (.goto (Int.ofNat 5), 79) := by decide +kernel
theorem f_37_79 : x_fe 37 79 = some (.aload 0, 80) := by decide +kernel
theorem f_37_80 : x_fe 37 80 = some (.aload 0, 81) := by decide +kernel
theorem f_37_81 : x_fe 37 81 = some (.getfield 100, 84) := by decide +kernel
theorem f_37_84 : x_fe 37 84 = some (.aload 0, 85) := by decide +kernel
theorem f_37_85 : x_fe 37 85 = some (.getfield 99, 88) := by decide +kernel
theorem f_37_88 : x_fe 37 88 = some (.isub, 89) := by decide +kernel
theorem f_37_89 : x_fe 37 89 = some (.iconst (3), 90) := by decide +kernel
theorem f_37_90 : x_fe 37 90 = some (.if_icmp .gt (Int.ofNat 97), 93) := by decide +kernel
theorem f_37_93 : x_fe 37 93 = some (.iconst (2), 94) := by decide +kernel
theorem f_37_94 : x_fe 37 94 = some (.goto (Int.ofNat 98), 97) := by decide +kernel
theorem f_37_97 : x_fe 37 97 = some (.iconst (4), 98) := by decide +kernel
theorem f_37_98 : x_fe 37 98 = some (.putfield 98, 101) := by decide +kernel
theorem f_37_101 : x_fe 37 101 = some (.return_, 102) := by decide +kernel
theorem f_38_0 : x_fe 38 0 = some (.aload 0, 1) := by decide +kernel
theorem f_38_1 : x_fe 38 1 = some (.getfield 98, 4) := by decide +kernel
theorem f_38_4 : x_fe 38 4 = some (.iconst (1), 5) := by decide +kernel
theorem f_38_5 : x_fe 38 5 = some (.if_icmp .ne (Int.ofNat 24), 8) := by decide +kernel
theorem f_38_8 : x_fe 38 8 = some (.aload 0, 9) := by decide +kernel
theorem f_38_9 : x_fe 38 9 = some (.getfield 100, 12) := by decide +kernel
theorem f_38_12 : x_fe 38 12 = some (.aload 0, 13) := by decide +kernel
theorem f_38_13 : x_fe 38 13 = some (.getfield 99, 16) := by decide +kernel
theorem f_38_16 : x_fe 38 16 = some (.isub, 17) := by decide +kernel
theorem f_38_17 : x_fe 38 17 = some (.aload 1, 18) := by decide +kernel
theorem f_38_18 : x_fe 38 18 = some (.invokevirtual 173, 21) := by decide +kernel
theorem f_38_21 : x_fe 38 21 = some (.if_icmp .eq (Int.ofNat 26), 24) := by decide +kernel
theorem f_38_24 : x_fe 38 24 = some (.iconst (0), 25) := by decide +kernel
theorem f_38_25 : x_fe 38 25 = some (.ireturn, 26) := by decide +kernel
theorem f_38_26 : x_fe 38 26 = some (.iconst (0), 27) := by decide +kernel
theorem f_38_27 : x_fe 38 27 = some (.istore 2, 28) := by decide +kernel
theorem f_38_28 : x_fe 38 28 = some (.iload 2, 29) := by decide +kernel
theorem f_38_29 : x_fe 38 29 = some (.aload 1, 30) := by decide +kernel
theorem f_38_30 : x_fe 38 30 = some (.invokevirtual 173, 33) := by decide +kernel
theorem f_38_33 : x_fe 38 33 = some (.if_icmp .ge (Int.ofNat 62), 36) := by decide +kernel
theorem f_38_36 : x_fe 38 36 = some (.aload 0, 37) := by decide +kernel
theorem f_38_37 : x_fe 38 37 = some (.aload 0, 38) := by decide +kernel
theorem f_38_38 : x_fe 38 38 = some (.getfield 99, 41) := by decide +kernel
theorem f_38_41 : x_fe 38 41 = some (.iload 2, 42) := by decide +kernel
theorem f_38_42 : x_fe 38 42 = some (.iadd, 43) := by decide +kernel
theorem f_38_43 : x_fe 38 43 = some (.invokevirtual 32, 46) := by decide +kernel
theorem f_38_46 : x_fe 38 46 = some (.aload 1, 47) := by decide +kernel
theorem f_38_47 : x_fe 38 47 = some (.iload 2, 48) := by decide +kernel
theorem f_38_48 : x_fe 38 48 = some (.invokevirtual 175, 51) := by decide +kernel
theorem f_38_51 : x_fe 38 51 = some (.if_icmp .eq (Int.ofNat 56), 54) := by decide +kernel
theorem f_38_54 : x_fe 38 54 = some (.iconst (0), 55) := by decide +kernel
theorem f_38_55 : x_fe 38 55 = some (.ireturn, 56) := by decide +kernel
theorem f_38_56 : x_fe 38 56 = some (.iinc 2 (1), 59) := by decide +kernel
theorem f_38_59 : x_fe 38 59 = some (.goto (Int.ofNat 28), 62) := by decide +kernel
theorem f_38_62 : x_fe 38 62 = some (.iconst (1), 63) := by decide +kernel
theorem f_38_63 : x_fe 38 63 = some (.ireturn, 64) := by decide +kernel
theorem f_39_0 : x_fe 39 0 = some (.aload 0, 1) := by decide +kernel
theorem f_39_1 : x_fe 39 1 = some (.getfield 98, 4) := by decide +kernel
theorem f_39_4 : x_fe 39 4 = some (.iconst (1), 5) := by decide +kernel
theorem f_39_5 : x_fe 39 5 = some (.if_icmp .ne (Int.ofNat 22), 8) := by decide +kernel
theorem f_39_8 : x_fe 39 8 = some (.aload 0, 9) := by decide +kernel
theorem f_39_9 : x_fe 39 9 = some (.getfield 100, 12) := by decide +kernel
theorem f_39_12 : x_fe 39 12 = some (.aload 0, 13) := by decide +kernel
theorem f_39_13 : x_fe 39 13 = some (.getfield 99, 16) := by decide +kernel
theorem f_39_16 : x_fe 39 16 = some (.isub, 17) := by decide +kernel
theorem f_39_17 : x_fe 39 17 = some (.iconst (9), 19) := by decide +kernel
theorem f_39_19 : x_fe 39 19 = some (.if_icmp .eq (Int.ofNat 25), 22) := by decide +kernel
theorem f_39_22 : x_fe 39 22 = some (.iconst (-1000000), 24) := by decide +kernel
theorem f_39_24 : x_fe 39 24 = some (.ireturn, 25) := by decide +kernel
theorem f_39_25 : x_fe 39 25 = some (.iconst (0), 26) := by decide +kernel
theorem f_39_26 : x_fe 39 26 = some (.istore 1, 27) := by decide +kernel
theorem f_39_27 : x_fe 39 27 = some (.iconst (0), 28) := by decide +kernel
theorem f_39_28 : x_fe 39 28 = some (.istore 2, 29) := by decide +kernel
theorem f_39_29 : x_fe 39 29 = some (.iload 2, 30) := by decide +kernel
theorem f_39_30 : x_fe 39 30 = some (.iconst (9), 32) := by decide +kernel
theorem f_39_32 : x_fe 39 32 = some (.if_icmp .ge (Int.ofNat 79), 35) := by decide +kernel
theorem f_39_35 : x_fe 39 35 = some (.aload 0, 36) := by decide +kernel
theorem f_39_36 : x_fe 39 36 = some (.aload 0, 37) := by decide +kernel
theorem f_39_37 : x_fe 39 37 = some (.getfield 99, 40) := by decide +kernel
theorem f_39_40 : x_fe 39 40 = some (.iload 2, 41) := by decide +kernel
theorem f_39_41 : x_fe 39 41 = some (.iadd, 42) := by decide +kernel
theorem f_39_42 : x_fe 39 42 = some (.invokevirtual 32, 45) := by decide +kernel
theorem f_39_45 : x_fe 39 45 = some (.istore 3, 46) := by decide +kernel
theorem f_39_46 : x_fe 39 46 = some (.iload 3, 47) := by decide +kernel
theorem f_39_47 : x_fe 39 47 = some (.iconst (111), 49) := by decide +kernel
theorem f_39_49 : x_fe 39 49 = some (.if_icmp .eq (Int.ofNat 61), 52) := by decide +kernel
theorem f_39_52 : x_fe 39 52 = some (.iload 3, 53) := by decide +kernel
theorem f_39_53 : x_fe 39 53 = some (.iconst (120), 55) := by decide +kernel
theorem f_39_55 : x_fe 39 55 = some (.if_icmp .eq (Int.ofNat 61), 58) := by decide +kernel
theorem f_39_58 : x_fe 39 58 = some (.iconst (-1000000), 60) := by decide +kernel
theorem f_39_60 : x_fe 39 60 = some (.ireturn, 61) := by decide +kernel
theorem f_39_61 : x_fe 39 61 = some (.iload 3, 62) := by decide +kernel
theorem f_39_62 : x_fe 39 62 = some (.iconst (111), 64) := by decide +kernel
theorem f_39_64 : x_fe 39 64 = some (.if_icmp .ne (Int.ofNat 73), 67) := by decide +kernel
theorem f_39_67 : x_fe 39 67 = some (.iload 1, 68) := by decide +kernel
theorem f_39_68 : x_fe 39 68 = some (.iconst (1), 69) := by decide +kernel
theorem f_39_69 : x_fe 39 69 = some (.iload 2, 70) := by decide +kernel
theorem f_39_70 : x_fe 39 70 = some (.ishl, 71) := by decide +kernel
theorem f_39_71 : x_fe 39 71 = some (.ior, 72) := by decide +kernel
theorem f_39_72 : x_fe 39 72 = some (.istore 1, 73) := by decide +kernel
theorem f_39_73 : x_fe 39 73 = some (.iinc 2 (1), 76) := by decide +kernel
theorem f_39_76 : x_fe 39 76 = some (.goto (Int.ofNat 29), 79) := by decide +kernel
theorem f_39_79 : x_fe 39 79 = some (.iload 1, 80) := by decide +kernel
theorem f_39_80 : x_fe 39 80 = some (.ireturn, 81) := by decide +kernel
theorem f_40_0 : x_fe 40 0 = some (.aload 0, 1) := by decide +kernel
theorem f_40_1 : x_fe 40 1 = some (.d2f, 4) := by decide +kernel
theorem f_40_4 : x_fe 40 4 = some (.aload 0, 5) := by decide +kernel
theorem f_40_5 : x_fe 40 5 = some (.iconst (16), 7) := by decide +kernel
theorem f_40_7 : x_fe 40 7 = some (.newarray .int, 9) := by decide +kernel
theorem f_40_9 : x_fe 40 9 = some (.putstatic 128, 12) := by decide +kernel
theorem f_40_12 : x_fe 40 12 = some (.return_, 13) := by decide +kernel
theorem f_41_0 : x_fe 41 0 = some (.aload 0, 1) := by decide +kernel
theorem f_41_1 : x_fe 41 1 = some (.getfield 129, 4) := by decide +kernel
theorem f_41_4 : x_fe 41 4 = some (.aload 0, 5) := by decide +kernel
theorem f_41_5 : x_fe 41 5 = some (.getfield 128, 8) := by decide +kernel
theorem f_41_8 : x_fe 41 8 = some (.arraylength, 9) := by decide +kernel
theorem f_41_9 : x_fe 41 9 = some (.if_icmp .ge (Int.ofNat 32), 12) := by decide +kernel
theorem f_41_12 : x_fe 41 12 = some (.aload 0, 13) := by decide +kernel
theorem f_41_13 : x_fe 41 13 = some (.getfield 128, 16) := by decide +kernel
theorem f_41_16 : x_fe 41 16 = some (.aload 0, 17) := by decide +kernel
theorem f_41_17 : x_fe 41 17 = some (.getfield 129, 20) := by decide +kernel
theorem f_41_20 : x_fe 41 20 = some (.iload 1, 21) := by decide +kernel
theorem f_41_21 : x_fe 41 21 = some (.iastore, 22) := by decide +kernel
theorem f_41_22 : x_fe 41 22 = some (.aload 0, 23) := by decide +kernel
theorem f_41_23 : x_fe 41 23 = some (.dup, 24) := by decide +kernel
theorem f_41_24 : x_fe 41 24 = some (.getfield 129, 27) := by decide +kernel
theorem f_41_27 : x_fe 41 27 = some (.iconst (1), 28) := by decide +kernel
theorem f_41_28 : x_fe 41 28 = some (.iadd, 29) := by decide +kernel
theorem f_41_29 : x_fe 41 29 = some (.putfield 129, 32) := by decide +kernel
theorem f_41_32 : x_fe 41 32 = some (.return_, 33) := by decide +kernel
theorem f_42_0 : x_fe 42 0 = some (.aload 0, 1) := by decide +kernel
theorem f_42_1 : x_fe 42 1 = some (.d2f, 4) := by decide +kernel
theorem f_42_4 : x_fe 42 4 = some (.aload 0, 5) := by decide +kernel
theorem f_42_5 : x_fe 42 5 = some (.iconst (8), 7) := by decide +kernel
theorem f_42_7 : x_fe 42 7 = some (.anewarray 2, 10) := by decide +kernel
theorem f_42_10 : x_fe 42 10 = some (.putstatic 160, 13) := by decide +kernel
theorem f_42_13 : x_fe 42 13 = some (.aload 0, 14) := by decide +kernel
theorem f_42_14 : x_fe 42 14 = some (.new 3, 17) := by decide +kernel
theorem f_42_17 : x_fe 42 17 = some (.dup, 18) := by decide +kernel
theorem f_42_18 : x_fe 42 18 = some (.invokespecial 28, 21) := by decide +kernel
theorem f_42_21 : x_fe 42 21 = some (.putstatic 161, 24) := by decide +kernel
theorem f_42_24 : x_fe 42 24 = some (.aload 0, 25) := by decide +kernel
theorem f_42_25 : x_fe 42 25 = some (.new 0, 28) := by decide +kernel
theorem f_42_28 : x_fe 42 28 = some (.dup, 29) := by decide +kernel
theorem f_42_29 : x_fe 42 29 = some (.invokespecial 0, 32) := by decide +kernel
theorem f_42_32 : x_fe 42 32 = some (.putstatic 162, 35) := by decide +kernel
theorem f_42_35 : x_fe 42 35 = some (.aload 0, 36) := by decide +kernel
theorem f_42_36 : x_fe 42 36 = some (.new 0, 39) := by decide +kernel
theorem f_42_39 : x_fe 42 39 = some (.dup, 40) := by decide +kernel
theorem f_42_40 : x_fe 42 40 = some (.invokespecial 0, 43) := by decide +kernel
theorem f_42_43 : x_fe 42 43 = some (.putstatic 163, 46) := by decide +kernel
theorem f_42_46 : x_fe 42 46 = some (.aload 0, 47) := by decide +kernel
theorem f_42_47 : x_fe 42 47 = some (.iconst (2), 48) := by decide +kernel
theorem f_42_48 : x_fe 42 48 = some (.anewarray 0, 51) := by decide +kernel
theorem f_42_51 : x_fe 42 51 = some (.putstatic 164, 54) := by decide +kernel
theorem f_42_54 : x_fe 42 54 = some (.aload 0, 55) := by decide +kernel
theorem f_42_55 : x_fe 42 55 = some (.new 1, 58) := by decide +kernel
theorem f_42_58 : x_fe 42 58 = some (.dup, 59) := by decide +kernel
theorem f_42_59 : x_fe 42 59 = some (.invokespecial 16, 62) := by decide +kernel
theorem f_42_62 : x_fe 42 62 = some (.putstatic 165, 65) := by decide +kernel
theorem f_42_65 : x_fe 42 65 = some (.aload 0, 66) := by decide +kernel
theorem f_42_66 : x_fe 42 66 = some (.iconst (3), 67) := by decide +kernel
theorem f_42_67 : x_fe 42 67 = some (.newarray .int, 69) := by decide +kernel
theorem f_42_69 : x_fe 42 69 = some (.putstatic 166, 72) := by decide +kernel
theorem f_42_72 : x_fe 42 72 = some (.aload 0, 73) := by decide +kernel
theorem f_42_73 : x_fe 42 73 = some (.new 4, 76) := by decide +kernel
theorem f_42_76 : x_fe 42 76 = some (.dup, 77) := by decide +kernel
theorem f_42_77 : x_fe 42 77 = some (.invokespecial 40, 80) := by decide +kernel
theorem f_42_80 : x_fe 42 80 = some (.putstatic 167, 83) := by decide +kernel
theorem f_42_83 : x_fe 42 83 = some (.iconst (0), 84) := by decide +kernel
theorem f_42_84 : x_fe 42 84 = some (.istore 1, 85) := by decide +kernel
theorem f_42_85 : x_fe 42 85 = some (.iload 1, 86) := by decide +kernel
theorem f_42_86 : x_fe 42 86 = some (.iconst (8), 88) := by decide +kernel
theorem f_42_88 : x_fe 42 88 = some (.if_icmp .ge (Int.ofNat 110), 91) := by decide +kernel
theorem f_42_91 : x_fe 42 91 = some (.aload 0, 92) := by decide +kernel
theorem f_42_92 : x_fe 42 92 = some (.getfield 160, 95) := by decide +kernel
theorem f_42_95 : x_fe 42 95 = some (.iload 1, 96) := by decide +kernel
theorem f_42_96 : x_fe 42 96 = some (.new 2, 99) := by decide +kernel
theorem f_42_99 : x_fe 42 99 = some (.dup, 100) := by decide +kernel
theorem f_42_100 : x_fe 42 100 = some (.invokespecial 23, 103) := by decide +kernel
theorem f_42_103 : x_fe 42 103 = some (.aastore, 104) := by decide +kernel
theorem f_42_104 : x_fe 42 104 = some (.iinc 1 (1), 107) := by decide +kernel
theorem f_42_107 : x_fe 42 107 = some (.goto (Int.ofNat 85), 110) := by decide +kernel
theorem f_42_110 : x_fe 42 110 = some (.iconst (0), 111) := by decide +kernel
theorem f_42_111 : x_fe 42 111 = some (.istore 1, 112) := by decide +kernel
theorem f_42_112 : x_fe 42 112 = some (.iload 1, 113) := by decide +kernel
theorem f_42_113 : x_fe 42 113 = some (.iconst (2), 114) := by decide +kernel
theorem f_42_114 : x_fe 42 114 = some (.if_icmp .ge (Int.ofNat 136), 117) := by decide +kernel
theorem f_42_117 : x_fe 42 117 = some (.aload 0, 118) := by decide +kernel
theorem f_42_118 : x_fe 42 118 = some (.getfield 164, 121) := by decide +kernel
theorem f_42_121 : x_fe 42 121 = some (.iload 1, 122) := by decide +kernel
theorem f_42_122 : x_fe 42 122 = some (.new 0, 125) := by decide +kernel
theorem f_42_125 : x_fe 42 125 = some (.dup, 126) := by decide +kernel
theorem f_42_126 : x_fe 42 126 = some (.invokespecial 0, 129) := by decide +kernel
theorem f_42_129 : x_fe 42 129 = some (.aastore, 130) := by decide +kernel
theorem f_42_130 : x_fe 42 130 = some (.iinc 1 (1), 133) := by decide +kernel
theorem f_42_133 : x_fe 42 133 = some (.goto (Int.ofNat 112), 136) := by decide +kernel
theorem f_42_136 : x_fe 42 136 = some (.return_, 137) := by decide +kernel
theorem f_43_0 : x_fe 43 0 = some (.iload 1, 1) := by decide +kernel
theorem f_43_1 : x_fe 43 1 = some (.invokestatic 44, 4) := by decide +kernel
theorem f_43_4 : x_fe 43 4 = some (.ifCond .eq (Int.ofNat 22), 7) := by decide +kernel
theorem f_43_7 : x_fe 43 7 = some (.iload 2, 8) := by decide +kernel
theorem f_43_8 : x_fe 43 8 = some (.ifCond .lt (Int.ofNat 22), 11) := by decide +kernel
theorem f_43_11 : x_fe 43 11 = some (.iload 2, 12) := by decide +kernel
theorem f_43_12 : x_fe 43 12 = some (.iconst (3), 13) := by decide +kernel
theorem f_43_13 : x_fe 43 13 = some (.if_icmp .ge (Int.ofNat 22), 16) := by decide +kernel
theorem f_43_16 : x_fe 43 16 = some (.iload 3, 17) := by decide +kernel
theorem f_43_17 : x_fe 43 17 = some (.iconst (40), 19) := by decide +kernel
theorem f_43_19 : x_fe 43 19 = some (.if_icmp .le (Int.ofNat 25), 22) := by decide +kernel
theorem f_43_22 : x_fe 43 22 = some (.iconst (-1000001), 24) := by decide +kernel
theorem f_43_24 : x_fe 43 24 = some (.ireturn, 25) := by decide +kernel
theorem f_43_25 : x_fe 43 25 = some (.iload 3, 26) := by decide +kernel
theorem f_43_26 : x_fe 43 26 = some (.ifCond .ge (Int.ofNat 35), 29) := by decide +kernel
theorem f_43_29 : x_fe 43 29 = some (.aload 0, 30) := by decide +kernel
theorem f_43_30 : x_fe 43 30 = some (.iconst (4), 31) := by decide +kernel
theorem f_43_31 : x_fe 43 31 = some (.invokevirtual 45, 34) := by decide +kernel
theorem f_43_34 : x_fe 43 34 = some (.ireturn, 35) := by decide +kernel
theorem f_43_35 : x_fe 43 35 = some (.aload 0, 36) := by decide +kernel
theorem f_43_36 : x_fe 43 36 = some (.getfield 160, 39) := by decide +kernel
theorem f_43_39 : x_fe 43 39 = some (.iload 1, 40) := by decide +kernel
theorem f_43_40 : x_fe 43 40 = some (.aaload, 41) := by decide +kernel
theorem f_43_41 : x_fe 43 41 = some (.iload 2, 42) := by decide +kernel
theorem f_43_42 : x_fe 43 42 = some (.iload 3, 43) := by decide +kernel
theorem f_43_43 : x_fe 43 43 = some (.invokevirtual 24, 46) := by decide +kernel
theorem f_43_46 : x_fe 43 46 = some (.aload 0, 47) := by decide +kernel
theorem f_43_47 : x_fe 43 47 = some (.iload 3, 48) := by decide +kernel
theorem f_43_48 : x_fe 43 48 = some (.invokevirtual 46, 51) := by decide +kernel
theorem f_43_51 : x_fe 43 51 = some (.ireturn, 52) := by decide +kernel
theorem f_44_0 : x_fe 44 0 = some (.iload 0, 1) := by decide +kernel
theorem f_44_1 : x_fe 44 1 = some (.ifCond .lt (Int.ofNat 14), 4) := by decide +kernel
theorem f_44_4 : x_fe 44 4 = some (.iload 0, 5) := by decide +kernel
theorem f_44_5 : x_fe 44 5 = some (.iconst (8), 7) := by decide +kernel
theorem f_44_7 : x_fe 44 7 = some (.if_icmp .ge (Int.ofNat 14), 10) := by decide +kernel
theorem f_44_10 : x_fe 44 10 = some (.iconst (1), 11) := by decide +kernel
theorem f_44_11 : x_fe 44 11 = some (.goto (Int.ofNat 15), 14) := by decide +kernel
theorem f_44_14 : x_fe 44 14 = some (.iconst (0), 15) := by decide +kernel
theorem f_44_15 : x_fe 44 15 = some (.ireturn, 16) := by decide +kernel
theorem f_45_0 : x_fe 45 0 = some (.aload 0, 1) := by decide +kernel
theorem f_45_1 : x_fe 45 1 = some (.iload 1, 2) := by decide +kernel
theorem f_45_2 : x_fe 45 2 = some (.putfield 169, 5) := by decide +kernel
theorem f_45_5 : x_fe 45 5 = some (.iconst (-1000010), 8) := by decide +kernel
theorem f_45_8 : x_fe 45 8 = some (.iload 1, 9) := by decide +kernel
theorem f_45_9 : x_fe 45 9 = some (.isub, 10) := by decide +kernel
theorem f_45_10 : x_fe 45 10 = some (.ireturn, 11) := by decide +kernel
theorem f_46_0 : x_fe 46 0 = some (.aload 0, 1) := by decide +kernel
theorem f_46_1 : x_fe 46 1 = some (.iconst (0), 2) := by decide +kernel
theorem f_46_2 : x_fe 46 2 = some (.putfield 169, 5) := by decide +kernel
theorem f_46_5 : x_fe 46 5 = some (.iload 1, 6) := by decide +kernel
theorem f_46_6 : x_fe 46 6 = some (.ireturn, 7) := by decide +kernel
theorem f_47_0 : x_fe 47 0 = some (.iload 1, 1) := by decide +kernel
theorem f_47_1 : x_fe 47 1 = some (.invokestatic 44, 4) := by decide +kernel
theorem f_47_4 : x_fe 47 4 = some (.ifCond .ne (Int.ofNat 10), 7) := by decide +kernel
theorem f_47_7 : x_fe 47 7 = some (.iconst (-1000001), 9) := by decide +kernel
theorem f_47_9 : x_fe 47 9 = some (.ireturn, 10) := by decide +kernel
theorem f_47_10 : x_fe 47 10 = some (.aload 0, 11) := by decide +kernel
theorem f_47_11 : x_fe 47 11 = some (.getfield 160, 14) := by decide +kernel
theorem f_47_14 : x_fe 47 14 = some (.iload 1, 15) := by decide +kernel
theorem f_47_15 : x_fe 47 15 = some (.aaload, 16) := by decide +kernel
theorem f_47_16 : x_fe 47 16 = some (.astore 4, 18) := by decide +kernel
theorem f_47_18 : x_fe 47 18 = some (.aload 4, 20) := by decide +kernel
theorem f_47_20 : x_fe 47 20 = some (.getfield 65, 23) := by decide +kernel
theorem f_47_23 : x_fe 47 23 = some (.ifCond .ne (Int.ofNat 32), 26) := by decide +kernel
theorem f_47_26 : x_fe 47 26 = some (.aload 0, 27) := by decide +kernel
theorem f_47_27 : x_fe 47 27 = some (.iconst (1), 28) := by decide +kernel
theorem f_47_28 : x_fe 47 28 = some (.invokevirtual 45, 31) := by decide +kernel
theorem f_47_31 : x_fe 47 31 = some (.ireturn, 32) := by decide +kernel
theorem f_47_32 : x_fe 47 32 = some (.aload 4, 34) := by decide +kernel
theorem f_47_34 : x_fe 47 34 = some (.iload 2, 35) := by decide +kernel
theorem f_47_35 : x_fe 47 35 = some (.iconst (1), 36) := by decide +kernel
theorem f_47_36 : x_fe 47 36 = some (.invokevirtual 25, 39) := by decide +kernel
theorem f_47_39 : x_fe 47 39 = some (.ifCond .ne (Int.ofNat 48), 42) := by decide +kernel
theorem f_47_42 : x_fe 47 42 = some (.aload 0, 43) := by decide +kernel
theorem f_47_43 : x_fe 47 43 = some (.iconst (2), 44) := by decide +kernel
theorem f_47_44 : x_fe 47 44 = some (.invokevirtual 45, 47) := by decide +kernel
theorem f_47_47 : x_fe 47 47 = some (.ireturn, 48) := by decide +kernel
theorem f_47_48 : x_fe 47 48 = some (.aload 4, 50) := by decide +kernel
theorem f_47_50 : x_fe 47 50 = some (.getfield 64, 53) := by decide +kernel
theorem f_47_53 : x_fe 47 53 = some (.iload 2, 54) := by decide +kernel
theorem f_47_54 : x_fe 47 54 = some (.aload 4, 56) := by decide +kernel
theorem f_47_56 : x_fe 47 56 = some (.iload 3, 57) := by decide +kernel
theorem f_47_57 : x_fe 47 57 = some (.invokevirtual 26, 60) := by decide +kernel
theorem f_47_60 : x_fe 47 60 = some (.iastore, 61) := by decide +kernel
theorem f_47_61 : x_fe 47 61 = some (.aload 0, 62) := by decide +kernel
theorem f_47_62 : x_fe 47 62 = some (.aload 4, 64) := by decide +kernel
theorem f_47_64 : x_fe 47 64 = some (.getfield 64, 67) := by decide +kernel
theorem f_47_67 : x_fe 47 67 = some (.iload 2, 68) := by decide +kernel
theorem f_47_68 : x_fe 47 68 = some (.iaload, 69) := by decide +kernel
theorem f_47_69 : x_fe 47 69 = some (.invokevirtual 46, 72) := by decide +kernel
theorem f_47_72 : x_fe 47 72 = some (.ireturn, 73) := by decide +kernel
theorem f_48_0 : x_fe 48 0 = some (.iload 1, 1) := by decide +kernel
theorem f_48_1 : x_fe 48 1 = some (.invokestatic 44, 4) := by decide +kernel
theorem f_48_4 : x_fe 48 4 = some (.ifCond .eq (Int.ofNat 14), 7) := by decide +kernel
theorem f_48_7 : x_fe 48 7 = some (.iload 3, 8) := by decide +kernel
theorem f_48_8 : x_fe 48 8 = some (.invokestatic 44, 11) := by decide +kernel
theorem f_48_11 : x_fe 48 11 = some (.ifCond .ne (Int.ofNat 17), 14) := by decide +kernel
theorem f_48_14 : x_fe 48 14 = some (.iconst (-1000001), 16) := by decide +kernel
theorem f_48_16 : x_fe 48 16 = some (.ireturn, 17) := by decide +kernel
theorem f_48_17 : x_fe 48 17 = some (.aload 0, 18) := by decide +kernel
theorem f_48_18 : x_fe 48 18 = some (.getfield 160, 21) := by decide +kernel
theorem f_48_21 : x_fe 48 21 = some (.iload 1, 22) := by decide +kernel
theorem f_48_22 : x_fe 48 22 = some (.aaload, 23) := by decide +kernel
theorem f_48_23 : x_fe 48 23 = some (.astore 6, 25) := by decide +kernel
theorem f_48_25 : x_fe 48 25 = some (.aload 0, 26) := by decide +kernel
theorem f_48_26 : x_fe 48 26 = some (.getfield 160, 29) := by decide +kernel
theorem f_48_29 : x_fe 48 29 = some (.iload 3, 30) := by decide +kernel
theorem f_48_30 : x_fe 48 30 = some (.aaload, 31) := by decide +kernel
theorem f_48_31 : x_fe 48 31 = some (.astore 7, 33) := by decide +kernel
theorem f_48_33 : x_fe 48 33 = some (.aload 6, 35) := by decide +kernel
theorem f_48_35 : x_fe 48 35 = some (.getfield 65, 38) := by decide +kernel
theorem f_48_38 : x_fe 48 38 = some (.ifCond .eq (Int.ofNat 49), 41) := by decide +kernel
theorem f_48_41 : x_fe 48 41 = some (.aload 7, 43) := by decide +kernel
theorem f_48_43 : x_fe 48 43 = some (.getfield 65, 46) := by decide +kernel
theorem f_48_46 : x_fe 48 46 = some (.ifCond .ne (Int.ofNat 55), 49) := by decide +kernel
theorem f_48_49 : x_fe 48 49 = some (.aload 0, 50) := by decide +kernel
theorem f_48_50 : x_fe 48 50 = some (.iconst (1), 51) := by decide +kernel
theorem f_48_51 : x_fe 48 51 = some (.invokevirtual 45, 54) := by decide +kernel
theorem f_48_54 : x_fe 48 54 = some (.ireturn, 55) := by decide +kernel
theorem f_48_55 : x_fe 48 55 = some (.aload 6, 57) := by decide +kernel
theorem f_48_57 : x_fe 48 57 = some (.getfield 66, 60) := by decide +kernel
theorem f_48_60 : x_fe 48 60 = some (.aload 7, 62) := by decide +kernel
theorem f_48_62 : x_fe 48 62 = some (.getfield 66, 65) := by decide +kernel
theorem f_48_65 : x_fe 48 65 = some (.if_icmp .eq (Int.ofNat 74), 68) := by decide +kernel
theorem f_48_68 : x_fe 48 68 = some (.aload 0, 69) := by decide +kernel
theorem f_48_69 : x_fe 48 69 = some (.iconst (5), 70) := by decide +kernel
theorem f_48_70 : x_fe 48 70 = some (.invokevirtual 45, 73) := by decide +kernel
theorem f_48_73 : x_fe 48 73 = some (.ireturn, 74) := by decide +kernel
theorem f_48_74 : x_fe 48 74 = some (.aload 6, 76) := by decide +kernel
theorem f_48_76 : x_fe 48 76 = some (.iload 2, 77) := by decide +kernel
theorem f_48_77 : x_fe 48 77 = some (.iload 5, 79) := by decide +kernel
theorem f_48_79 : x_fe 48 79 = some (.invokevirtual 25, 82) := by decide +kernel
theorem f_48_82 : x_fe 48 82 = some (.ifCond .eq (Int.ofNat 97), 85) := by decide +kernel
theorem f_48_85 : x_fe 48 85 = some (.aload 7, 87) := by decide +kernel
theorem f_48_87 : x_fe 48 87 = some (.iload 4, 89) := by decide +kernel
theorem f_48_89 : x_fe 48 89 = some (.iload 5, 91) := by decide +kernel
theorem f_48_91 : x_fe 48 91 = some (.invokevirtual 25, 94) := by decide +kernel
theorem f_48_94 : x_fe 48 94 = some (.ifCond .ne (Int.ofNat 103), 97) := by decide +kernel
theorem f_48_97 : x_fe 48 97 = some (.aload 0, 98) := by decide +kernel
theorem f_48_98 : x_fe 48 98 = some (.iconst (2), 99) := by decide +kernel
theorem f_48_99 : x_fe 48 99 = some (.invokevirtual 45, 102) := by decide +kernel
theorem f_48_102 : x_fe 48 102 = some (.ireturn, 103) := by decide +kernel
theorem f_48_103 : x_fe 48 103 = some (.aload 6, 105) := by decide +kernel
theorem f_48_105 : x_fe 48 105 = some (.getfield 64, 108) := by decide +kernel
theorem f_48_108 : x_fe 48 108 = some (.iload 2, 109) := by decide +kernel
theorem f_48_109 : x_fe 48 109 = some (.aload 7, 111) := by decide +kernel
theorem f_48_111 : x_fe 48 111 = some (.getfield 64, 114) := by decide +kernel
theorem f_48_114 : x_fe 48 114 = some (.iload 4, 116) := by decide +kernel
theorem f_48_116 : x_fe 48 116 = some (.iload 5, 118) := by decide +kernel
theorem f_48_118 : x_fe 48 118 = some (.d2i, 121) := by decide +kernel
theorem f_48_121 : x_fe 48 121 = some (.aload 0, 122) := by decide +kernel
theorem f_48_122 : x_fe 48 122 = some (.iload 5, 124) := by decide +kernel
theorem f_48_124 : x_fe 48 124 = some (.invokevirtual 46, 127) := by decide +kernel
theorem f_48_127 : x_fe 48 127 = some (.ireturn, 128) := by decide +kernel
theorem f_49_0 : x_fe 49 0 = some (.iload 1, 1) := by decide +kernel
theorem f_49_1 : x_fe 49 1 = some (.invokestatic 44, 4) := by decide +kernel
theorem f_49_4 : x_fe 49 4 = some (.ifCond .ne (Int.ofNat 10), 7) := by decide +kernel
theorem f_49_7 : x_fe 49 7 = some (.iconst (-1000001), 9) := by decide +kernel
theorem f_49_9 : x_fe 49 9 = some (.ireturn, 10) := by decide +kernel
theorem f_49_10 : x_fe 49 10 = some (.aload 0, 11) := by decide +kernel
theorem f_49_11 : x_fe 49 11 = some (.getfield 160, 14) := by decide +kernel
theorem f_49_14 : x_fe 49 14 = some (.iload 1, 15) := by decide +kernel
theorem f_49_15 : x_fe 49 15 = some (.aaload, 16) := by decide +kernel
theorem f_49_16 : x_fe 49 16 = some (.astore 2, 17) := by decide +kernel
theorem f_49_17 : x_fe 49 17 = some (.aload 2, 18) := by decide +kernel
theorem f_49_18 : x_fe 49 18 = some (.getfield 65, 21) := by decide +kernel
theorem f_49_21 : x_fe 49 21 = some (.ifCond .ne (Int.ofNat 30), 24) := by decide +kernel
theorem f_49_24 : x_fe 49 24 = some (.aload 0, 25) := by decide +kernel
theorem f_49_25 : x_fe 49 25 = some (.iconst (1), 26) := by decide +kernel
theorem f_49_26 : x_fe 49 26 = some (.invokevirtual 45, 29) := by decide +kernel
theorem f_49_29 : x_fe 49 29 = some (.ireturn, 30) := by decide +kernel
theorem f_49_30 : x_fe 49 30 = some (.aload 2, 31) := by decide +kernel
theorem f_49_31 : x_fe 49 31 = some (.iconst (0), 32) := by decide +kernel
theorem f_49_32 : x_fe 49 32 = some (.putfield 65, 35) := by decide +kernel
theorem f_49_35 : x_fe 49 35 = some (.aload 0, 36) := by decide +kernel
theorem f_49_36 : x_fe 49 36 = some (.aload 2, 37) := by decide +kernel
theorem f_49_37 : x_fe 49 37 = some (.getfield 67, 40) := by decide +kernel
theorem f_49_40 : x_fe 49 40 = some (.invokevirtual 46, 43) := by decide +kernel
theorem f_49_43 : x_fe 49 43 = some (.ireturn, 44) := by decide +kernel
theorem f_50_0 : x_fe 50 0 = some (.iload 3, 1) := by decide +kernel
theorem f_50_1 : x_fe 50 1 = some (.iconst (1), 2) := by decide +kernel
theorem f_50_2 : x_fe 50 2 = some (.if_icmp .lt (Int.ofNat 11), 5) := by decide +kernel
theorem f_50_5 : x_fe 50 5 = some (.iload 3, 6) := by decide +kernel
theorem f_50_6 : x_fe 50 6 = some (.iconst (8), 8) := by decide +kernel
theorem f_50_8 : x_fe 50 8 = some (.if_icmp .le (Int.ofNat 14), 11) := by decide +kernel
theorem f_50_11 : x_fe 50 11 = some (.iconst (-1000001), 13) := by decide +kernel
theorem f_50_13 : x_fe 50 13 = some (.ireturn, 14) := by decide +kernel
theorem f_50_14 : x_fe 50 14 = some (.aload 0, 15) := by decide +kernel
theorem f_50_15 : x_fe 50 15 = some (.getfield 161, 18) := by decide +kernel
theorem f_50_18 : x_fe 50 18 = some (.getfield 97, 21) := by decide +kernel
theorem f_50_21 : x_fe 50 21 = some (.iconst (400), 24) := by decide +kernel
theorem f_50_24 : x_fe 50 24 = some (.iload 3, 25) := by decide +kernel
theorem f_50_25 : x_fe 50 25 = some (.isub, 26) := by decide +kernel
theorem f_50_26 : x_fe 50 26 = some (.if_icmp .le (Int.ofNat 32), 29) := by decide +kernel
theorem f_50_29 : x_fe 50 29 = some (.iconst (-1000003), 31) := by decide +kernel
theorem f_50_31 : x_fe 50 31 = some (.ireturn, 32) := by decide +kernel
theorem f_50_32 : x_fe 50 32 = some (.iload 3, 33) := by decide +kernel
theorem f_50_33 : x_fe 50 33 = some (.iconst (1), 34) := by decide +kernel
theorem f_50_34 : x_fe 50 34 = some (.isub, 35) := by decide +kernel
theorem f_50_35 : x_fe 50 35 = some (.istore 4, 37) := by decide +kernel
theorem f_50_37 : x_fe 50 37 = some (.iload 4, 39) := by decide +kernel
theorem f_50_39 : x_fe 50 39 = some (.ifCond .lt (Int.ofNat 67), 42) := by decide +kernel
theorem f_50_42 : x_fe 50 42 = some (.aload 0, 43) := by decide +kernel
theorem f_50_43 : x_fe 50 43 = some (.getfield 161, 46) := by decide +kernel
theorem f_50_46 : x_fe 50 46 = some (.lload 1, 47) := by decide +kernel
theorem f_50_47 : x_fe 50 47 = some (.iconst (8), 49) := by decide +kernel
theorem f_50_49 : x_fe 50 49 = some (.iload 4, 51) := by decide +kernel
theorem f_50_51 : x_fe 50 51 = some (.imul, 52) := by decide +kernel
theorem f_50_52 : x_fe 50 52 = some (.lshr, 53) := by decide +kernel
theorem f_50_53 : x_fe 50 53 = some (.l2i, 54) := by decide +kernel
theorem f_50_54 : x_fe 50 54 = some (.iconst (255), 57) := by decide +kernel
theorem f_50_57 : x_fe 50 57 = some (.iand, 58) := by decide +kernel
theorem f_50_58 : x_fe 50 58 = some (.invokevirtual 29, 61) := by decide +kernel
theorem f_50_61 : x_fe 50 61 = some (.iinc 4 (-1), 64) := by decide +kernel
theorem f_50_64 : x_fe 50 64 = some (.goto (Int.ofNat 37), 67) := by decide +kernel
theorem f_50_67 : x_fe 50 67 = some (.aload 0, 68) := by decide +kernel
theorem f_50_68 : x_fe 50 68 = some (.getfield 161, 71) := by decide +kernel
theorem f_50_71 : x_fe 50 71 = some (.getfield 97, 74) := by decide +kernel
theorem f_50_74 : x_fe 50 74 = some (.ireturn, 75) := by decide +kernel
theorem f_51_0 : x_fe 51 0 = some (.aload 0, 1) := by decide +kernel
theorem f_51_1 : x_fe 51 1 = some (.getfield 161, 4) := by decide +kernel
theorem f_51_4 : x_fe 51 4 = some (.aload 0, 5) := by decide +kernel
theorem f_51_5 : x_fe 51 5 = some (.getfield 163, 8) := by decide +kernel
theorem f_51_8 : x_fe 51 8 = some (.invokestatic 52, 11) := by decide +kernel
theorem f_51_11 : x_fe 51 11 = some (.istore 1, 12) := by decide +kernel
theorem f_51_12 : x_fe 51 12 = some (.aload 0, 13) := by decide +kernel
theorem f_51_13 : x_fe 51 13 = some (.getfield 161, 16) := by decide +kernel
theorem f_51_16 : x_fe 51 16 = some (.getfield 99, 19) := by decide +kernel
theorem f_51_19 : x_fe 51 19 = some (.istore 2, 20) := by decide +kernel
theorem f_51_20 : x_fe 51 20 = some (.aload 0, 21) := by decide +kernel
theorem f_51_21 : x_fe 51 21 = some (.getfield 161, 24) := by decide +kernel
theorem f_51_24 : x_fe 51 24 = some (.iconst (0), 25) := by decide +kernel
theorem f_51_25 : x_fe 51 25 = some (.putfield 97, 28) := by decide +kernel
theorem f_51_28 : x_fe 51 28 = some (.iload 1, 29) := by decide +kernel
theorem f_51_29 : x_fe 51 29 = some (.ifCond .eq (Int.ofNat 42), 32) := by decide +kernel
theorem f_51_32 : x_fe 51 32 = some (.aload 0, 33) := by decide +kernel
theorem f_51_33 : x_fe 51 33 = some (.iload 1, 34) := by decide +kernel
theorem f_51_34 : x_fe 51 34 = some (.putfield 168, 37) := by decide +kernel
theorem f_51_37 : x_fe 51 37 = some (.iconst (-1000100), 39) := by decide +kernel
theorem f_51_39 : x_fe 51 39 = some (.iload 2, 40) := by decide +kernel
theorem f_51_40 : x_fe 51 40 = some (.isub, 41) := by decide +kernel
theorem f_51_41 : x_fe 51 41 = some (.ireturn, 42) := by decide +kernel
theorem f_51_42 : x_fe 51 42 = some (.aload 0, 43) := by decide +kernel
theorem f_51_43 : x_fe 51 43 = some (.getfield 163, 46) := by decide +kernel
theorem f_51_46 : x_fe 51 46 = some (.invokevirtual 5, 49) := by decide +kernel
theorem f_51_49 : x_fe 51 49 = some (.aload 0, 50) := by decide +kernel
theorem f_51_50 : x_fe 51 50 = some (.getfield 162, 53) := by decide +kernel
theorem f_51_53 : x_fe 51 53 = some (.aload 0, 54) := by decide +kernel
theorem f_51_54 : x_fe 51 54 = some (.getfield 163, 57) := by decide +kernel
theorem f_51_57 : x_fe 51 57 = some (.invokevirtual 7, 60) := by decide +kernel
theorem f_51_60 : x_fe 51 60 = some (.aload 0, 61) := by decide +kernel
theorem f_51_61 : x_fe 51 61 = some (.getfield 162, 64) := by decide +kernel
theorem f_51_64 : x_fe 51 64 = some (.getfield 5, 67) := by decide +kernel
theorem f_51_67 : x_fe 51 67 = some (.ireturn, 68) := by decide +kernel
theorem f_52_0 : x_fe 52 0 = some (.aload 1, 1) := by decide +kernel
theorem f_52_1 : x_fe 52 1 = some (.invokevirtual 1, 4) := by decide +kernel
theorem f_52_4 : x_fe 52 4 = some (.aload 0, 5) := by decide +kernel
theorem f_52_5 : x_fe 52 5 = some (.invokevirtual 30, 8) := by decide +kernel
theorem f_52_8 : x_fe 52 8 = some (.aload 0, 9) := by decide +kernel
theorem f_52_9 : x_fe 52 9 = some (.aload 1, 10) := by decide +kernel
end
section
theorem f_52_10 : x_fe 52 10 = some (.invokestatic 53, 13) := by decide +kernel
theorem f_52_13 : x_fe 52 13 = some (.istore 2, 14) := by decide +kernel
theorem f_52_14 : x_fe 52 14 = some (.iconst (0), 15) := by decide +kernel
theorem f_52_15 : x_fe 52 15 = some (.istore 3, 16) := by decide +kernel
theorem f_52_16 : x_fe 52 16 = some (.iload 2, 17) := by decide +kernel
theorem f_52_17 : x_fe 52 17 = some (.ifCond .ne (Int.ofNat 51), 20) := by decide +kernel
theorem f_52_20 : x_fe 52 20 = some (.iload 3, 21) := by decide +kernel
theorem f_52_21 : x_fe 52 21 = some (.iconst (14), 23) := by decide +kernel
theorem f_52_23 : x_fe 52 23 = some (.if_icmp .gt (Int.ofNat 51), 26) := by decide +kernel
theorem f_52_26 : x_fe 52 26 = some (.iload 3, 27) := by decide +kernel
theorem f_52_27 : x_fe 52 27 = some (.ifCond .le (Int.ofNat 39), 30) := by decide +kernel
theorem f_52_30 : x_fe 52 30 = some (.aload 0, 31) := by decide +kernel
theorem f_52_31 : x_fe 52 31 = some (.getfield 98, 34) := by decide +kernel
theorem f_52_34 : x_fe 52 34 = some (.ifCond .ne (Int.ofNat 39), 37) := by decide +kernel
theorem f_52_37 : x_fe 52 37 = some (.iconst (0), 38) := by decide +kernel
theorem f_52_38 : x_fe 52 38 = some (.ireturn, 39) := by decide +kernel
theorem f_52_39 : x_fe 52 39 = some (.aload 0, 40) := by decide +kernel
theorem f_52_40 : x_fe 52 40 = some (.aload 1, 41) := by decide +kernel
theorem f_52_41 : x_fe 52 41 = some (.invokestatic 56, 44) := by decide +kernel
theorem f_52_44 : x_fe 52 44 = some (.istore 2, 45) := by decide +kernel
theorem f_52_45 : x_fe 52 45 = some (.iinc 3 (1), 48) := by decide +kernel
theorem f_52_48 : x_fe 52 48 = some (.goto (Int.ofNat 16), 51) := by decide +kernel
theorem f_52_51 : x_fe 52 51 = some (.iload 2, 52) := by decide +kernel
theorem f_52_52 : x_fe 52 52 = some (.ireturn, 53) := by decide +kernel
theorem f_53_0 : x_fe 53 0 = some (.aload 0, 1) := by decide +kernel
theorem f_53_4 : x_fe 53 4 = some (.invokevirtual 38, 7) := by decide +kernel
theorem f_53_7 : x_fe 53 7 = some (.ifCond .ne (Int.ofNat 12), 10) := by decide +kernel
theorem f_53_10 : x_fe 53 10 = some (.iconst (1), 11) := by decide +kernel
theorem f_53_11 : x_fe 53 11 = some (.ireturn, 12) := by decide +kernel
theorem f_53_12 : x_fe 53 12 = some (.aload 0, 13) := by decide +kernel
theorem f_53_13 : x_fe 53 13 = some (.invokevirtual 31, 16) := by decide +kernel
theorem f_53_16 : x_fe 53 16 = some (.iconst (0), 17) := by decide +kernel
theorem f_53_17 : x_fe 53 17 = some (.istore 2, 18) := by decide +kernel
theorem f_53_18 : x_fe 53 18 = some (.iload 2, 19) := by decide +kernel
theorem f_53_19 : x_fe 53 19 = some (.iconst (9), 21) := by decide +kernel
theorem f_53_21 : x_fe 53 21 = some (.if_icmp .ge (Int.ofNat 57), 24) := by decide +kernel
theorem f_53_24 : x_fe 53 24 = some (.aload 0, 25) := by decide +kernel
theorem f_53_25 : x_fe 53 25 = some (.iconst (99), 27) := by decide +kernel
theorem f_53_27 : x_fe 53 27 = some (.invokestatic 54, 30) := by decide +kernel
theorem f_53_30 : x_fe 53 30 = some (.istore 3, 31) := by decide +kernel
theorem f_53_31 : x_fe 53 31 = some (.iload 3, 32) := by decide +kernel
theorem f_53_32 : x_fe 53 32 = some (.ifCond .eq (Int.ofNat 37), 35) := by decide +kernel
theorem f_53_35 : x_fe 53 35 = some (.iload 3, 36) := by decide +kernel
theorem f_53_36 : x_fe 53 36 = some (.ireturn, 37) := by decide +kernel
theorem f_53_37 : x_fe 53 37 = some (.aload 1, 38) := by decide +kernel
theorem f_53_38 : x_fe 53 38 = some (.getfield 0, 41) := by decide +kernel
theorem f_53_41 : x_fe 53 41 = some (.iload 2, 42) := by decide +kernel
theorem f_53_42 : x_fe 53 42 = some (.aload 0, 43) := by decide +kernel
theorem f_53_43 : x_fe 53 43 = some (.getfield 101, 46) := by decide +kernel
theorem f_53_46 : x_fe 53 46 = some (.iastore, 47) := by decide +kernel
theorem f_53_47 : x_fe 53 47 = some (.aload 0, 48) := by decide +kernel
theorem f_53_48 : x_fe 53 48 = some (.invokevirtual 31, 51) := by decide +kernel
theorem f_53_51 : x_fe 53 51 = some (.iinc 2 (1), 54) := by decide +kernel
theorem f_53_54 : x_fe 53 54 = some (.goto (Int.ofNat 18), 57) := by decide +kernel
theorem f_53_57 : x_fe 53 57 = some (.aload 0, 58) := by decide +kernel
theorem f_53_58 : x_fe 53 58 = some (.invokestatic 55, 61) := by decide +kernel
theorem f_53_61 : x_fe 53 61 = some (.ireturn, 62) := by decide +kernel
theorem f_54_0 : x_fe 54 0 = some (.aload 0, 1) := by decide +kernel
theorem f_54_1 : x_fe 54 1 = some (.getfield 98, 4) := by decide +kernel
theorem f_54_4 : x_fe 54 4 = some (.iconst (2), 5) := by decide +kernel
theorem f_54_5 : x_fe 54 5 = some (.if_icmp .eq (Int.ofNat 10), 8) := by decide +kernel
theorem f_54_8 : x_fe 54 8 = some (.iconst (1), 9) := by decide +kernel
theorem f_54_9 : x_fe 54 9 = some (.ireturn, 10) := by decide +kernel
theorem f_54_10 : x_fe 54 10 = some (.aload 0, 11) := by decide +kernel
theorem f_54_11 : x_fe 54 11 = some (.getfield 101, 14) := by decide +kernel
theorem f_54_14 : x_fe 54 14 = some (.iload 1, 15) := by decide +kernel
theorem f_54_15 : x_fe 54 15 = some (.if_icmp .le (Int.ofNat 22), 18) := by decide +kernel
theorem f_54_18 : x_fe 54 18 = some (.iconst (2), 19) := by decide +kernel
theorem f_54_19 : x_fe 54 19 = some (.goto (Int.ofNat 23), 22) := by decide +kernel
theorem f_54_22 : x_fe 54 22 = some (.iconst (0), 23) := by decide +kernel
theorem f_54_23 : x_fe 54 23 = some (.ireturn, 24) := by decide +kernel
theorem f_55_0 : x_fe 55 0 = some (.aload 0, 1) := by decide +kernel
theorem f_55_1 : x_fe 55 1 = some (.getfield 98, 4) := by decide +kernel
theorem f_55_4 : x_fe 55 4 = some (.iconst (3), 5) := by decide +kernel
theorem f_55_5 : x_fe 55 5 = some (.if_icmp .eq (Int.ofNat 10), 8) := by decide +kernel
theorem f_55_8 : x_fe 55 8 = some (.iconst (1), 9) := by decide +kernel
theorem f_55_9 : x_fe 55 9 = some (.ireturn, 10) := by decide +kernel
theorem f_55_10 : x_fe 55 10 = some (.aload 0, 11) := by decide +kernel
theorem f_55_11 : x_fe 55 11 = some (.invokevirtual 31, 14) := by decide +kernel
theorem f_55_14 : x_fe 55 14 = some (.iconst (0), 15) := by decide +kernel
theorem f_55_15 : x_fe 55 15 = some (.ireturn, 16) := by decide +kernel
theorem f_56_0 : x_fe 56 0 = some (.aload 0, 1) := by decide +kernel
theorem f_56_4 : x_fe 56 4 = some (.invokevirtual 38, 7) := by decide +kernel
theorem f_56_7 : x_fe 56 7 = some (.ifCond .ne (Int.ofNat 12), 10) := by decide +kernel
theorem f_56_10 : x_fe 56 10 = some (.iconst (1), 11) := by decide +kernel
theorem f_56_11 : x_fe 56 11 = some (.ireturn, 12) := by decide +kernel
theorem f_56_12 : x_fe 56 12 = some (.aload 1, 13) := by decide +kernel
theorem f_56_13 : x_fe 56 13 = some (.getfield 5, 16) := by decide +kernel
theorem f_56_16 : x_fe 56 16 = some (.iconst (14), 18) := by decide +kernel
theorem f_56_18 : x_fe 56 18 = some (.if_icmp .lt (Int.ofNat 23), 21) := by decide +kernel
theorem f_56_21 : x_fe 56 21 = some (.iconst (3), 22) := by decide +kernel
theorem f_56_22 : x_fe 56 22 = some (.ireturn, 23) := by decide +kernel
theorem f_56_23 : x_fe 56 23 = some (.aload 0, 24) := by decide +kernel
theorem f_56_24 : x_fe 56 24 = some (.invokevirtual 31, 27) := by decide +kernel
theorem f_56_27 : x_fe 56 27 = some (.aload 0, 28) := by decide +kernel
theorem f_56_28 : x_fe 56 28 = some (.invokevirtual 39, 31) := by decide +kernel
theorem f_56_31 : x_fe 56 31 = some (.istore 2, 32) := by decide +kernel
theorem f_56_32 : x_fe 56 32 = some (.iload 2, 33) := by decide +kernel
theorem f_56_33 : x_fe 56 33 = some (.iconst (-1000000), 35) := by decide +kernel
theorem f_56_35 : x_fe 56 35 = some (.if_icmp .ne (Int.ofNat 40), 38) := by decide +kernel
theorem f_56_38 : x_fe 56 38 = some (.iconst (1), 39) := by decide +kernel
theorem f_56_39 : x_fe 56 39 = some (.ireturn, 40) := by decide +kernel
theorem f_56_40 : x_fe 56 40 = some (.aload 0, 41) := by decide +kernel
theorem f_56_41 : x_fe 56 41 = some (.invokevirtual 31, 44) := by decide +kernel
theorem f_56_44 : x_fe 56 44 = some (.aload 0, 45) := by decide +kernel
theorem f_56_45 : x_fe 56 45 = some (.iconst (1), 46) := by decide +kernel
theorem f_56_46 : x_fe 56 46 = some (.invokestatic 54, 49) := by decide +kernel
theorem f_56_49 : x_fe 56 49 = some (.istore 3, 50) := by decide +kernel
theorem f_56_50 : x_fe 56 50 = some (.iload 3, 51) := by decide +kernel
theorem f_56_51 : x_fe 56 51 = some (.ifCond .eq (Int.ofNat 56), 54) := by decide +kernel
theorem f_56_54 : x_fe 56 54 = some (.iload 3, 55) := by decide +kernel
theorem f_56_55 : x_fe 56 55 = some (.ireturn, 56) := by decide +kernel
theorem f_56_56 : x_fe 56 56 = some (.aload 1, 57) := by decide +kernel
theorem f_56_57 : x_fe 56 57 = some (.iload 2, 58) := by decide +kernel
theorem f_56_58 : x_fe 56 58 = some (.aload 0, 59) := by decide +kernel
theorem f_56_59 : x_fe 56 59 = some (.getfield 101, 62) := by decide +kernel
theorem f_56_62 : x_fe 56 62 = some (.invokevirtual 2, 65) := by decide +kernel
theorem f_56_65 : x_fe 56 65 = some (.aload 0, 66) := by decide +kernel
theorem f_56_66 : x_fe 56 66 = some (.invokevirtual 31, 69) := by decide +kernel
theorem f_56_69 : x_fe 56 69 = some (.aload 0, 70) := by decide +kernel
theorem f_56_70 : x_fe 56 70 = some (.invokestatic 55, 73) := by decide +kernel
theorem f_56_73 : x_fe 56 73 = some (.ireturn, 74) := by decide +kernel
theorem f_57_0 : x_fe 57 0 = some (.aload 0, 1) := by decide +kernel
theorem f_57_1 : x_fe 57 1 = some (.getfield 168, 4) := by decide +kernel
theorem f_57_4 : x_fe 57 4 = some (.ireturn, 5) := by decide +kernel
theorem f_58_0 : x_fe 58 0 = some (.aload 0, 1) := by decide +kernel
theorem f_58_1 : x_fe 58 1 = some (.iload 1, 2) := by decide +kernel
theorem f_58_2 : x_fe 58 2 = some (.iload 2, 3) := by decide +kernel
theorem f_58_3 : x_fe 58 3 = some (.invokevirtual 59, 6) := by decide +kernel
theorem f_58_6 : x_fe 58 6 = some (.ifCond .eq (Int.ofNat 21), 9) := by decide +kernel
theorem f_58_9 : x_fe 58 9 = some (.aload 0, 10) := by decide +kernel
theorem f_58_10 : x_fe 58 10 = some (.getfield 162, 13) := by decide +kernel
theorem f_58_13 : x_fe 58 13 = some (.iload 1, 14) := by decide +kernel
theorem f_58_14 : x_fe 58 14 = some (.iload 2, 15) := by decide +kernel
theorem f_58_15 : x_fe 58 15 = some (.invokevirtual 8, 18) := by decide +kernel
theorem f_58_18 : x_fe 58 18 = some (.goto (Int.ofNat 23), 21) := by decide +kernel
theorem f_58_21 : x_fe 58 21 = some (.iconst (-1000001), 23) := by decide +kernel
theorem f_58_23 : x_fe 58 23 = some (.ireturn, 24) := by decide +kernel
theorem f_59_0 : x_fe 59 0 = some (.aload 0, 1) := by decide +kernel
theorem f_59_1 : x_fe 59 1 = some (.iload 1, 2) := by decide +kernel
theorem f_59_2 : x_fe 59 2 = some (.invokevirtual 60, 5) := by decide +kernel
theorem f_59_5 : x_fe 59 5 = some (.ifCond .eq (Int.ofNat 22), 8) := by decide +kernel
theorem f_59_8 : x_fe 59 8 = some (.iload 2, 9) := by decide +kernel
theorem f_59_9 : x_fe 59 9 = some (.ifCond .lt (Int.ofNat 22), 12) := by decide +kernel
theorem f_59_12 : x_fe 59 12 = some (.iload 2, 13) := by decide +kernel
theorem f_59_13 : x_fe 59 13 = some (.iconst (8), 15) := by decide +kernel
theorem f_59_15 : x_fe 59 15 = some (.if_icmp .ge (Int.ofNat 22), 18) := by decide +kernel
theorem f_59_18 : x_fe 59 18 = some (.iconst (1), 19) := by decide +kernel
theorem f_59_19 : x_fe 59 19 = some (.goto (Int.ofNat 23), 22) := by decide +kernel
theorem f_59_22 : x_fe 59 22 = some (.iconst (0), 23) := by decide +kernel
theorem f_59_23 : x_fe 59 23 = some (.ireturn, 24) := by decide +kernel
theorem f_60_0 : x_fe 60 0 = some (.iload 1, 1) := by decide +kernel
theorem f_60_1 : x_fe 60 1 = some (.ifCond .lt (Int.ofNat 19), 4) := by decide +kernel
theorem f_60_4 : x_fe 60 4 = some (.iload 1, 5) := by decide +kernel
theorem f_60_5 : x_fe 60 5 = some (.aload 0, 6) := by decide +kernel
theorem f_60_6 : x_fe 60 6 = some (.getfield 162, 9) := by decide +kernel
theorem f_60_9 : x_fe 60 9 = some (.getfield 5, 12) := by decide +kernel
theorem f_60_12 : x_fe 60 12 = some (.if_icmp .ge (Int.ofNat 19), 15) := by decide +kernel
theorem f_60_15 : x_fe 60 15 = some (.iconst (1), 16) := by decide +kernel
theorem f_60_16 : x_fe 60 16 = some (.goto (Int.ofNat 20), 19) := by decide +kernel
theorem f_60_19 : x_fe 60 19 = some (.iconst (0), 20) := by decide +kernel
theorem f_60_20 : x_fe 60 20 = some (.ireturn, 21) := by decide +kernel
theorem f_61_0 : x_fe 61 0 = some (.aload 0, 1) := by decide +kernel
theorem f_61_1 : x_fe 61 1 = some (.getfield 162, 4) := by decide +kernel
theorem f_61_4 : x_fe 61 4 = some (.getfield 4, 7) := by decide +kernel
theorem f_61_7 : x_fe 61 7 = some (.ifCond .ne (Int.ofNat 13), 10) := by decide +kernel
theorem f_61_10 : x_fe 61 10 = some (.iconst (-1000002), 12) := by decide +kernel
theorem f_61_12 : x_fe 61 12 = some (.ireturn, 13) := by decide +kernel
theorem f_61_13 : x_fe 61 13 = some (.iload 1, 14) := by decide +kernel
theorem f_61_14 : x_fe 61 14 = some (.invokestatic 62, 17) := by decide +kernel
theorem f_61_17 : x_fe 61 17 = some (.ifCond .eq (Int.ofNat 31), 20) := by decide +kernel
theorem f_61_20 : x_fe 61 20 = some (.aload 0, 21) := by decide +kernel
theorem f_61_21 : x_fe 61 21 = some (.getfield 162, 24) := by decide +kernel
theorem f_61_24 : x_fe 61 24 = some (.iload 1, 25) := by decide +kernel
theorem f_61_25 : x_fe 61 25 = some (.invokevirtual 9, 28) := by decide +kernel
theorem f_61_28 : x_fe 61 28 = some (.goto (Int.ofNat 33), 31) := by decide +kernel
theorem f_61_31 : x_fe 61 31 = some (.iconst (-1000001), 33) := by decide +kernel
theorem f_61_33 : x_fe 61 33 = some (.ireturn, 34) := by decide +kernel
theorem f_62_0 : x_fe 62 0 = some (.iload 0, 1) := by decide +kernel
theorem f_62_1 : x_fe 62 1 = some (.ifCond .lt (Int.ofNat 15), 4) := by decide +kernel
theorem f_62_4 : x_fe 62 4 = some (.iload 0, 5) := by decide +kernel
theorem f_62_5 : x_fe 62 5 = some (.iconst (511), 8) := by decide +kernel
theorem f_62_8 : x_fe 62 8 = some (.if_icmp .gt (Int.ofNat 15), 11) := by decide +kernel
theorem f_62_11 : x_fe 62 11 = some (.iconst (1), 12) := by decide +kernel
theorem f_62_12 : x_fe 62 12 = some (.goto (Int.ofNat 16), 15) := by decide +kernel
theorem f_62_15 : x_fe 62 15 = some (.iconst (0), 16) := by decide +kernel
theorem f_62_16 : x_fe 62 16 = some (.ireturn, 17) := by decide +kernel
theorem f_63_0 : x_fe 63 0 = some (.aload 0, 1) := by decide +kernel
theorem f_63_1 : x_fe 63 1 = some (.iload 1, 2) := by decide +kernel
theorem f_63_2 : x_fe 63 2 = some (.iload 2, 3) := by decide +kernel
theorem f_63_3 : x_fe 63 3 = some (.invokevirtual 59, 6) := by decide +kernel
theorem f_63_6 : x_fe 63 6 = some (.ifCond .ne (Int.ofNat 12), 9) := by decide +kernel
theorem f_63_9 : x_fe 63 9 = some (.iconst (-1000001), 11) := by decide +kernel
theorem f_63_11 : x_fe 63 11 = some (.ireturn, 12) := by decide +kernel
theorem f_63_12 : x_fe 63 12 = some (.aload 0, 13) := by decide +kernel
theorem f_63_13 : x_fe 63 13 = some (.getfield 162, 16) := by decide +kernel
theorem f_63_16 : x_fe 63 16 = some (.iload 1, 17) := by decide +kernel
theorem f_63_17 : x_fe 63 17 = some (.invokevirtual 10, 20) := by decide +kernel
theorem f_63_20 : x_fe 63 20 = some (.ifCond .eq (Int.ofNat 35), 23) := by decide +kernel
theorem f_63_23 : x_fe 63 23 = some (.aload 0, 24) := by decide +kernel
theorem f_63_24 : x_fe 63 24 = some (.getfield 162, 27) := by decide +kernel
theorem f_63_27 : x_fe 63 27 = some (.iload 1, 28) := by decide +kernel
theorem f_63_28 : x_fe 63 28 = some (.iload 2, 29) := by decide +kernel
theorem f_63_29 : x_fe 63 29 = some (.invokevirtual 12, 32) := by decide +kernel
theorem f_63_32 : x_fe 63 32 = some (.goto (Int.ofNat 37), 35) := by decide +kernel
theorem f_63_35 : x_fe 63 35 = some (.iconst (-1000002), 37) := by decide +kernel
theorem f_63_37 : x_fe 63 37 = some (.ireturn, 38) := by decide +kernel
theorem f_64_0 : x_fe 64 0 = some (.aload 0, 1) := by decide +kernel
theorem f_64_1 : x_fe 64 1 = some (.getfield 162, 4) := by decide +kernel
theorem f_64_4 : x_fe 64 4 = some (.getfield 4, 7) := by decide +kernel
theorem f_64_7 : x_fe 64 7 = some (.ifCond .ne (Int.ofNat 13), 10) := by decide +kernel
theorem f_64_10 : x_fe 64 10 = some (.iconst (-1000002), 12) := by decide +kernel
theorem f_64_12 : x_fe 64 12 = some (.ireturn, 13) := by decide +kernel
theorem f_64_13 : x_fe 64 13 = some (.iload 1, 14) := by decide +kernel
theorem f_64_14 : x_fe 64 14 = some (.invokestatic 44, 17) := by decide +kernel
theorem f_64_17 : x_fe 64 17 = some (.ifCond .eq (Int.ofNat 31), 20) := by decide +kernel
theorem f_64_20 : x_fe 64 20 = some (.iload 3, 21) := by decide +kernel
theorem f_64_21 : x_fe 64 21 = some (.iconst (1), 22) := by decide +kernel
theorem f_64_22 : x_fe 64 22 = some (.if_icmp .lt (Int.ofNat 31), 25) := by decide +kernel
theorem f_64_25 : x_fe 64 25 = some (.iload 3, 26) := by decide +kernel
theorem f_64_26 : x_fe 64 26 = some (.iconst (14), 28) := by decide +kernel
theorem f_64_28 : x_fe 64 28 = some (.if_icmp .le (Int.ofNat 34), 31) := by decide +kernel
theorem f_64_31 : x_fe 64 31 = some (.iconst (-1000001), 33) := by decide +kernel
theorem f_64_33 : x_fe 64 33 = some (.ireturn, 34) := by decide +kernel
theorem f_64_34 : x_fe 64 34 = some (.aload 0, 35) := by decide +kernel
theorem f_64_35 : x_fe 64 35 = some (.getfield 160, 38) := by decide +kernel
theorem f_64_38 : x_fe 64 38 = some (.iload 1, 39) := by decide +kernel
theorem f_64_39 : x_fe 64 39 = some (.aaload, 40) := by decide +kernel
theorem f_64_40 : x_fe 64 40 = some (.astore 4, 42) := by decide +kernel
theorem f_64_42 : x_fe 64 42 = some (.aload 4, 44) := by decide +kernel
theorem f_64_44 : x_fe 64 44 = some (.getfield 65, 47) := by decide +kernel
theorem f_64_47 : x_fe 64 47 = some (.ifCond .ne (Int.ofNat 56), 50) := by decide +kernel
theorem f_64_50 : x_fe 64 50 = some (.aload 0, 51) := by decide +kernel
theorem f_64_51 : x_fe 64 51 = some (.iconst (1), 52) := by decide +kernel
theorem f_64_52 : x_fe 64 52 = some (.invokevirtual 45, 55) := by decide +kernel
theorem f_64_55 : x_fe 64 55 = some (.ireturn, 56) := by decide +kernel
theorem f_64_56 : x_fe 64 56 = some (.aload 4, 58) := by decide +kernel
theorem f_64_58 : x_fe 64 58 = some (.iload 2, 59) := by decide +kernel
theorem f_64_59 : x_fe 64 59 = some (.iload 3, 60) := by decide +kernel
theorem f_64_60 : x_fe 64 60 = some (.invokevirtual 25, 63) := by decide +kernel
theorem f_64_63 : x_fe 64 63 = some (.ifCond .ne (Int.ofNat 72), 66) := by decide +kernel
theorem f_64_66 : x_fe 64 66 = some (.aload 0, 67) := by decide +kernel
theorem f_64_67 : x_fe 64 67 = some (.iconst (2), 68) := by decide +kernel
theorem f_64_68 : x_fe 64 68 = some (.invokevirtual 45, 71) := by decide +kernel
theorem f_64_71 : x_fe 64 71 = some (.ireturn, 72) := by decide +kernel
theorem f_64_72 : x_fe 64 72 = some (.aload 0, 73) := by decide +kernel
theorem f_64_73 : x_fe 64 73 = some (.aload 4, 75) := by decide +kernel
theorem f_64_75 : x_fe 64 75 = some (.iload 2, 76) := by decide +kernel
theorem f_64_76 : x_fe 64 76 = some (.iload 3, 77) := by decide +kernel
theorem f_64_77 : x_fe 64 77 = some (.invokevirtual 65, 80) := by decide +kernel
theorem f_64_80 : x_fe 64 80 = some (.ifCond .ne (Int.ofNat 86), 83) := by decide +kernel
theorem f_64_83 : x_fe 64 83 = some (.iconst (-1000001), 85) := by decide +kernel
theorem f_64_85 : x_fe 64 85 = some (.ireturn, 86) := by decide +kernel
theorem f_64_86 : x_fe 64 86 = some (.aload 0, 87) := by decide +kernel
theorem f_64_87 : x_fe 64 87 = some (.getfield 163, 90) := by decide +kernel
theorem f_64_90 : x_fe 64 90 = some (.aload 0, 91) := by decide +kernel
theorem f_64_91 : x_fe 64 91 = some (.getfield 162, 94) := by decide +kernel
theorem f_64_94 : x_fe 64 94 = some (.invokevirtual 7, 97) := by decide +kernel
theorem f_64_97 : x_fe 64 97 = some (.aload 0, 98) := by decide +kernel
theorem f_64_98 : x_fe 64 98 = some (.getfield 163, 101) := by decide +kernel
theorem f_64_101 : x_fe 64 101 = some (.aload 4, 103) := by decide +kernel
theorem f_64_103 : x_fe 64 103 = some (.iload 2, 104) := by decide +kernel
theorem f_64_104 : x_fe 64 104 = some (.iload 3, 105) := by decide +kernel
theorem f_64_105 : x_fe 64 105 = some (.invokestatic 66, 108) := by decide +kernel
theorem f_64_108 : x_fe 64 108 = some (.ifCond .ne (Int.ofNat 114), 111) := by decide +kernel
theorem f_64_111 : x_fe 64 111 = some (.iconst (-1000002), 113) := by decide +kernel
theorem f_64_113 : x_fe 64 113 = some (.ireturn, 114) := by decide +kernel
theorem f_64_114 : x_fe 64 114 = some (.aload 0, 115) := by decide +kernel
theorem f_64_115 : x_fe 64 115 = some (.getfield 162, 118) := by decide +kernel
theorem f_64_118 : x_fe 64 118 = some (.getfield 3, 121) := by decide +kernel
theorem f_64_121 : x_fe 64 121 = some (.iconst (0), 122) := by decide +kernel
theorem f_64_122 : x_fe 64 122 = some (.iaload, 123) := by decide +kernel
theorem f_64_123 : x_fe 64 123 = some (.aload 0, 124) := by decide +kernel
theorem f_64_124 : x_fe 64 124 = some (.getfield 162, 127) := by decide +kernel
theorem f_64_127 : x_fe 64 127 = some (.getfield 3, 130) := by decide +kernel
theorem f_64_130 : x_fe 64 130 = some (.iconst (1), 131) := by decide +kernel
theorem f_64_131 : x_fe 64 131 = some (.iaload, 132) := by decide +kernel
theorem f_64_132 : x_fe 64 132 = some (.isub, 133) := by decide +kernel
theorem f_64_133 : x_fe 64 133 = some (.istore 5, 135) := by decide +kernel
theorem f_64_135 : x_fe 64 135 = some (.aload 0, 136) := by decide +kernel
theorem f_64_136 : x_fe 64 136 = some (.getfield 162, 139) := by decide +kernel
theorem f_64_139 : x_fe 64 139 = some (.aload 0, 140) := by decide +kernel
theorem f_64_140 : x_fe 64 140 = some (.getfield 163, 143) := by decide +kernel
theorem f_64_143 : x_fe 64 143 = some (.invokevirtual 7, 146) := by decide +kernel
theorem f_64_146 : x_fe 64 146 = some (.aload 0, 147) := by decide +kernel
theorem f_64_147 : x_fe 64 147 = some (.aload 0, 148) := by decide +kernel
theorem f_64_148 : x_fe 64 148 = some (.getfield 162, 151) := by decide +kernel
theorem f_64_151 : x_fe 64 151 = some (.getfield 3, 154) := by decide +kernel
theorem f_64_154 : x_fe 64 154 = some (.iconst (0), 155) := by decide +kernel
theorem f_64_155 : x_fe 64 155 = some (.iaload, 156) := by decide +kernel
theorem f_64_156 : x_fe 64 156 = some (.aload 0, 157) := by decide +kernel
theorem f_64_157 : x_fe 64 157 = some (.getfield 162, 160) := by decide +kernel
theorem f_64_160 : x_fe 64 160 = some (.getfield 3, 163) := by decide +kernel
theorem f_64_163 : x_fe 64 163 = some (.iconst (1), 164) := by decide +kernel
theorem f_64_164 : x_fe 64 164 = some (.iaload, 165) := by decide +kernel
theorem f_64_165 : x_fe 64 165 = some (.isub, 166) := by decide +kernel
theorem f_64_166 : x_fe 64 166 = some (.iload 5, 168) := by decide +kernel
theorem f_64_168 : x_fe 64 168 = some (.isub, 169) := by decide +kernel
theorem f_64_169 : x_fe 64 169 = some (.invokevirtual 46, 172) := by decide +kernel
theorem f_64_172 : x_fe 64 172 = some (.ireturn, 173) := by decide +kernel
theorem f_65_0 : x_fe 65 0 = some (.iconst (0), 1) := by decide +kernel
theorem f_65_1 : x_fe 65 1 = some (.istore 4, 3) := by decide +kernel
theorem f_65_3 : x_fe 65 3 = some (.iload 4, 5) := by decide +kernel
theorem f_65_5 : x_fe 65 5 = some (.iload 3, 6) := by decide +kernel
theorem f_65_6 : x_fe 65 6 = some (.if_icmp .ge (Int.ofNat 47), 9) := by decide +kernel
theorem f_65_9 : x_fe 65 9 = some (.aload 1, 10) := by decide +kernel
theorem f_65_10 : x_fe 65 10 = some (.iload 2, 11) := by decide +kernel
theorem f_65_11 : x_fe 65 11 = some (.iload 4, 13) := by decide +kernel
theorem f_65_13 : x_fe 65 13 = some (.iadd, 14) := by decide +kernel
theorem f_65_14 : x_fe 65 14 = some (.invokevirtual 27, 17) := by decide +kernel
theorem f_65_17 : x_fe 65 17 = some (.istore 5, 19) := by decide +kernel
theorem f_65_19 : x_fe 65 19 = some (.iload 5, 21) := by decide +kernel
theorem f_65_21 : x_fe 65 21 = some (.ifCond .lt (Int.ofNat 39), 24) := by decide +kernel
theorem f_65_24 : x_fe 65 24 = some (.iload 5, 26) := by decide +kernel
theorem f_65_26 : x_fe 65 26 = some (.iconst (8), 28) := by decide +kernel
theorem f_65_28 : x_fe 65 28 = some (.aload 0, 29) := by decide +kernel
theorem f_65_29 : x_fe 65 29 = some (.getfield 162, 32) := by decide +kernel
theorem f_65_32 : x_fe 65 32 = some (.getfield 5, 35) := by decide +kernel
theorem f_65_35 : x_fe 65 35 = some (.imul, 36) := by decide +kernel
theorem f_65_36 : x_fe 65 36 = some (.if_icmp .lt (Int.ofNat 41), 39) := by decide +kernel
theorem f_65_39 : x_fe 65 39 = some (.iconst (0), 40) := by decide +kernel
theorem f_65_40 : x_fe 65 40 = some (.ireturn, 41) := by decide +kernel
theorem f_65_41 : x_fe 65 41 = some (.iinc 4 (1), 44) := by decide +kernel
theorem f_65_44 : x_fe 65 44 = some (.goto (Int.ofNat 3), 47) := by decide +kernel
theorem f_65_47 : x_fe 65 47 = some (.iconst (1), 48) := by decide +kernel
theorem f_65_48 : x_fe 65 48 = some (.ireturn, 49) := by decide +kernel
theorem f_66_0 : x_fe 66 0 = some (.iconst (0), 1) := by decide +kernel
theorem f_66_1 : x_fe 66 1 = some (.istore 4, 3) := by decide +kernel
theorem f_66_3 : x_fe 66 3 = some (.iload 4, 5) := by decide +kernel
theorem f_66_5 : x_fe 66 5 = some (.iload 3, 6) := by decide +kernel
theorem f_66_6 : x_fe 66 6 = some (.if_icmp .ge (Int.ofNat 54), 9) := by decide +kernel
theorem f_66_9 : x_fe 66 9 = some (.aload 1, 10) := by decide +kernel
theorem f_66_10 : x_fe 66 10 = some (.iload 2, 11) := by decide +kernel
theorem f_66_11 : x_fe 66 11 = some (.iload 4, 13) := by decide +kernel
theorem f_66_13 : x_fe 66 13 = some (.iadd, 14) := by decide +kernel
theorem f_66_14 : x_fe 66 14 = some (.invokevirtual 27, 17) := by decide +kernel
theorem f_66_17 : x_fe 66 17 = some (.istore 5, 19) := by decide +kernel
theorem f_66_19 : x_fe 66 19 = some (.aload 0, 20) := by decide +kernel
theorem f_66_20 : x_fe 66 20 = some (.iload 5, 22) := by decide +kernel
theorem f_66_22 : x_fe 66 22 = some (.iconst (8), 24) := by decide +kernel
theorem f_66_24 : x_fe 66 24 = some (.idiv, 25) := by decide +kernel
theorem f_66_25 : x_fe 66 25 = some (.invokevirtual 10, 28) := by decide +kernel
theorem f_66_28 : x_fe 66 28 = some (.ifCond .ne (Int.ofNat 33), 31) := by decide +kernel
theorem f_66_31 : x_fe 66 31 = some (.iconst (0), 32) := by decide +kernel
theorem f_66_32 : x_fe 66 32 = some (.ireturn, 33) := by decide +kernel
theorem f_66_33 : x_fe 66 33 = some (.aload 0, 34) := by decide +kernel
theorem f_66_34 : x_fe 66 34 = some (.iload 5, 36) := by decide +kernel
theorem f_66_36 : x_fe 66 36 = some (.iconst (8), 38) := by decide +kernel
theorem f_66_38 : x_fe 66 38 = some (.idiv, 39) := by decide +kernel
theorem f_66_39 : x_fe 66 39 = some (.iload 5, 41) := by decide +kernel
theorem f_66_41 : x_fe 66 41 = some (.iconst (8), 43) := by decide +kernel
theorem f_66_43 : x_fe 66 43 = some (.irem, 44) := by decide +kernel
theorem f_66_44 : x_fe 66 44 = some (.invokevirtual 12, 47) := by decide +kernel
theorem f_66_47 : x_fe 66 47 = some (.pop, 48) := by decide +kernel
theorem f_66_48 : x_fe 66 48 = some (.iinc 4 (1), 51) := by decide +kernel
theorem f_66_51 : x_fe 66 51 = some (.goto (Int.ofNat 3), 54) := by decide +kernel
theorem f_66_54 : x_fe 66 54 = some (.iconst (1), 55) := by decide +kernel
theorem f_66_55 : x_fe 66 55 = some (.ireturn, 56) := by decide +kernel
theorem f_67_0 : x_fe 67 0 = some (.aload 0, 1) := by decide +kernel
theorem f_67_1 : x_fe 67 1 = some (.getfield 162, 4) := by decide +kernel
theorem f_67_4 : x_fe 67 4 = some (.getfield 4, 7) := by decide +kernel
theorem f_67_7 : x_fe 67 7 = some (.ifCond .ne (Int.ofNat 13), 10) := by decide +kernel
theorem f_67_10 : x_fe 67 10 = some (.iconst (-1000002), 12) := by decide +kernel
theorem f_67_12 : x_fe 67 12 = some (.ireturn, 13) := by decide +kernel
theorem f_67_13 : x_fe 67 13 = some (.iload 1, 14) := by decide +kernel
theorem f_67_14 : x_fe 67 14 = some (.iconst (1), 15) := by decide +kernel
theorem f_67_15 : x_fe 67 15 = some (.if_icmp .lt (Int.ofNat 35), 18) := by decide +kernel
theorem f_67_18 : x_fe 67 18 = some (.iload 1, 19) := by decide +kernel
theorem f_67_19 : x_fe 67 19 = some (.iconst (14), 21) := by decide +kernel
theorem f_67_21 : x_fe 67 21 = some (.if_icmp .gt (Int.ofNat 35), 24) := by decide +kernel
theorem f_67_24 : x_fe 67 24 = some (.iload 2, 25) := by decide +kernel
theorem f_67_25 : x_fe 67 25 = some (.iconst (1), 26) := by decide +kernel
theorem f_67_26 : x_fe 67 26 = some (.if_icmp .lt (Int.ofNat 35), 29) := by decide +kernel
theorem f_67_29 : x_fe 67 29 = some (.iload 2, 30) := by decide +kernel
theorem f_67_30 : x_fe 67 30 = some (.iconst (999999), 32) := by decide +kernel
theorem f_67_32 : x_fe 67 32 = some (.if_icmp .le (Int.ofNat 38), 35) := by decide +kernel
theorem f_67_35 : x_fe 67 35 = some (.iconst (-1000001), 37) := by decide +kernel
theorem f_67_37 : x_fe 67 37 = some (.ireturn, 38) := by decide +kernel
theorem f_67_38 : x_fe 67 38 = some (.iload 2, 39) := by decide +kernel
theorem f_67_39 : x_fe 67 39 = some (.i2l, 40) := by decide +kernel
theorem f_67_40 : x_fe 67 40 = some (.lstore 3, 41) := by decide +kernel
theorem f_67_41 : x_fe 67 41 = some (.iconst (0), 42) := by decide +kernel
theorem f_67_42 : x_fe 67 42 = some (.istore 5, 44) := by decide +kernel
theorem f_67_44 : x_fe 67 44 = some (.iload 5, 46) := by decide +kernel
theorem f_67_46 : x_fe 67 46 = some (.iload 1, 47) := by decide +kernel
theorem f_67_47 : x_fe 67 47 = some (.if_icmp .ge (Int.ofNat 84), 50) := by decide +kernel
theorem f_67_50 : x_fe 67 50 = some (.aload 0, 51) := by decide +kernel
theorem f_67_51 : x_fe 67 51 = some (.getfield 162, 54) := by decide +kernel
theorem f_67_54 : x_fe 67 54 = some (.invokevirtual 11, 57) := by decide +kernel
theorem f_67_57 : x_fe 67 57 = some (.ifCond .eq (Int.ofNat 84), 60) := by decide +kernel
theorem f_67_60 : x_fe 67 60 = some (.lload 3, 61) := by decide +kernel
theorem f_67_61 : x_fe 67 61 = some (.ldc2_w 16807, 64) := by decide +kernel
theorem f_67_64 : x_fe 67 64 = some (.lmul, 65) := by decide +kernel
theorem f_67_65 : x_fe 67 65 = some (.ldc2_w 2147483647, 68) := by decide +kernel
theorem f_67_68 : x_fe 67 68 = some (.lrem, 69) := by decide +kernel
theorem f_67_69 : x_fe 67 69 = some (.lstore 3, 70) := by decide +kernel
theorem f_67_70 : x_fe 67 70 = some (.aload 0, 71) := by decide +kernel
theorem f_67_71 : x_fe 67 71 = some (.getfield 162, 74) := by decide +kernel
theorem f_67_74 : x_fe 67 74 = some (.lload 3, 75) := by decide +kernel
theorem f_67_75 : x_fe 67 75 = some (.invokestatic 68, 78) := by decide +kernel
theorem f_67_78 : x_fe 67 78 = some (.iinc 5 (1), 81) := by decide +kernel
theorem f_67_81 : x_fe 67 81 = some (.goto (Int.ofNat 44), 84) := by decide +kernel
theorem f_67_84 : x_fe 67 84 = some (.iload 5, 86) := by decide +kernel
theorem f_67_86 : x_fe 67 86 = some (.ireturn, 87) := by decide +kernel
theorem f_68_0 : x_fe 68 0 = some (.aload 0, 1) := by decide +kernel
theorem f_68_1 : x_fe 68 1 = some (.invokevirtual 11, 4) := by decide +kernel
theorem f_68_4 : x_fe 68 4 = some (.invokestatic 179, 7) := by decide +kernel
theorem f_68_7 : x_fe 68 7 = some (.istore 3, 8) := by decide +kernel
theorem f_68_8 : x_fe 68 8 = some (.iload 3, 9) := by decide +kernel
theorem f_68_9 : x_fe 68 9 = some (.ifCond .ne (Int.ofNat 13), 12) := by decide +kernel
theorem f_68_12 : x_fe 68 12 = some (.return_, 13) := by decide +kernel
theorem f_68_13 : x_fe 68 13 = some (.lload 1, 14) := by decide +kernel
theorem f_68_14 : x_fe 68 14 = some (.iconst (8), 16) := by decide +kernel
theorem f_68_16 : x_fe 68 16 = some (.iload 3, 17) := by decide +kernel
theorem f_68_17 : x_fe 68 17 = some (.imul, 18) := by decide +kernel
theorem f_68_18 : x_fe 68 18 = some (.i2l, 19) := by decide +kernel
theorem f_68_19 : x_fe 68 19 = some (.lrem, 20) := by decide +kernel
theorem f_68_20 : x_fe 68 20 = some (.l2i, 21) := by decide +kernel
theorem f_68_21 : x_fe 68 21 = some (.istore 4, 23) := by decide +kernel
theorem f_68_23 : x_fe 68 23 = some (.aload 0, 24) := by decide +kernel
theorem f_68_24 : x_fe 68 24 = some (.aload 0, 25) := by decide +kernel
theorem f_68_25 : x_fe 68 25 = some (.invokevirtual 11, 28) := by decide +kernel
theorem f_68_28 : x_fe 68 28 = some (.iload 4, 30) := by decide +kernel
theorem f_68_30 : x_fe 68 30 = some (.iconst (8), 32) := by decide +kernel
theorem f_68_32 : x_fe 68 32 = some (.idiv, 33) := by decide +kernel
theorem f_68_33 : x_fe 68 33 = some (.invokestatic 69, 36) := by decide +kernel
theorem f_68_36 : x_fe 68 36 = some (.iload 4, 38) := by decide +kernel
theorem f_68_38 : x_fe 68 38 = some (.iconst (8), 40) := by decide +kernel
theorem f_68_40 : x_fe 68 40 = some (.irem, 41) := by decide +kernel
theorem f_68_41 : x_fe 68 41 = some (.invokevirtual 12, 44) := by decide +kernel
theorem f_68_44 : x_fe 68 44 = some (.pop, 45) := by decide +kernel
theorem f_68_45 : x_fe 68 45 = some (.return_, 46) := by decide +kernel
theorem f_69_0 : x_fe 69 0 = some (.iconst (0), 1) := by decide +kernel
theorem f_69_1 : x_fe 69 1 = some (.istore 2, 2) := by decide +kernel
theorem f_69_2 : x_fe 69 2 = some (.iconst (0), 3) := by decide +kernel
theorem f_69_3 : x_fe 69 3 = some (.istore 3, 4) := by decide +kernel
theorem f_69_4 : x_fe 69 4 = some (.iload 3, 5) := by decide +kernel
theorem f_69_5 : x_fe 69 5 = some (.iconst (14), 7) := by decide +kernel
theorem f_69_7 : x_fe 69 7 = some (.if_icmp .ge (Int.ofNat 37), 10) := by decide +kernel
theorem f_69_10 : x_fe 69 10 = some (.iload 0, 11) := by decide +kernel
theorem f_69_11 : x_fe 69 11 = some (.iload 3, 12) := by decide +kernel
theorem f_69_12 : x_fe 69 12 = some (.ishr, 13) := by decide +kernel
theorem f_69_13 : x_fe 69 13 = some (.iconst (1), 14) := by decide +kernel
theorem f_69_14 : x_fe 69 14 = some (.iand, 15) := by decide +kernel
theorem f_69_15 : x_fe 69 15 = some (.ifCond .ne (Int.ofNat 21), 18) := by decide +kernel
theorem f_69_18 : x_fe 69 18 = some (.goto (Int.ofNat 31), 21) := by decide +kernel
theorem f_69_21 : x_fe 69 21 = some (.iload 2, 22) := by decide +kernel
theorem f_69_22 : x_fe 69 22 = some (.iload 1, 23) := by decide +kernel
theorem f_69_23 : x_fe 69 23 = some (.if_icmp .ne (Int.ofNat 28), 26) := by decide +kernel
theorem f_69_26 : x_fe 69 26 = some (.iload 3, 27) := by decide +kernel
theorem f_69_27 : x_fe 69 27 = some (.ireturn, 28) := by decide +kernel
theorem f_69_28 : x_fe 69 28 = some (.iinc 2 (1), 31) := by decide +kernel
theorem f_69_31 : x_fe 69 31 = some (.iinc 3 (1), 34) := by decide +kernel
theorem f_69_34 : x_fe 69 34 = some (.goto (Int.ofNat 4), 37) := by decide +kernel
theorem f_69_37 : x_fe 69 37 = some (.iconst (-1), 38) := by decide +kernel
theorem f_69_38 : x_fe 69 38 = some (.ireturn, 39) := by decide +kernel
theorem f_70_0 : x_fe 70 0 = some (.aload 0, 1) := by decide +kernel
theorem f_70_1 : x_fe 70 1 = some (.getfield 162, 4) := by decide +kernel
theorem f_70_4 : x_fe 70 4 = some (.getfield 4, 7) := by decide +kernel
theorem f_70_7 : x_fe 70 7 = some (.ifCond .ne (Int.ofNat 13), 10) := by decide +kernel
theorem f_70_10 : x_fe 70 10 = some (.iconst (-1000002), 12) := by decide +kernel
theorem f_70_12 : x_fe 70 12 = some (.ireturn, 13) := by decide +kernel
theorem f_70_13 : x_fe 70 13 = some (.iload 1, 14) := by decide +kernel
theorem f_70_14 : x_fe 70 14 = some (.tableswitch (118) (0) (7) #[46, 54, 62, 70, 80, 90, 100, 110], 60) := by decide +kernel
theorem f_70_60 : x_fe 70 60 = some (.aload 0, 61) := by decide +kernel
theorem f_70_61 : x_fe 70 61 = some (.getfield 162, 64) := by decide +kernel
theorem f_70_64 : x_fe 70 64 = some (.getfield 6, 67) := by decide +kernel
theorem f_70_67 : x_fe 70 67 = some (.ireturn, 68) := by decide +kernel
theorem f_70_68 : x_fe 70 68 = some (.aload 0, 69) := by decide +kernel
theorem f_70_69 : x_fe 70 69 = some (.getfield 162, 72) := by decide +kernel
theorem f_70_72 : x_fe 70 72 = some (.getfield 7, 75) := by decide +kernel
theorem f_70_75 : x_fe 70 75 = some (.ireturn, 76) := by decide +kernel
theorem f_70_76 : x_fe 70 76 = some (.aload 0, 77) := by decide +kernel
theorem f_70_77 : x_fe 70 77 = some (.getfield 162, 80) := by decide +kernel
theorem f_70_80 : x_fe 70 80 = some (.getfield 8, 83) := by decide +kernel
theorem f_70_83 : x_fe 70 83 = some (.ireturn, 84) := by decide +kernel
theorem f_70_84 : x_fe 70 84 = some (.aload 0, 85) := by decide +kernel
theorem f_70_85 : x_fe 70 85 = some (.getfield 162, 88) := by decide +kernel
theorem f_70_88 : x_fe 70 88 = some (.getfield 3, 91) := by decide +kernel
theorem f_70_91 : x_fe 70 91 = some (.iconst (0), 92) := by decide +kernel
theorem f_70_92 : x_fe 70 92 = some (.iaload, 93) := by decide +kernel
theorem f_70_93 : x_fe 70 93 = some (.ireturn, 94) := by decide +kernel
theorem f_70_94 : x_fe 70 94 = some (.aload 0, 95) := by decide +kernel
theorem f_70_95 : x_fe 70 95 = some (.getfield 162, 98) := by decide +kernel
theorem f_70_98 : x_fe 70 98 = some (.getfield 3, 101) := by decide +kernel
theorem f_70_101 : x_fe 70 101 = some (.iconst (1), 102) := by decide +kernel
theorem f_70_102 : x_fe 70 102 = some (.iaload, 103) := by decide +kernel
theorem f_70_103 : x_fe 70 103 = some (.ireturn, 104) := by decide +kernel
theorem f_70_104 : x_fe 70 104 = some (.aload 0, 105) := by decide +kernel
theorem f_70_105 : x_fe 70 105 = some (.getfield 162, 108) := by decide +kernel
theorem f_70_108 : x_fe 70 108 = some (.getfield 2, 111) := by decide +kernel
theorem f_70_111 : x_fe 70 111 = some (.iconst (0), 112) := by decide +kernel
theorem f_70_112 : x_fe 70 112 = some (.iaload, 113) := by decide +kernel
theorem f_70_113 : x_fe 70 113 = some (.ireturn, 114) := by decide +kernel
theorem f_70_114 : x_fe 70 114 = some (.aload 0, 115) := by decide +kernel
theorem f_70_115 : x_fe 70 115 = some (.getfield 162, 118) := by decide +kernel
theorem f_70_118 : x_fe 70 118 = some (.getfield 2, 121) := by decide +kernel
theorem f_70_121 : x_fe 70 121 = some (.iconst (1), 122) := by decide +kernel
theorem f_70_122 : x_fe 70 122 = some (.iaload, 123) := by decide +kernel
theorem f_70_123 : x_fe 70 123 = some (.ireturn, 124) := by decide +kernel
theorem f_70_124 : x_fe 70 124 = some (.aload 0, 125) := by decide +kernel
theorem f_70_125 : x_fe 70 125 = some (.getfield 162, 128) := by decide +kernel
theorem f_70_128 : x_fe 70 128 = some (.getfield 9, 131) := by decide +kernel
theorem f_70_131 : x_fe 70 131 = some (.ireturn, 132) := by decide +kernel
theorem f_70_132 : x_fe 70 132 = some (.iconst (-1000001), 134) := by decide +kernel
theorem f_70_134 : x_fe 70 134 = some (.ireturn, 135) := by decide +kernel
theorem f_71_0 : x_fe 71 0 = some (.aload 0, 1) := by decide +kernel
theorem f_71_1 : x_fe 71 1 = some (.getfield 162, 4) := by decide +kernel
theorem f_71_4 : x_fe 71 4 = some (.getfield 4, 7) := by decide +kernel
theorem f_71_7 : x_fe 71 7 = some (.ifCond .ne (Int.ofNat 13), 10) := by decide +kernel
theorem f_71_10 : x_fe 71 10 = some (.iconst (-1000002), 12) := by decide +kernel
theorem f_71_12 : x_fe 71 12 = some (.ireturn, 13) := by decide +kernel
theorem f_71_13 : x_fe 71 13 = some (.iload 1, 14) := by decide +kernel
theorem f_71_14 : x_fe 71 14 = some (.ifCond .lt (Int.ofNat 22), 17) := by decide +kernel
theorem f_71_17 : x_fe 71 17 = some (.iload 1, 18) := by decide +kernel
theorem f_71_18 : x_fe 71 18 = some (.iconst (1), 19) := by decide +kernel
theorem f_71_19 : x_fe 71 19 = some (.if_icmp .le (Int.ofNat 25), 22) := by decide +kernel
theorem f_71_22 : x_fe 71 22 = some (.iconst (-1000001), 24) := by decide +kernel
theorem f_71_24 : x_fe 71 24 = some (.ireturn, 25) := by decide +kernel
theorem f_71_25 : x_fe 71 25 = some (.aload 0, 26) := by decide +kernel
theorem f_71_26 : x_fe 71 26 = some (.getfield 162, 29) := by decide +kernel
theorem f_71_29 : x_fe 71 29 = some (.invokevirtual 13, 32) := by decide +kernel
theorem f_71_32 : x_fe 71 32 = some (.istore 2, 33) := by decide +kernel
theorem f_71_33 : x_fe 71 33 = some (.iload 2, 34) := by decide +kernel
theorem f_71_34 : x_fe 71 34 = some (.ifCond .eq (Int.ofNat 42), 37) := by decide +kernel
theorem f_71_37 : x_fe 71 37 = some (.iload 2, 38) := by decide +kernel
theorem f_71_38 : x_fe 71 38 = some (.iconst (4), 39) := by decide +kernel
theorem f_71_39 : x_fe 71 39 = some (.if_icmp .le (Int.ofNat 45), 42) := by decide +kernel
theorem f_71_42 : x_fe 71 42 = some (.iconst (-1000000), 44) := by decide +kernel
theorem f_71_44 : x_fe 71 44 = some (.ireturn, 45) := by decide +kernel
theorem f_71_45 : x_fe 71 45 = some (.aload 0, 46) := by decide +kernel
theorem f_71_46 : x_fe 71 46 = some (.getfield 165, 49) := by decide +kernel
theorem f_71_49 : x_fe 71 49 = some (.aload 0, 50) := by decide +kernel
theorem f_71_50 : x_fe 71 50 = some (.getfield 162, 53) := by decide +kernel
theorem f_71_53 : x_fe 71 53 = some (.invokevirtual 17, 56) := by decide +kernel
theorem f_71_56 : x_fe 71 56 = some (.aload 0, 57) := by decide +kernel
theorem f_71_57 : x_fe 71 57 = some (.getfield 162, 60) := by decide +kernel
theorem f_71_60 : x_fe 71 60 = some (.aload 0, 61) := by decide +kernel
theorem f_71_61 : x_fe 71 61 = some (.getfield 165, 64) := by decide +kernel
theorem f_71_64 : x_fe 71 64 = some (.aload 0, 65) := by decide +kernel
theorem f_71_65 : x_fe 71 65 = some (.getfield 165, 68) := by decide +kernel
theorem f_71_68 : x_fe 71 68 = some (.aload 0, 69) := by decide +kernel
theorem f_71_69 : x_fe 71 69 = some (.getfield 162, 72) := by decide +kernel
theorem f_71_72 : x_fe 71 72 = some (.invokevirtual 18, 75) := by decide +kernel
theorem f_71_75 : x_fe 71 75 = some (.iload 2, 76) := by decide +kernel
theorem f_71_76 : x_fe 71 76 = some (.invokestatic 72, 79) := by decide +kernel
theorem f_71_79 : x_fe 71 79 = some (.istore 3, 80) := by decide +kernel
theorem f_71_80 : x_fe 71 80 = some (.iload 1, 81) := by decide +kernel
theorem f_71_81 : x_fe 71 81 = some (.ifCond .ne (Int.ofNat 88), 84) := by decide +kernel
theorem f_71_84 : x_fe 71 84 = some (.iload 3, 85) := by decide +kernel
theorem f_71_85 : x_fe 71 85 = some (.goto (Int.ofNat 95), 88) := by decide +kernel
theorem f_71_88 : x_fe 71 88 = some (.aload 0, 89) := by decide +kernel
theorem f_71_89 : x_fe 71 89 = some (.getfield 165, 92) := by decide +kernel
theorem f_71_92 : x_fe 71 92 = some (.getfield 36, 95) := by decide +kernel
theorem f_71_95 : x_fe 71 95 = some (.ireturn, 96) := by decide +kernel
theorem f_72_0 : x_fe 72 0 = some (.iload 3, 1) := by decide +kernel
theorem f_72_1 : x_fe 72 1 = some (.ifCond .le (Int.ofNat 17), 4) := by decide +kernel
theorem f_72_4 : x_fe 72 4 = some (.iload 2, 5) := by decide +kernel
theorem f_72_5 : x_fe 72 5 = some (.ifCond .lt (Int.ofNat 17), 8) := by decide +kernel
theorem f_72_8 : x_fe 72 8 = some (.iload 2, 9) := by decide +kernel
theorem f_72_9 : x_fe 72 9 = some (.aload 1, 10) := by decide +kernel
theorem f_72_10 : x_fe 72 10 = some (.getfield 34, 13) := by decide +kernel
theorem f_72_13 : x_fe 72 13 = some (.arraylength, 14) := by decide +kernel
theorem f_72_14 : x_fe 72 14 = some (.if_icmp .lt (Int.ofNat 19), 17) := by decide +kernel
theorem f_72_17 : x_fe 72 17 = some (.iconst (0), 18) := by decide +kernel
theorem f_72_18 : x_fe 72 18 = some (.ireturn, 19) := by decide +kernel
theorem f_72_19 : x_fe 72 19 = some (.aload 1, 20) := by decide +kernel
theorem f_72_20 : x_fe 72 20 = some (.getfield 34, 23) := by decide +kernel
theorem f_72_23 : x_fe 72 23 = some (.iload 2, 24) := by decide +kernel
theorem f_72_24 : x_fe 72 24 = some (.iaload, 25) := by decide +kernel
theorem f_72_25 : x_fe 72 25 = some (.iconst (-1000000000), 28) := by decide +kernel
theorem f_72_28 : x_fe 72 28 = some (.if_icmp .eq (Int.ofNat 38), 31) := by decide +kernel
theorem f_72_31 : x_fe 72 31 = some (.aload 1, 32) := by decide +kernel
theorem f_72_32 : x_fe 72 32 = some (.getfield 34, 35) := by decide +kernel
theorem f_72_35 : x_fe 72 35 = some (.iload 2, 36) := by decide +kernel
theorem f_72_36 : x_fe 72 36 = some (.iaload, 37) := by decide +kernel
theorem f_72_37 : x_fe 72 37 = some (.ireturn, 38) := by decide +kernel
theorem f_72_38 : x_fe 72 38 = some (.iconst (-1000000000), 41) := by decide +kernel
theorem f_72_41 : x_fe 72 41 = some (.istore 4, 43) := by decide +kernel
theorem f_72_43 : x_fe 72 43 = some (.iconst (0), 44) := by decide +kernel
theorem f_72_44 : x_fe 72 44 = some (.istore 5, 46) := by decide +kernel
theorem f_72_46 : x_fe 72 46 = some (.aload 1, 47) := by decide +kernel
theorem f_72_47 : x_fe 72 47 = some (.iload 2, 48) := by decide +kernel
theorem f_72_48 : x_fe 72 48 = some (.invokevirtual 20, 51) := by decide +kernel
theorem f_72_51 : x_fe 72 51 = some (.istore 6, 53) := by decide +kernel
theorem f_72_53 : x_fe 72 53 = some (.iconst (0), 54) := by decide +kernel
theorem f_72_54 : x_fe 72 54 = some (.istore 7, 56) := by decide +kernel
theorem f_72_56 : x_fe 72 56 = some (.iload 7, 58) := by decide +kernel
theorem f_72_58 : x_fe 72 58 = some (.aload 1, 59) := by decide +kernel
theorem f_72_59 : x_fe 72 59 = some (.getfield 35, 62) := by decide +kernel
theorem f_72_62 : x_fe 72 62 = some (.if_icmp .ge (Int.ofNat 200), 65) := by decide +kernel
theorem f_72_65 : x_fe 72 65 = some (.aload 1, 66) := by decide +kernel
theorem f_72_66 : x_fe 72 66 = some (.iload 2, 67) := by decide +kernel
theorem f_72_67 : x_fe 72 67 = some (.iload 6, 69) := by decide +kernel
theorem f_72_69 : x_fe 72 69 = some (.iload 7, 71) := by decide +kernel
theorem f_72_71 : x_fe 72 71 = some (.invokevirtual 21, 74) := by decide +kernel
theorem f_72_74 : x_fe 72 74 = some (.ifCond .ne (Int.ofNat 80), 77) := by decide +kernel
theorem f_72_77 : x_fe 72 77 = some (.goto (Int.ofNat 194), 80) := by decide +kernel
theorem f_72_80 : x_fe 72 80 = some (.iconst (0), 81) := by decide +kernel
theorem f_72_81 : x_fe 72 81 = some (.istore 8, 83) := by decide +kernel
theorem f_72_83 : x_fe 72 83 = some (.iload 8, 85) := by decide +kernel
theorem f_72_85 : x_fe 72 85 = some (.iconst (8), 87) := by decide +kernel
theorem f_72_87 : x_fe 72 87 = some (.if_icmp .ge (Int.ofNat 194), 90) := by decide +kernel
theorem f_72_90 : x_fe 72 90 = some (.iload 2, 91) := by decide +kernel
theorem f_72_91 : x_fe 72 91 = some (.iconst (511), 94) := by decide +kernel
theorem f_72_94 : x_fe 72 94 = some (.iand, 95) := by decide +kernel
theorem f_72_95 : x_fe 72 95 = some (.aload 0, 96) := by decide +kernel
theorem f_72_96 : x_fe 72 96 = some (.aload 1, 97) := by decide +kernel
theorem f_72_97 : x_fe 72 97 = some (.getfield 32, 100) := by decide +kernel
theorem f_72_100 : x_fe 72 100 = some (.iload 7, 102) := by decide +kernel
theorem f_72_102 : x_fe 72 102 = some (.iaload, 103) := by decide +kernel
theorem f_72_103 : x_fe 72 103 = some (.iload 8, 105) := by decide +kernel
theorem f_72_105 : x_fe 72 105 = some (.invokevirtual 8, 108) := by decide +kernel
theorem f_72_108 : x_fe 72 108 = some (.iand, 109) := by decide +kernel
theorem f_72_109 : x_fe 72 109 = some (.istore 9, 111) := by decide +kernel
theorem f_72_111 : x_fe 72 111 = some (.aload 1, 112) := by decide +kernel
theorem f_72_112 : x_fe 72 112 = some (.iload 2, 113) := by decide +kernel
theorem f_72_113 : x_fe 72 113 = some (.iload 7, 115) := by decide +kernel
theorem f_72_115 : x_fe 72 115 = some (.iload 9, 117) := by decide +kernel
theorem f_72_117 : x_fe 72 117 = some (.invokevirtual 22, 120) := by decide +kernel
theorem f_72_120 : x_fe 72 120 = some (.istore 10, 122) := by decide +kernel
theorem f_72_122 : x_fe 72 122 = some (.aload 0, 123) := by decide +kernel
theorem f_72_123 : x_fe 72 123 = some (.aload 1, 124) := by decide +kernel
theorem f_72_124 : x_fe 72 124 = some (.iload 10, 126) := by decide +kernel
theorem f_72_126 : x_fe 72 126 = some (.iload 3, 127) := by decide +kernel
theorem f_72_127 : x_fe 72 127 = some (.iconst (1), 128) := by decide +kernel
theorem f_72_128 : x_fe 72 128 = some (.isub, 129) := by decide +kernel
theorem f_72_129 : x_fe 72 129 = some (.invokestatic 72, 132) := by decide +kernel
theorem f_72_132 : x_fe 72 132 = some (.istore 11, 134) := by decide +kernel
theorem f_72_134 : x_fe 72 134 = some (.aload 0, 135) := by decide +kernel
theorem f_72_135 : x_fe 72 135 = some (.iload 9, 137) := by decide +kernel
theorem f_72_137 : x_fe 72 137 = some (.invokevirtual 9, 140) := by decide +kernel
theorem f_72_140 : x_fe 72 140 = some (.aload 1, 141) := by decide +kernel
theorem f_72_141 : x_fe 72 141 = some (.iload 10, 143) := by decide +kernel
theorem f_72_143 : x_fe 72 143 = some (.invokevirtual 20, 146) := by decide +kernel
theorem f_72_146 : x_fe 72 146 = some (.iload 6, 148) := by decide +kernel
theorem f_72_148 : x_fe 72 148 = some (.if_icmp .ne (Int.ofNat 156), 151) := by decide +kernel
theorem f_72_151 : x_fe 72 151 = some (.iload 11, 153) := by decide +kernel
theorem f_72_153 : x_fe 72 153 = some (.goto (Int.ofNat 159), 156) := by decide +kernel
theorem f_72_156 : x_fe 72 156 = some (.iload 11, 158) := by decide +kernel
theorem f_72_158 : x_fe 72 158 = some (.ineg, 159) := by decide +kernel
theorem f_72_159 : x_fe 72 159 = some (.iadd, 160) := by decide +kernel
theorem f_72_160 : x_fe 72 160 = some (.istore 12, 162) := by decide +kernel
theorem f_72_162 : x_fe 72 162 = some (.iload 12, 164) := by decide +kernel
theorem f_72_164 : x_fe 72 164 = some (.iload 4, 166) := by decide +kernel
theorem f_72_166 : x_fe 72 166 = some (.if_icmp .le (Int.ofNat 188), 169) := by decide +kernel
theorem f_72_169 : x_fe 72 169 = some (.iload 12, 171) := by decide +kernel
theorem f_72_171 : x_fe 72 171 = some (.istore 4, 173) := by decide +kernel
theorem f_72_173 : x_fe 72 173 = some (.iconst (8), 175) := by decide +kernel
theorem f_72_175 : x_fe 72 175 = some (.aload 1, 176) := by decide +kernel
theorem f_72_176 : x_fe 72 176 = some (.getfield 32, 179) := by decide +kernel
theorem f_72_179 : x_fe 72 179 = some (.iload 7, 181) := by decide +kernel
theorem f_72_181 : x_fe 72 181 = some (.iaload, 182) := by decide +kernel
theorem f_72_182 : x_fe 72 182 = some (.imul, 183) := by decide +kernel
theorem f_72_183 : x_fe 72 183 = some (.iload 8, 185) := by decide +kernel
theorem f_72_185 : x_fe 72 185 = some (.iadd, 186) := by decide +kernel
theorem f_72_186 : x_fe 72 186 = some (.istore 5, 188) := by decide +kernel
theorem f_72_188 : x_fe 72 188 = some (.iinc 8 (1), 191) := by decide +kernel
theorem f_72_191 : x_fe 72 191 = some (.goto (Int.ofNat 83), 194) := by decide +kernel
theorem f_72_194 : x_fe 72 194 = some (.iinc 7 (1), 197) := by decide +kernel
theorem f_72_197 : x_fe 72 197 = some (.goto (Int.ofNat 56), 200) := by decide +kernel
theorem f_72_200 : x_fe 72 200 = some (.iload 4, 202) := by decide +kernel
theorem f_72_202 : x_fe 72 202 = some (.iconst (-1000000000), 205) := by decide +kernel
theorem f_72_205 : x_fe 72 205 = some (.if_icmp .ne (Int.ofNat 212), 208) := by decide +kernel
theorem f_72_208 : x_fe 72 208 = some (.iconst (0), 209) := by decide +kernel
theorem f_72_209 : x_fe 72 209 = some (.goto (Int.ofNat 214), 212) := by decide +kernel
theorem f_72_212 : x_fe 72 212 = some (.iload 4, 214) := by decide +kernel
theorem f_72_214 : x_fe 72 214 = some (.istore 4, 216) := by decide +kernel
theorem f_72_216 : x_fe 72 216 = some (.aload 1, 217) := by decide +kernel
theorem f_72_217 : x_fe 72 217 = some (.getfield 34, 220) := by decide +kernel
theorem f_72_220 : x_fe 72 220 = some (.iload 2, 221) := by decide +kernel
theorem f_72_221 : x_fe 72 221 = some (.iload 4, 223) := by decide +kernel
theorem f_72_223 : x_fe 72 223 = some (.iastore, 224) := by decide +kernel
theorem f_72_224 : x_fe 72 224 = some (.aload 1, 225) := by decide +kernel
theorem f_72_225 : x_fe 72 225 = some (.iload 5, 227) := by decide +kernel
theorem f_72_227 : x_fe 72 227 = some (.putfield 36, 230) := by decide +kernel
theorem f_72_230 : x_fe 72 230 = some (.iload 4, 232) := by decide +kernel
theorem f_72_232 : x_fe 72 232 = some (.ireturn, 233) := by decide +kernel
theorem f_73_0 : x_fe 73 0 = some (.aload 0, 1) := by decide +kernel
theorem f_73_1 : x_fe 73 1 = some (.iload 1, 2) := by decide +kernel
theorem f_73_2 : x_fe 73 2 = some (.iload 2, 3) := by decide +kernel
theorem f_73_3 : x_fe 73 3 = some (.invokevirtual 59, 6) := by decide +kernel
theorem f_73_6 : x_fe 73 6 = some (.ifCond .eq (Int.ofNat 18), 9) := by decide +kernel
theorem f_73_9 : x_fe 73 9 = some (.iload 3, 10) := by decide +kernel
theorem f_73_10 : x_fe 73 10 = some (.ifCond .lt (Int.ofNat 18), 13) := by decide +kernel
theorem f_73_13 : x_fe 73 13 = some (.iload 3, 14) := by decide +kernel
theorem f_73_14 : x_fe 73 14 = some (.iconst (1), 15) := by decide +kernel
theorem f_73_15 : x_fe 73 15 = some (.if_icmp .le (Int.ofNat 21), 18) := by decide +kernel
theorem f_73_18 : x_fe 73 18 = some (.iconst (-1000001), 20) := by decide +kernel
theorem f_73_20 : x_fe 73 20 = some (.ireturn, 21) := by decide +kernel
theorem f_73_21 : x_fe 73 21 = some (.aload 0, 22) := by decide +kernel
theorem f_73_22 : x_fe 73 22 = some (.getfield 162, 25) := by decide +kernel
theorem f_73_25 : x_fe 73 25 = some (.iload 1, 26) := by decide +kernel
theorem f_73_26 : x_fe 73 26 = some (.invokevirtual 10, 29) := by decide +kernel
theorem f_73_29 : x_fe 73 29 = some (.ifCond .ne (Int.ofNat 35), 32) := by decide +kernel
theorem f_73_32 : x_fe 73 32 = some (.iconst (-1000002), 34) := by decide +kernel
theorem f_73_34 : x_fe 73 34 = some (.ireturn, 35) := by decide +kernel
theorem f_73_35 : x_fe 73 35 = some (.aload 0, 36) := by decide +kernel
theorem f_73_36 : x_fe 73 36 = some (.getfield 162, 39) := by decide +kernel
theorem f_73_39 : x_fe 73 39 = some (.getfield 6, 42) := by decide +kernel
end
section
theorem f_73_42 : x_fe 73 42 = some (.aload 0, 43) := by decide +kernel
theorem f_73_43 : x_fe 73 43 = some (.getfield 162, 46) := by decide +kernel
theorem f_73_46 : x_fe 73 46 = some (.iload 1, 47) := by decide +kernel
theorem f_73_47 : x_fe 73 47 = some (.iload 2, 48) := by decide +kernel
theorem f_73_48 : x_fe 73 48 = some (.invokevirtual 8, 51) := by decide +kernel
theorem f_73_51 : x_fe 73 51 = some (.iand, 52) := by decide +kernel
theorem f_73_52 : x_fe 73 52 = some (.istore 4, 54) := by decide +kernel
theorem f_73_54 : x_fe 73 54 = some (.aload 0, 55) := by decide +kernel
theorem f_73_55 : x_fe 73 55 = some (.getfield 162, 58) := by decide +kernel
theorem f_73_58 : x_fe 73 58 = some (.iload 4, 60) := by decide +kernel
theorem f_73_60 : x_fe 73 60 = some (.invokevirtual 9, 63) := by decide +kernel
theorem f_73_63 : x_fe 73 63 = some (.istore 5, 65) := by decide +kernel
theorem f_73_65 : x_fe 73 65 = some (.aload 0, 66) := by decide +kernel
theorem f_73_66 : x_fe 73 66 = some (.getfield 162, 69) := by decide +kernel
theorem f_73_69 : x_fe 73 69 = some (.invokevirtual 14, 72) := by decide +kernel
theorem f_73_72 : x_fe 73 72 = some (.istore 6, 74) := by decide +kernel
theorem f_73_74 : x_fe 73 74 = some (.iconst (8), 76) := by decide +kernel
theorem f_73_76 : x_fe 73 76 = some (.iload 6, 78) := by decide +kernel
theorem f_73_78 : x_fe 73 78 = some (.invokestatic 179, 81) := by decide +kernel
theorem f_73_81 : x_fe 73 81 = some (.imul, 82) := by decide +kernel
theorem f_73_82 : x_fe 73 82 = some (.istore 7, 84) := by decide +kernel
theorem f_73_84 : x_fe 73 84 = some (.iload 7, 86) := by decide +kernel
theorem f_73_86 : x_fe 73 86 = some (.ifCond .ne (Int.ofNat 100), 89) := by decide +kernel
theorem f_73_89 : x_fe 73 89 = some (.iload 3, 90) := by decide +kernel
theorem f_73_90 : x_fe 73 90 = some (.ifCond .ne (Int.ofNat 98), 93) := by decide +kernel
theorem f_73_93 : x_fe 73 93 = some (.iload 5, 95) := by decide +kernel
theorem f_73_95 : x_fe 73 95 = some (.goto (Int.ofNat 99), 98) := by decide +kernel
theorem f_73_98 : x_fe 73 98 = some (.iconst (1), 99) := by decide +kernel
theorem f_73_99 : x_fe 73 99 = some (.ireturn, 100) := by decide +kernel
theorem f_73_100 : x_fe 73 100 = some (.iload 5, 102) := by decide +kernel
theorem f_73_102 : x_fe 73 102 = some (.iload 7, 104) := by decide +kernel
theorem f_73_104 : x_fe 73 104 = some (.imul, 105) := by decide +kernel
theorem f_73_105 : x_fe 73 105 = some (.aload 0, 106) := by decide +kernel
theorem f_73_106 : x_fe 73 106 = some (.getfield 162, 109) := by decide +kernel
theorem f_73_109 : x_fe 73 109 = some (.iload 6, 111) := by decide +kernel
theorem f_73_111 : x_fe 73 111 = some (.iload 4, 113) := by decide +kernel
theorem f_73_113 : x_fe 73 113 = some (.ifCond .ne (Int.ofNat 122), 116) := by decide +kernel
theorem f_73_116 : x_fe 73 116 = some (.iconst (511), 119) := by decide +kernel
theorem f_73_119 : x_fe 73 119 = some (.goto (Int.ofNat 124), 122) := by decide +kernel
theorem f_73_122 : x_fe 73 122 = some (.iload 4, 124) := by decide +kernel
theorem f_73_124 : x_fe 73 124 = some (.invokestatic 74, 127) := by decide +kernel
theorem f_73_127 : x_fe 73 127 = some (.isub, 128) := by decide +kernel
theorem f_73_128 : x_fe 73 128 = some (.istore 8, 130) := by decide +kernel
theorem f_73_130 : x_fe 73 130 = some (.iload 8, 132) := by decide +kernel
theorem f_73_132 : x_fe 73 132 = some (.f2d, 135) := by decide +kernel
theorem f_73_135 : x_fe 73 135 = some (.iload 7, 137) := by decide +kernel
theorem f_73_137 : x_fe 73 137 = some (.invokestatic 75, 140) := by decide +kernel
theorem f_73_140 : x_fe 73 140 = some (.istore 9, 142) := by decide +kernel
theorem f_73_142 : x_fe 73 142 = some (.iload 3, 143) := by decide +kernel
theorem f_73_143 : x_fe 73 143 = some (.ifCond .ne (Int.ofNat 151), 146) := by decide +kernel
theorem f_73_146 : x_fe 73 146 = some (.iload 8, 148) := by decide +kernel
theorem f_73_148 : x_fe 73 148 = some (.goto (Int.ofNat 153), 151) := by decide +kernel
theorem f_73_151 : x_fe 73 151 = some (.iload 7, 153) := by decide +kernel
theorem f_73_153 : x_fe 73 153 = some (.iload 9, 155) := by decide +kernel
theorem f_73_155 : x_fe 73 155 = some (.idiv, 156) := by decide +kernel
theorem f_73_156 : x_fe 73 156 = some (.ireturn, 157) := by decide +kernel
theorem f_74_0 : x_fe 74 0 = some (.iconst (0), 1) := by decide +kernel
theorem f_74_1 : x_fe 74 1 = some (.istore 3, 2) := by decide +kernel
theorem f_74_2 : x_fe 74 2 = some (.iconst (0), 3) := by decide +kernel
theorem f_74_3 : x_fe 74 3 = some (.istore 4, 5) := by decide +kernel
theorem f_74_5 : x_fe 74 5 = some (.iload 4, 7) := by decide +kernel
theorem f_74_7 : x_fe 74 7 = some (.aload 0, 8) := by decide +kernel
theorem f_74_8 : x_fe 74 8 = some (.getfield 5, 11) := by decide +kernel
theorem f_74_11 : x_fe 74 11 = some (.if_icmp .ge (Int.ofNat 65), 14) := by decide +kernel
theorem f_74_14 : x_fe 74 14 = some (.iload 1, 15) := by decide +kernel
theorem f_74_15 : x_fe 74 15 = some (.iload 4, 17) := by decide +kernel
theorem f_74_17 : x_fe 74 17 = some (.ishr, 18) := by decide +kernel
theorem f_74_18 : x_fe 74 18 = some (.iconst (1), 19) := by decide +kernel
theorem f_74_19 : x_fe 74 19 = some (.iand, 20) := by decide +kernel
theorem f_74_20 : x_fe 74 20 = some (.ifCond .ne (Int.ofNat 26), 23) := by decide +kernel
theorem f_74_23 : x_fe 74 23 = some (.goto (Int.ofNat 59), 26) := by decide +kernel
theorem f_74_26 : x_fe 74 26 = some (.iconst (0), 27) := by decide +kernel
theorem f_74_27 : x_fe 74 27 = some (.istore 5, 29) := by decide +kernel
theorem f_74_29 : x_fe 74 29 = some (.iload 5, 31) := by decide +kernel
theorem f_74_31 : x_fe 74 31 = some (.iconst (8), 33) := by decide +kernel
theorem f_74_33 : x_fe 74 33 = some (.if_icmp .ge (Int.ofNat 59), 36) := by decide +kernel
theorem f_74_36 : x_fe 74 36 = some (.iload 3, 37) := by decide +kernel
theorem f_74_37 : x_fe 74 37 = some (.aload 0, 38) := by decide +kernel
theorem f_74_38 : x_fe 74 38 = some (.iload 2, 39) := by decide +kernel
theorem f_74_39 : x_fe 74 39 = some (.aload 0, 40) := by decide +kernel
theorem f_74_40 : x_fe 74 40 = some (.iload 4, 42) := by decide +kernel
theorem f_74_42 : x_fe 74 42 = some (.iload 5, 44) := by decide +kernel
theorem f_74_44 : x_fe 74 44 = some (.invokevirtual 8, 47) := by decide +kernel
theorem f_74_47 : x_fe 74 47 = some (.iand, 48) := by decide +kernel
theorem f_74_48 : x_fe 74 48 = some (.invokevirtual 9, 51) := by decide +kernel
theorem f_74_51 : x_fe 74 51 = some (.iadd, 52) := by decide +kernel
theorem f_74_52 : x_fe 74 52 = some (.istore 3, 53) := by decide +kernel
theorem f_74_53 : x_fe 74 53 = some (.iinc 5 (1), 56) := by decide +kernel
theorem f_74_56 : x_fe 74 56 = some (.goto (Int.ofNat 29), 59) := by decide +kernel
theorem f_74_59 : x_fe 74 59 = some (.iinc 4 (1), 62) := by decide +kernel
theorem f_74_62 : x_fe 74 62 = some (.goto (Int.ofNat 5), 65) := by decide +kernel
theorem f_74_65 : x_fe 74 65 = some (.iload 3, 66) := by decide +kernel
theorem f_74_66 : x_fe 74 66 = some (.ireturn, 67) := by decide +kernel
theorem f_75_0 : x_fe 75 0 = some (.iload 0, 1) := by decide +kernel
theorem f_75_1 : x_fe 75 1 = some (.istore 2, 2) := by decide +kernel
theorem f_75_2 : x_fe 75 2 = some (.iload 1, 3) := by decide +kernel
theorem f_75_3 : x_fe 75 3 = some (.iconst (1), 4) := by decide +kernel
theorem f_75_4 : x_fe 75 4 = some (.f2i, 7) := by decide +kernel
theorem f_75_7 : x_fe 75 7 = some (.istore 3, 8) := by decide +kernel
theorem f_75_8 : x_fe 75 8 = some (.iconst (0), 9) := by decide +kernel
theorem f_75_9 : x_fe 75 9 = some (.istore 4, 11) := by decide +kernel
theorem f_75_11 : x_fe 75 11 = some (.iload 4, 13) := by decide +kernel
theorem f_75_13 : x_fe 75 13 = some (.iconst (1000), 16) := by decide +kernel
theorem f_75_16 : x_fe 75 16 = some (.if_icmp .ge (Int.ofNat 42), 19) := by decide +kernel
theorem f_75_19 : x_fe 75 19 = some (.iload 2, 20) := by decide +kernel
theorem f_75_20 : x_fe 75 20 = some (.iload 3, 21) := by decide +kernel
theorem f_75_21 : x_fe 75 21 = some (.irem, 22) := by decide +kernel
theorem f_75_22 : x_fe 75 22 = some (.istore 5, 24) := by decide +kernel
theorem f_75_24 : x_fe 75 24 = some (.iload 5, 26) := by decide +kernel
theorem f_75_26 : x_fe 75 26 = some (.ifCond .ne (Int.ofNat 31), 29) := by decide +kernel
theorem f_75_29 : x_fe 75 29 = some (.iload 3, 30) := by decide +kernel
theorem f_75_30 : x_fe 75 30 = some (.ireturn, 31) := by decide +kernel
theorem f_75_31 : x_fe 75 31 = some (.iload 3, 32) := by decide +kernel
theorem f_75_32 : x_fe 75 32 = some (.istore 2, 33) := by decide +kernel
theorem f_75_33 : x_fe 75 33 = some (.iload 5, 35) := by decide +kernel
theorem f_75_35 : x_fe 75 35 = some (.istore 3, 36) := by decide +kernel
theorem f_75_36 : x_fe 75 36 = some (.iinc 4 (1), 39) := by decide +kernel
theorem f_75_39 : x_fe 75 39 = some (.goto (Int.ofNat 11), 42) := by decide +kernel
theorem f_75_42 : x_fe 75 42 = some (.iconst (1), 43) := by decide +kernel
theorem f_75_43 : x_fe 75 43 = some (.ireturn, 44) := by decide +kernel
theorem f_76_0 : x_fe 76 0 = some (.aload 0, 1) := by decide +kernel
theorem f_76_1 : x_fe 76 1 = some (.getfield 162, 4) := by decide +kernel
theorem f_76_4 : x_fe 76 4 = some (.getfield 4, 7) := by decide +kernel
theorem f_76_7 : x_fe 76 7 = some (.ifCond .ne (Int.ofNat 13), 10) := by decide +kernel
theorem f_76_10 : x_fe 76 10 = some (.iconst (-1000002), 12) := by decide +kernel
theorem f_76_12 : x_fe 76 12 = some (.ireturn, 13) := by decide +kernel
theorem f_76_13 : x_fe 76 13 = some (.iload 1, 14) := by decide +kernel
theorem f_76_14 : x_fe 76 14 = some (.invokestatic 62, 17) := by decide +kernel
theorem f_76_17 : x_fe 76 17 = some (.ifCond .eq (Int.ofNat 25), 20) := by decide +kernel
theorem f_76_20 : x_fe 76 20 = some (.iload 2, 21) := by decide +kernel
theorem f_76_21 : x_fe 76 21 = some (.iconst (-1), 22) := by decide +kernel
theorem f_76_22 : x_fe 76 22 = some (.if_icmp .ge (Int.ofNat 28), 25) := by decide +kernel
theorem f_76_25 : x_fe 76 25 = some (.iconst (-1000001), 27) := by decide +kernel
theorem f_76_27 : x_fe 76 27 = some (.ireturn, 28) := by decide +kernel
theorem f_76_28 : x_fe 76 28 = some (.iconst (0), 29) := by decide +kernel
theorem f_76_29 : x_fe 76 29 = some (.istore 3, 30) := by decide +kernel
theorem f_76_30 : x_fe 76 30 = some (.iload 3, 31) := by decide +kernel
theorem f_76_31 : x_fe 76 31 = some (.iconst (3), 32) := by decide +kernel
theorem f_76_32 : x_fe 76 32 = some (.if_icmp .gt (Int.ofNat 95), 35) := by decide +kernel
theorem f_76_35 : x_fe 76 35 = some (.aload 0, 36) := by decide +kernel
theorem f_76_36 : x_fe 76 36 = some (.getfield 162, 39) := by decide +kernel
theorem f_76_39 : x_fe 76 39 = some (.aload 0, 40) := by decide +kernel
theorem f_76_40 : x_fe 76 40 = some (.getfield 166, 43) := by decide +kernel
theorem f_76_43 : x_fe 76 43 = some (.iload 1, 44) := by decide +kernel
theorem f_76_44 : x_fe 76 44 = some (.iconst (511), 47) := by decide +kernel
theorem f_76_47 : x_fe 76 47 = some (.iconst (0), 48) := by decide +kernel
theorem f_76_48 : x_fe 76 48 = some (.iconst (0), 49) := by decide +kernel
theorem f_76_49 : x_fe 76 49 = some (.iload 3, 50) := by decide +kernel
theorem f_76_50 : x_fe 76 50 = some (.invokestatic 77, 53) := by decide +kernel
theorem f_76_53 : x_fe 76 53 = some (.ifCond .eq (Int.ofNat 89), 56) := by decide +kernel
theorem f_76_56 : x_fe 76 56 = some (.iload 2, 57) := by decide +kernel
theorem f_76_57 : x_fe 76 57 = some (.iconst (-1), 58) := by decide +kernel
theorem f_76_58 : x_fe 76 58 = some (.if_icmp .ne (Int.ofNat 63), 61) := by decide +kernel
theorem f_76_61 : x_fe 76 61 = some (.iload 3, 62) := by decide +kernel
theorem f_76_62 : x_fe 76 62 = some (.ireturn, 63) := by decide +kernel
theorem f_76_63 : x_fe 76 63 = some (.iload 2, 64) := by decide +kernel
theorem f_76_64 : x_fe 76 64 = some (.iload 3, 65) := by decide +kernel
theorem f_76_65 : x_fe 76 65 = some (.if_icmp .ge (Int.ofNat 86), 68) := by decide +kernel
theorem f_76_68 : x_fe 76 68 = some (.iload 2, 69) := by decide +kernel
theorem f_76_69 : x_fe 76 69 = some (.aload 0, 70) := by decide +kernel
theorem f_76_70 : x_fe 76 70 = some (.getfield 166, 73) := by decide +kernel
theorem f_76_73 : x_fe 76 73 = some (.arraylength, 74) := by decide +kernel
theorem f_76_74 : x_fe 76 74 = some (.if_icmp .ge (Int.ofNat 86), 77) := by decide +kernel
theorem f_76_77 : x_fe 76 77 = some (.aload 0, 78) := by decide +kernel
theorem f_76_78 : x_fe 76 78 = some (.getfield 166, 81) := by decide +kernel
theorem f_76_81 : x_fe 76 81 = some (.iload 2, 82) := by decide +kernel
theorem f_76_82 : x_fe 76 82 = some (.iaload, 83) := by decide +kernel
theorem f_76_83 : x_fe 76 83 = some (.goto (Int.ofNat 88), 86) := by decide +kernel
theorem f_76_86 : x_fe 76 86 = some (.iconst (-1000000), 88) := by decide +kernel
theorem f_76_88 : x_fe 76 88 = some (.ireturn, 89) := by decide +kernel
theorem f_76_89 : x_fe 76 89 = some (.iinc 3 (1), 92) := by decide +kernel
theorem f_76_92 : x_fe 76 92 = some (.goto (Int.ofNat 30), 95) := by decide +kernel
theorem f_76_95 : x_fe 76 95 = some (.iconst (-1000000), 97) := by decide +kernel
theorem f_76_97 : x_fe 76 97 = some (.ireturn, 98) := by decide +kernel
theorem f_77_0 : x_fe 77 0 = some (.iload 5, 2) := by decide +kernel
theorem f_77_2 : x_fe 77 2 = some (.iload 6, 4) := by decide +kernel
theorem f_77_4 : x_fe 77 4 = some (.if_icmp .ge (Int.ofNat 14), 7) := by decide +kernel
theorem f_77_7 : x_fe 77 7 = some (.iload 5, 9) := by decide +kernel
theorem f_77_9 : x_fe 77 9 = some (.aload 1, 10) := by decide +kernel
theorem f_77_10 : x_fe 77 10 = some (.arraylength, 11) := by decide +kernel
theorem f_77_11 : x_fe 77 11 = some (.if_icmp .lt (Int.ofNat 25), 14) := by decide +kernel
theorem f_77_14 : x_fe 77 14 = some (.iload 3, 15) := by decide +kernel
theorem f_77_15 : x_fe 77 15 = some (.iload 2, 16) := by decide +kernel
theorem f_77_16 : x_fe 77 16 = some (.if_icmp .ne (Int.ofNat 23), 19) := by decide +kernel
theorem f_77_19 : x_fe 77 19 = some (.iconst (1), 20) := by decide +kernel
theorem f_77_20 : x_fe 77 20 = some (.goto (Int.ofNat 24), 23) := by decide +kernel
theorem f_77_23 : x_fe 77 23 = some (.iconst (0), 24) := by decide +kernel
theorem f_77_24 : x_fe 77 24 = some (.ireturn, 25) := by decide +kernel
theorem f_77_25 : x_fe 77 25 = some (.iload 4, 27) := by decide +kernel
theorem f_77_27 : x_fe 77 27 = some (.istore 7, 29) := by decide +kernel
theorem f_77_29 : x_fe 77 29 = some (.iload 7, 31) := by decide +kernel
theorem f_77_31 : x_fe 77 31 = some (.aload 0, 32) := by decide +kernel
theorem f_77_32 : x_fe 77 32 = some (.getfield 5, 35) := by decide +kernel
theorem f_77_35 : x_fe 77 35 = some (.if_icmp .ge (Int.ofNat 118), 38) := by decide +kernel
theorem f_77_38 : x_fe 77 38 = some (.iconst (0), 39) := by decide +kernel
theorem f_77_39 : x_fe 77 39 = some (.istore 8, 41) := by decide +kernel
theorem f_77_41 : x_fe 77 41 = some (.iload 8, 43) := by decide +kernel
theorem f_77_43 : x_fe 77 43 = some (.iconst (8), 45) := by decide +kernel
theorem f_77_45 : x_fe 77 45 = some (.if_icmp .ge (Int.ofNat 112), 48) := by decide +kernel
theorem f_77_48 : x_fe 77 48 = some (.aload 0, 49) := by decide +kernel
theorem f_77_49 : x_fe 77 49 = some (.iload 7, 51) := by decide +kernel
theorem f_77_51 : x_fe 77 51 = some (.iload 8, 53) := by decide +kernel
theorem f_77_53 : x_fe 77 53 = some (.invokevirtual 8, 56) := by decide +kernel
theorem f_77_56 : x_fe 77 56 = some (.istore 9, 58) := by decide +kernel
theorem f_77_58 : x_fe 77 58 = some (.iload 9, 60) := by decide +kernel
theorem f_77_60 : x_fe 77 60 = some (.iload 2, 61) := by decide +kernel
theorem f_77_61 : x_fe 77 61 = some (.iand, 62) := by decide +kernel
theorem f_77_62 : x_fe 77 62 = some (.iload 2, 63) := by decide +kernel
theorem f_77_63 : x_fe 77 63 = some (.if_icmp .eq (Int.ofNat 69), 66) := by decide +kernel
theorem f_77_66 : x_fe 77 66 = some (.goto (Int.ofNat 106), 69) := by decide +kernel
theorem f_77_69 : x_fe 77 69 = some (.aload 1, 70) := by decide +kernel
theorem f_77_70 : x_fe 77 70 = some (.iload 5, 72) := by decide +kernel
theorem f_77_72 : x_fe 77 72 = some (.iconst (8), 74) := by decide +kernel
theorem f_77_74 : x_fe 77 74 = some (.iload 7, 76) := by decide +kernel
theorem f_77_76 : x_fe 77 76 = some (.imul, 77) := by decide +kernel
theorem f_77_77 : x_fe 77 77 = some (.iload 8, 79) := by decide +kernel
theorem f_77_79 : x_fe 77 79 = some (.iadd, 80) := by decide +kernel
theorem f_77_80 : x_fe 77 80 = some (.iastore, 81) := by decide +kernel
theorem f_77_81 : x_fe 77 81 = some (.aload 0, 82) := by decide +kernel
theorem f_77_82 : x_fe 77 82 = some (.aload 1, 83) := by decide +kernel
theorem f_77_83 : x_fe 77 83 = some (.iload 2, 84) := by decide +kernel
theorem f_77_84 : x_fe 77 84 = some (.iload 3, 85) := by decide +kernel
theorem f_77_85 : x_fe 77 85 = some (.iload 9, 87) := by decide +kernel
theorem f_77_87 : x_fe 77 87 = some (.iand, 88) := by decide +kernel
theorem f_77_88 : x_fe 77 88 = some (.iload 7, 90) := by decide +kernel
theorem f_77_90 : x_fe 77 90 = some (.iconst (1), 91) := by decide +kernel
theorem f_77_91 : x_fe 77 91 = some (.iadd, 92) := by decide +kernel
theorem f_77_92 : x_fe 77 92 = some (.iload 5, 94) := by decide +kernel
theorem f_77_94 : x_fe 77 94 = some (.iconst (1), 95) := by decide +kernel
theorem f_77_95 : x_fe 77 95 = some (.iadd, 96) := by decide +kernel
theorem f_77_96 : x_fe 77 96 = some (.iload 6, 98) := by decide +kernel
theorem f_77_98 : x_fe 77 98 = some (.invokestatic 77, 101) := by decide +kernel
theorem f_77_101 : x_fe 77 101 = some (.ifCond .eq (Int.ofNat 106), 104) := by decide +kernel
theorem f_77_104 : x_fe 77 104 = some (.iconst (1), 105) := by decide +kernel
theorem f_77_105 : x_fe 77 105 = some (.ireturn, 106) := by decide +kernel
theorem f_77_106 : x_fe 77 106 = some (.iinc 8 (1), 109) := by decide +kernel
theorem f_77_109 : x_fe 77 109 = some (.goto (Int.ofNat 41), 112) := by decide +kernel
theorem f_77_112 : x_fe 77 112 = some (.iinc 7 (1), 115) := by decide +kernel
theorem f_77_115 : x_fe 77 115 = some (.goto (Int.ofNat 29), 118) := by decide +kernel
theorem f_77_118 : x_fe 77 118 = some (.iconst (0), 119) := by decide +kernel
theorem f_77_119 : x_fe 77 119 = some (.ireturn, 120) := by decide +kernel
theorem f_78_0 : x_fe 78 0 = some (.aload 0, 1) := by decide +kernel
theorem f_78_1 : x_fe 78 1 = some (.getfield 162, 4) := by decide +kernel
theorem f_78_4 : x_fe 78 4 = some (.getfield 4, 7) := by decide +kernel
theorem f_78_7 : x_fe 78 7 = some (.ifCond .ne (Int.ofNat 13), 10) := by decide +kernel
theorem f_78_10 : x_fe 78 10 = some (.iconst (-1000002), 12) := by decide +kernel
theorem f_78_12 : x_fe 78 12 = some (.ireturn, 13) := by decide +kernel
theorem f_78_13 : x_fe 78 13 = some (.iload 1, 14) := by decide +kernel
theorem f_78_14 : x_fe 78 14 = some (.iconst (-1), 15) := by decide +kernel
theorem f_78_15 : x_fe 78 15 = some (.if_icmp .ge (Int.ofNat 21), 18) := by decide +kernel
theorem f_78_18 : x_fe 78 18 = some (.iconst (-1000001), 20) := by decide +kernel
theorem f_78_20 : x_fe 78 20 = some (.ireturn, 21) := by decide +kernel
theorem f_78_21 : x_fe 78 21 = some (.iconst (0), 22) := by decide +kernel
theorem f_78_22 : x_fe 78 22 = some (.istore 2, 23) := by decide +kernel
theorem f_78_23 : x_fe 78 23 = some (.iconst (0), 24) := by decide +kernel
theorem f_78_24 : x_fe 78 24 = some (.istore 3, 25) := by decide +kernel
theorem f_78_25 : x_fe 78 25 = some (.iload 3, 26) := by decide +kernel
theorem f_78_26 : x_fe 78 26 = some (.aload 0, 27) := by decide +kernel
theorem f_78_27 : x_fe 78 27 = some (.getfield 162, 30) := by decide +kernel
theorem f_78_30 : x_fe 78 30 = some (.getfield 5, 33) := by decide +kernel
theorem f_78_33 : x_fe 78 33 = some (.if_icmp .ge (Int.ofNat 130), 36) := by decide +kernel
theorem f_78_36 : x_fe 78 36 = some (.iload 3, 37) := by decide +kernel
theorem f_78_37 : x_fe 78 37 = some (.iconst (1), 38) := by decide +kernel
theorem f_78_38 : x_fe 78 38 = some (.iadd, 39) := by decide +kernel
theorem f_78_39 : x_fe 78 39 = some (.istore 4, 41) := by decide +kernel
theorem f_78_41 : x_fe 78 41 = some (.iload 4, 43) := by decide +kernel
theorem f_78_43 : x_fe 78 43 = some (.aload 0, 44) := by decide +kernel
theorem f_78_44 : x_fe 78 44 = some (.getfield 162, 47) := by decide +kernel
theorem f_78_47 : x_fe 78 47 = some (.getfield 5, 50) := by decide +kernel
theorem f_78_50 : x_fe 78 50 = some (.if_icmp .ge (Int.ofNat 124), 53) := by decide +kernel
theorem f_78_53 : x_fe 78 53 = some (.iload 4, 55) := by decide +kernel
theorem f_78_55 : x_fe 78 55 = some (.iconst (1), 56) := by decide +kernel
theorem f_78_56 : x_fe 78 56 = some (.iadd, 57) := by decide +kernel
theorem f_78_57 : x_fe 78 57 = some (.istore 5, 59) := by decide +kernel
theorem f_78_59 : x_fe 78 59 = some (.iload 5, 61) := by decide +kernel
theorem f_78_61 : x_fe 78 61 = some (.aload 0, 62) := by decide +kernel
theorem f_78_62 : x_fe 78 62 = some (.getfield 162, 65) := by decide +kernel
theorem f_78_65 : x_fe 78 65 = some (.getfield 5, 68) := by decide +kernel
theorem f_78_68 : x_fe 78 68 = some (.if_icmp .ge (Int.ofNat 118), 71) := by decide +kernel
theorem f_78_71 : x_fe 78 71 = some (.aload 0, 72) := by decide +kernel
theorem f_78_72 : x_fe 78 72 = some (.getfield 162, 75) := by decide +kernel
theorem f_78_75 : x_fe 78 75 = some (.iload 3, 76) := by decide +kernel
theorem f_78_76 : x_fe 78 76 = some (.iload 4, 78) := by decide +kernel
theorem f_78_78 : x_fe 78 78 = some (.iload 5, 80) := by decide +kernel
theorem f_78_80 : x_fe 78 80 = some (.invokestatic 79, 83) := by decide +kernel
theorem f_78_83 : x_fe 78 83 = some (.ifCond .ne (Int.ofNat 89), 86) := by decide +kernel
theorem f_78_86 : x_fe 78 86 = some (.goto (Int.ofNat 112), 89) := by decide +kernel
theorem f_78_89 : x_fe 78 89 = some (.iload 2, 90) := by decide +kernel
theorem f_78_90 : x_fe 78 90 = some (.iload 1, 91) := by decide +kernel
theorem f_78_91 : x_fe 78 91 = some (.if_icmp .ne (Int.ofNat 109), 94) := by decide +kernel
theorem f_78_94 : x_fe 78 94 = some (.iconst (400), 97) := by decide +kernel
theorem f_78_97 : x_fe 78 97 = some (.iload 3, 98) := by decide +kernel
theorem f_78_98 : x_fe 78 98 = some (.imul, 99) := by decide +kernel
theorem f_78_99 : x_fe 78 99 = some (.iconst (20), 101) := by decide +kernel
theorem f_78_101 : x_fe 78 101 = some (.iload 4, 103) := by decide +kernel
theorem f_78_103 : x_fe 78 103 = some (.imul, 104) := by decide +kernel
theorem f_78_104 : x_fe 78 104 = some (.iadd, 105) := by decide +kernel
theorem f_78_105 : x_fe 78 105 = some (.iload 5, 107) := by decide +kernel
theorem f_78_107 : x_fe 78 107 = some (.iadd, 108) := by decide +kernel
theorem f_78_108 : x_fe 78 108 = some (.ireturn, 109) := by decide +kernel
theorem f_78_109 : x_fe 78 109 = some (.iinc 2 (1), 112) := by decide +kernel
theorem f_78_112 : x_fe 78 112 = some (.iinc 5 (1), 115) := by decide +kernel
theorem f_78_115 : x_fe 78 115 = some (.goto (Int.ofNat 59), 118) := by decide +kernel
theorem f_78_118 : x_fe 78 118 = some (.iinc 4 (1), 121) := by decide +kernel
theorem f_78_121 : x_fe 78 121 = some (.goto (Int.ofNat 41), 124) := by decide +kernel
theorem f_78_124 : x_fe 78 124 = some (.iinc 3 (1), 127) := by decide +kernel
theorem f_78_127 : x_fe 78 127 = some (.goto (Int.ofNat 25), 130) := by decide +kernel
theorem f_78_130 : x_fe 78 130 = some (.iload 1, 131) := by decide +kernel
theorem f_78_131 : x_fe 78 131 = some (.iconst (-1), 132) := by decide +kernel
theorem f_78_132 : x_fe 78 132 = some (.if_icmp .ne (Int.ofNat 139), 135) := by decide +kernel
theorem f_78_135 : x_fe 78 135 = some (.iload 2, 136) := by decide +kernel
theorem f_78_136 : x_fe 78 136 = some (.goto (Int.ofNat 141), 139) := by decide +kernel
theorem f_78_139 : x_fe 78 139 = some (.iconst (-1000000), 141) := by decide +kernel
theorem f_78_141 : x_fe 78 141 = some (.ireturn, 142) := by decide +kernel
theorem f_79_0 : x_fe 79 0 = some (.iconst (0), 1) := by decide +kernel
theorem f_79_1 : x_fe 79 1 = some (.istore 4, 3) := by decide +kernel
theorem f_79_3 : x_fe 79 3 = some (.iload 4, 5) := by decide +kernel
theorem f_79_5 : x_fe 79 5 = some (.iconst (8), 7) := by decide +kernel
theorem f_79_7 : x_fe 79 7 = some (.if_icmp .ge (Int.ofNat 63), 10) := by decide +kernel
theorem f_79_10 : x_fe 79 10 = some (.aload 0, 11) := by decide +kernel
theorem f_79_11 : x_fe 79 11 = some (.iload 1, 12) := by decide +kernel
theorem f_79_12 : x_fe 79 12 = some (.iconst (0), 13) := by decide +kernel
theorem f_79_13 : x_fe 79 13 = some (.invokevirtual 8, 16) := by decide +kernel
theorem f_79_16 : x_fe 79 16 = some (.aload 0, 17) := by decide +kernel
theorem f_79_17 : x_fe 79 17 = some (.iload 2, 18) := by decide +kernel
theorem f_79_18 : x_fe 79 18 = some (.iload 4, 20) := by decide +kernel
theorem f_79_20 : x_fe 79 20 = some (.invokevirtual 8, 23) := by decide +kernel
theorem f_79_23 : x_fe 79 23 = some (.iand, 24) := by decide +kernel
theorem f_79_24 : x_fe 79 24 = some (.istore 5, 26) := by decide +kernel
theorem f_79_26 : x_fe 79 26 = some (.iconst (0), 27) := by decide +kernel
theorem f_79_27 : x_fe 79 27 = some (.istore 6, 29) := by decide +kernel
theorem f_79_29 : x_fe 79 29 = some (.iload 6, 31) := by decide +kernel
theorem f_79_31 : x_fe 79 31 = some (.iconst (8), 33) := by decide +kernel
theorem f_79_33 : x_fe 79 33 = some (.if_icmp .ge (Int.ofNat 57), 36) := by decide +kernel
theorem f_79_36 : x_fe 79 36 = some (.iload 5, 38) := by decide +kernel
theorem f_79_38 : x_fe 79 38 = some (.aload 0, 39) := by decide +kernel
theorem f_79_39 : x_fe 79 39 = some (.iload 3, 40) := by decide +kernel
theorem f_79_40 : x_fe 79 40 = some (.iload 6, 42) := by decide +kernel
theorem f_79_42 : x_fe 79 42 = some (.invokevirtual 8, 45) := by decide +kernel
theorem f_79_45 : x_fe 79 45 = some (.iand, 46) := by decide +kernel
theorem f_79_46 : x_fe 79 46 = some (.ifCond .ne (Int.ofNat 51), 49) := by decide +kernel
theorem f_79_49 : x_fe 79 49 = some (.iconst (1), 50) := by decide +kernel
theorem f_79_50 : x_fe 79 50 = some (.ireturn, 51) := by decide +kernel
theorem f_79_51 : x_fe 79 51 = some (.iinc 6 (1), 54) := by decide +kernel
theorem f_79_54 : x_fe 79 54 = some (.goto (Int.ofNat 29), 57) := by decide +kernel
theorem f_79_57 : x_fe 79 57 = some (.iinc 4 (1), 60) := by decide +kernel
theorem f_79_60 : x_fe 79 60 = some (.goto (Int.ofNat 3), 63) := by decide +kernel
theorem f_79_63 : x_fe 79 63 = some (.iconst (0), 64) := by decide +kernel
theorem f_79_64 : x_fe 79 64 = some (.ireturn, 65) := by decide +kernel
theorem f_80_0 : x_fe 80 0 = some (.aload 0, 1) := by decide +kernel
theorem f_80_1 : x_fe 80 1 = some (.iload 1, 2) := by decide +kernel
theorem f_80_2 : x_fe 80 2 = some (.invokevirtual 60, 5) := by decide +kernel
theorem f_80_5 : x_fe 80 5 = some (.ifCond .eq (Int.ofNat 17), 8) := by decide +kernel
theorem f_80_8 : x_fe 80 8 = some (.iload 2, 9) := by decide +kernel
theorem f_80_9 : x_fe 80 9 = some (.ifCond .lt (Int.ofNat 17), 12) := by decide +kernel
theorem f_80_12 : x_fe 80 12 = some (.iload 2, 13) := by decide +kernel
theorem f_80_13 : x_fe 80 13 = some (.iconst (1), 14) := by decide +kernel
theorem f_80_14 : x_fe 80 14 = some (.if_icmp .le (Int.ofNat 20), 17) := by decide +kernel
theorem f_80_17 : x_fe 80 17 = some (.iconst (-1000001), 19) := by decide +kernel
theorem f_80_19 : x_fe 80 19 = some (.ireturn, 20) := by decide +kernel
theorem f_80_20 : x_fe 80 20 = some (.iload 2, 21) := by decide +kernel
theorem f_80_21 : x_fe 80 21 = some (.ifCond .ne (Int.ofNat 35), 24) := by decide +kernel
theorem f_80_24 : x_fe 80 24 = some (.aload 0, 25) := by decide +kernel
theorem f_80_25 : x_fe 80 25 = some (.getfield 162, 28) := by decide +kernel
theorem f_80_28 : x_fe 80 28 = some (.iload 1, 29) := by decide +kernel
theorem f_80_29 : x_fe 80 29 = some (.invokestatic 81, 32) := by decide +kernel
theorem f_80_32 : x_fe 80 32 = some (.goto (Int.ofNat 43), 35) := by decide +kernel
theorem f_80_35 : x_fe 80 35 = some (.aload 0, 36) := by decide +kernel
theorem f_80_36 : x_fe 80 36 = some (.getfield 162, 39) := by decide +kernel
theorem f_80_39 : x_fe 80 39 = some (.iload 1, 40) := by decide +kernel
theorem f_80_40 : x_fe 80 40 = some (.invokevirtual 15, 43) := by decide +kernel
theorem f_80_43 : x_fe 80 43 = some (.ireturn, 44) := by decide +kernel
theorem f_81_0 : x_fe 81 0 = some (.aload 0, 1) := by decide +kernel
theorem f_81_1 : x_fe 81 1 = some (.iload 1, 2) := by decide +kernel
theorem f_81_2 : x_fe 81 2 = some (.invokestatic 82, 5) := by decide +kernel
theorem f_81_5 : x_fe 81 5 = some (.istore 2, 6) := by decide +kernel
theorem f_81_6 : x_fe 81 6 = some (.iconst (0), 7) := by decide +kernel
theorem f_81_7 : x_fe 81 7 = some (.istore 3, 8) := by decide +kernel
theorem f_81_8 : x_fe 81 8 = some (.iconst (0), 9) := by decide +kernel
theorem f_81_9 : x_fe 81 9 = some (.istore 4, 11) := by decide +kernel
theorem f_81_11 : x_fe 81 11 = some (.iload 4, 13) := by decide +kernel
theorem f_81_13 : x_fe 81 13 = some (.iload 2, 14) := by decide +kernel
theorem f_81_14 : x_fe 81 14 = some (.if_icmp .ge (Int.ofNat 37), 17) := by decide +kernel
theorem f_81_17 : x_fe 81 17 = some (.aload 0, 18) := by decide +kernel
theorem f_81_18 : x_fe 81 18 = some (.iload 4, 20) := by decide +kernel
theorem f_81_20 : x_fe 81 20 = some (.invokestatic 82, 23) := by decide +kernel
theorem f_81_23 : x_fe 81 23 = some (.iload 4, 25) := by decide +kernel
theorem f_81_25 : x_fe 81 25 = some (.if_icmp .ne (Int.ofNat 31), 28) := by decide +kernel
theorem f_81_28 : x_fe 81 28 = some (.iinc 3 (1), 31) := by decide +kernel
theorem f_81_31 : x_fe 81 31 = some (.iinc 4 (1), 34) := by decide +kernel
theorem f_81_34 : x_fe 81 34 = some (.goto (Int.ofNat 11), 37) := by decide +kernel
theorem f_81_37 : x_fe 81 37 = some (.iload 3, 38) := by decide +kernel
theorem f_81_38 : x_fe 81 38 = some (.ireturn, 39) := by decide +kernel
theorem f_82_0 : x_fe 82 0 = some (.iconst (0), 1) := by decide +kernel
theorem f_82_1 : x_fe 82 1 = some (.istore 2, 2) := by decide +kernel
theorem f_82_2 : x_fe 82 2 = some (.iload 2, 3) := by decide +kernel
theorem f_82_3 : x_fe 82 3 = some (.iload 1, 4) := by decide +kernel
theorem f_82_4 : x_fe 82 4 = some (.if_icmp .ge (Int.ofNat 44), 7) := by decide +kernel
theorem f_82_7 : x_fe 82 7 = some (.iconst (0), 8) := by decide +kernel
theorem f_82_8 : x_fe 82 8 = some (.istore 3, 9) := by decide +kernel
theorem f_82_9 : x_fe 82 9 = some (.iload 3, 10) := by decide +kernel
theorem f_82_10 : x_fe 82 10 = some (.iconst (8), 12) := by decide +kernel
theorem f_82_12 : x_fe 82 12 = some (.if_icmp .ge (Int.ofNat 38), 15) := by decide +kernel
theorem f_82_15 : x_fe 82 15 = some (.aload 0, 16) := by decide +kernel
theorem f_82_16 : x_fe 82 16 = some (.iload 2, 17) := by decide +kernel
theorem f_82_17 : x_fe 82 17 = some (.iload 3, 18) := by decide +kernel
theorem f_82_18 : x_fe 82 18 = some (.invokevirtual 8, 21) := by decide +kernel
theorem f_82_21 : x_fe 82 21 = some (.aload 0, 22) := by decide +kernel
theorem f_82_22 : x_fe 82 22 = some (.iload 1, 23) := by decide +kernel
theorem f_82_23 : x_fe 82 23 = some (.iconst (0), 24) := by decide +kernel
theorem f_82_24 : x_fe 82 24 = some (.invokevirtual 8, 27) := by decide +kernel
theorem f_82_27 : x_fe 82 27 = some (.if_icmp .ne (Int.ofNat 32), 30) := by decide +kernel
theorem f_82_30 : x_fe 82 30 = some (.iload 2, 31) := by decide +kernel
theorem f_82_31 : x_fe 82 31 = some (.ireturn, 32) := by decide +kernel
theorem f_82_32 : x_fe 82 32 = some (.iinc 3 (1), 35) := by decide +kernel
theorem f_82_35 : x_fe 82 35 = some (.goto (Int.ofNat 9), 38) := by decide +kernel
theorem f_82_38 : x_fe 82 38 = some (.iinc 2 (1), 41) := by decide +kernel
theorem f_82_41 : x_fe 82 41 = some (.goto (Int.ofNat 2), 44) := by decide +kernel
theorem f_82_44 : x_fe 82 44 = some (.iload 1, 45) := by decide +kernel
theorem f_82_45 : x_fe 82 45 = some (.ireturn, 46) := by decide +kernel
theorem f_83_0 : x_fe 83 0 = some (.aload 0, 1) := by decide +kernel
theorem f_83_1 : x_fe 83 1 = some (.getfield 162, 4) := by decide +kernel
theorem f_83_4 : x_fe 83 4 = some (.getfield 4, 7) := by decide +kernel
theorem f_83_7 : x_fe 83 7 = some (.ifCond .ne (Int.ofNat 13), 10) := by decide +kernel
theorem f_83_10 : x_fe 83 10 = some (.iconst (-1000002), 12) := by decide +kernel
theorem f_83_12 : x_fe 83 12 = some (.ireturn, 13) := by decide +kernel
theorem f_83_13 : x_fe 83 13 = some (.iload 1, 14) := by decide +kernel
theorem f_83_14 : x_fe 83 14 = some (.invokestatic 62, 17) := by decide +kernel
theorem f_83_17 : x_fe 83 17 = some (.ifCond .eq (Int.ofNat 40), 20) := by decide +kernel
theorem f_83_20 : x_fe 83 20 = some (.iload 2, 21) := by decide +kernel
theorem f_83_21 : x_fe 83 21 = some (.invokestatic 62, 24) := by decide +kernel
theorem f_83_24 : x_fe 83 24 = some (.ifCond .eq (Int.ofNat 40), 27) := by decide +kernel
theorem f_83_27 : x_fe 83 27 = some (.iload 3, 28) := by decide +kernel
theorem f_83_28 : x_fe 83 28 = some (.iconst (-1), 29) := by decide +kernel
theorem f_83_29 : x_fe 83 29 = some (.if_icmp .eq (Int.ofNat 43), 32) := by decide +kernel
theorem f_83_32 : x_fe 83 32 = some (.aload 0, 33) := by decide +kernel
theorem f_83_33 : x_fe 83 33 = some (.iload 3, 34) := by decide +kernel
theorem f_83_34 : x_fe 83 34 = some (.invokevirtual 60, 37) := by decide +kernel
theorem f_83_37 : x_fe 83 37 = some (.ifCond .ne (Int.ofNat 43), 40) := by decide +kernel
theorem f_83_40 : x_fe 83 40 = some (.iconst (-1000001), 42) := by decide +kernel
theorem f_83_42 : x_fe 83 42 = some (.ireturn, 43) := by decide +kernel
theorem f_83_43 : x_fe 83 43 = some (.iload 3, 44) := by decide +kernel
theorem f_83_44 : x_fe 83 44 = some (.iconst (-1), 45) := by decide +kernel
theorem f_83_45 : x_fe 83 45 = some (.if_icmp .eq (Int.ofNat 59), 48) := by decide +kernel
theorem f_83_48 : x_fe 83 48 = some (.aload 0, 49) := by decide +kernel
theorem f_83_49 : x_fe 83 49 = some (.getfield 162, 52) := by decide +kernel
theorem f_83_52 : x_fe 83 52 = some (.iload 1, 53) := by decide +kernel
theorem f_83_53 : x_fe 83 53 = some (.iload 2, 54) := by decide +kernel
theorem f_83_54 : x_fe 83 54 = some (.iload 3, 55) := by decide +kernel
theorem f_83_55 : x_fe 83 55 = some (.invokestatic 84, 58) := by decide +kernel
theorem f_83_58 : x_fe 83 58 = some (.ireturn, 59) := by decide +kernel
theorem f_83_59 : x_fe 83 59 = some (.iconst (0), 60) := by decide +kernel
theorem f_83_60 : x_fe 83 60 = some (.istore 4, 62) := by decide +kernel
theorem f_83_62 : x_fe 83 62 = some (.iconst (0), 63) := by decide +kernel
theorem f_83_63 : x_fe 83 63 = some (.istore 5, 65) := by decide +kernel
theorem f_83_65 : x_fe 83 65 = some (.iload 5, 67) := by decide +kernel
theorem f_83_67 : x_fe 83 67 = some (.aload 0, 68) := by decide +kernel
theorem f_83_68 : x_fe 83 68 = some (.getfield 162, 71) := by decide +kernel
theorem f_83_71 : x_fe 83 71 = some (.getfield 5, 74) := by decide +kernel
theorem f_83_74 : x_fe 83 74 = some (.if_icmp .ge (Int.ofNat 108), 77) := by decide +kernel
theorem f_83_77 : x_fe 83 77 = some (.aload 0, 78) := by decide +kernel
theorem f_83_78 : x_fe 83 78 = some (.getfield 162, 81) := by decide +kernel
theorem f_83_81 : x_fe 83 81 = some (.iload 1, 82) := by decide +kernel
theorem f_83_82 : x_fe 83 82 = some (.iload 2, 83) := by decide +kernel
theorem f_83_83 : x_fe 83 83 = some (.iload 5, 85) := by decide +kernel
theorem f_83_85 : x_fe 83 85 = some (.invokestatic 84, 88) := by decide +kernel
theorem f_83_88 : x_fe 83 88 = some (.iconst (-1000000), 90) := by decide +kernel
theorem f_83_90 : x_fe 83 90 = some (.if_icmp .eq (Int.ofNat 102), 93) := by decide +kernel
theorem f_83_93 : x_fe 83 93 = some (.iload 4, 95) := by decide +kernel
theorem f_83_95 : x_fe 83 95 = some (.iconst (1), 96) := by decide +kernel
theorem f_83_96 : x_fe 83 96 = some (.iload 5, 98) := by decide +kernel
theorem f_83_98 : x_fe 83 98 = some (.ishl, 99) := by decide +kernel
theorem f_83_99 : x_fe 83 99 = some (.ior, 100) := by decide +kernel
theorem f_83_100 : x_fe 83 100 = some (.istore 4, 102) := by decide +kernel
theorem f_83_102 : x_fe 83 102 = some (.iinc 5 (1), 105) := by decide +kernel
theorem f_83_105 : x_fe 83 105 = some (.goto (Int.ofNat 65), 108) := by decide +kernel
theorem f_83_108 : x_fe 83 108 = some (.iload 4, 110) := by decide +kernel
theorem f_83_110 : x_fe 83 110 = some (.ireturn, 111) := by decide +kernel
theorem f_84_0 : x_fe 84 0 = some (.iconst (0), 1) := by decide +kernel
theorem f_84_1 : x_fe 84 1 = some (.istore 4, 3) := by decide +kernel
theorem f_84_3 : x_fe 84 3 = some (.iload 4, 5) := by decide +kernel
theorem f_84_5 : x_fe 84 5 = some (.iconst (8), 7) := by decide +kernel
theorem f_84_7 : x_fe 84 7 = some (.if_icmp .ge (Int.ofNat 32), 10) := by decide +kernel
theorem f_84_10 : x_fe 84 10 = some (.iload 1, 11) := by decide +kernel
theorem f_84_11 : x_fe 84 11 = some (.aload 0, 12) := by decide +kernel
theorem f_84_12 : x_fe 84 12 = some (.iload 3, 13) := by decide +kernel
theorem f_84_13 : x_fe 84 13 = some (.iload 4, 15) := by decide +kernel
theorem f_84_15 : x_fe 84 15 = some (.invokevirtual 8, 18) := by decide +kernel
theorem f_84_18 : x_fe 84 18 = some (.iand, 19) := by decide +kernel
theorem f_84_19 : x_fe 84 19 = some (.iload 2, 20) := by decide +kernel
theorem f_84_20 : x_fe 84 20 = some (.if_icmp .ne (Int.ofNat 26), 23) := by decide +kernel
theorem f_84_23 : x_fe 84 23 = some (.iload 4, 25) := by decide +kernel
theorem f_84_25 : x_fe 84 25 = some (.ireturn, 26) := by decide +kernel
theorem f_84_26 : x_fe 84 26 = some (.iinc 4 (1), 29) := by decide +kernel
theorem f_84_29 : x_fe 84 29 = some (.goto (Int.ofNat 3), 32) := by decide +kernel
theorem f_84_32 : x_fe 84 32 = some (.iconst (-1000000), 34) := by decide +kernel
theorem f_84_34 : x_fe 84 34 = some (.ireturn, 35) := by decide +kernel
theorem f_85_0 : x_fe 85 0 = some (.iload 1, 1) := by decide +kernel
theorem f_85_1 : x_fe 85 1 = some (.ifCond .lt (Int.ofNat 9), 4) := by decide +kernel
theorem f_85_4 : x_fe 85 4 = some (.iload 1, 5) := by decide +kernel
theorem f_85_5 : x_fe 85 5 = some (.iconst (2), 6) := by decide +kernel
theorem f_85_6 : x_fe 85 6 = some (.if_icmp .lt (Int.ofNat 12), 9) := by decide +kernel
theorem f_85_9 : x_fe 85 9 = some (.iconst (-1000001), 11) := by decide +kernel
theorem f_85_11 : x_fe 85 11 = some (.ireturn, 12) := by decide +kernel
theorem f_85_12 : x_fe 85 12 = some (.aload 0, 13) := by decide +kernel
theorem f_85_13 : x_fe 85 13 = some (.getfield 162, 16) := by decide +kernel
theorem f_85_16 : x_fe 85 16 = some (.getfield 4, 19) := by decide +kernel
theorem f_85_19 : x_fe 85 19 = some (.ifCond .ne (Int.ofNat 25), 22) := by decide +kernel
theorem f_85_22 : x_fe 85 22 = some (.iconst (-1000002), 24) := by decide +kernel
theorem f_85_24 : x_fe 85 24 = some (.ireturn, 25) := by decide +kernel
theorem f_85_25 : x_fe 85 25 = some (.aload 0, 26) := by decide +kernel
theorem f_85_26 : x_fe 85 26 = some (.getfield 164, 29) := by decide +kernel
theorem f_85_29 : x_fe 85 29 = some (.iload 1, 30) := by decide +kernel
theorem f_85_30 : x_fe 85 30 = some (.aaload, 31) := by decide +kernel
theorem f_85_31 : x_fe 85 31 = some (.aload 0, 32) := by decide +kernel
theorem f_85_32 : x_fe 85 32 = some (.getfield 162, 35) := by decide +kernel
theorem f_85_35 : x_fe 85 35 = some (.invokevirtual 7, 38) := by decide +kernel
theorem f_85_38 : x_fe 85 38 = some (.iconst (1), 39) := by decide +kernel
theorem f_85_39 : x_fe 85 39 = some (.ireturn, 40) := by decide +kernel
theorem f_86_0 : x_fe 86 0 = some (.iload 1, 1) := by decide +kernel
theorem f_86_1 : x_fe 86 1 = some (.ifCond .lt (Int.ofNat 9), 4) := by decide +kernel
theorem f_86_4 : x_fe 86 4 = some (.iload 1, 5) := by decide +kernel
theorem f_86_5 : x_fe 86 5 = some (.iconst (2), 6) := by decide +kernel
theorem f_86_6 : x_fe 86 6 = some (.if_icmp .lt (Int.ofNat 12), 9) := by decide +kernel
theorem f_86_9 : x_fe 86 9 = some (.iconst (-1000001), 11) := by decide +kernel
theorem f_86_11 : x_fe 86 11 = some (.ireturn, 12) := by decide +kernel
theorem f_86_12 : x_fe 86 12 = some (.aload 0, 13) := by decide +kernel
theorem f_86_13 : x_fe 86 13 = some (.getfield 164, 16) := by decide +kernel
theorem f_86_16 : x_fe 86 16 = some (.iload 1, 17) := by decide +kernel
theorem f_86_17 : x_fe 86 17 = some (.aaload, 18) := by decide +kernel
theorem f_86_18 : x_fe 86 18 = some (.getfield 4, 21) := by decide +kernel
theorem f_86_21 : x_fe 86 21 = some (.ifCond .ne (Int.ofNat 27), 24) := by decide +kernel
theorem f_86_24 : x_fe 86 24 = some (.iconst (-1000002), 26) := by decide +kernel
theorem f_86_26 : x_fe 86 26 = some (.ireturn, 27) := by decide +kernel
theorem f_86_27 : x_fe 86 27 = some (.aload 0, 28) := by decide +kernel
theorem f_86_28 : x_fe 86 28 = some (.getfield 162, 31) := by decide +kernel
theorem f_86_31 : x_fe 86 31 = some (.aload 0, 32) := by decide +kernel
theorem f_86_32 : x_fe 86 32 = some (.getfield 164, 35) := by decide +kernel
theorem f_86_35 : x_fe 86 35 = some (.iload 1, 36) := by decide +kernel
theorem f_86_36 : x_fe 86 36 = some (.aaload, 37) := by decide +kernel
theorem f_86_37 : x_fe 86 37 = some (.invokevirtual 7, 40) := by decide +kernel
theorem f_86_40 : x_fe 86 40 = some (.iconst (1), 41) := by decide +kernel
theorem f_86_41 : x_fe 86 41 = some (.ireturn, 42) := by decide +kernel
theorem f_87_0 : x_fe 87 0 = some (.aload 0, 1) := by decide +kernel
theorem f_87_1 : x_fe 87 1 = some (.iload 1, 2) := by decide +kernel
theorem f_87_2 : x_fe 87 2 = some (.invokevirtual 60, 5) := by decide +kernel
theorem f_87_5 : x_fe 87 5 = some (.ifCond .eq (Int.ofNat 19), 8) := by decide +kernel
theorem f_87_8 : x_fe 87 8 = some (.aload 0, 9) := by decide +kernel
theorem f_87_9 : x_fe 87 9 = some (.getfield 162, 12) := by decide +kernel
theorem f_87_12 : x_fe 87 12 = some (.iload 1, 13) := by decide +kernel
theorem f_87_13 : x_fe 87 13 = some (.invokestatic 88, 16) := by decide +kernel
theorem f_87_16 : x_fe 87 16 = some (.goto (Int.ofNat 21), 19) := by decide +kernel
theorem f_87_19 : x_fe 87 19 = some (.iconst (-1000001), 21) := by decide +kernel
theorem f_87_21 : x_fe 87 21 = some (.ireturn, 22) := by decide +kernel
theorem f_88_0 : x_fe 88 0 = some (.aload 0, 1) := by decide +kernel
theorem f_88_1 : x_fe 88 1 = some (.iload 1, 2) := by decide +kernel
theorem f_88_2 : x_fe 88 2 = some (.iconst (2), 3) := by decide +kernel
theorem f_88_3 : x_fe 88 3 = some (.invokestatic 89, 6) := by decide +kernel
theorem f_88_6 : x_fe 88 6 = some (.ifCond .eq (Int.ofNat 11), 9) := by decide +kernel
theorem f_88_9 : x_fe 88 9 = some (.iconst (2), 10) := by decide +kernel
theorem f_88_10 : x_fe 88 10 = some (.ireturn, 11) := by decide +kernel
theorem f_88_11 : x_fe 88 11 = some (.aload 0, 12) := by decide +kernel
theorem f_88_12 : x_fe 88 12 = some (.iload 1, 13) := by decide +kernel
theorem f_88_13 : x_fe 88 13 = some (.iconst (5), 14) := by decide +kernel
theorem f_88_14 : x_fe 88 14 = some (.invokestatic 89, 17) := by decide +kernel
theorem f_88_17 : x_fe 88 17 = some (.ifCond .eq (Int.ofNat 22), 20) := by decide +kernel
theorem f_88_20 : x_fe 88 20 = some (.iconst (5), 21) := by decide +kernel
theorem f_88_21 : x_fe 88 21 = some (.ireturn, 22) := by decide +kernel
theorem f_88_22 : x_fe 88 22 = some (.aload 0, 23) := by decide +kernel
theorem f_88_23 : x_fe 88 23 = some (.iload 1, 24) := by decide +kernel
theorem f_88_24 : x_fe 88 24 = some (.iconst (3), 25) := by decide +kernel
theorem f_88_25 : x_fe 88 25 = some (.invokestatic 89, 28) := by decide +kernel
theorem f_88_28 : x_fe 88 28 = some (.ifCond .eq (Int.ofNat 33), 31) := by decide +kernel
theorem f_88_31 : x_fe 88 31 = some (.iconst (3), 32) := by decide +kernel
theorem f_88_32 : x_fe 88 32 = some (.ireturn, 33) := by decide +kernel
theorem f_88_33 : x_fe 88 33 = some (.aload 0, 34) := by decide +kernel
theorem f_88_34 : x_fe 88 34 = some (.iload 1, 35) := by decide +kernel
theorem f_88_35 : x_fe 88 35 = some (.iconst (4), 36) := by decide +kernel
theorem f_88_36 : x_fe 88 36 = some (.invokestatic 89, 39) := by decide +kernel
theorem f_88_39 : x_fe 88 39 = some (.ifCond .eq (Int.ofNat 46), 42) := by decide +kernel
theorem f_88_42 : x_fe 88 42 = some (.iconst (4), 43) := by decide +kernel
theorem f_88_43 : x_fe 88 43 = some (.goto (Int.ofNat 47), 46) := by decide +kernel
theorem f_88_46 : x_fe 88 46 = some (.iconst (1), 47) := by decide +kernel
theorem f_88_47 : x_fe 88 47 = some (.ireturn, 48) := by decide +kernel
theorem f_89_0 : x_fe 89 0 = some (.aload 0, 1) := by decide +kernel
theorem f_89_1 : x_fe 89 1 = some (.iload 1, 2) := by decide +kernel
theorem f_89_2 : x_fe 89 2 = some (.iconst (0), 3) := by decide +kernel
theorem f_89_3 : x_fe 89 3 = some (.invokevirtual 8, 6) := by decide +kernel
theorem f_89_6 : x_fe 89 6 = some (.invokestatic 179, 9) := by decide +kernel
theorem f_89_9 : x_fe 89 9 = some (.istore 3, 10) := by decide +kernel
theorem f_89_10 : x_fe 89 10 = some (.iload 3, 11) := by decide +kernel
theorem f_89_11 : x_fe 89 11 = some (.ifCond .le (Int.ofNat 27), 14) := by decide +kernel
theorem f_89_14 : x_fe 89 14 = some (.aload 0, 15) := by decide +kernel
theorem f_89_15 : x_fe 89 15 = some (.iload 1, 16) := by decide +kernel
theorem f_89_16 : x_fe 89 16 = some (.invokevirtual 15, 19) := by decide +kernel
theorem f_89_19 : x_fe 89 19 = some (.iconst (1), 20) := by decide +kernel
theorem f_89_20 : x_fe 89 20 = some (.if_icmp .ne (Int.ofNat 27), 23) := by decide +kernel
theorem f_89_23 : x_fe 89 23 = some (.iconst (1), 24) := by decide +kernel
theorem f_89_24 : x_fe 89 24 = some (.goto (Int.ofNat 28), 27) := by decide +kernel
theorem f_89_27 : x_fe 89 27 = some (.iconst (0), 28) := by decide +kernel
theorem f_89_28 : x_fe 89 28 = some (.istore 4, 30) := by decide +kernel
theorem f_89_30 : x_fe 89 30 = some (.iload 2, 31) := by decide +kernel
theorem f_89_31 : x_fe 89 31 = some (.tableswitch (96) (0) (5) #[37, 39, 49, 59, 62, 79], 68) := by decide +kernel
theorem f_89_68 : x_fe 89 68 = some (.iconst (1), 69) := by decide +kernel
theorem f_89_69 : x_fe 89 69 = some (.ireturn, 70) := by decide +kernel
theorem f_89_70 : x_fe 89 70 = some (.iload 3, 71) := by decide +kernel
theorem f_89_71 : x_fe 89 71 = some (.ifCond .le (Int.ofNat 78), 74) := by decide +kernel
theorem f_89_74 : x_fe 89 74 = some (.iconst (1), 75) := by decide +kernel
theorem f_89_75 : x_fe 89 75 = some (.goto (Int.ofNat 79), 78) := by decide +kernel
theorem f_89_78 : x_fe 89 78 = some (.iconst (0), 79) := by decide +kernel
theorem f_89_79 : x_fe 89 79 = some (.ireturn, 80) := by decide +kernel
theorem f_89_80 : x_fe 89 80 = some (.iload 3, 81) := by decide +kernel
theorem f_89_81 : x_fe 89 81 = some (.ifCond .ne (Int.ofNat 88), 84) := by decide +kernel
theorem f_89_84 : x_fe 89 84 = some (.iconst (1), 85) := by decide +kernel
theorem f_89_85 : x_fe 89 85 = some (.goto (Int.ofNat 89), 88) := by decide +kernel
theorem f_89_88 : x_fe 89 88 = some (.iconst (0), 89) := by decide +kernel
theorem f_89_89 : x_fe 89 89 = some (.ireturn, 90) := by decide +kernel
theorem f_89_90 : x_fe 89 90 = some (.iload 4, 92) := by decide +kernel
theorem f_89_92 : x_fe 89 92 = some (.ireturn, 93) := by decide +kernel
theorem f_89_93 : x_fe 89 93 = some (.iload 4, 95) := by decide +kernel
theorem f_89_95 : x_fe 89 95 = some (.ifCond .ne (Int.ofNat 108), 98) := by decide +kernel
theorem f_89_98 : x_fe 89 98 = some (.iload 3, 99) := by decide +kernel
theorem f_89_99 : x_fe 89 99 = some (.iconst (6), 101) := by decide +kernel
theorem f_89_101 : x_fe 89 101 = some (.if_icmp .lt (Int.ofNat 108), 104) := by decide +kernel
theorem f_89_104 : x_fe 89 104 = some (.iconst (1), 105) := by decide +kernel
theorem f_89_105 : x_fe 89 105 = some (.goto (Int.ofNat 109), 108) := by decide +kernel
theorem f_89_108 : x_fe 89 108 = some (.iconst (0), 109) := by decide +kernel
theorem f_89_109 : x_fe 89 109 = some (.ireturn, 110) := by decide +kernel
theorem f_89_110 : x_fe 89 110 = some (.iload 4, 112) := by decide +kernel
theorem f_89_112 : x_fe 89 112 = some (.ifCond .eq (Int.ofNat 125), 115) := by decide +kernel
theorem f_89_115 : x_fe 89 115 = some (.iload 3, 116) := by decide +kernel
theorem f_89_116 : x_fe 89 116 = some (.iconst (6), 118) := by decide +kernel
theorem f_89_118 : x_fe 89 118 = some (.if_icmp .lt (Int.ofNat 125), 121) := by decide +kernel
theorem f_89_121 : x_fe 89 121 = some (.iconst (1), 122) := by decide +kernel
theorem f_89_122 : x_fe 89 122 = some (.goto (Int.ofNat 126), 125) := by decide +kernel
theorem f_89_125 : x_fe 89 125 = some (.iconst (0), 126) := by decide +kernel
theorem f_89_126 : x_fe 89 126 = some (.ireturn, 127) := by decide +kernel
theorem f_89_127 : x_fe 89 127 = some (.iconst (0), 128) := by decide +kernel
theorem f_89_128 : x_fe 89 128 = some (.ireturn, 129) := by decide +kernel
theorem f_90_0 : x_fe 90 0 = some (.aload 0, 1) := by decide +kernel
theorem f_90_1 : x_fe 90 1 = some (.iload 1, 2) := by decide +kernel
theorem f_90_2 : x_fe 90 2 = some (.invokevirtual 60, 5) := by decide +kernel
theorem f_90_5 : x_fe 90 5 = some (.ifCond .eq (Int.ofNat 18), 8) := by decide +kernel
theorem f_90_8 : x_fe 90 8 = some (.iload 2, 9) := by decide +kernel
theorem f_90_9 : x_fe 90 9 = some (.ifCond .lt (Int.ofNat 18), 12) := by decide +kernel
theorem f_90_12 : x_fe 90 12 = some (.iload 2, 13) := by decide +kernel
theorem f_90_13 : x_fe 90 13 = some (.iconst (6), 15) := by decide +kernel
theorem f_90_15 : x_fe 90 15 = some (.if_icmp .lt (Int.ofNat 21), 18) := by decide +kernel
theorem f_90_18 : x_fe 90 18 = some (.iconst (-1000001), 20) := by decide +kernel
theorem f_90_20 : x_fe 90 20 = some (.ireturn, 21) := by decide +kernel
theorem f_90_21 : x_fe 90 21 = some (.aload 0, 22) := by decide +kernel
theorem f_90_22 : x_fe 90 22 = some (.getfield 162, 25) := by decide +kernel
theorem f_90_25 : x_fe 90 25 = some (.iload 1, 26) := by decide +kernel
theorem f_90_26 : x_fe 90 26 = some (.iload 2, 27) := by decide +kernel
theorem f_90_27 : x_fe 90 27 = some (.invokestatic 89, 30) := by decide +kernel
theorem f_90_30 : x_fe 90 30 = some (.ifCond .eq (Int.ofNat 41), 33) := by decide +kernel
theorem f_90_33 : x_fe 90 33 = some (.aload 0, 34) := by decide +kernel
theorem f_90_34 : x_fe 90 34 = some (.iload 1, 35) := by decide +kernel
theorem f_90_35 : x_fe 90 35 = some (.invokevirtual 46, 38) := by decide +kernel
theorem f_90_38 : x_fe 90 38 = some (.goto (Int.ofNat 46), 41) := by decide +kernel
theorem f_90_41 : x_fe 90 41 = some (.aload 0, 42) := by decide +kernel
theorem f_90_42 : x_fe 90 42 = some (.iconst (3), 43) := by decide +kernel
theorem f_90_43 : x_fe 90 43 = some (.invokevirtual 45, 46) := by decide +kernel
theorem f_90_46 : x_fe 90 46 = some (.ireturn, 47) := by decide +kernel
theorem f_91_0 : x_fe 91 0 = some (.aload 0, 1) := by decide +kernel
theorem f_91_1 : x_fe 91 1 = some (.iload 1, 2) := by decide +kernel
theorem f_91_2 : x_fe 91 2 = some (.invokevirtual 60, 5) := by decide +kernel
theorem f_91_5 : x_fe 91 5 = some (.ifCond .eq (Int.ofNat 17), 8) := by decide +kernel
theorem f_91_8 : x_fe 91 8 = some (.iload 2, 9) := by decide +kernel
theorem f_91_9 : x_fe 91 9 = some (.ifCond .eq (Int.ofNat 20), 12) := by decide +kernel
theorem f_91_12 : x_fe 91 12 = some (.iload 2, 13) := by decide +kernel
theorem f_91_13 : x_fe 91 13 = some (.iconst (1), 14) := by decide +kernel
theorem f_91_14 : x_fe 91 14 = some (.if_icmp .eq (Int.ofNat 20), 17) := by decide +kernel
theorem f_91_17 : x_fe 91 17 = some (.iconst (-1000001), 19) := by decide +kernel
theorem f_91_19 : x_fe 91 19 = some (.ireturn, 20) := by decide +kernel
theorem f_91_20 : x_fe 91 20 = some (.aload 0, 21) := by decide +kernel
theorem f_91_21 : x_fe 91 21 = some (.getfield 167, 24) := by decide +kernel
theorem f_91_24 : x_fe 91 24 = some (.iconst (0), 25) := by decide +kernel
theorem f_91_25 : x_fe 91 25 = some (.putfield 129, 28) := by decide +kernel
theorem f_91_28 : x_fe 91 28 = some (.aload 0, 29) := by decide +kernel
theorem f_91_29 : x_fe 91 29 = some (.getfield 162, 32) := by decide +kernel
theorem f_91_32 : x_fe 91 32 = some (.iload 1, 33) := by decide +kernel
theorem f_91_33 : x_fe 91 33 = some (.iload 2, 34) := by decide +kernel
theorem f_91_34 : x_fe 91 34 = some (.invokestatic 92, 37) := by decide +kernel
theorem f_91_37 : x_fe 91 37 = some (.aload 0, 38) := by decide +kernel
theorem f_91_38 : x_fe 91 38 = some (.getfield 162, 41) := by decide +kernel
theorem f_91_41 : x_fe 91 41 = some (.iload 1, 42) := by decide +kernel
theorem f_91_42 : x_fe 91 42 = some (.aload 0, 43) := by decide +kernel
theorem f_91_43 : x_fe 91 43 = some (.getfield 167, 46) := by decide +kernel
theorem f_91_46 : x_fe 91 46 = some (.iconst (0), 47) := by decide +kernel
theorem f_91_47 : x_fe 91 47 = some (.invokestatic 93, 50) := by decide +kernel
theorem f_91_50 : x_fe 91 50 = some (.ireturn, 51) := by decide +kernel
theorem f_92_0 : x_fe 92 0 = some (.iload 2, 1) := by decide +kernel
theorem f_92_1 : x_fe 92 1 = some (.ifCond .ne (Int.ofNat 10), 4) := by decide +kernel
theorem f_92_4 : x_fe 92 4 = some (.getstatic 0, 7) := by decide +kernel
theorem f_92_7 : x_fe 92 7 = some (.goto (Int.ofNat 13), 10) := by decide +kernel
theorem f_92_10 : x_fe 92 10 = some (.getstatic 1, 13) := by decide +kernel
theorem f_92_13 : x_fe 92 13 = some (.astore 3, 14) := by decide +kernel
theorem f_92_14 : x_fe 92 14 = some (.aload 0, 15) := by decide +kernel
theorem f_92_15 : x_fe 92 15 = some (.iload 1, 16) := by decide +kernel
end
section
theorem f_92_16 : x_fe 92 16 = some (.invokestatic 88, 19) := by decide +kernel
theorem f_92_19 : x_fe 92 19 = some (.istore 4, 21) := by decide +kernel
theorem f_92_21 : x_fe 92 21 = some (.iload 4, 23) := by decide +kernel
theorem f_92_23 : x_fe 92 23 = some (.ifCond .lt (Int.ofNat 40), 26) := by decide +kernel
theorem f_92_26 : x_fe 92 26 = some (.iload 4, 28) := by decide +kernel
theorem f_92_28 : x_fe 92 28 = some (.aload 3, 29) := by decide +kernel
theorem f_92_29 : x_fe 92 29 = some (.arraylength, 30) := by decide +kernel
theorem f_92_30 : x_fe 92 30 = some (.if_icmp .ge (Int.ofNat 40), 33) := by decide +kernel
theorem f_92_33 : x_fe 92 33 = some (.aload 3, 34) := by decide +kernel
theorem f_92_34 : x_fe 92 34 = some (.iload 4, 36) := by decide +kernel
theorem f_92_36 : x_fe 92 36 = some (.iaload, 37) := by decide +kernel
theorem f_92_37 : x_fe 92 37 = some (.goto (Int.ofNat 43), 40) := by decide +kernel
theorem f_92_40 : x_fe 92 40 = some (.aload 3, 41) := by decide +kernel
theorem f_92_41 : x_fe 92 41 = some (.iconst (0), 42) := by decide +kernel
theorem f_92_42 : x_fe 92 42 = some (.iaload, 43) := by decide +kernel
theorem f_92_43 : x_fe 92 43 = some (.ireturn, 44) := by decide +kernel
theorem f_93_0 : x_fe 93 0 = some (.iload 4, 2) := by decide +kernel
theorem f_93_2 : x_fe 93 2 = some (.iconst (12), 4) := by decide +kernel
theorem f_93_4 : x_fe 93 4 = some (.if_icmp .le (Int.ofNat 9), 7) := by decide +kernel
theorem f_93_7 : x_fe 93 7 = some (.iconst (0), 8) := by decide +kernel
theorem f_93_8 : x_fe 93 8 = some (.ireturn, 9) := by decide +kernel
theorem f_93_9 : x_fe 93 9 = some (.aload 3, 10) := by decide +kernel
theorem f_93_10 : x_fe 93 10 = some (.iload 0, 11) := by decide +kernel
theorem f_93_11 : x_fe 93 11 = some (.invokevirtual 41, 14) := by decide +kernel
theorem f_93_14 : x_fe 93 14 = some (.iload 4, 16) := by decide +kernel
theorem f_93_16 : x_fe 93 16 = some (.iconst (1), 17) := by decide +kernel
theorem f_93_17 : x_fe 93 17 = some (.iadd, 18) := by decide +kernel
theorem f_93_18 : x_fe 93 18 = some (.istore 5, 20) := by decide +kernel
theorem f_93_20 : x_fe 93 20 = some (.iload 0, 21) := by decide +kernel
theorem f_93_21 : x_fe 93 21 = some (.tableswitch (238) (10) (24) #[75, 85, 115, 128, 140, 238, 238, 238, 238, 238, 154, 156, 178, 193, 223], 96) := by decide +kernel
theorem f_93_96 : x_fe 93 96 = some (.aload 1, 97) := by decide +kernel
theorem f_93_97 : x_fe 93 97 = some (.iload 2, 98) := by decide +kernel
theorem f_93_98 : x_fe 93 98 = some (.iconst (0), 99) := by decide +kernel
theorem f_93_99 : x_fe 93 99 = some (.invokevirtual 8, 102) := by decide +kernel
theorem f_93_102 : x_fe 93 102 = some (.invokestatic 179, 105) := by decide +kernel
theorem f_93_105 : x_fe 93 105 = some (.ireturn, 106) := by decide +kernel
theorem f_93_106 : x_fe 93 106 = some (.iconst (10), 108) := by decide +kernel
theorem f_93_108 : x_fe 93 108 = some (.aload 1, 109) := by decide +kernel
theorem f_93_109 : x_fe 93 109 = some (.iload 2, 110) := by decide +kernel
theorem f_93_110 : x_fe 93 110 = some (.aload 3, 111) := by decide +kernel
theorem f_93_111 : x_fe 93 111 = some (.iload 5, 113) := by decide +kernel
theorem f_93_113 : x_fe 93 113 = some (.invokestatic 93, 116) := by decide +kernel
theorem f_93_116 : x_fe 93 116 = some (.istore 6, 118) := by decide +kernel
theorem f_93_118 : x_fe 93 118 = some (.iload 6, 120) := by decide +kernel
theorem f_93_120 : x_fe 93 120 = some (.aload 1, 121) := by decide +kernel
theorem f_93_121 : x_fe 93 121 = some (.iload 2, 122) := by decide +kernel
theorem f_93_122 : x_fe 93 122 = some (.iconst (1), 123) := by decide +kernel
theorem f_93_123 : x_fe 93 123 = some (.invokestatic 92, 126) := by decide +kernel
theorem f_93_126 : x_fe 93 126 = some (.aload 1, 127) := by decide +kernel
theorem f_93_127 : x_fe 93 127 = some (.iload 2, 128) := by decide +kernel
theorem f_93_128 : x_fe 93 128 = some (.aload 3, 129) := by decide +kernel
theorem f_93_129 : x_fe 93 129 = some (.iload 5, 131) := by decide +kernel
theorem f_93_131 : x_fe 93 131 = some (.invokestatic 93, 134) := by decide +kernel
theorem f_93_134 : x_fe 93 134 = some (.iadd, 135) := by decide +kernel
theorem f_93_135 : x_fe 93 135 = some (.ireturn, 136) := by decide +kernel
theorem f_93_136 : x_fe 93 136 = some (.iconst (2), 137) := by decide +kernel
theorem f_93_137 : x_fe 93 137 = some (.iconst (11), 139) := by decide +kernel
theorem f_93_139 : x_fe 93 139 = some (.aload 1, 140) := by decide +kernel
theorem f_93_140 : x_fe 93 140 = some (.iload 2, 141) := by decide +kernel
theorem f_93_141 : x_fe 93 141 = some (.aload 3, 142) := by decide +kernel
theorem f_93_142 : x_fe 93 142 = some (.iload 5, 144) := by decide +kernel
theorem f_93_144 : x_fe 93 144 = some (.invokestatic 93, 147) := by decide +kernel
theorem f_93_147 : x_fe 93 147 = some (.imul, 148) := by decide +kernel
theorem f_93_148 : x_fe 93 148 = some (.ireturn, 149) := by decide +kernel
theorem f_93_149 : x_fe 93 149 = some (.iconst (11), 151) := by decide +kernel
theorem f_93_151 : x_fe 93 151 = some (.aload 1, 152) := by decide +kernel
theorem f_93_152 : x_fe 93 152 = some (.iload 2, 153) := by decide +kernel
theorem f_93_153 : x_fe 93 153 = some (.aload 3, 154) := by decide +kernel
theorem f_93_154 : x_fe 93 154 = some (.iload 5, 156) := by decide +kernel
theorem f_93_156 : x_fe 93 156 = some (.invokestatic 93, 159) := by decide +kernel
theorem f_93_159 : x_fe 93 159 = some (.ineg, 160) := by decide +kernel
theorem f_93_160 : x_fe 93 160 = some (.ireturn, 161) := by decide +kernel
theorem f_93_161 : x_fe 93 161 = some (.iconst (10), 163) := by decide +kernel
theorem f_93_163 : x_fe 93 163 = some (.aload 1, 164) := by decide +kernel
theorem f_93_164 : x_fe 93 164 = some (.iload 2, 165) := by decide +kernel
theorem f_93_165 : x_fe 93 165 = some (.aload 3, 166) := by decide +kernel
theorem f_93_166 : x_fe 93 166 = some (.iload 5, 168) := by decide +kernel
theorem f_93_168 : x_fe 93 168 = some (.invokestatic 93, 171) := by decide +kernel
theorem f_93_171 : x_fe 93 171 = some (.iconst (100), 173) := by decide +kernel
theorem f_93_173 : x_fe 93 173 = some (.isub, 174) := by decide +kernel
theorem f_93_174 : x_fe 93 174 = some (.ireturn, 175) := by decide +kernel
theorem f_93_175 : x_fe 93 175 = some (.iload 2, 176) := by decide +kernel
theorem f_93_176 : x_fe 93 176 = some (.ireturn, 177) := by decide +kernel
theorem f_93_177 : x_fe 93 177 = some (.iconst (20), 179) := by decide +kernel
theorem f_93_179 : x_fe 93 179 = some (.aload 1, 180) := by decide +kernel
theorem f_93_180 : x_fe 93 180 = some (.iload 2, 181) := by decide +kernel
theorem f_93_181 : x_fe 93 181 = some (.aload 3, 182) := by decide +kernel
theorem f_93_182 : x_fe 93 182 = some (.iload 5, 184) := by decide +kernel
theorem f_93_184 : x_fe 93 184 = some (.invokestatic 93, 187) := by decide +kernel
theorem f_93_187 : x_fe 93 187 = some (.aload 1, 188) := by decide +kernel
theorem f_93_188 : x_fe 93 188 = some (.aload 1, 189) := by decide +kernel
theorem f_93_189 : x_fe 93 189 = some (.iload 2, 190) := by decide +kernel
theorem f_93_190 : x_fe 93 190 = some (.iconst (0), 191) := by decide +kernel
theorem f_93_191 : x_fe 93 191 = some (.invokevirtual 8, 194) := by decide +kernel
theorem f_93_194 : x_fe 93 194 = some (.invokevirtual 9, 197) := by decide +kernel
theorem f_93_197 : x_fe 93 197 = some (.iadd, 198) := by decide +kernel
theorem f_93_198 : x_fe 93 198 = some (.ireturn, 199) := by decide +kernel
theorem f_93_199 : x_fe 93 199 = some (.iconst (21), 201) := by decide +kernel
theorem f_93_201 : x_fe 93 201 = some (.aload 1, 202) := by decide +kernel
theorem f_93_202 : x_fe 93 202 = some (.iload 2, 203) := by decide +kernel
theorem f_93_203 : x_fe 93 203 = some (.aload 3, 204) := by decide +kernel
theorem f_93_204 : x_fe 93 204 = some (.iload 5, 206) := by decide +kernel
theorem f_93_206 : x_fe 93 206 = some (.invokestatic 93, 209) := by decide +kernel
theorem f_93_209 : x_fe 93 209 = some (.iconst (1000), 212) := by decide +kernel
theorem f_93_212 : x_fe 93 212 = some (.isub, 213) := by decide +kernel
theorem f_93_213 : x_fe 93 213 = some (.ireturn, 214) := by decide +kernel
theorem f_93_214 : x_fe 93 214 = some (.iconst (20), 216) := by decide +kernel
theorem f_93_216 : x_fe 93 216 = some (.aload 1, 217) := by decide +kernel
theorem f_93_217 : x_fe 93 217 = some (.iload 2, 218) := by decide +kernel
theorem f_93_218 : x_fe 93 218 = some (.aload 3, 219) := by decide +kernel
theorem f_93_219 : x_fe 93 219 = some (.iload 5, 221) := by decide +kernel
theorem f_93_221 : x_fe 93 221 = some (.invokestatic 93, 224) := by decide +kernel
theorem f_93_224 : x_fe 93 224 = some (.istore 6, 226) := by decide +kernel
theorem f_93_226 : x_fe 93 226 = some (.iload 6, 228) := by decide +kernel
theorem f_93_228 : x_fe 93 228 = some (.aload 1, 229) := by decide +kernel
theorem f_93_229 : x_fe 93 229 = some (.iload 2, 230) := by decide +kernel
theorem f_93_230 : x_fe 93 230 = some (.iconst (0), 231) := by decide +kernel
theorem f_93_231 : x_fe 93 231 = some (.invokestatic 92, 234) := by decide +kernel
theorem f_93_234 : x_fe 93 234 = some (.aload 1, 235) := by decide +kernel
theorem f_93_235 : x_fe 93 235 = some (.iload 2, 236) := by decide +kernel
theorem f_93_236 : x_fe 93 236 = some (.aload 3, 237) := by decide +kernel
theorem f_93_237 : x_fe 93 237 = some (.iload 5, 239) := by decide +kernel
theorem f_93_239 : x_fe 93 239 = some (.invokestatic 93, 242) := by decide +kernel
theorem f_93_242 : x_fe 93 242 = some (.iadd, 243) := by decide +kernel
theorem f_93_243 : x_fe 93 243 = some (.ireturn, 244) := by decide +kernel
theorem f_93_244 : x_fe 93 244 = some (.iconst (21), 246) := by decide +kernel
theorem f_93_246 : x_fe 93 246 = some (.aload 1, 247) := by decide +kernel
theorem f_93_247 : x_fe 93 247 = some (.iload 2, 248) := by decide +kernel
theorem f_93_248 : x_fe 93 248 = some (.aload 3, 249) := by decide +kernel
theorem f_93_249 : x_fe 93 249 = some (.iload 5, 251) := by decide +kernel
theorem f_93_251 : x_fe 93 251 = some (.invokestatic 93, 254) := by decide +kernel
theorem f_93_254 : x_fe 93 254 = some (.iconst (500), 257) := by decide +kernel
theorem f_93_257 : x_fe 93 257 = some (.iadd, 258) := by decide +kernel
theorem f_93_258 : x_fe 93 258 = some (.ireturn, 259) := by decide +kernel
theorem f_93_259 : x_fe 93 259 = some (.iconst (0), 260) := by decide +kernel
theorem f_93_260 : x_fe 93 260 = some (.ireturn, 261) := by decide +kernel
theorem f_94_0 : x_fe 94 0 = some (.iload 1, 1) := by decide +kernel
theorem f_94_1 : x_fe 94 1 = some (.ifCond .lt (Int.ofNat 27), 4) := by decide +kernel
theorem f_94_4 : x_fe 94 4 = some (.iload 1, 5) := by decide +kernel
theorem f_94_5 : x_fe 94 5 = some (.aload 0, 6) := by decide +kernel
theorem f_94_6 : x_fe 94 6 = some (.getfield 167, 9) := by decide +kernel
theorem f_94_9 : x_fe 94 9 = some (.getfield 129, 12) := by decide +kernel
theorem f_94_12 : x_fe 94 12 = some (.if_icmp .ge (Int.ofNat 27), 15) := by decide +kernel
theorem f_94_15 : x_fe 94 15 = some (.aload 0, 16) := by decide +kernel
theorem f_94_16 : x_fe 94 16 = some (.getfield 167, 19) := by decide +kernel
theorem f_94_19 : x_fe 94 19 = some (.getfield 128, 22) := by decide +kernel
theorem f_94_22 : x_fe 94 22 = some (.iload 1, 23) := by decide +kernel
theorem f_94_23 : x_fe 94 23 = some (.iaload, 24) := by decide +kernel
theorem f_94_24 : x_fe 94 24 = some (.goto (Int.ofNat 29), 27) := by decide +kernel
theorem f_94_27 : x_fe 94 27 = some (.iconst (-1000000), 29) := by decide +kernel
theorem f_94_29 : x_fe 94 29 = some (.ireturn, 30) := by decide +kernel
theorem f_95_0 : x_fe 95 0 = some (.iload 1, 1) := by decide +kernel
theorem f_95_1 : x_fe 95 1 = some (.tableswitch (68) (0) (3) #[31, 36, 44, 60], 32) := by decide +kernel
theorem f_95_32 : x_fe 95 32 = some (.aload 0, 33) := by decide +kernel
theorem f_95_33 : x_fe 95 33 = some (.invokevirtual 96, 36) := by decide +kernel
theorem f_95_36 : x_fe 95 36 = some (.ireturn, 37) := by decide +kernel
theorem f_95_37 : x_fe 95 37 = some (.aload 0, 38) := by decide +kernel
theorem f_95_38 : x_fe 95 38 = some (.getfield 162, 41) := by decide +kernel
theorem f_95_41 : x_fe 95 41 = some (.getfield 5, 44) := by decide +kernel
theorem f_95_44 : x_fe 95 44 = some (.ireturn, 45) := by decide +kernel
theorem f_95_45 : x_fe 95 45 = some (.aload 0, 46) := by decide +kernel
theorem f_95_46 : x_fe 95 46 = some (.getfield 162, 49) := by decide +kernel
theorem f_95_49 : x_fe 95 49 = some (.getfield 5, 52) := by decide +kernel
theorem f_95_52 : x_fe 95 52 = some (.aload 0, 53) := by decide +kernel
theorem f_95_53 : x_fe 95 53 = some (.getfield 162, 56) := by decide +kernel
theorem f_95_56 : x_fe 95 56 = some (.invokevirtual 13, 59) := by decide +kernel
theorem f_95_59 : x_fe 95 59 = some (.isub, 60) := by decide +kernel
theorem f_95_60 : x_fe 95 60 = some (.ireturn, 61) := by decide +kernel
theorem f_95_61 : x_fe 95 61 = some (.aload 0, 62) := by decide +kernel
theorem f_95_62 : x_fe 95 62 = some (.getfield 161, 65) := by decide +kernel
theorem f_95_65 : x_fe 95 65 = some (.getfield 97, 68) := by decide +kernel
theorem f_95_68 : x_fe 95 68 = some (.ireturn, 69) := by decide +kernel
theorem f_95_69 : x_fe 95 69 = some (.iconst (-1000001), 71) := by decide +kernel
theorem f_95_71 : x_fe 95 71 = some (.ireturn, 72) := by decide +kernel
theorem f_96_0 : x_fe 96 0 = some (.iconst (0), 1) := by decide +kernel
theorem f_96_1 : x_fe 96 1 = some (.istore 1, 2) := by decide +kernel
theorem f_96_2 : x_fe 96 2 = some (.iconst (0), 3) := by decide +kernel
theorem f_96_3 : x_fe 96 3 = some (.istore 2, 4) := by decide +kernel
theorem f_96_4 : x_fe 96 4 = some (.iload 2, 5) := by decide +kernel
theorem f_96_5 : x_fe 96 5 = some (.iconst (8), 7) := by decide +kernel
theorem f_96_7 : x_fe 96 7 = some (.if_icmp .ge (Int.ofNat 31), 10) := by decide +kernel
theorem f_96_10 : x_fe 96 10 = some (.aload 0, 11) := by decide +kernel
theorem f_96_11 : x_fe 96 11 = some (.getfield 160, 14) := by decide +kernel
theorem f_96_14 : x_fe 96 14 = some (.iload 2, 15) := by decide +kernel
theorem f_96_15 : x_fe 96 15 = some (.aaload, 16) := by decide +kernel
theorem f_96_16 : x_fe 96 16 = some (.getfield 65, 19) := by decide +kernel
theorem f_96_19 : x_fe 96 19 = some (.ifCond .eq (Int.ofNat 25), 22) := by decide +kernel
theorem f_96_22 : x_fe 96 22 = some (.iinc 1 (1), 25) := by decide +kernel
theorem f_96_25 : x_fe 96 25 = some (.iinc 2 (1), 28) := by decide +kernel
theorem f_96_28 : x_fe 96 28 = some (.goto (Int.ofNat 4), 31) := by decide +kernel
theorem f_96_31 : x_fe 96 31 = some (.iload 1, 32) := by decide +kernel
theorem f_96_32 : x_fe 96 32 = some (.ireturn, 33) := by decide +kernel
theorem f_97_0 : x_fe 97 0 = some (.aload 0, 1) := by decide +kernel
theorem f_97_1 : x_fe 97 1 = some (.getfield 169, 4) := by decide +kernel
theorem f_97_4 : x_fe 97 4 = some (.ireturn, 5) := by decide +kernel
theorem f_98_0 : x_fe 98 0 = some (.aload 0, 1) := by decide +kernel
theorem f_98_1 : x_fe 98 1 = some (.d2f, 4) := by decide +kernel
theorem f_98_4 : x_fe 98 4 = some (.aload 0, 5) := by decide +kernel
theorem f_98_5 : x_fe 98 5 = some (.iconst (99), 7) := by decide +kernel
theorem f_98_7 : x_fe 98 7 = some (.newarray .int, 9) := by decide +kernel
theorem f_98_9 : x_fe 98 9 = some (.putstatic 192, 12) := by decide +kernel
theorem f_98_12 : x_fe 98 12 = some (.aload 0, 13) := by decide +kernel
theorem f_98_13 : x_fe 98 13 = some (.iconst (400), 16) := by decide +kernel
theorem f_98_16 : x_fe 98 16 = some (.newarray .int, 18) := by decide +kernel
theorem f_98_18 : x_fe 98 18 = some (.putstatic 193, 21) := by decide +kernel
theorem f_98_21 : x_fe 98 21 = some (.aload 0, 22) := by decide +kernel
theorem f_98_22 : x_fe 98 22 = some (.iconst (8), 24) := by decide +kernel
theorem f_98_24 : x_fe 98 24 = some (.newarray .int, 26) := by decide +kernel
theorem f_98_26 : x_fe 98 26 = some (.dup, 27) := by decide +kernel
theorem f_98_27 : x_fe 98 27 = some (.iconst (0), 28) := by decide +kernel
theorem f_98_28 : x_fe 98 28 = some (.iconst (-1000000), 30) := by decide +kernel
theorem f_98_30 : x_fe 98 30 = some (.iastore, 31) := by decide +kernel
theorem f_98_31 : x_fe 98 31 = some (.dup, 32) := by decide +kernel
theorem f_98_32 : x_fe 98 32 = some (.iconst (1), 33) := by decide +kernel
theorem f_98_33 : x_fe 98 33 = some (.iconst (-1000000), 35) := by decide +kernel
theorem f_98_35 : x_fe 98 35 = some (.iastore, 36) := by decide +kernel
theorem f_98_36 : x_fe 98 36 = some (.dup, 37) := by decide +kernel
theorem f_98_37 : x_fe 98 37 = some (.iconst (2), 38) := by decide +kernel
theorem f_98_38 : x_fe 98 38 = some (.iconst (-1000000), 40) := by decide +kernel
theorem f_98_40 : x_fe 98 40 = some (.iastore, 41) := by decide +kernel
theorem f_98_41 : x_fe 98 41 = some (.dup, 42) := by decide +kernel
theorem f_98_42 : x_fe 98 42 = some (.iconst (3), 43) := by decide +kernel
theorem f_98_43 : x_fe 98 43 = some (.iconst (-1000000), 45) := by decide +kernel
theorem f_98_45 : x_fe 98 45 = some (.iastore, 46) := by decide +kernel
theorem f_98_46 : x_fe 98 46 = some (.dup, 47) := by decide +kernel
theorem f_98_47 : x_fe 98 47 = some (.iconst (4), 48) := by decide +kernel
theorem f_98_48 : x_fe 98 48 = some (.iconst (-1000000), 50) := by decide +kernel
theorem f_98_50 : x_fe 98 50 = some (.iastore, 51) := by decide +kernel
theorem f_98_51 : x_fe 98 51 = some (.dup, 52) := by decide +kernel
theorem f_98_52 : x_fe 98 52 = some (.iconst (5), 53) := by decide +kernel
theorem f_98_53 : x_fe 98 53 = some (.iconst (-1000000), 55) := by decide +kernel
theorem f_98_55 : x_fe 98 55 = some (.iastore, 56) := by decide +kernel
theorem f_98_56 : x_fe 98 56 = some (.dup, 57) := by decide +kernel
theorem f_98_57 : x_fe 98 57 = some (.iconst (6), 59) := by decide +kernel
theorem f_98_59 : x_fe 98 59 = some (.iconst (-1000000), 61) := by decide +kernel
theorem f_98_61 : x_fe 98 61 = some (.iastore, 62) := by decide +kernel
theorem f_98_62 : x_fe 98 62 = some (.dup, 63) := by decide +kernel
theorem f_98_63 : x_fe 98 63 = some (.iconst (7), 65) := by decide +kernel
theorem f_98_65 : x_fe 98 65 = some (.iconst (-1000000), 67) := by decide +kernel
theorem f_98_67 : x_fe 98 67 = some (.iastore, 68) := by decide +kernel
theorem f_98_68 : x_fe 98 68 = some (.putstatic 197, 71) := by decide +kernel
theorem f_98_71 : x_fe 98 71 = some (.aload 0, 72) := by decide +kernel
theorem f_98_72 : x_fe 98 72 = some (.iconst (8), 74) := by decide +kernel
theorem f_98_74 : x_fe 98 74 = some (.newarray .int, 76) := by decide +kernel
theorem f_98_76 : x_fe 98 76 = some (.putstatic 198, 79) := by decide +kernel
theorem f_98_79 : x_fe 98 79 = some (.aload 0, 80) := by decide +kernel
theorem f_98_80 : x_fe 98 80 = some (.iconst (320), 83) := by decide +kernel
theorem f_98_83 : x_fe 98 83 = some (.newarray .int, 85) := by decide +kernel
theorem f_98_85 : x_fe 98 85 = some (.putstatic 199, 88) := by decide +kernel
theorem f_98_88 : x_fe 98 88 = some (.aload 0, 89) := by decide +kernel
theorem f_98_89 : x_fe 98 89 = some (.iconst (16), 91) := by decide +kernel
theorem f_98_91 : x_fe 98 91 = some (.newarray .int, 93) := by decide +kernel
theorem f_98_93 : x_fe 98 93 = some (.putstatic 200, 96) := by decide +kernel
theorem f_98_96 : x_fe 98 96 = some (.aload 0, 97) := by decide +kernel
theorem f_98_97 : x_fe 98 97 = some (.iconst (9), 99) := by decide +kernel
theorem f_98_99 : x_fe 98 99 = some (.newarray .int, 101) := by decide +kernel
theorem f_98_101 : x_fe 98 101 = some (.putstatic 205, 104) := by decide +kernel
theorem f_98_104 : x_fe 98 104 = some (.aload 0, 105) := by decide +kernel
theorem f_98_105 : x_fe 98 105 = some (.iconst (14), 107) := by decide +kernel
theorem f_98_107 : x_fe 98 107 = some (.newarray .int, 109) := by decide +kernel
theorem f_98_109 : x_fe 98 109 = some (.putstatic 206, 112) := by decide +kernel
theorem f_98_112 : x_fe 98 112 = some (.aload 0, 113) := by decide +kernel
theorem f_98_113 : x_fe 98 113 = some (.iconst (14), 115) := by decide +kernel
theorem f_98_115 : x_fe 98 115 = some (.newarray .int, 117) := by decide +kernel
theorem f_98_117 : x_fe 98 117 = some (.putstatic 207, 120) := by decide +kernel
theorem f_98_120 : x_fe 98 120 = some (.aload 0, 121) := by decide +kernel
theorem f_98_121 : x_fe 98 121 = some (.iconst (112), 123) := by decide +kernel
theorem f_98_123 : x_fe 98 123 = some (.newarray .int, 125) := by decide +kernel
theorem f_98_125 : x_fe 98 125 = some (.putstatic 209, 128) := by decide +kernel
theorem f_98_128 : x_fe 98 128 = some (.aload 0, 129) := by decide +kernel
theorem f_98_129 : x_fe 98 129 = some (.iconst (3), 130) := by decide +kernel
theorem f_98_130 : x_fe 98 130 = some (.newarray .int, 132) := by decide +kernel
theorem f_98_132 : x_fe 98 132 = some (.putstatic 210, 135) := by decide +kernel
theorem f_98_135 : x_fe 98 135 = some (.aload 0, 136) := by decide +kernel
theorem f_98_136 : x_fe 98 136 = some (.iconst (6), 138) := by decide +kernel
theorem f_98_138 : x_fe 98 138 = some (.newarray .int, 140) := by decide +kernel
theorem f_98_140 : x_fe 98 140 = some (.putstatic 211, 143) := by decide +kernel
theorem f_98_143 : x_fe 98 143 = some (.aload 0, 144) := by decide +kernel
theorem f_98_144 : x_fe 98 144 = some (.iconst (6), 146) := by decide +kernel
theorem f_98_146 : x_fe 98 146 = some (.newarray .int, 148) := by decide +kernel
theorem f_98_148 : x_fe 98 148 = some (.putstatic 212, 151) := by decide +kernel
theorem f_98_151 : x_fe 98 151 = some (.aload 0, 152) := by decide +kernel
theorem f_98_152 : x_fe 98 152 = some (.iconst (12), 154) := by decide +kernel
theorem f_98_154 : x_fe 98 154 = some (.newarray .int, 156) := by decide +kernel
theorem f_98_156 : x_fe 98 156 = some (.putstatic 213, 159) := by decide +kernel
theorem f_98_159 : x_fe 98 159 = some (.aload 0, 160) := by decide +kernel
theorem f_98_160 : x_fe 98 160 = some (.iconst (6), 162) := by decide +kernel
theorem f_98_162 : x_fe 98 162 = some (.newarray .int, 164) := by decide +kernel
theorem f_98_164 : x_fe 98 164 = some (.putstatic 214, 167) := by decide +kernel
theorem f_98_167 : x_fe 98 167 = some (.aload 0, 168) := by decide +kernel
theorem f_98_168 : x_fe 98 168 = some (.iconst (6), 170) := by decide +kernel
theorem f_98_170 : x_fe 98 170 = some (.newarray .int, 172) := by decide +kernel
theorem f_98_172 : x_fe 98 172 = some (.putstatic 215, 175) := by decide +kernel
theorem f_98_175 : x_fe 98 175 = some (.aload 0, 176) := by decide +kernel
theorem f_98_176 : x_fe 98 176 = some (.iconst (6), 178) := by decide +kernel
theorem f_98_178 : x_fe 98 178 = some (.newarray .int, 180) := by decide +kernel
theorem f_98_180 : x_fe 98 180 = some (.putstatic 216, 183) := by decide +kernel
theorem f_98_183 : x_fe 98 183 = some (.aload 0, 184) := by decide +kernel
theorem f_98_184 : x_fe 98 184 = some (.iconst (3), 185) := by decide +kernel
theorem f_98_185 : x_fe 98 185 = some (.newarray .int, 187) := by decide +kernel
theorem f_98_187 : x_fe 98 187 = some (.putstatic 218, 190) := by decide +kernel
theorem f_98_190 : x_fe 98 190 = some (.aload 0, 191) := by decide +kernel
theorem f_98_191 : x_fe 98 191 = some (.getfield 192, 194) := by decide +kernel
theorem f_98_194 : x_fe 98 194 = some (.iconst (25), 196) := by decide +kernel
theorem f_98_196 : x_fe 98 196 = some (.iconst (511), 199) := by decide +kernel
theorem f_98_199 : x_fe 98 199 = some (.iastore, 200) := by decide +kernel
theorem f_98_200 : x_fe 98 200 = some (.return_, 201) := by decide +kernel
theorem f_99_0 : x_fe 99 0 = some (.iload 1, 1) := by decide +kernel
theorem f_99_1 : x_fe 99 1 = some (.invokestatic 100, 4) := by decide +kernel
theorem f_99_4 : x_fe 99 4 = some (.ifCond .eq (Int.ofNat 25), 7) := by decide +kernel
theorem f_99_7 : x_fe 99 7 = some (.iload 2, 8) := by decide +kernel
theorem f_99_8 : x_fe 99 8 = some (.i2l, 9) := by decide +kernel
theorem f_99_9 : x_fe 99 9 = some (.ldc2_w 0, 10) := by decide +kernel
theorem f_99_10 : x_fe 99 10 = some (.ldc2_w 2, 13) := by decide +kernel
theorem f_99_13 : x_fe 99 13 = some (.invokestatic 101, 16) := by decide +kernel
theorem f_99_16 : x_fe 99 16 = some (.ifCond .eq (Int.ofNat 25), 19) := by decide +kernel
theorem f_99_19 : x_fe 99 19 = some (.iload 3, 20) := by decide +kernel
theorem f_99_20 : x_fe 99 20 = some (.iconst (40), 22) := by decide +kernel
theorem f_99_22 : x_fe 99 22 = some (.if_icmp .le (Int.ofNat 28), 25) := by decide +kernel
theorem f_99_25 : x_fe 99 25 = some (.iconst (-1000001), 27) := by decide +kernel
theorem f_99_27 : x_fe 99 27 = some (.ireturn, 28) := by decide +kernel
theorem f_99_28 : x_fe 99 28 = some (.iload 3, 29) := by decide +kernel
theorem f_99_29 : x_fe 99 29 = some (.ifCond .ge (Int.ofNat 38), 32) := by decide +kernel
theorem f_99_32 : x_fe 99 32 = some (.aload 0, 33) := by decide +kernel
theorem f_99_33 : x_fe 99 33 = some (.iconst (4), 34) := by decide +kernel
theorem f_99_34 : x_fe 99 34 = some (.invokevirtual 102, 37) := by decide +kernel
theorem f_99_37 : x_fe 99 37 = some (.ireturn, 38) := by decide +kernel
theorem f_99_38 : x_fe 99 38 = some (.aload 0, 39) := by decide +kernel
theorem f_99_39 : x_fe 99 39 = some (.getfield 197, 42) := by decide +kernel
theorem f_99_42 : x_fe 99 42 = some (.iload 1, 43) := by decide +kernel
theorem f_99_43 : x_fe 99 43 = some (.iload 2, 44) := by decide +kernel
theorem f_99_44 : x_fe 99 44 = some (.iastore, 45) := by decide +kernel
theorem f_99_45 : x_fe 99 45 = some (.aload 0, 46) := by decide +kernel
theorem f_99_46 : x_fe 99 46 = some (.getfield 198, 49) := by decide +kernel
theorem f_99_49 : x_fe 99 49 = some (.iload 1, 50) := by decide +kernel
theorem f_99_50 : x_fe 99 50 = some (.iload 3, 51) := by decide +kernel
theorem f_99_51 : x_fe 99 51 = some (.iastore, 52) := by decide +kernel
theorem f_99_52 : x_fe 99 52 = some (.iconst (0), 53) := by decide +kernel
theorem f_99_53 : x_fe 99 53 = some (.istore 4, 55) := by decide +kernel
theorem f_99_55 : x_fe 99 55 = some (.iload 4, 57) := by decide +kernel
theorem f_99_57 : x_fe 99 57 = some (.iload 3, 58) := by decide +kernel
theorem f_99_58 : x_fe 99 58 = some (.if_icmp .ge (Int.ofNat 80), 61) := by decide +kernel
theorem f_99_61 : x_fe 99 61 = some (.aload 0, 62) := by decide +kernel
theorem f_99_62 : x_fe 99 62 = some (.getfield 199, 65) := by decide +kernel
theorem f_99_65 : x_fe 99 65 = some (.iconst (40), 67) := by decide +kernel
theorem f_99_67 : x_fe 99 67 = some (.iload 1, 68) := by decide +kernel
theorem f_99_68 : x_fe 99 68 = some (.imul, 69) := by decide +kernel
theorem f_99_69 : x_fe 99 69 = some (.iload 4, 71) := by decide +kernel
theorem f_99_71 : x_fe 99 71 = some (.iadd, 72) := by decide +kernel
theorem f_99_72 : x_fe 99 72 = some (.iconst (0), 73) := by decide +kernel
theorem f_99_73 : x_fe 99 73 = some (.iastore, 74) := by decide +kernel
theorem f_99_74 : x_fe 99 74 = some (.iinc 4 (1), 77) := by decide +kernel
theorem f_99_77 : x_fe 99 77 = some (.goto (Int.ofNat 55), 80) := by decide +kernel
theorem f_99_80 : x_fe 99 80 = some (.aload 0, 81) := by decide +kernel
theorem f_99_81 : x_fe 99 81 = some (.iload 3, 82) := by decide +kernel
theorem f_99_82 : x_fe 99 82 = some (.invokevirtual 103, 85) := by decide +kernel
theorem f_99_85 : x_fe 99 85 = some (.ireturn, 86) := by decide +kernel
theorem f_100_0 : x_fe 100 0 = some (.iload 0, 1) := by decide +kernel
theorem f_100_1 : x_fe 100 1 = some (.i2l, 2) := by decide +kernel
theorem f_100_2 : x_fe 100 2 = some (.ldc2_w 0, 3) := by decide +kernel
theorem f_100_3 : x_fe 100 3 = some (.ldc2_w 7, 6) := by decide +kernel
theorem f_100_6 : x_fe 100 6 = some (.invokestatic 101, 9) := by decide +kernel
theorem f_100_9 : x_fe 100 9 = some (.ireturn, 10) := by decide +kernel
theorem f_101_0 : x_fe 101 0 = some (.lload 0, 1) := by decide +kernel
theorem f_101_1 : x_fe 101 1 = some (.lload 2, 2) := by decide +kernel
theorem f_101_2 : x_fe 101 2 = some (.lcmp, 3) := by decide +kernel
theorem f_101_3 : x_fe 101 3 = some (.ifCond .lt (Int.ofNat 17), 6) := by decide +kernel
theorem f_101_6 : x_fe 101 6 = some (.lload 0, 7) := by decide +kernel
theorem f_101_7 : x_fe 101 7 = some (.lload 4, 9) := by decide +kernel
theorem f_101_9 : x_fe 101 9 = some (.lcmp, 10) := by decide +kernel
theorem f_101_10 : x_fe 101 10 = some (.ifCond .gt (Int.ofNat 17), 13) := by decide +kernel
theorem f_101_13 : x_fe 101 13 = some (.iconst (1), 14) := by decide +kernel
theorem f_101_14 : x_fe 101 14 = some (.goto (Int.ofNat 18), 17) := by decide +kernel
theorem f_101_17 : x_fe 101 17 = some (.iconst (0), 18) := by decide +kernel
theorem f_101_18 : x_fe 101 18 = some (.ireturn, 19) := by decide +kernel
theorem f_102_0 : x_fe 102 0 = some (.aload 0, 1) := by decide +kernel
theorem f_102_1 : x_fe 102 1 = some (.iload 1, 2) := by decide +kernel
theorem f_102_2 : x_fe 102 2 = some (.putfield 196, 5) := by decide +kernel
theorem f_102_5 : x_fe 102 5 = some (.iconst (-1000010), 7) := by decide +kernel
theorem f_102_7 : x_fe 102 7 = some (.iload 1, 8) := by decide +kernel
theorem f_102_8 : x_fe 102 8 = some (.isub, 9) := by decide +kernel
theorem f_102_9 : x_fe 102 9 = some (.ireturn, 10) := by decide +kernel
theorem f_103_0 : x_fe 103 0 = some (.aload 0, 1) := by decide +kernel
theorem f_103_1 : x_fe 103 1 = some (.iconst (0), 2) := by decide +kernel
theorem f_103_2 : x_fe 103 2 = some (.putfield 196, 5) := by decide +kernel
theorem f_103_5 : x_fe 103 5 = some (.iload 1, 6) := by decide +kernel
theorem f_103_6 : x_fe 103 6 = some (.ireturn, 7) := by decide +kernel
theorem f_104_0 : x_fe 104 0 = some (.iload 1, 1) := by decide +kernel
theorem f_104_1 : x_fe 104 1 = some (.invokestatic 100, 4) := by decide +kernel
theorem f_104_4 : x_fe 104 4 = some (.ifCond .ne (Int.ofNat 10), 7) := by decide +kernel
theorem f_104_7 : x_fe 104 7 = some (.iconst (-1000001), 9) := by decide +kernel
theorem f_104_9 : x_fe 104 9 = some (.ireturn, 10) := by decide +kernel
theorem f_104_10 : x_fe 104 10 = some (.aload 0, 11) := by decide +kernel
theorem f_104_11 : x_fe 104 11 = some (.getfield 197, 14) := by decide +kernel
theorem f_104_14 : x_fe 104 14 = some (.iload 1, 15) := by decide +kernel
theorem f_104_15 : x_fe 104 15 = some (.iaload, 16) := by decide +kernel
theorem f_104_16 : x_fe 104 16 = some (.iconst (-1000000), 18) := by decide +kernel
theorem f_104_18 : x_fe 104 18 = some (.if_icmp .ne (Int.ofNat 27), 21) := by decide +kernel
theorem f_104_21 : x_fe 104 21 = some (.aload 0, 22) := by decide +kernel
theorem f_104_22 : x_fe 104 22 = some (.iconst (1), 23) := by decide +kernel
theorem f_104_23 : x_fe 104 23 = some (.invokevirtual 102, 26) := by decide +kernel
theorem f_104_26 : x_fe 104 26 = some (.ireturn, 27) := by decide +kernel
theorem f_104_27 : x_fe 104 27 = some (.iload 2, 28) := by decide +kernel
theorem f_104_28 : x_fe 104 28 = some (.i2l, 29) := by decide +kernel
theorem f_104_29 : x_fe 104 29 = some (.ldc2_w 0, 30) := by decide +kernel
theorem f_104_30 : x_fe 104 30 = some (.aload 0, 31) := by decide +kernel
theorem f_104_31 : x_fe 104 31 = some (.getfield 198, 34) := by decide +kernel
theorem f_104_34 : x_fe 104 34 = some (.iload 1, 35) := by decide +kernel
theorem f_104_35 : x_fe 104 35 = some (.iaload, 36) := by decide +kernel
theorem f_104_36 : x_fe 104 36 = some (.iconst (1), 37) := by decide +kernel
theorem f_104_37 : x_fe 104 37 = some (.isub, 38) := by decide +kernel
theorem f_104_38 : x_fe 104 38 = some (.i2l, 39) := by decide +kernel
theorem f_104_39 : x_fe 104 39 = some (.invokestatic 101, 42) := by decide +kernel
theorem f_104_42 : x_fe 104 42 = some (.ifCond .ne (Int.ofNat 51), 45) := by decide +kernel
theorem f_104_45 : x_fe 104 45 = some (.aload 0, 46) := by decide +kernel
theorem f_104_46 : x_fe 104 46 = some (.iconst (2), 47) := by decide +kernel
theorem f_104_47 : x_fe 104 47 = some (.invokevirtual 102, 50) := by decide +kernel
theorem f_104_50 : x_fe 104 50 = some (.ireturn, 51) := by decide +kernel
theorem f_104_51 : x_fe 104 51 = some (.aload 0, 52) := by decide +kernel
theorem f_104_52 : x_fe 104 52 = some (.getfield 199, 55) := by decide +kernel
theorem f_104_55 : x_fe 104 55 = some (.iconst (40), 57) := by decide +kernel
theorem f_104_57 : x_fe 104 57 = some (.iload 1, 58) := by decide +kernel
theorem f_104_58 : x_fe 104 58 = some (.imul, 59) := by decide +kernel
theorem f_104_59 : x_fe 104 59 = some (.iload 2, 60) := by decide +kernel
theorem f_104_60 : x_fe 104 60 = some (.iadd, 61) := by decide +kernel
theorem f_104_61 : x_fe 104 61 = some (.aload 0, 62) := by decide +kernel
theorem f_104_62 : x_fe 104 62 = some (.getfield 197, 65) := by decide +kernel
theorem f_104_65 : x_fe 104 65 = some (.iload 1, 66) := by decide +kernel
theorem f_104_66 : x_fe 104 66 = some (.iaload, 67) := by decide +kernel
theorem f_104_67 : x_fe 104 67 = some (.ifCond .ne (Int.ofNat 75), 70) := by decide +kernel
theorem f_104_70 : x_fe 104 70 = some (.iload 3, 71) := by decide +kernel
theorem f_104_71 : x_fe 104 71 = some (.i2b, 72) := by decide +kernel
theorem f_104_72 : x_fe 104 72 = some (.goto (Int.ofNat 91), 75) := by decide +kernel
theorem f_104_75 : x_fe 104 75 = some (.aload 0, 76) := by decide +kernel
theorem f_104_76 : x_fe 104 76 = some (.getfield 197, 79) := by decide +kernel
theorem f_104_79 : x_fe 104 79 = some (.iload 1, 80) := by decide +kernel
theorem f_104_80 : x_fe 104 80 = some (.iaload, 81) := by decide +kernel
theorem f_104_81 : x_fe 104 81 = some (.iconst (1), 82) := by decide +kernel
theorem f_104_82 : x_fe 104 82 = some (.if_icmp .ne (Int.ofNat 90), 85) := by decide +kernel
theorem f_104_85 : x_fe 104 85 = some (.iload 3, 86) := by decide +kernel
theorem f_104_86 : x_fe 104 86 = some (.i2s, 87) := by decide +kernel
theorem f_104_87 : x_fe 104 87 = some (.goto (Int.ofNat 91), 90) := by decide +kernel
theorem f_104_90 : x_fe 104 90 = some (.iload 3, 91) := by decide +kernel
theorem f_104_91 : x_fe 104 91 = some (.iastore, 92) := by decide +kernel
theorem f_104_92 : x_fe 104 92 = some (.aload 0, 93) := by decide +kernel
theorem f_104_93 : x_fe 104 93 = some (.aload 0, 94) := by decide +kernel
theorem f_104_94 : x_fe 104 94 = some (.getfield 199, 97) := by decide +kernel
theorem f_104_97 : x_fe 104 97 = some (.iconst (40), 99) := by decide +kernel
theorem f_104_99 : x_fe 104 99 = some (.iload 1, 100) := by decide +kernel
theorem f_104_100 : x_fe 104 100 = some (.imul, 101) := by decide +kernel
theorem f_104_101 : x_fe 104 101 = some (.iload 2, 102) := by decide +kernel
theorem f_104_102 : x_fe 104 102 = some (.iadd, 103) := by decide +kernel
theorem f_104_103 : x_fe 104 103 = some (.iaload, 104) := by decide +kernel
theorem f_104_104 : x_fe 104 104 = some (.invokevirtual 103, 107) := by decide +kernel
theorem f_104_107 : x_fe 104 107 = some (.ireturn, 108) := by decide +kernel
theorem f_105_0 : x_fe 105 0 = some (.iload 1, 1) := by decide +kernel
theorem f_105_1 : x_fe 105 1 = some (.invokestatic 100, 4) := by decide +kernel
theorem f_105_4 : x_fe 105 4 = some (.ifCond .eq (Int.ofNat 14), 7) := by decide +kernel
theorem f_105_7 : x_fe 105 7 = some (.iload 3, 8) := by decide +kernel
theorem f_105_8 : x_fe 105 8 = some (.invokestatic 100, 11) := by decide +kernel
theorem f_105_11 : x_fe 105 11 = some (.ifCond .ne (Int.ofNat 17), 14) := by decide +kernel
theorem f_105_14 : x_fe 105 14 = some (.iconst (-1000001), 16) := by decide +kernel
theorem f_105_16 : x_fe 105 16 = some (.ireturn, 17) := by decide +kernel
theorem f_105_17 : x_fe 105 17 = some (.aload 0, 18) := by decide +kernel
theorem f_105_18 : x_fe 105 18 = some (.getfield 197, 21) := by decide +kernel
theorem f_105_21 : x_fe 105 21 = some (.iload 1, 22) := by decide +kernel
theorem f_105_22 : x_fe 105 22 = some (.iaload, 23) := by decide +kernel
theorem f_105_23 : x_fe 105 23 = some (.iconst (-1000000), 25) := by decide +kernel
theorem f_105_25 : x_fe 105 25 = some (.if_icmp .eq (Int.ofNat 39), 28) := by decide +kernel
theorem f_105_28 : x_fe 105 28 = some (.aload 0, 29) := by decide +kernel
theorem f_105_29 : x_fe 105 29 = some (.getfield 197, 32) := by decide +kernel
theorem f_105_32 : x_fe 105 32 = some (.iload 3, 33) := by decide +kernel
theorem f_105_33 : x_fe 105 33 = some (.iaload, 34) := by decide +kernel
theorem f_105_34 : x_fe 105 34 = some (.iconst (-1000000), 36) := by decide +kernel
theorem f_105_36 : x_fe 105 36 = some (.if_icmp .ne (Int.ofNat 45), 39) := by decide +kernel
theorem f_105_39 : x_fe 105 39 = some (.aload 0, 40) := by decide +kernel
theorem f_105_40 : x_fe 105 40 = some (.iconst (1), 41) := by decide +kernel
theorem f_105_41 : x_fe 105 41 = some (.invokevirtual 102, 44) := by decide +kernel
theorem f_105_44 : x_fe 105 44 = some (.ireturn, 45) := by decide +kernel
theorem f_105_45 : x_fe 105 45 = some (.aload 0, 46) := by decide +kernel
theorem f_105_46 : x_fe 105 46 = some (.getfield 197, 49) := by decide +kernel
theorem f_105_49 : x_fe 105 49 = some (.iload 1, 50) := by decide +kernel
theorem f_105_50 : x_fe 105 50 = some (.iaload, 51) := by decide +kernel
theorem f_105_51 : x_fe 105 51 = some (.aload 0, 52) := by decide +kernel
theorem f_105_52 : x_fe 105 52 = some (.getfield 197, 55) := by decide +kernel
theorem f_105_55 : x_fe 105 55 = some (.iload 3, 56) := by decide +kernel
theorem f_105_56 : x_fe 105 56 = some (.iaload, 57) := by decide +kernel
theorem f_105_57 : x_fe 105 57 = some (.if_icmp .eq (Int.ofNat 66), 60) := by decide +kernel
theorem f_105_60 : x_fe 105 60 = some (.aload 0, 61) := by decide +kernel
theorem f_105_61 : x_fe 105 61 = some (.iconst (5), 62) := by decide +kernel
theorem f_105_62 : x_fe 105 62 = some (.invokevirtual 102, 65) := by decide +kernel
theorem f_105_65 : x_fe 105 65 = some (.ireturn, 66) := by decide +kernel
theorem f_105_66 : x_fe 105 66 = some (.aload 0, 67) := by decide +kernel
theorem f_105_67 : x_fe 105 67 = some (.iload 1, 68) := by decide +kernel
theorem f_105_68 : x_fe 105 68 = some (.iload 2, 69) := by decide +kernel
theorem f_105_69 : x_fe 105 69 = some (.iload 5, 71) := by decide +kernel
theorem f_105_71 : x_fe 105 71 = some (.invokevirtual 106, 74) := by decide +kernel
theorem f_105_74 : x_fe 105 74 = some (.ifCond .eq (Int.ofNat 89), 77) := by decide +kernel
theorem f_105_77 : x_fe 105 77 = some (.aload 0, 78) := by decide +kernel
theorem f_105_78 : x_fe 105 78 = some (.iload 3, 79) := by decide +kernel
theorem f_105_79 : x_fe 105 79 = some (.iload 4, 81) := by decide +kernel
theorem f_105_81 : x_fe 105 81 = some (.iload 5, 83) := by decide +kernel
theorem f_105_83 : x_fe 105 83 = some (.invokevirtual 106, 86) := by decide +kernel
theorem f_105_86 : x_fe 105 86 = some (.ifCond .ne (Int.ofNat 95), 89) := by decide +kernel
theorem f_105_89 : x_fe 105 89 = some (.aload 0, 90) := by decide +kernel
theorem f_105_90 : x_fe 105 90 = some (.iconst (2), 91) := by decide +kernel
theorem f_105_91 : x_fe 105 91 = some (.invokevirtual 102, 94) := by decide +kernel
theorem f_105_94 : x_fe 105 94 = some (.ireturn, 95) := by decide +kernel
theorem f_105_95 : x_fe 105 95 = some (.iconst (0), 96) := by decide +kernel
theorem f_105_96 : x_fe 105 96 = some (.istore 6, 98) := by decide +kernel
theorem f_105_98 : x_fe 105 98 = some (.iload 6, 100) := by decide +kernel
theorem f_105_100 : x_fe 105 100 = some (.iload 5, 102) := by decide +kernel
theorem f_105_102 : x_fe 105 102 = some (.if_icmp .ge (Int.ofNat 165), 105) := by decide +kernel
theorem f_105_105 : x_fe 105 105 = some (.iload 1, 106) := by decide +kernel
theorem f_105_106 : x_fe 105 106 = some (.iload 3, 107) := by decide +kernel
theorem f_105_107 : x_fe 105 107 = some (.if_icmp .ne (Int.ofNat 126), 110) := by decide +kernel
theorem f_105_110 : x_fe 105 110 = some (.iload 2, 111) := by decide +kernel
theorem f_105_111 : x_fe 105 111 = some (.iload 4, 113) := by decide +kernel
theorem f_105_113 : x_fe 105 113 = some (.if_icmp .ge (Int.ofNat 126), 116) := by decide +kernel
theorem f_105_116 : x_fe 105 116 = some (.iload 5, 118) := by decide +kernel
theorem f_105_118 : x_fe 105 118 = some (.iconst (1), 119) := by decide +kernel
theorem f_105_119 : x_fe 105 119 = some (.isub, 120) := by decide +kernel
theorem f_105_120 : x_fe 105 120 = some (.iload 6, 122) := by decide +kernel
theorem f_105_122 : x_fe 105 122 = some (.isub, 123) := by decide +kernel
theorem f_105_123 : x_fe 105 123 = some (.goto (Int.ofNat 128), 126) := by decide +kernel
theorem f_105_126 : x_fe 105 126 = some (.iload 6, 128) := by decide +kernel
theorem f_105_128 : x_fe 105 128 = some (.istore 7, 130) := by decide +kernel
theorem f_105_130 : x_fe 105 130 = some (.aload 0, 131) := by decide +kernel
theorem f_105_131 : x_fe 105 131 = some (.getfield 199, 134) := by decide +kernel
theorem f_105_134 : x_fe 105 134 = some (.iconst (40), 136) := by decide +kernel
theorem f_105_136 : x_fe 105 136 = some (.iload 3, 137) := by decide +kernel
theorem f_105_137 : x_fe 105 137 = some (.imul, 138) := by decide +kernel
theorem f_105_138 : x_fe 105 138 = some (.iload 4, 140) := by decide +kernel
theorem f_105_140 : x_fe 105 140 = some (.iadd, 141) := by decide +kernel
theorem f_105_141 : x_fe 105 141 = some (.iload 7, 143) := by decide +kernel
theorem f_105_143 : x_fe 105 143 = some (.iadd, 144) := by decide +kernel
theorem f_105_144 : x_fe 105 144 = some (.aload 0, 145) := by decide +kernel
theorem f_105_145 : x_fe 105 145 = some (.getfield 199, 148) := by decide +kernel
theorem f_105_148 : x_fe 105 148 = some (.iconst (40), 150) := by decide +kernel
theorem f_105_150 : x_fe 105 150 = some (.iload 1, 151) := by decide +kernel
theorem f_105_151 : x_fe 105 151 = some (.imul, 152) := by decide +kernel
theorem f_105_152 : x_fe 105 152 = some (.iload 2, 153) := by decide +kernel
theorem f_105_153 : x_fe 105 153 = some (.iadd, 154) := by decide +kernel
theorem f_105_154 : x_fe 105 154 = some (.iload 7, 156) := by decide +kernel
theorem f_105_156 : x_fe 105 156 = some (.iadd, 157) := by decide +kernel
theorem f_105_157 : x_fe 105 157 = some (.iaload, 158) := by decide +kernel
theorem f_105_158 : x_fe 105 158 = some (.iastore, 159) := by decide +kernel
theorem f_105_159 : x_fe 105 159 = some (.iinc 6 (1), 162) := by decide +kernel
theorem f_105_162 : x_fe 105 162 = some (.goto (Int.ofNat 98), 165) := by decide +kernel
theorem f_105_165 : x_fe 105 165 = some (.aload 0, 166) := by decide +kernel
theorem f_105_166 : x_fe 105 166 = some (.iload 5, 168) := by decide +kernel
theorem f_105_168 : x_fe 105 168 = some (.invokevirtual 103, 171) := by decide +kernel
theorem f_105_171 : x_fe 105 171 = some (.ireturn, 172) := by decide +kernel
theorem f_106_0 : x_fe 106 0 = some (.iload 2, 1) := by decide +kernel
theorem f_106_1 : x_fe 106 1 = some (.ifCond .lt (Int.ofNat 28), 4) := by decide +kernel
theorem f_106_4 : x_fe 106 4 = some (.iload 3, 5) := by decide +kernel
theorem f_106_5 : x_fe 106 5 = some (.ifCond .lt (Int.ofNat 28), 8) := by decide +kernel
theorem f_106_8 : x_fe 106 8 = some (.iload 2, 9) := by decide +kernel
theorem f_106_9 : x_fe 106 9 = some (.i2l, 10) := by decide +kernel
theorem f_106_10 : x_fe 106 10 = some (.iload 3, 11) := by decide +kernel
theorem f_106_11 : x_fe 106 11 = some (.i2l, 12) := by decide +kernel
theorem f_106_12 : x_fe 106 12 = some (.ladd, 13) := by decide +kernel
theorem f_106_13 : x_fe 106 13 = some (.aload 0, 14) := by decide +kernel
theorem f_106_14 : x_fe 106 14 = some (.getfield 198, 17) := by decide +kernel
theorem f_106_17 : x_fe 106 17 = some (.iload 1, 18) := by decide +kernel
theorem f_106_18 : x_fe 106 18 = some (.iaload, 19) := by decide +kernel
theorem f_106_19 : x_fe 106 19 = some (.i2l, 20) := by decide +kernel
theorem f_106_20 : x_fe 106 20 = some (.lcmp, 21) := by decide +kernel
theorem f_106_21 : x_fe 106 21 = some (.ifCond .gt (Int.ofNat 28), 24) := by decide +kernel
theorem f_106_24 : x_fe 106 24 = some (.iconst (1), 25) := by decide +kernel
theorem f_106_25 : x_fe 106 25 = some (.goto (Int.ofNat 29), 28) := by decide +kernel
theorem f_106_28 : x_fe 106 28 = some (.iconst (0), 29) := by decide +kernel
theorem f_106_29 : x_fe 106 29 = some (.ireturn, 30) := by decide +kernel
theorem f_107_0 : x_fe 107 0 = some (.iload 1, 1) := by decide +kernel
theorem f_107_1 : x_fe 107 1 = some (.invokestatic 100, 4) := by decide +kernel
theorem f_107_4 : x_fe 107 4 = some (.ifCond .ne (Int.ofNat 10), 7) := by decide +kernel
theorem f_107_7 : x_fe 107 7 = some (.iconst (-1000001), 9) := by decide +kernel
theorem f_107_9 : x_fe 107 9 = some (.ireturn, 10) := by decide +kernel
theorem f_107_10 : x_fe 107 10 = some (.aload 0, 11) := by decide +kernel
theorem f_107_11 : x_fe 107 11 = some (.getfield 197, 14) := by decide +kernel
theorem f_107_14 : x_fe 107 14 = some (.iload 1, 15) := by decide +kernel
theorem f_107_15 : x_fe 107 15 = some (.iaload, 16) := by decide +kernel
theorem f_107_16 : x_fe 107 16 = some (.iconst (-1000000), 18) := by decide +kernel
theorem f_107_18 : x_fe 107 18 = some (.if_icmp .ne (Int.ofNat 27), 21) := by decide +kernel
theorem f_107_21 : x_fe 107 21 = some (.aload 0, 22) := by decide +kernel
theorem f_107_22 : x_fe 107 22 = some (.iconst (1), 23) := by decide +kernel
theorem f_107_23 : x_fe 107 23 = some (.invokevirtual 102, 26) := by decide +kernel
theorem f_107_26 : x_fe 107 26 = some (.ireturn, 27) := by decide +kernel
theorem f_107_27 : x_fe 107 27 = some (.aload 0, 28) := by decide +kernel
theorem f_107_28 : x_fe 107 28 = some (.getfield 197, 31) := by decide +kernel
theorem f_107_31 : x_fe 107 31 = some (.iload 1, 32) := by decide +kernel
theorem f_107_32 : x_fe 107 32 = some (.iconst (-1000000), 34) := by decide +kernel
theorem f_107_34 : x_fe 107 34 = some (.iastore, 35) := by decide +kernel
theorem f_107_35 : x_fe 107 35 = some (.aload 0, 36) := by decide +kernel
theorem f_107_36 : x_fe 107 36 = some (.aload 0, 37) := by decide +kernel
theorem f_107_37 : x_fe 107 37 = some (.getfield 198, 40) := by decide +kernel
theorem f_107_40 : x_fe 107 40 = some (.iload 1, 41) := by decide +kernel
theorem f_107_41 : x_fe 107 41 = some (.iaload, 42) := by decide +kernel
theorem f_107_42 : x_fe 107 42 = some (.invokevirtual 103, 45) := by decide +kernel
theorem f_107_45 : x_fe 107 45 = some (.ireturn, 46) := by decide +kernel
theorem f_108_0 : x_fe 108 0 = some (.iload 3, 1) := by decide +kernel
theorem f_108_1 : x_fe 108 1 = some (.i2l, 2) := by decide +kernel
theorem f_108_2 : x_fe 108 2 = some (.ldc2_w 1, 3) := by decide +kernel
theorem f_108_3 : x_fe 108 3 = some (.ldc2_w 8, 6) := by decide +kernel
theorem f_108_6 : x_fe 108 6 = some (.invokestatic 101, 9) := by decide +kernel
theorem f_108_9 : x_fe 108 9 = some (.ifCond .ne (Int.ofNat 15), 12) := by decide +kernel
theorem f_108_12 : x_fe 108 12 = some (.iconst (-1000001), 14) := by decide +kernel
theorem f_108_14 : x_fe 108 14 = some (.ireturn, 15) := by decide +kernel
theorem f_108_15 : x_fe 108 15 = some (.aload 0, 16) := by decide +kernel
theorem f_108_16 : x_fe 108 16 = some (.getfield 194, 19) := by decide +kernel
theorem f_108_19 : x_fe 108 19 = some (.iload 3, 20) := by decide +kernel
theorem f_108_20 : x_fe 108 20 = some (.iadd, 21) := by decide +kernel
theorem f_108_21 : x_fe 108 21 = some (.iconst (400), 24) := by decide +kernel
theorem f_108_24 : x_fe 108 24 = some (.if_icmp .le (Int.ofNat 30), 27) := by decide +kernel
theorem f_108_27 : x_fe 108 27 = some (.iconst (-1000003), 29) := by decide +kernel
theorem f_108_29 : x_fe 108 29 = some (.ireturn, 30) := by decide +kernel
theorem f_108_30 : x_fe 108 30 = some (.iload 3, 31) := by decide +kernel
theorem f_108_31 : x_fe 108 31 = some (.iconst (1), 32) := by decide +kernel
theorem f_108_32 : x_fe 108 32 = some (.isub, 33) := by decide +kernel
theorem f_108_33 : x_fe 108 33 = some (.istore 4, 35) := by decide +kernel
theorem f_108_35 : x_fe 108 35 = some (.iload 4, 37) := by decide +kernel
theorem f_108_37 : x_fe 108 37 = some (.ifCond .lt (Int.ofNat 77), 40) := by decide +kernel
theorem f_108_40 : x_fe 108 40 = some (.aload 0, 41) := by decide +kernel
theorem f_108_41 : x_fe 108 41 = some (.getfield 193, 44) := by decide +kernel
theorem f_108_44 : x_fe 108 44 = some (.aload 0, 45) := by decide +kernel
theorem f_108_45 : x_fe 108 45 = some (.getfield 194, 48) := by decide +kernel
theorem f_108_48 : x_fe 108 48 = some (.lload 1, 49) := by decide +kernel
theorem f_108_49 : x_fe 108 49 = some (.iconst (8), 51) := by decide +kernel
theorem f_108_51 : x_fe 108 51 = some (.iload 4, 53) := by decide +kernel
theorem f_108_53 : x_fe 108 53 = some (.imul, 54) := by decide +kernel
theorem f_108_54 : x_fe 108 54 = some (.lshr, 55) := by decide +kernel
theorem f_108_55 : x_fe 108 55 = some (.ldc2_w 255, 58) := by decide +kernel
theorem f_108_58 : x_fe 108 58 = some (.land, 59) := by decide +kernel
theorem f_108_59 : x_fe 108 59 = some (.l2i, 60) := by decide +kernel
theorem f_108_60 : x_fe 108 60 = some (.iastore, 61) := by decide +kernel
theorem f_108_61 : x_fe 108 61 = some (.aload 0, 62) := by decide +kernel
theorem f_108_62 : x_fe 108 62 = some (.dup, 63) := by decide +kernel
theorem f_108_63 : x_fe 108 63 = some (.getfield 194, 66) := by decide +kernel
theorem f_108_66 : x_fe 108 66 = some (.iconst (1), 67) := by decide +kernel
theorem f_108_67 : x_fe 108 67 = some (.iadd, 68) := by decide +kernel
theorem f_108_68 : x_fe 108 68 = some (.putfield 194, 71) := by decide +kernel
theorem f_108_71 : x_fe 108 71 = some (.iinc 4 (-1), 74) := by decide +kernel
theorem f_108_74 : x_fe 108 74 = some (.goto (Int.ofNat 35), 77) := by decide +kernel
theorem f_108_77 : x_fe 108 77 = some (.aload 0, 78) := by decide +kernel
theorem f_108_78 : x_fe 108 78 = some (.getfield 194, 81) := by decide +kernel
theorem f_108_81 : x_fe 108 81 = some (.ireturn, 82) := by decide +kernel
theorem f_109_0 : x_fe 109 0 = some (.aload 0, 1) := by decide +kernel
theorem f_109_1 : x_fe 109 1 = some (.invokevirtual 110, 4) := by decide +kernel
theorem f_109_4 : x_fe 109 4 = some (.istore 1, 5) := by decide +kernel
theorem f_109_5 : x_fe 109 5 = some (.aload 0, 6) := by decide +kernel
theorem f_109_6 : x_fe 109 6 = some (.getfield 203, 9) := by decide +kernel
theorem f_109_9 : x_fe 109 9 = some (.istore 2, 10) := by decide +kernel
theorem f_109_10 : x_fe 109 10 = some (.aload 0, 11) := by decide +kernel
theorem f_109_11 : x_fe 109 11 = some (.iconst (0), 12) := by decide +kernel
theorem f_109_12 : x_fe 109 12 = some (.putfield 194, 15) := by decide +kernel
theorem f_109_15 : x_fe 109 15 = some (.iload 1, 16) := by decide +kernel
theorem f_109_16 : x_fe 109 16 = some (.ifCond .ne (Int.ofNat 24), 19) := by decide +kernel
theorem f_109_19 : x_fe 109 19 = some (.iconst (-1000100), 21) := by decide +kernel
theorem f_109_21 : x_fe 109 21 = some (.iload 2, 22) := by decide +kernel
theorem f_109_22 : x_fe 109 22 = some (.isub, 23) := by decide +kernel
theorem f_109_23 : x_fe 109 23 = some (.ireturn, 24) := by decide +kernel
theorem f_109_24 : x_fe 109 24 = some (.aload 0, 25) := by decide +kernel
theorem f_109_25 : x_fe 109 25 = some (.getfield 192, 28) := by decide +kernel
theorem f_109_28 : x_fe 109 28 = some (.iconst (0), 29) := by decide +kernel
theorem f_109_29 : x_fe 109 29 = some (.iconst (1), 30) := by decide +kernel
theorem f_109_30 : x_fe 109 30 = some (.iastore, 31) := by decide +kernel
theorem f_109_31 : x_fe 109 31 = some (.aload 0, 32) := by decide +kernel
theorem f_109_32 : x_fe 109 32 = some (.getfield 192, 35) := by decide +kernel
theorem f_109_35 : x_fe 109 35 = some (.iconst (1), 36) := by decide +kernel
theorem f_109_36 : x_fe 109 36 = some (.aload 0, 37) := by decide +kernel
theorem f_109_37 : x_fe 109 37 = some (.getfield 208, 40) := by decide +kernel
theorem f_109_40 : x_fe 109 40 = some (.iastore, 41) := by decide +kernel
theorem f_109_41 : x_fe 109 41 = some (.aload 0, 42) := by decide +kernel
theorem f_109_42 : x_fe 109 42 = some (.getfield 192, 45) := by decide +kernel
theorem f_109_45 : x_fe 109 45 = some (.iconst (30), 47) := by decide +kernel
theorem f_109_47 : x_fe 109 47 = some (.iconst (0), 48) := by decide +kernel
theorem f_109_48 : x_fe 109 48 = some (.iastore, 49) := by decide +kernel
theorem f_109_49 : x_fe 109 49 = some (.aload 0, 50) := by decide +kernel
theorem f_109_50 : x_fe 109 50 = some (.getfield 192, 53) := by decide +kernel
theorem f_109_53 : x_fe 109 53 = some (.iconst (31), 55) := by decide +kernel
theorem f_109_55 : x_fe 109 55 = some (.iconst (0), 56) := by decide +kernel
theorem f_109_56 : x_fe 109 56 = some (.iastore, 57) := by decide +kernel
theorem f_109_57 : x_fe 109 57 = some (.iconst (0), 58) := by decide +kernel
theorem f_109_58 : x_fe 109 58 = some (.istore 3, 59) := by decide +kernel
theorem f_109_59 : x_fe 109 59 = some (.iload 3, 60) := by decide +kernel
theorem f_109_60 : x_fe 109 60 = some (.aload 0, 61) := by decide +kernel
theorem f_109_61 : x_fe 109 61 = some (.getfield 208, 64) := by decide +kernel
theorem f_109_64 : x_fe 109 64 = some (.if_icmp .ge (Int.ofNat 107), 67) := by decide +kernel
theorem f_109_67 : x_fe 109 67 = some (.aload 0, 68) := by decide +kernel
theorem f_109_68 : x_fe 109 68 = some (.getfield 192, 71) := by decide +kernel
theorem f_109_71 : x_fe 109 71 = some (.iconst (2), 72) := by decide +kernel
theorem f_109_72 : x_fe 109 72 = some (.iload 3, 73) := by decide +kernel
theorem f_109_73 : x_fe 109 73 = some (.iadd, 74) := by decide +kernel
theorem f_109_74 : x_fe 109 74 = some (.aload 0, 75) := by decide +kernel
theorem f_109_75 : x_fe 109 75 = some (.getfield 206, 78) := by decide +kernel
theorem f_109_78 : x_fe 109 78 = some (.iload 3, 79) := by decide +kernel
theorem f_109_79 : x_fe 109 79 = some (.iaload, 80) := by decide +kernel
theorem f_109_80 : x_fe 109 80 = some (.iastore, 81) := by decide +kernel
theorem f_109_81 : x_fe 109 81 = some (.aload 0, 82) := by decide +kernel
theorem f_109_82 : x_fe 109 82 = some (.getfield 192, 85) := by decide +kernel
end
section
theorem f_109_85 : x_fe 109 85 = some (.iconst (30), 87) := by decide +kernel
theorem f_109_87 : x_fe 109 87 = some (.aload 0, 88) := by decide +kernel
theorem f_109_88 : x_fe 109 88 = some (.getfield 207, 91) := by decide +kernel
theorem f_109_91 : x_fe 109 91 = some (.iload 3, 92) := by decide +kernel
theorem f_109_92 : x_fe 109 92 = some (.iaload, 93) := by decide +kernel
theorem f_109_93 : x_fe 109 93 = some (.iadd, 94) := by decide +kernel
theorem f_109_94 : x_fe 109 94 = some (.dup2, 95) := by decide +kernel
theorem f_109_95 : x_fe 109 95 = some (.iaload, 96) := by decide +kernel
theorem f_109_96 : x_fe 109 96 = some (.iconst (1), 97) := by decide +kernel
theorem f_109_97 : x_fe 109 97 = some (.iload 3, 98) := by decide +kernel
theorem f_109_98 : x_fe 109 98 = some (.ishl, 99) := by decide +kernel
theorem f_109_99 : x_fe 109 99 = some (.ior, 100) := by decide +kernel
theorem f_109_100 : x_fe 109 100 = some (.iastore, 101) := by decide +kernel
theorem f_109_101 : x_fe 109 101 = some (.iinc 3 (1), 104) := by decide +kernel
theorem f_109_104 : x_fe 109 104 = some (.goto (Int.ofNat 59), 107) := by decide +kernel
theorem f_109_107 : x_fe 109 107 = some (.iconst (0), 108) := by decide +kernel
theorem f_109_108 : x_fe 109 108 = some (.istore 3, 109) := by decide +kernel
theorem f_109_109 : x_fe 109 109 = some (.iload 3, 110) := by decide +kernel
theorem f_109_110 : x_fe 109 110 = some (.iconst (9), 112) := by decide +kernel
theorem f_109_112 : x_fe 109 112 = some (.if_icmp .ge (Int.ofNat 136), 115) := by decide +kernel
theorem f_109_115 : x_fe 109 115 = some (.aload 0, 116) := by decide +kernel
theorem f_109_116 : x_fe 109 116 = some (.getfield 192, 119) := by decide +kernel
theorem f_109_119 : x_fe 109 119 = some (.iconst (16), 121) := by decide +kernel
theorem f_109_121 : x_fe 109 121 = some (.iload 3, 122) := by decide +kernel
theorem f_109_122 : x_fe 109 122 = some (.iadd, 123) := by decide +kernel
theorem f_109_123 : x_fe 109 123 = some (.aload 0, 124) := by decide +kernel
theorem f_109_124 : x_fe 109 124 = some (.getfield 205, 127) := by decide +kernel
theorem f_109_127 : x_fe 109 127 = some (.iload 3, 128) := by decide +kernel
theorem f_109_128 : x_fe 109 128 = some (.iaload, 129) := by decide +kernel
theorem f_109_129 : x_fe 109 129 = some (.iastore, 130) := by decide +kernel
theorem f_109_130 : x_fe 109 130 = some (.iinc 3 (1), 133) := by decide +kernel
theorem f_109_133 : x_fe 109 133 = some (.goto (Int.ofNat 109), 136) := by decide +kernel
theorem f_109_136 : x_fe 109 136 = some (.aload 0, 137) := by decide +kernel
theorem f_109_137 : x_fe 109 137 = some (.getfield 192, 140) := by decide +kernel
theorem f_109_140 : x_fe 109 140 = some (.iconst (25), 142) := by decide +kernel
theorem f_109_142 : x_fe 109 142 = some (.iconst (511), 145) := by decide +kernel
theorem f_109_145 : x_fe 109 145 = some (.iastore, 146) := by decide +kernel
theorem f_109_146 : x_fe 109 146 = some (.aload 0, 147) := by decide +kernel
theorem f_109_147 : x_fe 109 147 = some (.getfield 192, 150) := by decide +kernel
theorem f_109_150 : x_fe 109 150 = some (.iconst (26), 152) := by decide +kernel
theorem f_109_152 : x_fe 109 152 = some (.iconst (0), 153) := by decide +kernel
theorem f_109_153 : x_fe 109 153 = some (.iastore, 154) := by decide +kernel
theorem f_109_154 : x_fe 109 154 = some (.aload 0, 155) := by decide +kernel
theorem f_109_155 : x_fe 109 155 = some (.getfield 192, 158) := by decide +kernel
theorem f_109_158 : x_fe 109 158 = some (.iconst (27), 160) := by decide +kernel
theorem f_109_160 : x_fe 109 160 = some (.aload 0, 161) := by decide +kernel
theorem f_109_161 : x_fe 109 161 = some (.getfield 192, 164) := by decide +kernel
theorem f_109_164 : x_fe 109 164 = some (.iconst (30), 166) := by decide +kernel
theorem f_109_166 : x_fe 109 166 = some (.iaload, 167) := by decide +kernel
theorem f_109_167 : x_fe 109 167 = some (.ifCond .ne (Int.ofNat 174), 170) := by decide +kernel
theorem f_109_170 : x_fe 109 170 = some (.iconst (1), 171) := by decide +kernel
theorem f_109_171 : x_fe 109 171 = some (.goto (Int.ofNat 175), 174) := by decide +kernel
theorem f_109_174 : x_fe 109 174 = some (.iconst (0), 175) := by decide +kernel
theorem f_109_175 : x_fe 109 175 = some (.iastore, 176) := by decide +kernel
theorem f_109_176 : x_fe 109 176 = some (.aload 0, 177) := by decide +kernel
theorem f_109_177 : x_fe 109 177 = some (.getfield 192, 180) := by decide +kernel
theorem f_109_180 : x_fe 109 180 = some (.iconst (28), 182) := by decide +kernel
theorem f_109_182 : x_fe 109 182 = some (.iconst (0), 183) := by decide +kernel
theorem f_109_183 : x_fe 109 183 = some (.iastore, 184) := by decide +kernel
theorem f_109_184 : x_fe 109 184 = some (.aload 0, 185) := by decide +kernel
theorem f_109_185 : x_fe 109 185 = some (.getfield 192, 188) := by decide +kernel
theorem f_109_188 : x_fe 109 188 = some (.iconst (29), 190) := by decide +kernel
theorem f_109_190 : x_fe 109 190 = some (.iconst (0), 191) := by decide +kernel
theorem f_109_191 : x_fe 109 191 = some (.iastore, 192) := by decide +kernel
theorem f_109_192 : x_fe 109 192 = some (.aload 0, 193) := by decide +kernel
theorem f_109_193 : x_fe 109 193 = some (.getfield 192, 196) := by decide +kernel
theorem f_109_196 : x_fe 109 196 = some (.iconst (32), 198) := by decide +kernel
theorem f_109_198 : x_fe 109 198 = some (.iconst (0), 199) := by decide +kernel
theorem f_109_199 : x_fe 109 199 = some (.iastore, 200) := by decide +kernel
theorem f_109_200 : x_fe 109 200 = some (.aload 0, 201) := by decide +kernel
theorem f_109_201 : x_fe 109 201 = some (.invokevirtual 120, 204) := by decide +kernel
theorem f_109_204 : x_fe 109 204 = some (.aload 0, 205) := by decide +kernel
theorem f_109_205 : x_fe 109 205 = some (.getfield 208, 208) := by decide +kernel
theorem f_109_208 : x_fe 109 208 = some (.ireturn, 209) := by decide +kernel
theorem f_110_0 : x_fe 110 0 = some (.aload 0, 1) := by decide +kernel
theorem f_110_1 : x_fe 110 1 = some (.iconst (0), 2) := by decide +kernel
theorem f_110_2 : x_fe 110 2 = some (.putfield 202, 5) := by decide +kernel
theorem f_110_5 : x_fe 110 5 = some (.aload 0, 6) := by decide +kernel
theorem f_110_6 : x_fe 110 6 = some (.iconst (0), 7) := by decide +kernel
theorem f_110_7 : x_fe 110 7 = some (.putfield 208, 10) := by decide +kernel
theorem f_110_10 : x_fe 110 10 = some (.aload 0, 11) := by decide +kernel
theorem f_110_11 : x_fe 110 11 = some (.invokevirtual 111, 14) := by decide +kernel
theorem f_110_14 : x_fe 110 14 = some (.aload 0, 15) := by decide +kernel
theorem f_110_15 : x_fe 110 15 = some (.invokevirtual 113, 18) := by decide +kernel
theorem f_110_18 : x_fe 110 18 = some (.ifCond .eq (Int.ofNat 28), 21) := by decide +kernel
theorem f_110_21 : x_fe 110 21 = some (.aload 0, 22) := by decide +kernel
theorem f_110_22 : x_fe 110 22 = some (.invokevirtual 118, 25) := by decide +kernel
theorem f_110_25 : x_fe 110 25 = some (.ifCond .ne (Int.ofNat 30), 28) := by decide +kernel
theorem f_110_28 : x_fe 110 28 = some (.iconst (0), 29) := by decide +kernel
theorem f_110_29 : x_fe 110 29 = some (.ireturn, 30) := by decide +kernel
theorem f_110_30 : x_fe 110 30 = some (.aload 0, 31) := by decide +kernel
theorem f_110_31 : x_fe 110 31 = some (.getfield 203, 34) := by decide +kernel
theorem f_110_34 : x_fe 110 34 = some (.aload 0, 35) := by decide +kernel
theorem f_110_35 : x_fe 110 35 = some (.getfield 194, 38) := by decide +kernel
theorem f_110_38 : x_fe 110 38 = some (.if_icmp .ge (Int.ofNat 50), 41) := by decide +kernel
theorem f_110_41 : x_fe 110 41 = some (.aload 0, 42) := by decide +kernel
theorem f_110_42 : x_fe 110 42 = some (.invokevirtual 118, 45) := by decide +kernel
theorem f_110_45 : x_fe 110 45 = some (.ifCond .ne (Int.ofNat 30), 48) := by decide +kernel
theorem f_110_48 : x_fe 110 48 = some (.iconst (0), 49) := by decide +kernel
theorem f_110_49 : x_fe 110 49 = some (.ireturn, 50) := by decide +kernel
theorem f_110_50 : x_fe 110 50 = some (.iconst (1), 51) := by decide +kernel
theorem f_110_51 : x_fe 110 51 = some (.ireturn, 52) := by decide +kernel
theorem f_111_0 : x_fe 111 0 = some (.aload 0, 1) := by decide +kernel
theorem f_111_1 : x_fe 111 1 = some (.getfield 202, 4) := by decide +kernel
theorem f_111_4 : x_fe 111 4 = some (.aload 0, 5) := by decide +kernel
theorem f_111_5 : x_fe 111 5 = some (.getfield 194, 8) := by decide +kernel
theorem f_111_8 : x_fe 111 8 = some (.if_icmp .ge (Int.ofNat 52), 11) := by decide +kernel
theorem f_111_11 : x_fe 111 11 = some (.aload 0, 12) := by decide +kernel
theorem f_111_12 : x_fe 111 12 = some (.getfield 193, 15) := by decide +kernel
theorem f_111_15 : x_fe 111 15 = some (.aload 0, 16) := by decide +kernel
theorem f_111_16 : x_fe 111 16 = some (.getfield 202, 19) := by decide +kernel
theorem f_111_19 : x_fe 111 19 = some (.iaload, 20) := by decide +kernel
theorem f_111_20 : x_fe 111 20 = some (.iconst (32), 22) := by decide +kernel
theorem f_111_22 : x_fe 111 22 = some (.if_icmp .eq (Int.ofNat 39), 25) := by decide +kernel
theorem f_111_25 : x_fe 111 25 = some (.aload 0, 26) := by decide +kernel
theorem f_111_26 : x_fe 111 26 = some (.getfield 193, 29) := by decide +kernel
theorem f_111_29 : x_fe 111 29 = some (.aload 0, 30) := by decide +kernel
theorem f_111_30 : x_fe 111 30 = some (.getfield 202, 33) := by decide +kernel
theorem f_111_33 : x_fe 111 33 = some (.iaload, 34) := by decide +kernel
theorem f_111_34 : x_fe 111 34 = some (.iconst (10), 36) := by decide +kernel
theorem f_111_36 : x_fe 111 36 = some (.if_icmp .ne (Int.ofNat 52), 39) := by decide +kernel
theorem f_111_39 : x_fe 111 39 = some (.aload 0, 40) := by decide +kernel
theorem f_111_40 : x_fe 111 40 = some (.dup, 41) := by decide +kernel
theorem f_111_41 : x_fe 111 41 = some (.getfield 202, 44) := by decide +kernel
theorem f_111_44 : x_fe 111 44 = some (.iconst (1), 45) := by decide +kernel
theorem f_111_45 : x_fe 111 45 = some (.iadd, 46) := by decide +kernel
theorem f_111_46 : x_fe 111 46 = some (.putfield 202, 49) := by decide +kernel
theorem f_111_49 : x_fe 111 49 = some (.goto (Int.ofNat 0), 52) := by decide +kernel
theorem f_111_52 : x_fe 111 52 = some (.aload 0, 53) := by decide +kernel
theorem f_111_53 : x_fe 111 53 = some (.aload 0, 54) := by decide +kernel
theorem f_111_54 : x_fe 111 54 = some (.getfield 202, 57) := by decide +kernel
theorem f_111_57 : x_fe 111 57 = some (.putfield 203, 60) := by decide +kernel
theorem f_111_60 : x_fe 111 60 = some (.aload 0, 61) := by decide +kernel
theorem f_111_61 : x_fe 111 61 = some (.dup, 62) := by decide +kernel
theorem f_111_62 : x_fe 111 62 = some (.getfield 202, 65) := by decide +kernel
theorem f_111_65 : x_fe 111 65 = some (.aload 0, 66) := by decide +kernel
theorem f_111_66 : x_fe 111 66 = some (.getfield 202, 69) := by decide +kernel
theorem f_111_69 : x_fe 111 69 = some (.aload 0, 70) := by decide +kernel
theorem f_111_70 : x_fe 111 70 = some (.getfield 194, 73) := by decide +kernel
theorem f_111_73 : x_fe 111 73 = some (.if_icmp .ge (Int.ofNat 80), 76) := by decide +kernel
theorem f_111_76 : x_fe 111 76 = some (.iconst (1), 77) := by decide +kernel
theorem f_111_77 : x_fe 111 77 = some (.goto (Int.ofNat 81), 80) := by decide +kernel
theorem f_111_80 : x_fe 111 80 = some (.iconst (0), 81) := by decide +kernel
theorem f_111_81 : x_fe 111 81 = some (.iadd, 82) := by decide +kernel
theorem f_111_82 : x_fe 111 82 = some (.putfield 202, 85) := by decide +kernel
theorem f_111_85 : x_fe 111 85 = some (.aload 0, 86) := by decide +kernel
theorem f_111_86 : x_fe 111 86 = some (.getfield 202, 89) := by decide +kernel
theorem f_111_89 : x_fe 111 89 = some (.aload 0, 90) := by decide +kernel
theorem f_111_90 : x_fe 111 90 = some (.getfield 194, 93) := by decide +kernel
theorem f_111_93 : x_fe 111 93 = some (.if_icmp .ge (Int.ofNat 151), 96) := by decide +kernel
theorem f_111_96 : x_fe 111 96 = some (.aload 0, 97) := by decide +kernel
theorem f_111_97 : x_fe 111 97 = some (.getfield 193, 100) := by decide +kernel
theorem f_111_100 : x_fe 111 100 = some (.aload 0, 101) := by decide +kernel
theorem f_111_101 : x_fe 111 101 = some (.getfield 203, 104) := by decide +kernel
theorem f_111_104 : x_fe 111 104 = some (.iaload, 105) := by decide +kernel
theorem f_111_105 : x_fe 111 105 = some (.invokestatic 112, 108) := by decide +kernel
theorem f_111_108 : x_fe 111 108 = some (.ifCond .le (Int.ofNat 151), 111) := by decide +kernel
theorem f_111_111 : x_fe 111 111 = some (.aload 0, 112) := by decide +kernel
theorem f_111_112 : x_fe 111 112 = some (.getfield 193, 115) := by decide +kernel
theorem f_111_115 : x_fe 111 115 = some (.aload 0, 116) := by decide +kernel
theorem f_111_116 : x_fe 111 116 = some (.getfield 202, 119) := by decide +kernel
theorem f_111_119 : x_fe 111 119 = some (.iaload, 120) := by decide +kernel
theorem f_111_120 : x_fe 111 120 = some (.invokestatic 112, 123) := by decide +kernel
theorem f_111_123 : x_fe 111 123 = some (.aload 0, 124) := by decide +kernel
theorem f_111_124 : x_fe 111 124 = some (.getfield 193, 127) := by decide +kernel
theorem f_111_127 : x_fe 111 127 = some (.aload 0, 128) := by decide +kernel
theorem f_111_128 : x_fe 111 128 = some (.getfield 203, 131) := by decide +kernel
theorem f_111_131 : x_fe 111 131 = some (.iaload, 132) := by decide +kernel
theorem f_111_132 : x_fe 111 132 = some (.invokestatic 112, 135) := by decide +kernel
theorem f_111_135 : x_fe 111 135 = some (.if_icmp .ne (Int.ofNat 151), 138) := by decide +kernel
theorem f_111_138 : x_fe 111 138 = some (.aload 0, 139) := by decide +kernel
theorem f_111_139 : x_fe 111 139 = some (.dup, 140) := by decide +kernel
theorem f_111_140 : x_fe 111 140 = some (.getfield 202, 143) := by decide +kernel
theorem f_111_143 : x_fe 111 143 = some (.iconst (1), 144) := by decide +kernel
theorem f_111_144 : x_fe 111 144 = some (.iadd, 145) := by decide +kernel
theorem f_111_145 : x_fe 111 145 = some (.putfield 202, 148) := by decide +kernel
theorem f_111_148 : x_fe 111 148 = some (.goto (Int.ofNat 85), 151) := by decide +kernel
theorem f_111_151 : x_fe 111 151 = some (.aload 0, 152) := by decide +kernel
theorem f_111_152 : x_fe 111 152 = some (.aload 0, 153) := by decide +kernel
theorem f_111_153 : x_fe 111 153 = some (.getfield 202, 156) := by decide +kernel
theorem f_111_156 : x_fe 111 156 = some (.putfield 204, 159) := by decide +kernel
theorem f_111_159 : x_fe 111 159 = some (.return_, 160) := by decide +kernel
theorem f_112_0 : x_fe 112 0 = some (.iload 0, 1) := by decide +kernel
theorem f_112_1 : x_fe 112 1 = some (.iconst (97), 3) := by decide +kernel
theorem f_112_3 : x_fe 112 3 = some (.if_icmp .lt (Int.ofNat 16), 6) := by decide +kernel
theorem f_112_6 : x_fe 112 6 = some (.iload 0, 7) := by decide +kernel
theorem f_112_7 : x_fe 112 7 = some (.iconst (122), 9) := by decide +kernel
theorem f_112_9 : x_fe 112 9 = some (.if_icmp .gt (Int.ofNat 16), 12) := by decide +kernel
theorem f_112_12 : x_fe 112 12 = some (.iconst (1), 13) := by decide +kernel
theorem f_112_13 : x_fe 112 13 = some (.goto (Int.ofNat 33), 16) := by decide +kernel
theorem f_112_16 : x_fe 112 16 = some (.iload 0, 17) := by decide +kernel
theorem f_112_17 : x_fe 112 17 = some (.iconst (48), 19) := by decide +kernel
theorem f_112_19 : x_fe 112 19 = some (.if_icmp .lt (Int.ofNat 32), 22) := by decide +kernel
theorem f_112_22 : x_fe 112 22 = some (.iload 0, 23) := by decide +kernel
theorem f_112_23 : x_fe 112 23 = some (.iconst (57), 25) := by decide +kernel
theorem f_112_25 : x_fe 112 25 = some (.if_icmp .gt (Int.ofNat 32), 28) := by decide +kernel
theorem f_112_28 : x_fe 112 28 = some (.iconst (2), 29) := by decide +kernel
theorem f_112_29 : x_fe 112 29 = some (.goto (Int.ofNat 33), 32) := by decide +kernel
theorem f_112_32 : x_fe 112 32 = some (.iconst (0), 33) := by decide +kernel
theorem f_112_33 : x_fe 112 33 = some (.ireturn, 34) := by decide +kernel
theorem f_113_0 : x_fe 113 0 = some (.aload 0, 1) := by decide +kernel
theorem f_113_1 : x_fe 113 1 = some (.iconst (5638196), 3) := by decide +kernel
theorem f_113_3 : x_fe 113 3 = some (.iconst (5), 4) := by decide +kernel
theorem f_113_4 : x_fe 113 4 = some (.invokevirtual 114, 7) := by decide +kernel
theorem f_113_7 : x_fe 113 7 = some (.ifCond .ne (Int.ofNat 17), 10) := by decide +kernel
theorem f_113_10 : x_fe 113 10 = some (.aload 0, 11) := by decide +kernel
theorem f_113_11 : x_fe 113 11 = some (.iconst (1), 12) := by decide +kernel
theorem f_113_12 : x_fe 113 12 = some (.putfield 195, 15) := by decide +kernel
theorem f_113_15 : x_fe 113 15 = some (.iconst (0), 16) := by decide +kernel
theorem f_113_16 : x_fe 113 16 = some (.ireturn, 17) := by decide +kernel
theorem f_113_17 : x_fe 113 17 = some (.aload 0, 18) := by decide +kernel
theorem f_113_18 : x_fe 113 18 = some (.invokevirtual 111, 21) := by decide +kernel
theorem f_113_21 : x_fe 113 21 = some (.iconst (0), 22) := by decide +kernel
theorem f_113_22 : x_fe 113 22 = some (.istore 1, 23) := by decide +kernel
theorem f_113_23 : x_fe 113 23 = some (.iload 1, 24) := by decide +kernel
theorem f_113_24 : x_fe 113 24 = some (.iconst (9), 26) := by decide +kernel
theorem f_113_26 : x_fe 113 26 = some (.if_icmp .ge (Int.ofNat 57), 29) := by decide +kernel
theorem f_113_29 : x_fe 113 29 = some (.aload 0, 30) := by decide +kernel
theorem f_113_30 : x_fe 113 30 = some (.iconst (99), 32) := by decide +kernel
theorem f_113_32 : x_fe 113 32 = some (.invokevirtual 115, 35) := by decide +kernel
theorem f_113_35 : x_fe 113 35 = some (.istore 2, 36) := by decide +kernel
theorem f_113_36 : x_fe 113 36 = some (.iload 2, 37) := by decide +kernel
theorem f_113_37 : x_fe 113 37 = some (.iconst (-1000000), 39) := by decide +kernel
theorem f_113_39 : x_fe 113 39 = some (.if_icmp .ne (Int.ofNat 44), 42) := by decide +kernel
theorem f_113_42 : x_fe 113 42 = some (.iconst (0), 43) := by decide +kernel
theorem f_113_43 : x_fe 113 43 = some (.ireturn, 44) := by decide +kernel
theorem f_113_44 : x_fe 113 44 = some (.aload 0, 45) := by decide +kernel
theorem f_113_45 : x_fe 113 45 = some (.getfield 205, 48) := by decide +kernel
theorem f_113_48 : x_fe 113 48 = some (.iload 1, 49) := by decide +kernel
theorem f_113_49 : x_fe 113 49 = some (.iload 2, 50) := by decide +kernel
theorem f_113_50 : x_fe 113 50 = some (.iastore, 51) := by decide +kernel
theorem f_113_51 : x_fe 113 51 = some (.iinc 1 (1), 54) := by decide +kernel
theorem f_113_54 : x_fe 113 54 = some (.goto (Int.ofNat 23), 57) := by decide +kernel
theorem f_113_57 : x_fe 113 57 = some (.aload 0, 58) := by decide +kernel
theorem f_113_58 : x_fe 113 58 = some (.invokevirtual 116, 61) := by decide +kernel
theorem f_113_61 : x_fe 113 61 = some (.ireturn, 62) := by decide +kernel
theorem f_114_0 : x_fe 114 0 = some (.aload 0, 1) := by decide +kernel
theorem f_114_1 : x_fe 114 1 = some (.getfield 204, 4) := by decide +kernel
theorem f_114_4 : x_fe 114 4 = some (.aload 0, 5) := by decide +kernel
theorem f_114_5 : x_fe 114 5 = some (.getfield 203, 8) := by decide +kernel
theorem f_114_8 : x_fe 114 8 = some (.isub, 9) := by decide +kernel
theorem f_114_9 : x_fe 114 9 = some (.iload 2, 10) := by decide +kernel
theorem f_114_10 : x_fe 114 10 = some (.if_icmp .ne (Int.ofNat 17), 13) := by decide +kernel
theorem f_114_13 : x_fe 114 13 = some (.iconst (1), 14) := by decide +kernel
theorem f_114_14 : x_fe 114 14 = some (.goto (Int.ofNat 18), 17) := by decide +kernel
theorem f_114_17 : x_fe 114 17 = some (.iconst (0), 18) := by decide +kernel
theorem f_114_18 : x_fe 114 18 = some (.istore 3, 19) := by decide +kernel
theorem f_114_19 : x_fe 114 19 = some (.iconst (0), 20) := by decide +kernel
theorem f_114_20 : x_fe 114 20 = some (.istore 4, 22) := by decide +kernel
theorem f_114_22 : x_fe 114 22 = some (.iload 3, 23) := by decide +kernel
theorem f_114_23 : x_fe 114 23 = some (.ifCond .eq (Int.ofNat 71), 26) := by decide +kernel
theorem f_114_26 : x_fe 114 26 = some (.iload 4, 28) := by decide +kernel
theorem f_114_28 : x_fe 114 28 = some (.iload 2, 29) := by decide +kernel
theorem f_114_29 : x_fe 114 29 = some (.if_icmp .ge (Int.ofNat 71), 32) := by decide +kernel
theorem f_114_32 : x_fe 114 32 = some (.aload 0, 33) := by decide +kernel
theorem f_114_33 : x_fe 114 33 = some (.getfield 193, 36) := by decide +kernel
theorem f_114_36 : x_fe 114 36 = some (.aload 0, 37) := by decide +kernel
theorem f_114_37 : x_fe 114 37 = some (.getfield 203, 40) := by decide +kernel
theorem f_114_40 : x_fe 114 40 = some (.iload 4, 42) := by decide +kernel
theorem f_114_42 : x_fe 114 42 = some (.iadd, 43) := by decide +kernel
theorem f_114_43 : x_fe 114 43 = some (.iaload, 44) := by decide +kernel
theorem f_114_44 : x_fe 114 44 = some (.iconst (96), 46) := by decide +kernel
theorem f_114_46 : x_fe 114 46 = some (.iload 1, 47) := by decide +kernel
theorem f_114_47 : x_fe 114 47 = some (.iconst (5), 48) := by decide +kernel
theorem f_114_48 : x_fe 114 48 = some (.iload 4, 50) := by decide +kernel
theorem f_114_50 : x_fe 114 50 = some (.imul, 51) := by decide +kernel
theorem f_114_51 : x_fe 114 51 = some (.ishr, 52) := by decide +kernel
theorem f_114_52 : x_fe 114 52 = some (.iconst (31), 54) := by decide +kernel
theorem f_114_54 : x_fe 114 54 = some (.iand, 55) := by decide +kernel
theorem f_114_55 : x_fe 114 55 = some (.iadd, 56) := by decide +kernel
theorem f_114_56 : x_fe 114 56 = some (.if_icmp .ne (Int.ofNat 63), 59) := by decide +kernel
theorem f_114_59 : x_fe 114 59 = some (.iconst (1), 60) := by decide +kernel
theorem f_114_60 : x_fe 114 60 = some (.goto (Int.ofNat 64), 63) := by decide +kernel
theorem f_114_63 : x_fe 114 63 = some (.iconst (0), 64) := by decide +kernel
theorem f_114_64 : x_fe 114 64 = some (.istore 3, 65) := by decide +kernel
theorem f_114_65 : x_fe 114 65 = some (.iinc 4 (1), 68) := by decide +kernel
theorem f_114_68 : x_fe 114 68 = some (.goto (Int.ofNat 22), 71) := by decide +kernel
theorem f_114_71 : x_fe 114 71 = some (.iload 3, 72) := by decide +kernel
theorem f_114_72 : x_fe 114 72 = some (.ireturn, 73) := by decide +kernel
theorem f_115_0 : x_fe 115 0 = some (.aload 0, 1) := by decide +kernel
theorem f_115_1 : x_fe 115 1 = some (.getfield 203, 4) := by decide +kernel
theorem f_115_4 : x_fe 115 4 = some (.aload 0, 5) := by decide +kernel
theorem f_115_5 : x_fe 115 5 = some (.getfield 194, 8) := by decide +kernel
theorem f_115_8 : x_fe 115 8 = some (.if_icmp .eq (Int.ofNat 27), 11) := by decide +kernel
theorem f_115_11 : x_fe 115 11 = some (.aload 0, 12) := by decide +kernel
theorem f_115_12 : x_fe 115 12 = some (.getfield 193, 15) := by decide +kernel
theorem f_115_15 : x_fe 115 15 = some (.aload 0, 16) := by decide +kernel
theorem f_115_16 : x_fe 115 16 = some (.getfield 203, 19) := by decide +kernel
theorem f_115_19 : x_fe 115 19 = some (.iaload, 20) := by decide +kernel
theorem f_115_20 : x_fe 115 20 = some (.invokestatic 112, 23) := by decide +kernel
theorem f_115_23 : x_fe 115 23 = some (.iconst (2), 24) := by decide +kernel
theorem f_115_24 : x_fe 115 24 = some (.if_icmp .eq (Int.ofNat 35), 27) := by decide +kernel
theorem f_115_27 : x_fe 115 27 = some (.aload 0, 28) := by decide +kernel
theorem f_115_28 : x_fe 115 28 = some (.iconst (1), 29) := by decide +kernel
theorem f_115_29 : x_fe 115 29 = some (.putfield 195, 32) := by decide +kernel
theorem f_115_32 : x_fe 115 32 = some (.iconst (-1000000), 34) := by decide +kernel
theorem f_115_34 : x_fe 115 34 = some (.ireturn, 35) := by decide +kernel
theorem f_115_35 : x_fe 115 35 = some (.iconst (0), 36) := by decide +kernel
theorem f_115_36 : x_fe 115 36 = some (.istore 2, 37) := by decide +kernel
theorem f_115_37 : x_fe 115 37 = some (.aload 0, 38) := by decide +kernel
theorem f_115_38 : x_fe 115 38 = some (.getfield 203, 41) := by decide +kernel
theorem f_115_41 : x_fe 115 41 = some (.istore 3, 42) := by decide +kernel
theorem f_115_42 : x_fe 115 42 = some (.iload 3, 43) := by decide +kernel
theorem f_115_43 : x_fe 115 43 = some (.aload 0, 44) := by decide +kernel
theorem f_115_44 : x_fe 115 44 = some (.getfield 204, 47) := by decide +kernel
theorem f_115_47 : x_fe 115 47 = some (.if_icmp .ge (Int.ofNat 81), 50) := by decide +kernel
theorem f_115_50 : x_fe 115 50 = some (.iload 3, 51) := by decide +kernel
theorem f_115_51 : x_fe 115 51 = some (.aload 0, 52) := by decide +kernel
theorem f_115_52 : x_fe 115 52 = some (.getfield 203, 55) := by decide +kernel
theorem f_115_55 : x_fe 115 55 = some (.iconst (4), 56) := by decide +kernel
theorem f_115_56 : x_fe 115 56 = some (.iadd, 57) := by decide +kernel
theorem f_115_57 : x_fe 115 57 = some (.if_icmp .ge (Int.ofNat 81), 60) := by decide +kernel
theorem f_115_60 : x_fe 115 60 = some (.iconst (10), 62) := by decide +kernel
theorem f_115_62 : x_fe 115 62 = some (.iload 2, 63) := by decide +kernel
theorem f_115_63 : x_fe 115 63 = some (.imul, 64) := by decide +kernel
theorem f_115_64 : x_fe 115 64 = some (.aload 0, 65) := by decide +kernel
theorem f_115_65 : x_fe 115 65 = some (.getfield 193, 68) := by decide +kernel
theorem f_115_68 : x_fe 115 68 = some (.iload 3, 69) := by decide +kernel
theorem f_115_69 : x_fe 115 69 = some (.iaload, 70) := by decide +kernel
theorem f_115_70 : x_fe 115 70 = some (.iadd, 71) := by decide +kernel
theorem f_115_71 : x_fe 115 71 = some (.iconst (48), 73) := by decide +kernel
theorem f_115_73 : x_fe 115 73 = some (.isub, 74) := by decide +kernel
theorem f_115_74 : x_fe 115 74 = some (.istore 2, 75) := by decide +kernel
theorem f_115_75 : x_fe 115 75 = some (.iinc 3 (1), 78) := by decide +kernel
theorem f_115_78 : x_fe 115 78 = some (.goto (Int.ofNat 42), 81) := by decide +kernel
theorem f_115_81 : x_fe 115 81 = some (.aload 0, 82) := by decide +kernel
theorem f_115_82 : x_fe 115 82 = some (.getfield 204, 85) := by decide +kernel
theorem f_115_85 : x_fe 115 85 = some (.aload 0, 86) := by decide +kernel
theorem f_115_86 : x_fe 115 86 = some (.getfield 203, 89) := by decide +kernel
theorem f_115_89 : x_fe 115 89 = some (.isub, 90) := by decide +kernel
theorem f_115_90 : x_fe 115 90 = some (.iconst (3), 91) := by decide +kernel
theorem f_115_91 : x_fe 115 91 = some (.if_icmp .gt (Int.ofNat 99), 94) := by decide +kernel
theorem f_115_94 : x_fe 115 94 = some (.iload 2, 95) := by decide +kernel
theorem f_115_95 : x_fe 115 95 = some (.iload 1, 96) := by decide +kernel
theorem f_115_96 : x_fe 115 96 = some (.if_icmp .le (Int.ofNat 124), 99) := by decide +kernel
theorem f_115_99 : x_fe 115 99 = some (.aload 0, 100) := by decide +kernel
theorem f_115_100 : x_fe 115 100 = some (.aload 0, 101) := by decide +kernel
theorem f_115_101 : x_fe 115 101 = some (.getfield 204, 104) := by decide +kernel
theorem f_115_104 : x_fe 115 104 = some (.aload 0, 105) := by decide +kernel
theorem f_115_105 : x_fe 115 105 = some (.getfield 203, 108) := by decide +kernel
theorem f_115_108 : x_fe 115 108 = some (.isub, 109) := by decide +kernel
theorem f_115_109 : x_fe 115 109 = some (.iconst (3), 110) := by decide +kernel
theorem f_115_110 : x_fe 115 110 = some (.if_icmp .le (Int.ofNat 117), 113) := by decide +kernel
theorem f_115_113 : x_fe 115 113 = some (.iconst (1), 114) := by decide +kernel
theorem f_115_114 : x_fe 115 114 = some (.goto (Int.ofNat 118), 117) := by decide +kernel
theorem f_115_117 : x_fe 115 117 = some (.iconst (2), 118) := by decide +kernel
theorem f_115_118 : x_fe 115 118 = some (.putfield 195, 121) := by decide +kernel
theorem f_115_121 : x_fe 115 121 = some (.iconst (-1000000), 123) := by decide +kernel
theorem f_115_123 : x_fe 115 123 = some (.ireturn, 124) := by decide +kernel
theorem f_115_124 : x_fe 115 124 = some (.aload 0, 125) := by decide +kernel
theorem f_115_125 : x_fe 115 125 = some (.invokevirtual 111, 128) := by decide +kernel
theorem f_115_128 : x_fe 115 128 = some (.iload 2, 129) := by decide +kernel
theorem f_115_129 : x_fe 115 129 = some (.ireturn, 130) := by decide +kernel
theorem f_116_0 : x_fe 116 0 = some (.aload 0, 1) := by decide +kernel
theorem f_116_1 : x_fe 116 1 = some (.invokevirtual 117, 4) := by decide +kernel
theorem f_116_4 : x_fe 116 4 = some (.ifCond .ne (Int.ofNat 14), 7) := by decide +kernel
theorem f_116_7 : x_fe 116 7 = some (.aload 0, 8) := by decide +kernel
theorem f_116_8 : x_fe 116 8 = some (.iconst (1), 9) := by decide +kernel
theorem f_116_9 : x_fe 116 9 = some (.putfield 195, 12) := by decide +kernel
theorem f_116_12 : x_fe 116 12 = some (.iconst (0), 13) := by decide +kernel
theorem f_116_13 : x_fe 116 13 = some (.ireturn, 14) := by decide +kernel
theorem f_116_14 : x_fe 116 14 = some (.aload 0, 15) := by decide +kernel
theorem f_116_15 : x_fe 116 15 = some (.invokevirtual 111, 18) := by decide +kernel
theorem f_116_18 : x_fe 116 18 = some (.iconst (1), 19) := by decide +kernel
theorem f_116_19 : x_fe 116 19 = some (.ireturn, 20) := by decide +kernel
theorem f_117_0 : x_fe 117 0 = some (.aload 0, 1) := by decide +kernel
theorem f_117_1 : x_fe 117 1 = some (.getfield 203, 4) := by decide +kernel
theorem f_117_4 : x_fe 117 4 = some (.aload 0, 5) := by decide +kernel
theorem f_117_5 : x_fe 117 5 = some (.getfield 194, 8) := by decide +kernel
theorem f_117_8 : x_fe 117 8 = some (.if_icmp .ge (Int.ofNat 29), 11) := by decide +kernel
theorem f_117_11 : x_fe 117 11 = some (.aload 0, 12) := by decide +kernel
theorem f_117_12 : x_fe 117 12 = some (.getfield 193, 15) := by decide +kernel
theorem f_117_15 : x_fe 117 15 = some (.aload 0, 16) := by decide +kernel
theorem f_117_16 : x_fe 117 16 = some (.getfield 203, 19) := by decide +kernel
theorem f_117_19 : x_fe 117 19 = some (.iaload, 20) := by decide +kernel
theorem f_117_20 : x_fe 117 20 = some (.iconst (59), 22) := by decide +kernel
theorem f_117_22 : x_fe 117 22 = some (.if_icmp .ne (Int.ofNat 29), 25) := by decide +kernel
theorem f_117_25 : x_fe 117 25 = some (.iconst (1), 26) := by decide +kernel
theorem f_117_26 : x_fe 117 26 = some (.goto (Int.ofNat 30), 29) := by decide +kernel
theorem f_117_29 : x_fe 117 29 = some (.iconst (0), 30) := by decide +kernel
theorem f_117_30 : x_fe 117 30 = some (.ireturn, 31) := by decide +kernel
theorem f_118_0 : x_fe 118 0 = some (.aload 0, 1) := by decide +kernel
theorem f_118_1 : x_fe 118 1 = some (.iconst (149539), 3) := by decide +kernel
theorem f_118_3 : x_fe 118 3 = some (.iconst (4), 4) := by decide +kernel
theorem f_118_4 : x_fe 118 4 = some (.invokevirtual 114, 7) := by decide +kernel
theorem f_118_7 : x_fe 118 7 = some (.ifCond .ne (Int.ofNat 17), 10) := by decide +kernel
theorem f_118_10 : x_fe 118 10 = some (.aload 0, 11) := by decide +kernel
theorem f_118_11 : x_fe 118 11 = some (.iconst (1), 12) := by decide +kernel
theorem f_118_12 : x_fe 118 12 = some (.putfield 195, 15) := by decide +kernel
theorem f_118_15 : x_fe 118 15 = some (.iconst (0), 16) := by decide +kernel
theorem f_118_16 : x_fe 118 16 = some (.ireturn, 17) := by decide +kernel
theorem f_118_17 : x_fe 118 17 = some (.aload 0, 18) := by decide +kernel
theorem f_118_18 : x_fe 118 18 = some (.getfield 208, 21) := by decide +kernel
theorem f_118_21 : x_fe 118 21 = some (.iconst (14), 23) := by decide +kernel
theorem f_118_23 : x_fe 118 23 = some (.if_icmp .ne (Int.ofNat 33), 26) := by decide +kernel
theorem f_118_26 : x_fe 118 26 = some (.aload 0, 27) := by decide +kernel
theorem f_118_27 : x_fe 118 27 = some (.iconst (3), 28) := by decide +kernel
theorem f_118_28 : x_fe 118 28 = some (.putfield 195, 31) := by decide +kernel
theorem f_118_31 : x_fe 118 31 = some (.iconst (0), 32) := by decide +kernel
theorem f_118_32 : x_fe 118 32 = some (.ireturn, 33) := by decide +kernel
theorem f_118_33 : x_fe 118 33 = some (.aload 0, 34) := by decide +kernel
theorem f_118_34 : x_fe 118 34 = some (.invokevirtual 111, 37) := by decide +kernel
theorem f_118_37 : x_fe 118 37 = some (.aload 0, 38) := by decide +kernel
theorem f_118_38 : x_fe 118 38 = some (.invokevirtual 119, 41) := by decide +kernel
theorem f_118_41 : x_fe 118 41 = some (.ifCond .ne (Int.ofNat 46), 44) := by decide +kernel
theorem f_118_44 : x_fe 118 44 = some (.iconst (0), 45) := by decide +kernel
theorem f_118_45 : x_fe 118 45 = some (.ireturn, 46) := by decide +kernel
theorem f_118_46 : x_fe 118 46 = some (.aload 0, 47) := by decide +kernel
theorem f_118_47 : x_fe 118 47 = some (.iconst (1), 48) := by decide +kernel
theorem f_118_48 : x_fe 118 48 = some (.invokevirtual 115, 51) := by decide +kernel
theorem f_118_51 : x_fe 118 51 = some (.istore 1, 52) := by decide +kernel
theorem f_118_52 : x_fe 118 52 = some (.iload 1, 53) := by decide +kernel
theorem f_118_53 : x_fe 118 53 = some (.iconst (-1000000), 55) := by decide +kernel
theorem f_118_55 : x_fe 118 55 = some (.if_icmp .ne (Int.ofNat 60), 58) := by decide +kernel
theorem f_118_58 : x_fe 118 58 = some (.iconst (0), 59) := by decide +kernel
theorem f_118_59 : x_fe 118 59 = some (.ireturn, 60) := by decide +kernel
theorem f_118_60 : x_fe 118 60 = some (.aload 0, 61) := by decide +kernel
theorem f_118_61 : x_fe 118 61 = some (.getfield 207, 64) := by decide +kernel
theorem f_118_64 : x_fe 118 64 = some (.aload 0, 65) := by decide +kernel
theorem f_118_65 : x_fe 118 65 = some (.getfield 208, 68) := by decide +kernel
theorem f_118_68 : x_fe 118 68 = some (.iload 1, 69) := by decide +kernel
theorem f_118_69 : x_fe 118 69 = some (.iastore, 70) := by decide +kernel
theorem f_118_70 : x_fe 118 70 = some (.aload 0, 71) := by decide +kernel
theorem f_118_71 : x_fe 118 71 = some (.dup, 72) := by decide +kernel
theorem f_118_72 : x_fe 118 72 = some (.getfield 208, 75) := by decide +kernel
theorem f_118_75 : x_fe 118 75 = some (.iconst (1), 76) := by decide +kernel
theorem f_118_76 : x_fe 118 76 = some (.iadd, 77) := by decide +kernel
theorem f_118_77 : x_fe 118 77 = some (.putfield 208, 80) := by decide +kernel
theorem f_118_80 : x_fe 118 80 = some (.aload 0, 81) := by decide +kernel
theorem f_118_81 : x_fe 118 81 = some (.invokevirtual 116, 84) := by decide +kernel
theorem f_118_84 : x_fe 118 84 = some (.ireturn, 85) := by decide +kernel
theorem f_119_0 : x_fe 119 0 = some (.iconst (0), 1) := by decide +kernel
theorem f_119_1 : x_fe 119 1 = some (.istore 1, 2) := by decide +kernel
theorem f_119_2 : x_fe 119 2 = some (.aload 0, 3) := by decide +kernel
theorem f_119_3 : x_fe 119 3 = some (.getfield 203, 6) := by decide +kernel
theorem f_119_6 : x_fe 119 6 = some (.aload 0, 7) := by decide +kernel
theorem f_119_7 : x_fe 119 7 = some (.getfield 194, 10) := by decide +kernel
theorem f_119_10 : x_fe 119 10 = some (.if_icmp .ge (Int.ofNat 31), 13) := by decide +kernel
theorem f_119_13 : x_fe 119 13 = some (.aload 0, 14) := by decide +kernel
theorem f_119_14 : x_fe 119 14 = some (.getfield 204, 17) := by decide +kernel
theorem f_119_17 : x_fe 119 17 = some (.aload 0, 18) := by decide +kernel
theorem f_119_18 : x_fe 119 18 = some (.getfield 203, 21) := by decide +kernel
theorem f_119_21 : x_fe 119 21 = some (.isub, 22) := by decide +kernel
theorem f_119_22 : x_fe 119 22 = some (.iconst (9), 24) := by decide +kernel
theorem f_119_24 : x_fe 119 24 = some (.if_icmp .ne (Int.ofNat 31), 27) := by decide +kernel
theorem f_119_27 : x_fe 119 27 = some (.iconst (1), 28) := by decide +kernel
theorem f_119_28 : x_fe 119 28 = some (.goto (Int.ofNat 32), 31) := by decide +kernel
theorem f_119_31 : x_fe 119 31 = some (.iconst (0), 32) := by decide +kernel
theorem f_119_32 : x_fe 119 32 = some (.istore 2, 33) := by decide +kernel
theorem f_119_33 : x_fe 119 33 = some (.iconst (0), 34) := by decide +kernel
theorem f_119_34 : x_fe 119 34 = some (.istore 3, 35) := by decide +kernel
theorem f_119_35 : x_fe 119 35 = some (.iload 3, 36) := by decide +kernel
theorem f_119_36 : x_fe 119 36 = some (.iconst (9), 38) := by decide +kernel
theorem f_119_38 : x_fe 119 38 = some (.if_icmp .ge (Int.ofNat 115), 41) := by decide +kernel
theorem f_119_41 : x_fe 119 41 = some (.iload 2, 42) := by decide +kernel
theorem f_119_42 : x_fe 119 42 = some (.ifCond .eq (Int.ofNat 115), 45) := by decide +kernel
theorem f_119_45 : x_fe 119 45 = some (.aload 0, 46) := by decide +kernel
theorem f_119_46 : x_fe 119 46 = some (.getfield 193, 49) := by decide +kernel
theorem f_119_49 : x_fe 119 49 = some (.aload 0, 50) := by decide +kernel
theorem f_119_50 : x_fe 119 50 = some (.getfield 203, 53) := by decide +kernel
theorem f_119_53 : x_fe 119 53 = some (.iload 3, 54) := by decide +kernel
theorem f_119_54 : x_fe 119 54 = some (.iadd, 55) := by decide +kernel
theorem f_119_55 : x_fe 119 55 = some (.iaload, 56) := by decide +kernel
theorem f_119_56 : x_fe 119 56 = some (.iconst (111), 58) := by decide +kernel
theorem f_119_58 : x_fe 119 58 = some (.if_icmp .eq (Int.ofNat 77), 61) := by decide +kernel
theorem f_119_61 : x_fe 119 61 = some (.aload 0, 62) := by decide +kernel
theorem f_119_62 : x_fe 119 62 = some (.getfield 193, 65) := by decide +kernel
theorem f_119_65 : x_fe 119 65 = some (.aload 0, 66) := by decide +kernel
theorem f_119_66 : x_fe 119 66 = some (.getfield 203, 69) := by decide +kernel
theorem f_119_69 : x_fe 119 69 = some (.iload 3, 70) := by decide +kernel
theorem f_119_70 : x_fe 119 70 = some (.iadd, 71) := by decide +kernel
theorem f_119_71 : x_fe 119 71 = some (.iaload, 72) := by decide +kernel
theorem f_119_72 : x_fe 119 72 = some (.iconst (120), 74) := by decide +kernel
theorem f_119_74 : x_fe 119 74 = some (.if_icmp .ne (Int.ofNat 81), 77) := by decide +kernel
theorem f_119_77 : x_fe 119 77 = some (.iconst (1), 78) := by decide +kernel
theorem f_119_78 : x_fe 119 78 = some (.goto (Int.ofNat 82), 81) := by decide +kernel
theorem f_119_81 : x_fe 119 81 = some (.iconst (0), 82) := by decide +kernel
theorem f_119_82 : x_fe 119 82 = some (.istore 2, 83) := by decide +kernel
theorem f_119_83 : x_fe 119 83 = some (.iload 1, 84) := by decide +kernel
theorem f_119_84 : x_fe 119 84 = some (.aload 0, 85) := by decide +kernel
theorem f_119_85 : x_fe 119 85 = some (.getfield 193, 88) := by decide +kernel
theorem f_119_88 : x_fe 119 88 = some (.aload 0, 89) := by decide +kernel
theorem f_119_89 : x_fe 119 89 = some (.getfield 203, 92) := by decide +kernel
theorem f_119_92 : x_fe 119 92 = some (.iload 3, 93) := by decide +kernel
theorem f_119_93 : x_fe 119 93 = some (.iadd, 94) := by decide +kernel
theorem f_119_94 : x_fe 119 94 = some (.iaload, 95) := by decide +kernel
theorem f_119_95 : x_fe 119 95 = some (.iconst (111), 97) := by decide +kernel
theorem f_119_97 : x_fe 119 97 = some (.if_icmp .ne (Int.ofNat 106), 100) := by decide +kernel
theorem f_119_100 : x_fe 119 100 = some (.iconst (1), 101) := by decide +kernel
theorem f_119_101 : x_fe 119 101 = some (.iload 3, 102) := by decide +kernel
theorem f_119_102 : x_fe 119 102 = some (.ishl, 103) := by decide +kernel
theorem f_119_103 : x_fe 119 103 = some (.goto (Int.ofNat 107), 106) := by decide +kernel
theorem f_119_106 : x_fe 119 106 = some (.iconst (0), 107) := by decide +kernel
theorem f_119_107 : x_fe 119 107 = some (.ior, 108) := by decide +kernel
theorem f_119_108 : x_fe 119 108 = some (.istore 1, 109) := by decide +kernel
theorem f_119_109 : x_fe 119 109 = some (.iinc 3 (1), 112) := by decide +kernel
theorem f_119_112 : x_fe 119 112 = some (.goto (Int.ofNat 35), 115) := by decide +kernel
theorem f_119_115 : x_fe 119 115 = some (.iload 2, 116) := by decide +kernel
theorem f_119_116 : x_fe 119 116 = some (.ifCond .ne (Int.ofNat 126), 119) := by decide +kernel
theorem f_119_119 : x_fe 119 119 = some (.aload 0, 120) := by decide +kernel
theorem f_119_120 : x_fe 119 120 = some (.iconst (1), 121) := by decide +kernel
theorem f_119_121 : x_fe 119 121 = some (.putfield 195, 124) := by decide +kernel
theorem f_119_124 : x_fe 119 124 = some (.iconst (0), 125) := by decide +kernel
theorem f_119_125 : x_fe 119 125 = some (.ireturn, 126) := by decide +kernel
theorem f_119_126 : x_fe 119 126 = some (.aload 0, 127) := by decide +kernel
theorem f_119_127 : x_fe 119 127 = some (.getfield 206, 130) := by decide +kernel
theorem f_119_130 : x_fe 119 130 = some (.aload 0, 131) := by decide +kernel
theorem f_119_131 : x_fe 119 131 = some (.getfield 208, 134) := by decide +kernel
theorem f_119_134 : x_fe 119 134 = some (.iload 1, 135) := by decide +kernel
theorem f_119_135 : x_fe 119 135 = some (.iastore, 136) := by decide +kernel
theorem f_119_136 : x_fe 119 136 = some (.aload 0, 137) := by decide +kernel
theorem f_119_137 : x_fe 119 137 = some (.invokevirtual 111, 140) := by decide +kernel
theorem f_119_140 : x_fe 119 140 = some (.iconst (1), 141) := by decide +kernel
theorem f_119_141 : x_fe 119 141 = some (.ireturn, 142) := by decide +kernel
theorem f_120_0 : x_fe 120 0 = some (.iconst (0), 1) := by decide +kernel
theorem f_120_1 : x_fe 120 1 = some (.istore 1, 2) := by decide +kernel
theorem f_120_2 : x_fe 120 2 = some (.iload 1, 3) := by decide +kernel
theorem f_120_3 : x_fe 120 3 = some (.iconst (8), 5) := by decide +kernel
theorem f_120_5 : x_fe 120 5 = some (.aload 0, 6) := by decide +kernel
theorem f_120_6 : x_fe 120 6 = some (.getfield 192, 9) := by decide +kernel
theorem f_120_9 : x_fe 120 9 = some (.iconst (1), 10) := by decide +kernel
theorem f_120_10 : x_fe 120 10 = some (.iaload, 11) := by decide +kernel
theorem f_120_11 : x_fe 120 11 = some (.imul, 12) := by decide +kernel
theorem f_120_12 : x_fe 120 12 = some (.if_icmp .ge (Int.ofNat 45), 15) := by decide +kernel
theorem f_120_15 : x_fe 120 15 = some (.aload 0, 16) := by decide +kernel
theorem f_120_16 : x_fe 120 16 = some (.getfield 209, 19) := by decide +kernel
theorem f_120_19 : x_fe 120 19 = some (.iload 1, 20) := by decide +kernel
theorem f_120_20 : x_fe 120 20 = some (.aload 0, 21) := by decide +kernel
theorem f_120_21 : x_fe 120 21 = some (.getfield 192, 24) := by decide +kernel
theorem f_120_24 : x_fe 120 24 = some (.iconst (2), 25) := by decide +kernel
theorem f_120_25 : x_fe 120 25 = some (.iload 1, 26) := by decide +kernel
theorem f_120_26 : x_fe 120 26 = some (.iconst (8), 28) := by decide +kernel
theorem f_120_28 : x_fe 120 28 = some (.idiv, 29) := by decide +kernel
theorem f_120_29 : x_fe 120 29 = some (.iadd, 30) := by decide +kernel
theorem f_120_30 : x_fe 120 30 = some (.iaload, 31) := by decide +kernel
theorem f_120_31 : x_fe 120 31 = some (.iload 1, 32) := by decide +kernel
theorem f_120_32 : x_fe 120 32 = some (.iconst (8), 34) := by decide +kernel
theorem f_120_34 : x_fe 120 34 = some (.irem, 35) := by decide +kernel
theorem f_120_35 : x_fe 120 35 = some (.invokestatic 121, 38) := by decide +kernel
theorem f_120_38 : x_fe 120 38 = some (.iastore, 39) := by decide +kernel
theorem f_120_39 : x_fe 120 39 = some (.iinc 1 (1), 42) := by decide +kernel
theorem f_120_42 : x_fe 120 42 = some (.goto (Int.ofNat 2), 45) := by decide +kernel
theorem f_120_45 : x_fe 120 45 = some (.return_, 46) := by decide +kernel
theorem f_121_0 : x_fe 121 0 = some (.iconst (0), 1) := by decide +kernel
theorem f_121_1 : x_fe 121 1 = some (.istore 2, 2) := by decide +kernel
theorem f_121_2 : x_fe 121 2 = some (.iconst (0), 3) := by decide +kernel
theorem f_121_3 : x_fe 121 3 = some (.istore 3, 4) := by decide +kernel
theorem f_121_4 : x_fe 121 4 = some (.iload 3, 5) := by decide +kernel
theorem f_121_5 : x_fe 121 5 = some (.iconst (9), 7) := by decide +kernel
theorem f_121_7 : x_fe 121 7 = some (.if_icmp .ge (Int.ofNat 94), 10) := by decide +kernel
theorem f_121_10 : x_fe 121 10 = some (.iload 1, 11) := by decide +kernel
theorem f_121_11 : x_fe 121 11 = some (.iconst (4), 12) := by decide +kernel
theorem f_121_12 : x_fe 121 12 = some (.if_icmp .ge (Int.ofNat 21), 15) := by decide +kernel
theorem f_121_15 : x_fe 121 15 = some (.iload 3, 16) := by decide +kernel
theorem f_121_16 : x_fe 121 16 = some (.iconst (3), 17) := by decide +kernel
theorem f_121_17 : x_fe 121 17 = some (.irem, 18) := by decide +kernel
theorem f_121_18 : x_fe 121 18 = some (.goto (Int.ofNat 26), 21) := by decide +kernel
theorem f_121_21 : x_fe 121 21 = some (.iconst (2), 22) := by decide +kernel
theorem f_121_22 : x_fe 121 22 = some (.iload 3, 23) := by decide +kernel
theorem f_121_23 : x_fe 121 23 = some (.iconst (3), 24) := by decide +kernel
theorem f_121_24 : x_fe 121 24 = some (.irem, 25) := by decide +kernel
theorem f_121_25 : x_fe 121 25 = some (.isub, 26) := by decide +kernel
theorem f_121_26 : x_fe 121 26 = some (.istore 4, 28) := by decide +kernel
theorem f_121_28 : x_fe 121 28 = some (.iload 3, 29) := by decide +kernel
theorem f_121_29 : x_fe 121 29 = some (.iconst (3), 30) := by decide +kernel
theorem f_121_30 : x_fe 121 30 = some (.idiv, 31) := by decide +kernel
theorem f_121_31 : x_fe 121 31 = some (.istore 5, 33) := by decide +kernel
theorem f_121_33 : x_fe 121 33 = some (.iconst (0), 34) := by decide +kernel
theorem f_121_34 : x_fe 121 34 = some (.istore 6, 36) := by decide +kernel
theorem f_121_36 : x_fe 121 36 = some (.iload 6, 38) := by decide +kernel
theorem f_121_38 : x_fe 121 38 = some (.iload 1, 39) := by decide +kernel
theorem f_121_39 : x_fe 121 39 = some (.iconst (4), 40) := by decide +kernel
theorem f_121_40 : x_fe 121 40 = some (.irem, 41) := by decide +kernel
theorem f_121_41 : x_fe 121 41 = some (.if_icmp .ge (Int.ofNat 64), 44) := by decide +kernel
theorem f_121_44 : x_fe 121 44 = some (.iload 4, 46) := by decide +kernel
theorem f_121_46 : x_fe 121 46 = some (.istore 7, 48) := by decide +kernel
theorem f_121_48 : x_fe 121 48 = some (.iconst (2), 49) := by decide +kernel
theorem f_121_49 : x_fe 121 49 = some (.iload 5, 51) := by decide +kernel
theorem f_121_51 : x_fe 121 51 = some (.isub, 52) := by decide +kernel
theorem f_121_52 : x_fe 121 52 = some (.istore 4, 54) := by decide +kernel
theorem f_121_54 : x_fe 121 54 = some (.iload 7, 56) := by decide +kernel
theorem f_121_56 : x_fe 121 56 = some (.istore 5, 58) := by decide +kernel
theorem f_121_58 : x_fe 121 58 = some (.iinc 6 (1), 61) := by decide +kernel
theorem f_121_61 : x_fe 121 61 = some (.goto (Int.ofNat 36), 64) := by decide +kernel
theorem f_121_64 : x_fe 121 64 = some (.iload 2, 65) := by decide +kernel
theorem f_121_65 : x_fe 121 65 = some (.iload 0, 66) := by decide +kernel
theorem f_121_66 : x_fe 121 66 = some (.iload 3, 67) := by decide +kernel
theorem f_121_67 : x_fe 121 67 = some (.invokestatic 122, 70) := by decide +kernel
theorem f_121_70 : x_fe 121 70 = some (.ifCond .eq (Int.ofNat 85), 73) := by decide +kernel
theorem f_121_73 : x_fe 121 73 = some (.iconst (1), 74) := by decide +kernel
theorem f_121_74 : x_fe 121 74 = some (.iload 4, 76) := by decide +kernel
theorem f_121_76 : x_fe 121 76 = some (.iconst (3), 77) := by decide +kernel
theorem f_121_77 : x_fe 121 77 = some (.iload 5, 79) := by decide +kernel
theorem f_121_79 : x_fe 121 79 = some (.imul, 80) := by decide +kernel
theorem f_121_80 : x_fe 121 80 = some (.iadd, 81) := by decide +kernel
theorem f_121_81 : x_fe 121 81 = some (.ishl, 82) := by decide +kernel
theorem f_121_82 : x_fe 121 82 = some (.goto (Int.ofNat 86), 85) := by decide +kernel
theorem f_121_85 : x_fe 121 85 = some (.iconst (0), 86) := by decide +kernel
theorem f_121_86 : x_fe 121 86 = some (.ior, 87) := by decide +kernel
theorem f_121_87 : x_fe 121 87 = some (.istore 2, 88) := by decide +kernel
theorem f_121_88 : x_fe 121 88 = some (.iinc 3 (1), 91) := by decide +kernel
theorem f_121_91 : x_fe 121 91 = some (.goto (Int.ofNat 4), 94) := by decide +kernel
theorem f_121_94 : x_fe 121 94 = some (.iload 2, 95) := by decide +kernel
theorem f_121_95 : x_fe 121 95 = some (.ireturn, 96) := by decide +kernel
theorem f_122_0 : x_fe 122 0 = some (.iload 0, 1) := by decide +kernel
theorem f_122_1 : x_fe 122 1 = some (.iload 1, 2) := by decide +kernel
theorem f_122_2 : x_fe 122 2 = some (.ishr, 3) := by decide +kernel
theorem f_122_3 : x_fe 122 3 = some (.iconst (1), 4) := by decide +kernel
theorem f_122_4 : x_fe 122 4 = some (.iand, 5) := by decide +kernel
theorem f_122_5 : x_fe 122 5 = some (.iconst (1), 6) := by decide +kernel
theorem f_122_6 : x_fe 122 6 = some (.if_icmp .ne (Int.ofNat 13), 9) := by decide +kernel
theorem f_122_9 : x_fe 122 9 = some (.iconst (1), 10) := by decide +kernel
theorem f_122_10 : x_fe 122 10 = some (.goto (Int.ofNat 14), 13) := by decide +kernel
theorem f_122_13 : x_fe 122 13 = some (.iconst (0), 14) := by decide +kernel
theorem f_122_14 : x_fe 122 14 = some (.ireturn, 15) := by decide +kernel
theorem f_123_0 : x_fe 123 0 = some (.aload 0, 1) := by decide +kernel
theorem f_123_1 : x_fe 123 1 = some (.getfield 195, 4) := by decide +kernel
theorem f_123_4 : x_fe 123 4 = some (.ireturn, 5) := by decide +kernel
theorem f_124_0 : x_fe 124 0 = some (.aload 0, 1) := by decide +kernel
theorem f_124_1 : x_fe 124 1 = some (.iload 1, 2) := by decide +kernel
theorem f_124_2 : x_fe 124 2 = some (.invokevirtual 125, 5) := by decide +kernel
theorem f_124_5 : x_fe 124 5 = some (.ifCond .eq (Int.ofNat 29), 8) := by decide +kernel
theorem f_124_8 : x_fe 124 8 = some (.iload 2, 9) := by decide +kernel
theorem f_124_9 : x_fe 124 9 = some (.invokestatic 126, 12) := by decide +kernel
theorem f_124_12 : x_fe 124 12 = some (.ifCond .eq (Int.ofNat 29), 15) := by decide +kernel
theorem f_124_15 : x_fe 124 15 = some (.aload 0, 16) := by decide +kernel
theorem f_124_16 : x_fe 124 16 = some (.getfield 209, 19) := by decide +kernel
theorem f_124_19 : x_fe 124 19 = some (.iconst (8), 21) := by decide +kernel
theorem f_124_21 : x_fe 124 21 = some (.iload 1, 22) := by decide +kernel
theorem f_124_22 : x_fe 124 22 = some (.imul, 23) := by decide +kernel
theorem f_124_23 : x_fe 124 23 = some (.iload 2, 24) := by decide +kernel
theorem f_124_24 : x_fe 124 24 = some (.iadd, 25) := by decide +kernel
theorem f_124_25 : x_fe 124 25 = some (.iaload, 26) := by decide +kernel
theorem f_124_26 : x_fe 124 26 = some (.goto (Int.ofNat 31), 29) := by decide +kernel
theorem f_124_29 : x_fe 124 29 = some (.iconst (-1000001), 31) := by decide +kernel
theorem f_124_31 : x_fe 124 31 = some (.ireturn, 32) := by decide +kernel
theorem f_125_0 : x_fe 125 0 = some (.iload 1, 1) := by decide +kernel
theorem f_125_1 : x_fe 125 1 = some (.i2l, 2) := by decide +kernel
theorem f_125_2 : x_fe 125 2 = some (.ldc2_w 0, 3) := by decide +kernel
theorem f_125_3 : x_fe 125 3 = some (.aload 0, 4) := by decide +kernel
theorem f_125_4 : x_fe 125 4 = some (.getfield 192, 7) := by decide +kernel
theorem f_125_7 : x_fe 125 7 = some (.iconst (1), 8) := by decide +kernel
theorem f_125_8 : x_fe 125 8 = some (.iaload, 9) := by decide +kernel
theorem f_125_9 : x_fe 125 9 = some (.iconst (1), 10) := by decide +kernel
theorem f_125_10 : x_fe 125 10 = some (.isub, 11) := by decide +kernel
theorem f_125_11 : x_fe 125 11 = some (.i2l, 12) := by decide +kernel
theorem f_125_12 : x_fe 125 12 = some (.invokestatic 101, 15) := by decide +kernel
theorem f_125_15 : x_fe 125 15 = some (.ireturn, 16) := by decide +kernel
theorem f_126_0 : x_fe 126 0 = some (.iload 0, 1) := by decide +kernel
theorem f_126_1 : x_fe 126 1 = some (.i2l, 2) := by decide +kernel
theorem f_126_2 : x_fe 126 2 = some (.ldc2_w 0, 3) := by decide +kernel
theorem f_126_3 : x_fe 126 3 = some (.ldc2_w 7, 6) := by decide +kernel
theorem f_126_6 : x_fe 126 6 = some (.invokestatic 101, 9) := by decide +kernel
theorem f_126_9 : x_fe 126 9 = some (.ireturn, 10) := by decide +kernel
theorem f_127_0 : x_fe 127 0 = some (.aload 0, 1) := by decide +kernel
theorem f_127_1 : x_fe 127 1 = some (.getfield 192, 4) := by decide +kernel
theorem f_127_4 : x_fe 127 4 = some (.iconst (0), 5) := by decide +kernel
theorem f_127_5 : x_fe 127 5 = some (.iaload, 6) := by decide +kernel
theorem f_127_6 : x_fe 127 6 = some (.ifCond .ne (Int.ofNat 14), 9) := by decide +kernel
theorem f_127_9 : x_fe 127 9 = some (.iconst (-1000002), 11) := by decide +kernel
theorem f_127_11 : x_fe 127 11 = some (.goto (Int.ofNat 31), 14) := by decide +kernel
theorem f_127_14 : x_fe 127 14 = some (.iload 1, 15) := by decide +kernel
theorem f_127_15 : x_fe 127 15 = some (.invokestatic 128, 18) := by decide +kernel
theorem f_127_18 : x_fe 127 18 = some (.ifCond .eq (Int.ofNat 29), 21) := by decide +kernel
theorem f_127_21 : x_fe 127 21 = some (.aload 0, 22) := by decide +kernel
theorem f_127_22 : x_fe 127 22 = some (.iload 1, 23) := by decide +kernel
theorem f_127_23 : x_fe 127 23 = some (.invokevirtual 129, 26) := by decide +kernel
theorem f_127_26 : x_fe 127 26 = some (.goto (Int.ofNat 31), 29) := by decide +kernel
theorem f_127_29 : x_fe 127 29 = some (.iconst (-1000001), 31) := by decide +kernel
theorem f_127_31 : x_fe 127 31 = some (.ireturn, 32) := by decide +kernel
theorem f_128_0 : x_fe 128 0 = some (.iload 0, 1) := by decide +kernel
theorem f_128_1 : x_fe 128 1 = some (.i2l, 2) := by decide +kernel
theorem f_128_2 : x_fe 128 2 = some (.ldc2_w 0, 3) := by decide +kernel
theorem f_128_3 : x_fe 128 3 = some (.ldc2_w 511, 6) := by decide +kernel
theorem f_128_6 : x_fe 128 6 = some (.invokestatic 101, 9) := by decide +kernel
theorem f_128_9 : x_fe 128 9 = some (.ireturn, 10) := by decide +kernel
theorem f_129_0 : x_fe 129 0 = some (.iconst (0), 1) := by decide +kernel
theorem f_129_1 : x_fe 129 1 = some (.istore 2, 2) := by decide +kernel
theorem f_129_2 : x_fe 129 2 = some (.iconst (0), 3) := by decide +kernel
theorem f_129_3 : x_fe 129 3 = some (.istore 3, 4) := by decide +kernel
theorem f_129_4 : x_fe 129 4 = some (.iload 3, 5) := by decide +kernel
theorem f_129_5 : x_fe 129 5 = some (.iconst (9), 7) := by decide +kernel
theorem f_129_7 : x_fe 129 7 = some (.if_icmp .ge (Int.ofNat 40), 10) := by decide +kernel
theorem f_129_10 : x_fe 129 10 = some (.iload 2, 11) := by decide +kernel
theorem f_129_11 : x_fe 129 11 = some (.iload 1, 12) := by decide +kernel
theorem f_129_12 : x_fe 129 12 = some (.iload 3, 13) := by decide +kernel
theorem f_129_13 : x_fe 129 13 = some (.invokestatic 122, 16) := by decide +kernel
theorem f_129_16 : x_fe 129 16 = some (.ifCond .eq (Int.ofNat 31), 19) := by decide +kernel
theorem f_129_19 : x_fe 129 19 = some (.aload 0, 20) := by decide +kernel
theorem f_129_20 : x_fe 129 20 = some (.getfield 192, 23) := by decide +kernel
theorem f_129_23 : x_fe 129 23 = some (.iconst (16), 25) := by decide +kernel
theorem f_129_25 : x_fe 129 25 = some (.iload 3, 26) := by decide +kernel
theorem f_129_26 : x_fe 129 26 = some (.iadd, 27) := by decide +kernel
theorem f_129_27 : x_fe 129 27 = some (.iaload, 28) := by decide +kernel
theorem f_129_28 : x_fe 129 28 = some (.goto (Int.ofNat 32), 31) := by decide +kernel
theorem f_129_31 : x_fe 129 31 = some (.iconst (0), 32) := by decide +kernel
theorem f_129_32 : x_fe 129 32 = some (.iadd, 33) := by decide +kernel
theorem f_129_33 : x_fe 129 33 = some (.istore 2, 34) := by decide +kernel
theorem f_129_34 : x_fe 129 34 = some (.iinc 3 (1), 37) := by decide +kernel
theorem f_129_37 : x_fe 129 37 = some (.goto (Int.ofNat 4), 40) := by decide +kernel
end
section
theorem f_129_40 : x_fe 129 40 = some (.iload 2, 41) := by decide +kernel
theorem f_129_41 : x_fe 129 41 = some (.ireturn, 42) := by decide +kernel
theorem f_130_0 : x_fe 130 0 = some (.aload 0, 1) := by decide +kernel
theorem f_130_1 : x_fe 130 1 = some (.iload 1, 2) := by decide +kernel
theorem f_130_2 : x_fe 130 2 = some (.invokevirtual 125, 5) := by decide +kernel
theorem f_130_5 : x_fe 130 5 = some (.ifCond .eq (Int.ofNat 15), 8) := by decide +kernel
theorem f_130_8 : x_fe 130 8 = some (.iload 2, 9) := by decide +kernel
theorem f_130_9 : x_fe 130 9 = some (.invokestatic 126, 12) := by decide +kernel
theorem f_130_12 : x_fe 130 12 = some (.ifCond .ne (Int.ofNat 18), 15) := by decide +kernel
theorem f_130_15 : x_fe 130 15 = some (.iconst (-1000001), 17) := by decide +kernel
theorem f_130_17 : x_fe 130 17 = some (.ireturn, 18) := by decide +kernel
theorem f_130_18 : x_fe 130 18 = some (.aload 0, 19) := by decide +kernel
theorem f_130_19 : x_fe 130 19 = some (.iload 1, 20) := by decide +kernel
theorem f_130_20 : x_fe 130 20 = some (.invokevirtual 131, 23) := by decide +kernel
theorem f_130_23 : x_fe 130 23 = some (.ifCond .eq (Int.ofNat 39), 26) := by decide +kernel
theorem f_130_26 : x_fe 130 26 = some (.aload 0, 27) := by decide +kernel
theorem f_130_27 : x_fe 130 27 = some (.iconst (8), 29) := by decide +kernel
theorem f_130_29 : x_fe 130 29 = some (.iload 1, 30) := by decide +kernel
theorem f_130_30 : x_fe 130 30 = some (.imul, 31) := by decide +kernel
theorem f_130_31 : x_fe 130 31 = some (.iload 2, 32) := by decide +kernel
theorem f_130_32 : x_fe 130 32 = some (.iadd, 33) := by decide +kernel
theorem f_130_33 : x_fe 130 33 = some (.invokevirtual 132, 36) := by decide +kernel
theorem f_130_36 : x_fe 130 36 = some (.goto (Int.ofNat 41), 39) := by decide +kernel
theorem f_130_39 : x_fe 130 39 = some (.iconst (-1000002), 41) := by decide +kernel
theorem f_130_41 : x_fe 130 41 = some (.ireturn, 42) := by decide +kernel
theorem f_131_0 : x_fe 131 0 = some (.aload 0, 1) := by decide +kernel
theorem f_131_1 : x_fe 131 1 = some (.getfield 192, 4) := by decide +kernel
theorem f_131_4 : x_fe 131 4 = some (.iconst (30), 6) := by decide +kernel
theorem f_131_6 : x_fe 131 6 = some (.aload 0, 7) := by decide +kernel
theorem f_131_7 : x_fe 131 7 = some (.getfield 192, 10) := by decide +kernel
theorem f_131_10 : x_fe 131 10 = some (.iconst (27), 12) := by decide +kernel
theorem f_131_12 : x_fe 131 12 = some (.iaload, 13) := by decide +kernel
theorem f_131_13 : x_fe 131 13 = some (.iadd, 14) := by decide +kernel
theorem f_131_14 : x_fe 131 14 = some (.iaload, 15) := by decide +kernel
theorem f_131_15 : x_fe 131 15 = some (.iload 1, 16) := by decide +kernel
theorem f_131_16 : x_fe 131 16 = some (.invokestatic 122, 19) := by decide +kernel
theorem f_131_19 : x_fe 131 19 = some (.ireturn, 20) := by decide +kernel
theorem f_132_0 : x_fe 132 0 = some (.aload 0, 1) := by decide +kernel
theorem f_132_1 : x_fe 132 1 = some (.getfield 192, 4) := by decide +kernel
theorem f_132_4 : x_fe 132 4 = some (.iconst (27), 6) := by decide +kernel
theorem f_132_6 : x_fe 132 6 = some (.iaload, 7) := by decide +kernel
theorem f_132_7 : x_fe 132 7 = some (.istore 2, 8) := by decide +kernel
theorem f_132_8 : x_fe 132 8 = some (.aload 0, 9) := by decide +kernel
theorem f_132_9 : x_fe 132 9 = some (.getfield 192, 12) := by decide +kernel
theorem f_132_12 : x_fe 132 12 = some (.iconst (25), 14) := by decide +kernel
theorem f_132_14 : x_fe 132 14 = some (.iaload, 15) := by decide +kernel
theorem f_132_15 : x_fe 132 15 = some (.aload 0, 16) := by decide +kernel
theorem f_132_16 : x_fe 132 16 = some (.getfield 209, 19) := by decide +kernel
theorem f_132_19 : x_fe 132 19 = some (.iload 1, 20) := by decide +kernel
theorem f_132_20 : x_fe 132 20 = some (.iaload, 21) := by decide +kernel
theorem f_132_21 : x_fe 132 21 = some (.iand, 22) := by decide +kernel
theorem f_132_22 : x_fe 132 22 = some (.istore 3, 23) := by decide +kernel
theorem f_132_23 : x_fe 132 23 = some (.aload 0, 24) := by decide +kernel
theorem f_132_24 : x_fe 132 24 = some (.iload 3, 25) := by decide +kernel
theorem f_132_25 : x_fe 132 25 = some (.invokevirtual 129, 28) := by decide +kernel
theorem f_132_28 : x_fe 132 28 = some (.istore 4, 30) := by decide +kernel
theorem f_132_30 : x_fe 132 30 = some (.aload 0, 31) := by decide +kernel
theorem f_132_31 : x_fe 132 31 = some (.getfield 192, 34) := by decide +kernel
theorem f_132_34 : x_fe 132 34 = some (.iconst (28), 36) := by decide +kernel
theorem f_132_36 : x_fe 132 36 = some (.iload 2, 37) := by decide +kernel
theorem f_132_37 : x_fe 132 37 = some (.iadd, 38) := by decide +kernel
theorem f_132_38 : x_fe 132 38 = some (.dup2, 39) := by decide +kernel
theorem f_132_39 : x_fe 132 39 = some (.iaload, 40) := by decide +kernel
theorem f_132_40 : x_fe 132 40 = some (.iload 4, 42) := by decide +kernel
theorem f_132_42 : x_fe 132 42 = some (.iadd, 43) := by decide +kernel
theorem f_132_43 : x_fe 132 43 = some (.iastore, 44) := by decide +kernel
theorem f_132_44 : x_fe 132 44 = some (.aload 0, 45) := by decide +kernel
theorem f_132_45 : x_fe 132 45 = some (.getfield 192, 48) := by decide +kernel
theorem f_132_48 : x_fe 132 48 = some (.iconst (30), 50) := by decide +kernel
theorem f_132_50 : x_fe 132 50 = some (.iload 2, 51) := by decide +kernel
theorem f_132_51 : x_fe 132 51 = some (.iadd, 52) := by decide +kernel
theorem f_132_52 : x_fe 132 52 = some (.dup2, 53) := by decide +kernel
theorem f_132_53 : x_fe 132 53 = some (.iaload, 54) := by decide +kernel
theorem f_132_54 : x_fe 132 54 = some (.iconst (1), 55) := by decide +kernel
theorem f_132_55 : x_fe 132 55 = some (.iload 1, 56) := by decide +kernel
theorem f_132_56 : x_fe 132 56 = some (.iconst (8), 58) := by decide +kernel
theorem f_132_58 : x_fe 132 58 = some (.idiv, 59) := by decide +kernel
theorem f_132_59 : x_fe 132 59 = some (.ishl, 60) := by decide +kernel
theorem f_132_60 : x_fe 132 60 = some (.iconst (-1), 61) := by decide +kernel
theorem f_132_61 : x_fe 132 61 = some (.ixor, 62) := by decide +kernel
theorem f_132_62 : x_fe 132 62 = some (.iand, 63) := by decide +kernel
theorem f_132_63 : x_fe 132 63 = some (.iastore, 64) := by decide +kernel
theorem f_132_64 : x_fe 132 64 = some (.aload 0, 65) := by decide +kernel
theorem f_132_65 : x_fe 132 65 = some (.getfield 192, 68) := by decide +kernel
theorem f_132_68 : x_fe 132 68 = some (.iconst (25), 70) := by decide +kernel
theorem f_132_70 : x_fe 132 70 = some (.iload 3, 71) := by decide +kernel
theorem f_132_71 : x_fe 132 71 = some (.ifCond .ne (Int.ofNat 80), 74) := by decide +kernel
theorem f_132_74 : x_fe 132 74 = some (.iconst (511), 77) := by decide +kernel
theorem f_132_77 : x_fe 132 77 = some (.goto (Int.ofNat 81), 80) := by decide +kernel
theorem f_132_80 : x_fe 132 80 = some (.iload 3, 81) := by decide +kernel
theorem f_132_81 : x_fe 132 81 = some (.iastore, 82) := by decide +kernel
theorem f_132_82 : x_fe 132 82 = some (.aload 0, 83) := by decide +kernel
theorem f_132_83 : x_fe 132 83 = some (.getfield 192, 86) := by decide +kernel
theorem f_132_86 : x_fe 132 86 = some (.iconst (26), 88) := by decide +kernel
theorem f_132_88 : x_fe 132 88 = some (.iload 3, 89) := by decide +kernel
theorem f_132_89 : x_fe 132 89 = some (.ifCond .ne (Int.ofNat 96), 92) := by decide +kernel
theorem f_132_92 : x_fe 132 92 = some (.iconst (0), 93) := by decide +kernel
theorem f_132_93 : x_fe 132 93 = some (.goto (Int.ofNat 105), 96) := by decide +kernel
theorem f_132_96 : x_fe 132 96 = some (.aload 0, 97) := by decide +kernel
theorem f_132_97 : x_fe 132 97 = some (.getfield 192, 100) := by decide +kernel
theorem f_132_100 : x_fe 132 100 = some (.iconst (26), 102) := by decide +kernel
theorem f_132_102 : x_fe 132 102 = some (.iaload, 103) := by decide +kernel
theorem f_132_103 : x_fe 132 103 = some (.iconst (1), 104) := by decide +kernel
theorem f_132_104 : x_fe 132 104 = some (.iadd, 105) := by decide +kernel
theorem f_132_105 : x_fe 132 105 = some (.iastore, 106) := by decide +kernel
theorem f_132_106 : x_fe 132 106 = some (.aload 0, 107) := by decide +kernel
theorem f_132_107 : x_fe 132 107 = some (.getfield 192, 110) := by decide +kernel
theorem f_132_110 : x_fe 132 110 = some (.iconst (32), 112) := by decide +kernel
theorem f_132_112 : x_fe 132 112 = some (.dup2, 113) := by decide +kernel
theorem f_132_113 : x_fe 132 113 = some (.iaload, 114) := by decide +kernel
theorem f_132_114 : x_fe 132 114 = some (.iload 3, 115) := by decide +kernel
theorem f_132_115 : x_fe 132 115 = some (.ifCond .ne (Int.ofNat 122), 118) := by decide +kernel
theorem f_132_118 : x_fe 132 118 = some (.iconst (1), 119) := by decide +kernel
theorem f_132_119 : x_fe 132 119 = some (.goto (Int.ofNat 123), 122) := by decide +kernel
theorem f_132_122 : x_fe 132 122 = some (.iconst (0), 123) := by decide +kernel
theorem f_132_123 : x_fe 132 123 = some (.iadd, 124) := by decide +kernel
theorem f_132_124 : x_fe 132 124 = some (.iastore, 125) := by decide +kernel
theorem f_132_125 : x_fe 132 125 = some (.aload 0, 126) := by decide +kernel
theorem f_132_126 : x_fe 132 126 = some (.getfield 192, 129) := by decide +kernel
theorem f_132_129 : x_fe 132 129 = some (.iconst (27), 131) := by decide +kernel
theorem f_132_131 : x_fe 132 131 = some (.aload 0, 132) := by decide +kernel
theorem f_132_132 : x_fe 132 132 = some (.getfield 192, 135) := by decide +kernel
theorem f_132_135 : x_fe 132 135 = some (.iconst (31), 137) := by decide +kernel
theorem f_132_137 : x_fe 132 137 = some (.iload 2, 138) := by decide +kernel
theorem f_132_138 : x_fe 132 138 = some (.isub, 139) := by decide +kernel
theorem f_132_139 : x_fe 132 139 = some (.iaload, 140) := by decide +kernel
theorem f_132_140 : x_fe 132 140 = some (.ifCond .eq (Int.ofNat 149), 143) := by decide +kernel
theorem f_132_143 : x_fe 132 143 = some (.iconst (1), 144) := by decide +kernel
theorem f_132_144 : x_fe 132 144 = some (.iload 2, 145) := by decide +kernel
theorem f_132_145 : x_fe 132 145 = some (.isub, 146) := by decide +kernel
theorem f_132_146 : x_fe 132 146 = some (.goto (Int.ofNat 150), 149) := by decide +kernel
theorem f_132_149 : x_fe 132 149 = some (.iload 2, 150) := by decide +kernel
theorem f_132_150 : x_fe 132 150 = some (.iastore, 151) := by decide +kernel
theorem f_132_151 : x_fe 132 151 = some (.iload 4, 153) := by decide +kernel
theorem f_132_153 : x_fe 132 153 = some (.ireturn, 154) := by decide +kernel
theorem f_133_0 : x_fe 133 0 = some (.aload 0, 1) := by decide +kernel
theorem f_133_1 : x_fe 133 1 = some (.getfield 192, 4) := by decide +kernel
theorem f_133_4 : x_fe 133 4 = some (.iconst (0), 5) := by decide +kernel
theorem f_133_5 : x_fe 133 5 = some (.iaload, 6) := by decide +kernel
theorem f_133_6 : x_fe 133 6 = some (.ifCond .ne (Int.ofNat 12), 9) := by decide +kernel
theorem f_133_9 : x_fe 133 9 = some (.iconst (-1000002), 11) := by decide +kernel
theorem f_133_11 : x_fe 133 11 = some (.ireturn, 12) := by decide +kernel
theorem f_133_12 : x_fe 133 12 = some (.iload 1, 13) := by decide +kernel
theorem f_133_13 : x_fe 133 13 = some (.invokestatic 100, 16) := by decide +kernel
theorem f_133_16 : x_fe 133 16 = some (.ifCond .eq (Int.ofNat 31), 19) := by decide +kernel
theorem f_133_19 : x_fe 133 19 = some (.iload 3, 20) := by decide +kernel
theorem f_133_20 : x_fe 133 20 = some (.i2l, 21) := by decide +kernel
theorem f_133_21 : x_fe 133 21 = some (.ldc2_w 1, 22) := by decide +kernel
theorem f_133_22 : x_fe 133 22 = some (.ldc2_w 14, 25) := by decide +kernel
theorem f_133_25 : x_fe 133 25 = some (.invokestatic 101, 28) := by decide +kernel
theorem f_133_28 : x_fe 133 28 = some (.ifCond .ne (Int.ofNat 34), 31) := by decide +kernel
theorem f_133_31 : x_fe 133 31 = some (.iconst (-1000001), 33) := by decide +kernel
theorem f_133_33 : x_fe 133 33 = some (.ireturn, 34) := by decide +kernel
theorem f_133_34 : x_fe 133 34 = some (.aload 0, 35) := by decide +kernel
theorem f_133_35 : x_fe 133 35 = some (.getfield 197, 38) := by decide +kernel
theorem f_133_38 : x_fe 133 38 = some (.iload 1, 39) := by decide +kernel
theorem f_133_39 : x_fe 133 39 = some (.iaload, 40) := by decide +kernel
theorem f_133_40 : x_fe 133 40 = some (.iconst (-1000000), 42) := by decide +kernel
theorem f_133_42 : x_fe 133 42 = some (.if_icmp .ne (Int.ofNat 51), 45) := by decide +kernel
theorem f_133_45 : x_fe 133 45 = some (.aload 0, 46) := by decide +kernel
theorem f_133_46 : x_fe 133 46 = some (.iconst (1), 47) := by decide +kernel
theorem f_133_47 : x_fe 133 47 = some (.invokevirtual 102, 50) := by decide +kernel
theorem f_133_50 : x_fe 133 50 = some (.ireturn, 51) := by decide +kernel
theorem f_133_51 : x_fe 133 51 = some (.aload 0, 52) := by decide +kernel
theorem f_133_52 : x_fe 133 52 = some (.iload 1, 53) := by decide +kernel
theorem f_133_53 : x_fe 133 53 = some (.iload 2, 54) := by decide +kernel
theorem f_133_54 : x_fe 133 54 = some (.iload 3, 55) := by decide +kernel
theorem f_133_55 : x_fe 133 55 = some (.invokevirtual 106, 58) := by decide +kernel
theorem f_133_58 : x_fe 133 58 = some (.ifCond .ne (Int.ofNat 67), 61) := by decide +kernel
theorem f_133_61 : x_fe 133 61 = some (.aload 0, 62) := by decide +kernel
theorem f_133_62 : x_fe 133 62 = some (.iconst (2), 63) := by decide +kernel
theorem f_133_63 : x_fe 133 63 = some (.invokevirtual 102, 66) := by decide +kernel
theorem f_133_66 : x_fe 133 66 = some (.ireturn, 67) := by decide +kernel
theorem f_133_67 : x_fe 133 67 = some (.aload 0, 68) := by decide +kernel
theorem f_133_68 : x_fe 133 68 = some (.iconst (40), 70) := by decide +kernel
theorem f_133_70 : x_fe 133 70 = some (.iload 1, 71) := by decide +kernel
theorem f_133_71 : x_fe 133 71 = some (.imul, 72) := by decide +kernel
theorem f_133_72 : x_fe 133 72 = some (.iload 2, 73) := by decide +kernel
theorem f_133_73 : x_fe 133 73 = some (.iadd, 74) := by decide +kernel
theorem f_133_74 : x_fe 133 74 = some (.iload 3, 75) := by decide +kernel
theorem f_133_75 : x_fe 133 75 = some (.invokevirtual 134, 78) := by decide +kernel
theorem f_133_78 : x_fe 133 78 = some (.istore 4, 80) := by decide +kernel
theorem f_133_80 : x_fe 133 80 = some (.iload 4, 82) := by decide +kernel
theorem f_133_82 : x_fe 133 82 = some (.ifCond .eq (Int.ofNat 88), 85) := by decide +kernel
theorem f_133_85 : x_fe 133 85 = some (.iload 4, 87) := by decide +kernel
theorem f_133_87 : x_fe 133 87 = some (.ireturn, 88) := by decide +kernel
theorem f_133_88 : x_fe 133 88 = some (.iconst (0), 89) := by decide +kernel
theorem f_133_89 : x_fe 133 89 = some (.istore 5, 91) := by decide +kernel
theorem f_133_91 : x_fe 133 91 = some (.iconst (0), 92) := by decide +kernel
theorem f_133_92 : x_fe 133 92 = some (.istore 6, 94) := by decide +kernel
theorem f_133_94 : x_fe 133 94 = some (.iload 6, 96) := by decide +kernel
theorem f_133_96 : x_fe 133 96 = some (.iload 3, 97) := by decide +kernel
theorem f_133_97 : x_fe 133 97 = some (.if_icmp .ge (Int.ofNat 153), 100) := by decide +kernel
theorem f_133_100 : x_fe 133 100 = some (.aload 0, 101) := by decide +kernel
theorem f_133_101 : x_fe 133 101 = some (.getfield 192, 104) := by decide +kernel
theorem f_133_104 : x_fe 133 104 = some (.iconst (27), 106) := by decide +kernel
theorem f_133_106 : x_fe 133 106 = some (.iaload, 107) := by decide +kernel
theorem f_133_107 : x_fe 133 107 = some (.istore 7, 109) := by decide +kernel
theorem f_133_109 : x_fe 133 109 = some (.aload 0, 110) := by decide +kernel
theorem f_133_110 : x_fe 133 110 = some (.aload 0, 111) := by decide +kernel
theorem f_133_111 : x_fe 133 111 = some (.getfield 199, 114) := by decide +kernel
theorem f_133_114 : x_fe 133 114 = some (.iconst (40), 116) := by decide +kernel
theorem f_133_116 : x_fe 133 116 = some (.iload 1, 117) := by decide +kernel
theorem f_133_117 : x_fe 133 117 = some (.imul, 118) := by decide +kernel
theorem f_133_118 : x_fe 133 118 = some (.iload 2, 119) := by decide +kernel
theorem f_133_119 : x_fe 133 119 = some (.iadd, 120) := by decide +kernel
theorem f_133_120 : x_fe 133 120 = some (.iload 6, 122) := by decide +kernel
theorem f_133_122 : x_fe 133 122 = some (.iadd, 123) := by decide +kernel
theorem f_133_123 : x_fe 133 123 = some (.iaload, 124) := by decide +kernel
theorem f_133_124 : x_fe 133 124 = some (.invokevirtual 132, 127) := by decide +kernel
theorem f_133_127 : x_fe 133 127 = some (.istore 8, 129) := by decide +kernel
theorem f_133_129 : x_fe 133 129 = some (.iload 5, 131) := by decide +kernel
theorem f_133_131 : x_fe 133 131 = some (.iload 7, 133) := by decide +kernel
theorem f_133_133 : x_fe 133 133 = some (.ifCond .ne (Int.ofNat 141), 136) := by decide +kernel
theorem f_133_136 : x_fe 133 136 = some (.iload 8, 138) := by decide +kernel
theorem f_133_138 : x_fe 133 138 = some (.goto (Int.ofNat 144), 141) := by decide +kernel
theorem f_133_141 : x_fe 133 141 = some (.iload 8, 143) := by decide +kernel
theorem f_133_143 : x_fe 133 143 = some (.ineg, 144) := by decide +kernel
theorem f_133_144 : x_fe 133 144 = some (.iadd, 145) := by decide +kernel
theorem f_133_145 : x_fe 133 145 = some (.istore 5, 147) := by decide +kernel
theorem f_133_147 : x_fe 133 147 = some (.iinc 6 (1), 150) := by decide +kernel
theorem f_133_150 : x_fe 133 150 = some (.goto (Int.ofNat 94), 153) := by decide +kernel
theorem f_133_153 : x_fe 133 153 = some (.aload 0, 154) := by decide +kernel
theorem f_133_154 : x_fe 133 154 = some (.iload 5, 156) := by decide +kernel
theorem f_133_156 : x_fe 133 156 = some (.invokevirtual 103, 159) := by decide +kernel
theorem f_133_159 : x_fe 133 159 = some (.ireturn, 160) := by decide +kernel
theorem f_134_0 : x_fe 134 0 = some (.iconst (0), 1) := by decide +kernel
theorem f_134_1 : x_fe 134 1 = some (.istore 3, 2) := by decide +kernel
theorem f_134_2 : x_fe 134 2 = some (.iload 3, 3) := by decide +kernel
theorem f_134_3 : x_fe 134 3 = some (.iload 2, 4) := by decide +kernel
theorem f_134_4 : x_fe 134 4 = some (.if_icmp .ge (Int.ofNat 44), 7) := by decide +kernel
theorem f_134_7 : x_fe 134 7 = some (.aload 0, 8) := by decide +kernel
theorem f_134_8 : x_fe 134 8 = some (.getfield 199, 11) := by decide +kernel
theorem f_134_11 : x_fe 134 11 = some (.iload 1, 12) := by decide +kernel
theorem f_134_12 : x_fe 134 12 = some (.iload 3, 13) := by decide +kernel
theorem f_134_13 : x_fe 134 13 = some (.iadd, 14) := by decide +kernel
theorem f_134_14 : x_fe 134 14 = some (.iaload, 15) := by decide +kernel
theorem f_134_15 : x_fe 134 15 = some (.i2l, 16) := by decide +kernel
theorem f_134_16 : x_fe 134 16 = some (.ldc2_w 0, 17) := by decide +kernel
theorem f_134_17 : x_fe 134 17 = some (.iconst (8), 19) := by decide +kernel
theorem f_134_19 : x_fe 134 19 = some (.aload 0, 20) := by decide +kernel
theorem f_134_20 : x_fe 134 20 = some (.getfield 192, 23) := by decide +kernel
theorem f_134_23 : x_fe 134 23 = some (.iconst (1), 24) := by decide +kernel
theorem f_134_24 : x_fe 134 24 = some (.iaload, 25) := by decide +kernel
theorem f_134_25 : x_fe 134 25 = some (.imul, 26) := by decide +kernel
theorem f_134_26 : x_fe 134 26 = some (.iconst (1), 27) := by decide +kernel
theorem f_134_27 : x_fe 134 27 = some (.isub, 28) := by decide +kernel
theorem f_134_28 : x_fe 134 28 = some (.i2l, 29) := by decide +kernel
theorem f_134_29 : x_fe 134 29 = some (.invokestatic 101, 32) := by decide +kernel
theorem f_134_32 : x_fe 134 32 = some (.ifCond .ne (Int.ofNat 38), 35) := by decide +kernel
theorem f_134_35 : x_fe 134 35 = some (.iconst (-1000001), 37) := by decide +kernel
theorem f_134_37 : x_fe 134 37 = some (.ireturn, 38) := by decide +kernel
theorem f_134_38 : x_fe 134 38 = some (.iinc 3 (1), 41) := by decide +kernel
theorem f_134_41 : x_fe 134 41 = some (.goto (Int.ofNat 2), 44) := by decide +kernel
theorem f_134_44 : x_fe 134 44 = some (.aload 0, 45) := by decide +kernel
theorem f_134_45 : x_fe 134 45 = some (.getfield 210, 48) := by decide +kernel
theorem f_134_48 : x_fe 134 48 = some (.iconst (0), 49) := by decide +kernel
theorem f_134_49 : x_fe 134 49 = some (.aload 0, 50) := by decide +kernel
theorem f_134_50 : x_fe 134 50 = some (.getfield 192, 53) := by decide +kernel
theorem f_134_53 : x_fe 134 53 = some (.iconst (30), 55) := by decide +kernel
theorem f_134_55 : x_fe 134 55 = some (.iaload, 56) := by decide +kernel
theorem f_134_56 : x_fe 134 56 = some (.iastore, 57) := by decide +kernel
theorem f_134_57 : x_fe 134 57 = some (.aload 0, 58) := by decide +kernel
theorem f_134_58 : x_fe 134 58 = some (.getfield 210, 61) := by decide +kernel
theorem f_134_61 : x_fe 134 61 = some (.iconst (1), 62) := by decide +kernel
theorem f_134_62 : x_fe 134 62 = some (.aload 0, 63) := by decide +kernel
theorem f_134_63 : x_fe 134 63 = some (.getfield 192, 66) := by decide +kernel
theorem f_134_66 : x_fe 134 66 = some (.iconst (31), 68) := by decide +kernel
theorem f_134_68 : x_fe 134 68 = some (.iaload, 69) := by decide +kernel
theorem f_134_69 : x_fe 134 69 = some (.iastore, 70) := by decide +kernel
theorem f_134_70 : x_fe 134 70 = some (.aload 0, 71) := by decide +kernel
theorem f_134_71 : x_fe 134 71 = some (.getfield 210, 74) := by decide +kernel
theorem f_134_74 : x_fe 134 74 = some (.iconst (2), 75) := by decide +kernel
theorem f_134_75 : x_fe 134 75 = some (.aload 0, 76) := by decide +kernel
theorem f_134_76 : x_fe 134 76 = some (.getfield 192, 79) := by decide +kernel
theorem f_134_79 : x_fe 134 79 = some (.iconst (27), 81) := by decide +kernel
theorem f_134_81 : x_fe 134 81 = some (.iaload, 82) := by decide +kernel
theorem f_134_82 : x_fe 134 82 = some (.iastore, 83) := by decide +kernel
theorem f_134_83 : x_fe 134 83 = some (.iconst (0), 84) := by decide +kernel
theorem f_134_84 : x_fe 134 84 = some (.istore 3, 85) := by decide +kernel
theorem f_134_85 : x_fe 134 85 = some (.iload 3, 86) := by decide +kernel
theorem f_134_86 : x_fe 134 86 = some (.iload 2, 87) := by decide +kernel
theorem f_134_87 : x_fe 134 87 = some (.if_icmp .ge (Int.ofNat 193), 90) := by decide +kernel
theorem f_134_90 : x_fe 134 90 = some (.aload 0, 91) := by decide +kernel
theorem f_134_91 : x_fe 134 91 = some (.getfield 199, 94) := by decide +kernel
theorem f_134_94 : x_fe 134 94 = some (.iload 1, 95) := by decide +kernel
theorem f_134_95 : x_fe 134 95 = some (.iload 3, 96) := by decide +kernel
theorem f_134_96 : x_fe 134 96 = some (.iadd, 97) := by decide +kernel
theorem f_134_97 : x_fe 134 97 = some (.iaload, 98) := by decide +kernel
theorem f_134_98 : x_fe 134 98 = some (.istore 4, 100) := by decide +kernel
theorem f_134_100 : x_fe 134 100 = some (.aload 0, 101) := by decide +kernel
theorem f_134_101 : x_fe 134 101 = some (.getfield 210, 104) := by decide +kernel
theorem f_134_104 : x_fe 134 104 = some (.aload 0, 105) := by decide +kernel
theorem f_134_105 : x_fe 134 105 = some (.getfield 210, 108) := by decide +kernel
theorem f_134_108 : x_fe 134 108 = some (.iconst (2), 109) := by decide +kernel
theorem f_134_109 : x_fe 134 109 = some (.iaload, 110) := by decide +kernel
theorem f_134_110 : x_fe 134 110 = some (.iaload, 111) := by decide +kernel
theorem f_134_111 : x_fe 134 111 = some (.iload 4, 113) := by decide +kernel
theorem f_134_113 : x_fe 134 113 = some (.iconst (8), 115) := by decide +kernel
theorem f_134_115 : x_fe 134 115 = some (.idiv, 116) := by decide +kernel
theorem f_134_116 : x_fe 134 116 = some (.invokestatic 122, 119) := by decide +kernel
theorem f_134_119 : x_fe 134 119 = some (.ifCond .ne (Int.ofNat 125), 122) := by decide +kernel
theorem f_134_122 : x_fe 134 122 = some (.iconst (-1000002), 124) := by decide +kernel
theorem f_134_124 : x_fe 134 124 = some (.ireturn, 125) := by decide +kernel
theorem f_134_125 : x_fe 134 125 = some (.aload 0, 126) := by decide +kernel
theorem f_134_126 : x_fe 134 126 = some (.getfield 210, 129) := by decide +kernel
theorem f_134_129 : x_fe 134 129 = some (.aload 0, 130) := by decide +kernel
theorem f_134_130 : x_fe 134 130 = some (.getfield 210, 133) := by decide +kernel
theorem f_134_133 : x_fe 134 133 = some (.iconst (2), 134) := by decide +kernel
theorem f_134_134 : x_fe 134 134 = some (.iaload, 135) := by decide +kernel
theorem f_134_135 : x_fe 134 135 = some (.dup2, 136) := by decide +kernel
theorem f_134_136 : x_fe 134 136 = some (.iaload, 137) := by decide +kernel
theorem f_134_137 : x_fe 134 137 = some (.iconst (1), 138) := by decide +kernel
theorem f_134_138 : x_fe 134 138 = some (.iload 4, 140) := by decide +kernel
theorem f_134_140 : x_fe 134 140 = some (.iconst (8), 142) := by decide +kernel
theorem f_134_142 : x_fe 134 142 = some (.idiv, 143) := by decide +kernel
theorem f_134_143 : x_fe 134 143 = some (.ishl, 144) := by decide +kernel
theorem f_134_144 : x_fe 134 144 = some (.iconst (-1), 145) := by decide +kernel
theorem f_134_145 : x_fe 134 145 = some (.ixor, 146) := by decide +kernel
theorem f_134_146 : x_fe 134 146 = some (.iand, 147) := by decide +kernel
theorem f_134_147 : x_fe 134 147 = some (.iastore, 148) := by decide +kernel
theorem f_134_148 : x_fe 134 148 = some (.aload 0, 149) := by decide +kernel
theorem f_134_149 : x_fe 134 149 = some (.getfield 210, 152) := by decide +kernel
theorem f_134_152 : x_fe 134 152 = some (.iconst (2), 153) := by decide +kernel
theorem f_134_153 : x_fe 134 153 = some (.aload 0, 154) := by decide +kernel
theorem f_134_154 : x_fe 134 154 = some (.getfield 210, 157) := by decide +kernel
theorem f_134_157 : x_fe 134 157 = some (.iconst (1), 158) := by decide +kernel
theorem f_134_158 : x_fe 134 158 = some (.aload 0, 159) := by decide +kernel
theorem f_134_159 : x_fe 134 159 = some (.getfield 210, 162) := by decide +kernel
theorem f_134_162 : x_fe 134 162 = some (.iconst (2), 163) := by decide +kernel
theorem f_134_163 : x_fe 134 163 = some (.iaload, 164) := by decide +kernel
theorem f_134_164 : x_fe 134 164 = some (.isub, 165) := by decide +kernel
theorem f_134_165 : x_fe 134 165 = some (.iaload, 166) := by decide +kernel
theorem f_134_166 : x_fe 134 166 = some (.ifCond .eq (Int.ofNat 180), 169) := by decide +kernel
theorem f_134_169 : x_fe 134 169 = some (.iconst (1), 170) := by decide +kernel
theorem f_134_170 : x_fe 134 170 = some (.aload 0, 171) := by decide +kernel
theorem f_134_171 : x_fe 134 171 = some (.getfield 210, 174) := by decide +kernel
theorem f_134_174 : x_fe 134 174 = some (.iconst (2), 175) := by decide +kernel
theorem f_134_175 : x_fe 134 175 = some (.iaload, 176) := by decide +kernel
theorem f_134_176 : x_fe 134 176 = some (.isub, 177) := by decide +kernel
theorem f_134_177 : x_fe 134 177 = some (.goto (Int.ofNat 186), 180) := by decide +kernel
theorem f_134_180 : x_fe 134 180 = some (.aload 0, 181) := by decide +kernel
theorem f_134_181 : x_fe 134 181 = some (.getfield 210, 184) := by decide +kernel
theorem f_134_184 : x_fe 134 184 = some (.iconst (2), 185) := by decide +kernel
theorem f_134_185 : x_fe 134 185 = some (.iaload, 186) := by decide +kernel
theorem f_134_186 : x_fe 134 186 = some (.iastore, 187) := by decide +kernel
theorem f_134_187 : x_fe 134 187 = some (.iinc 3 (1), 190) := by decide +kernel
theorem f_134_190 : x_fe 134 190 = some (.goto (Int.ofNat 85), 193) := by decide +kernel
theorem f_134_193 : x_fe 134 193 = some (.iconst (0), 194) := by decide +kernel
theorem f_134_194 : x_fe 134 194 = some (.ireturn, 195) := by decide +kernel
theorem f_135_0 : x_fe 135 0 = some (.aload 0, 1) := by decide +kernel
theorem f_135_1 : x_fe 135 1 = some (.getfield 192, 4) := by decide +kernel
theorem f_135_4 : x_fe 135 4 = some (.iconst (0), 5) := by decide +kernel
theorem f_135_5 : x_fe 135 5 = some (.iaload, 6) := by decide +kernel
theorem f_135_6 : x_fe 135 6 = some (.ifCond .ne (Int.ofNat 12), 9) := by decide +kernel
theorem f_135_9 : x_fe 135 9 = some (.iconst (-1000002), 11) := by decide +kernel
theorem f_135_11 : x_fe 135 11 = some (.ireturn, 12) := by decide +kernel
theorem f_135_12 : x_fe 135 12 = some (.iload 1, 13) := by decide +kernel
theorem f_135_13 : x_fe 135 13 = some (.i2l, 14) := by decide +kernel
theorem f_135_14 : x_fe 135 14 = some (.ldc2_w 1, 15) := by decide +kernel
theorem f_135_15 : x_fe 135 15 = some (.ldc2_w 14, 18) := by decide +kernel
theorem f_135_18 : x_fe 135 18 = some (.invokestatic 101, 21) := by decide +kernel
theorem f_135_21 : x_fe 135 21 = some (.ifCond .eq (Int.ofNat 36), 24) := by decide +kernel
theorem f_135_24 : x_fe 135 24 = some (.iload 2, 25) := by decide +kernel
theorem f_135_25 : x_fe 135 25 = some (.i2l, 26) := by decide +kernel
theorem f_135_26 : x_fe 135 26 = some (.ldc2_w 1, 27) := by decide +kernel
theorem f_135_27 : x_fe 135 27 = some (.ldc2_w 999999, 30) := by decide +kernel
theorem f_135_30 : x_fe 135 30 = some (.invokestatic 101, 33) := by decide +kernel
theorem f_135_33 : x_fe 135 33 = some (.ifCond .ne (Int.ofNat 39), 36) := by decide +kernel
theorem f_135_36 : x_fe 135 36 = some (.iconst (-1000001), 38) := by decide +kernel
theorem f_135_38 : x_fe 135 38 = some (.ireturn, 39) := by decide +kernel
theorem f_135_39 : x_fe 135 39 = some (.iload 2, 40) := by decide +kernel
theorem f_135_40 : x_fe 135 40 = some (.i2l, 41) := by decide +kernel
theorem f_135_41 : x_fe 135 41 = some (.lstore 3, 42) := by decide +kernel
theorem f_135_42 : x_fe 135 42 = some (.iconst (0), 43) := by decide +kernel
theorem f_135_43 : x_fe 135 43 = some (.istore 5, 45) := by decide +kernel
theorem f_135_45 : x_fe 135 45 = some (.iload 5, 47) := by decide +kernel
theorem f_135_47 : x_fe 135 47 = some (.iload 1, 48) := by decide +kernel
theorem f_135_48 : x_fe 135 48 = some (.if_icmp .ge (Int.ofNat 184), 51) := by decide +kernel
theorem f_135_51 : x_fe 135 51 = some (.aload 0, 52) := by decide +kernel
theorem f_135_52 : x_fe 135 52 = some (.getfield 192, 55) := by decide +kernel
theorem f_135_55 : x_fe 135 55 = some (.iconst (30), 57) := by decide +kernel
theorem f_135_57 : x_fe 135 57 = some (.aload 0, 58) := by decide +kernel
theorem f_135_58 : x_fe 135 58 = some (.getfield 192, 61) := by decide +kernel
theorem f_135_61 : x_fe 135 61 = some (.iconst (27), 63) := by decide +kernel
theorem f_135_63 : x_fe 135 63 = some (.iaload, 64) := by decide +kernel
theorem f_135_64 : x_fe 135 64 = some (.iadd, 65) := by decide +kernel
theorem f_135_65 : x_fe 135 65 = some (.iaload, 66) := by decide +kernel
theorem f_135_66 : x_fe 135 66 = some (.ifCond .eq (Int.ofNat 184), 69) := by decide +kernel
theorem f_135_69 : x_fe 135 69 = some (.lload 3, 70) := by decide +kernel
theorem f_135_70 : x_fe 135 70 = some (.ldc2_w 16807, 73) := by decide +kernel
theorem f_135_73 : x_fe 135 73 = some (.lmul, 74) := by decide +kernel
theorem f_135_74 : x_fe 135 74 = some (.ldc2_w 2147483647, 77) := by decide +kernel
theorem f_135_77 : x_fe 135 77 = some (.lrem, 78) := by decide +kernel
theorem f_135_78 : x_fe 135 78 = some (.lstore 3, 79) := by decide +kernel
theorem f_135_79 : x_fe 135 79 = some (.aload 0, 80) := by decide +kernel
theorem f_135_80 : x_fe 135 80 = some (.getfield 192, 83) := by decide +kernel
theorem f_135_83 : x_fe 135 83 = some (.iconst (30), 85) := by decide +kernel
theorem f_135_85 : x_fe 135 85 = some (.aload 0, 86) := by decide +kernel
theorem f_135_86 : x_fe 135 86 = some (.getfield 192, 89) := by decide +kernel
theorem f_135_89 : x_fe 135 89 = some (.iconst (27), 91) := by decide +kernel
theorem f_135_91 : x_fe 135 91 = some (.iaload, 92) := by decide +kernel
theorem f_135_92 : x_fe 135 92 = some (.iadd, 93) := by decide +kernel
theorem f_135_93 : x_fe 135 93 = some (.iaload, 94) := by decide +kernel
theorem f_135_94 : x_fe 135 94 = some (.istore 6, 96) := by decide +kernel
theorem f_135_96 : x_fe 135 96 = some (.lload 3, 97) := by decide +kernel
theorem f_135_97 : x_fe 135 97 = some (.ldc2_w 8, 100) := by decide +kernel
theorem f_135_100 : x_fe 135 100 = some (.iload 6, 102) := by decide +kernel
theorem f_135_102 : x_fe 135 102 = some (.invokestatic 136, 105) := by decide +kernel
theorem f_135_105 : x_fe 135 105 = some (.i2l, 106) := by decide +kernel
theorem f_135_106 : x_fe 135 106 = some (.lmul, 107) := by decide +kernel
theorem f_135_107 : x_fe 135 107 = some (.lrem, 108) := by decide +kernel
theorem f_135_108 : x_fe 135 108 = some (.l2i, 109) := by decide +kernel
theorem f_135_109 : x_fe 135 109 = some (.istore 7, 111) := by decide +kernel
theorem f_135_111 : x_fe 135 111 = some (.iconst (0), 112) := by decide +kernel
theorem f_135_112 : x_fe 135 112 = some (.istore 8, 114) := by decide +kernel
theorem f_135_114 : x_fe 135 114 = some (.iload 7, 116) := by decide +kernel
theorem f_135_116 : x_fe 135 116 = some (.iconst (8), 118) := by decide +kernel
theorem f_135_118 : x_fe 135 118 = some (.idiv, 119) := by decide +kernel
theorem f_135_119 : x_fe 135 119 = some (.istore 9, 121) := by decide +kernel
theorem f_135_121 : x_fe 135 121 = some (.iload 6, 123) := by decide +kernel
theorem f_135_123 : x_fe 135 123 = some (.iload 8, 125) := by decide +kernel
theorem f_135_125 : x_fe 135 125 = some (.invokestatic 122, 128) := by decide +kernel
theorem f_135_128 : x_fe 135 128 = some (.ifCond .eq (Int.ofNat 136), 131) := by decide +kernel
theorem f_135_131 : x_fe 135 131 = some (.iload 9, 133) := by decide +kernel
theorem f_135_133 : x_fe 135 133 = some (.ifCond .le (Int.ofNat 162), 136) := by decide +kernel
theorem f_135_136 : x_fe 135 136 = some (.iload 9, 138) := by decide +kernel
theorem f_135_138 : x_fe 135 138 = some (.iload 6, 140) := by decide +kernel
theorem f_135_140 : x_fe 135 140 = some (.iload 8, 142) := by decide +kernel
theorem f_135_142 : x_fe 135 142 = some (.invokestatic 122, 145) := by decide +kernel
theorem f_135_145 : x_fe 135 145 = some (.ifCond .eq (Int.ofNat 152), 148) := by decide +kernel
theorem f_135_148 : x_fe 135 148 = some (.iconst (1), 149) := by decide +kernel
theorem f_135_149 : x_fe 135 149 = some (.goto (Int.ofNat 153), 152) := by decide +kernel
theorem f_135_152 : x_fe 135 152 = some (.iconst (0), 153) := by decide +kernel
theorem f_135_153 : x_fe 135 153 = some (.isub, 154) := by decide +kernel
theorem f_135_154 : x_fe 135 154 = some (.istore 9, 156) := by decide +kernel
theorem f_135_156 : x_fe 135 156 = some (.iinc 8 (1), 159) := by decide +kernel
theorem f_135_159 : x_fe 135 159 = some (.goto (Int.ofNat 121), 162) := by decide +kernel
theorem f_135_162 : x_fe 135 162 = some (.aload 0, 163) := by decide +kernel
theorem f_135_163 : x_fe 135 163 = some (.iconst (8), 165) := by decide +kernel
theorem f_135_165 : x_fe 135 165 = some (.iload 8, 167) := by decide +kernel
theorem f_135_167 : x_fe 135 167 = some (.imul, 168) := by decide +kernel
theorem f_135_168 : x_fe 135 168 = some (.iload 7, 170) := by decide +kernel
theorem f_135_170 : x_fe 135 170 = some (.iconst (8), 172) := by decide +kernel
theorem f_135_172 : x_fe 135 172 = some (.irem, 173) := by decide +kernel
theorem f_135_173 : x_fe 135 173 = some (.iadd, 174) := by decide +kernel
theorem f_135_174 : x_fe 135 174 = some (.invokevirtual 132, 177) := by decide +kernel
theorem f_135_177 : x_fe 135 177 = some (.pop, 178) := by decide +kernel
theorem f_135_178 : x_fe 135 178 = some (.iinc 5 (1), 181) := by decide +kernel
theorem f_135_181 : x_fe 135 181 = some (.goto (Int.ofNat 45), 184) := by decide +kernel
theorem f_135_184 : x_fe 135 184 = some (.iload 5, 186) := by decide +kernel
theorem f_135_186 : x_fe 135 186 = some (.ireturn, 187) := by decide +kernel
theorem f_136_0 : x_fe 136 0 = some (.iconst (0), 1) := by decide +kernel
theorem f_136_1 : x_fe 136 1 = some (.istore 1, 2) := by decide +kernel
theorem f_136_2 : x_fe 136 2 = some (.iconst (0), 3) := by decide +kernel
theorem f_136_3 : x_fe 136 3 = some (.istore 2, 4) := by decide +kernel
theorem f_136_4 : x_fe 136 4 = some (.iload 2, 5) := by decide +kernel
theorem f_136_5 : x_fe 136 5 = some (.iconst (14), 7) := by decide +kernel
theorem f_136_7 : x_fe 136 7 = some (.if_icmp .ge (Int.ofNat 24), 10) := by decide +kernel
theorem f_136_10 : x_fe 136 10 = some (.iload 1, 11) := by decide +kernel
theorem f_136_11 : x_fe 136 11 = some (.iload 0, 12) := by decide +kernel
theorem f_136_12 : x_fe 136 12 = some (.iload 2, 13) := by decide +kernel
theorem f_136_13 : x_fe 136 13 = some (.ishr, 14) := by decide +kernel
theorem f_136_14 : x_fe 136 14 = some (.iconst (1), 15) := by decide +kernel
theorem f_136_15 : x_fe 136 15 = some (.iand, 16) := by decide +kernel
theorem f_136_16 : x_fe 136 16 = some (.iadd, 17) := by decide +kernel
theorem f_136_17 : x_fe 136 17 = some (.istore 1, 18) := by decide +kernel
theorem f_136_18 : x_fe 136 18 = some (.iinc 2 (1), 21) := by decide +kernel
theorem f_136_21 : x_fe 136 21 = some (.goto (Int.ofNat 4), 24) := by decide +kernel
theorem f_136_24 : x_fe 136 24 = some (.iload 1, 25) := by decide +kernel
theorem f_136_25 : x_fe 136 25 = some (.ireturn, 26) := by decide +kernel
theorem f_137_0 : x_fe 137 0 = some (.aload 0, 1) := by decide +kernel
theorem f_137_1 : x_fe 137 1 = some (.getfield 192, 4) := by decide +kernel
theorem f_137_4 : x_fe 137 4 = some (.iconst (0), 5) := by decide +kernel
theorem f_137_5 : x_fe 137 5 = some (.iaload, 6) := by decide +kernel
theorem f_137_6 : x_fe 137 6 = some (.ifCond .ne (Int.ofNat 12), 9) := by decide +kernel
theorem f_137_9 : x_fe 137 9 = some (.iconst (-1000002), 11) := by decide +kernel
theorem f_137_11 : x_fe 137 11 = some (.ireturn, 12) := by decide +kernel
theorem f_137_12 : x_fe 137 12 = some (.iload 1, 13) := by decide +kernel
theorem f_137_13 : x_fe 137 13 = some (.tableswitch (115) (0) (7) #[47, 55, 63, 83, 83, 95, 95, 107], 60) := by decide +kernel
theorem f_137_60 : x_fe 137 60 = some (.aload 0, 61) := by decide +kernel
theorem f_137_61 : x_fe 137 61 = some (.getfield 192, 64) := by decide +kernel
theorem f_137_64 : x_fe 137 64 = some (.iconst (25), 66) := by decide +kernel
theorem f_137_66 : x_fe 137 66 = some (.iaload, 67) := by decide +kernel
theorem f_137_67 : x_fe 137 67 = some (.ireturn, 68) := by decide +kernel
theorem f_137_68 : x_fe 137 68 = some (.aload 0, 69) := by decide +kernel
theorem f_137_69 : x_fe 137 69 = some (.getfield 192, 72) := by decide +kernel
theorem f_137_72 : x_fe 137 72 = some (.iconst (26), 74) := by decide +kernel
theorem f_137_74 : x_fe 137 74 = some (.iaload, 75) := by decide +kernel
theorem f_137_75 : x_fe 137 75 = some (.ireturn, 76) := by decide +kernel
theorem f_137_76 : x_fe 137 76 = some (.aload 0, 77) := by decide +kernel
theorem f_137_77 : x_fe 137 77 = some (.invokevirtual 138, 80) := by decide +kernel
theorem f_137_80 : x_fe 137 80 = some (.ifCond .eq (Int.ofNat 88), 83) := by decide +kernel
theorem f_137_83 : x_fe 137 83 = some (.iconst (-1000000), 85) := by decide +kernel
theorem f_137_85 : x_fe 137 85 = some (.goto (Int.ofNat 95), 88) := by decide +kernel
theorem f_137_88 : x_fe 137 88 = some (.aload 0, 89) := by decide +kernel
theorem f_137_89 : x_fe 137 89 = some (.getfield 192, 92) := by decide +kernel
theorem f_137_92 : x_fe 137 92 = some (.iconst (27), 94) := by decide +kernel
theorem f_137_94 : x_fe 137 94 = some (.iaload, 95) := by decide +kernel
theorem f_137_95 : x_fe 137 95 = some (.ireturn, 96) := by decide +kernel
theorem f_137_96 : x_fe 137 96 = some (.aload 0, 97) := by decide +kernel
theorem f_137_97 : x_fe 137 97 = some (.getfield 192, 100) := by decide +kernel
theorem f_137_100 : x_fe 137 100 = some (.iconst (28), 102) := by decide +kernel
theorem f_137_102 : x_fe 137 102 = some (.iload 1, 103) := by decide +kernel
theorem f_137_103 : x_fe 137 103 = some (.iadd, 104) := by decide +kernel
theorem f_137_104 : x_fe 137 104 = some (.iconst (3), 105) := by decide +kernel
theorem f_137_105 : x_fe 137 105 = some (.isub, 106) := by decide +kernel
theorem f_137_106 : x_fe 137 106 = some (.iaload, 107) := by decide +kernel
theorem f_137_107 : x_fe 137 107 = some (.ireturn, 108) := by decide +kernel
theorem f_137_108 : x_fe 137 108 = some (.aload 0, 109) := by decide +kernel
theorem f_137_109 : x_fe 137 109 = some (.getfield 192, 112) := by decide +kernel
theorem f_137_112 : x_fe 137 112 = some (.iconst (30), 114) := by decide +kernel
theorem f_137_114 : x_fe 137 114 = some (.iload 1, 115) := by decide +kernel
theorem f_137_115 : x_fe 137 115 = some (.iadd, 116) := by decide +kernel
theorem f_137_116 : x_fe 137 116 = some (.iconst (5), 117) := by decide +kernel
theorem f_137_117 : x_fe 137 117 = some (.isub, 118) := by decide +kernel
theorem f_137_118 : x_fe 137 118 = some (.iaload, 119) := by decide +kernel
theorem f_137_119 : x_fe 137 119 = some (.ireturn, 120) := by decide +kernel
theorem f_137_120 : x_fe 137 120 = some (.aload 0, 121) := by decide +kernel
theorem f_137_121 : x_fe 137 121 = some (.getfield 192, 124) := by decide +kernel
theorem f_137_124 : x_fe 137 124 = some (.iconst (32), 126) := by decide +kernel
theorem f_137_126 : x_fe 137 126 = some (.iaload, 127) := by decide +kernel
theorem f_137_127 : x_fe 137 127 = some (.ireturn, 128) := by decide +kernel
theorem f_137_128 : x_fe 137 128 = some (.iconst (-1000001), 130) := by decide +kernel
theorem f_137_130 : x_fe 137 130 = some (.ireturn, 131) := by decide +kernel
theorem f_138_0 : x_fe 138 0 = some (.aload 0, 1) := by decide +kernel
theorem f_138_1 : x_fe 138 1 = some (.getfield 192, 4) := by decide +kernel
theorem f_138_4 : x_fe 138 4 = some (.iconst (30), 6) := by decide +kernel
theorem f_138_6 : x_fe 138 6 = some (.iaload, 7) := by decide +kernel
theorem f_138_7 : x_fe 138 7 = some (.ifCond .ne (Int.ofNat 24), 10) := by decide +kernel
theorem f_138_10 : x_fe 138 10 = some (.aload 0, 11) := by decide +kernel
theorem f_138_11 : x_fe 138 11 = some (.getfield 192, 14) := by decide +kernel
theorem f_138_14 : x_fe 138 14 = some (.iconst (31), 16) := by decide +kernel
theorem f_138_16 : x_fe 138 16 = some (.iaload, 17) := by decide +kernel
theorem f_138_17 : x_fe 138 17 = some (.ifCond .ne (Int.ofNat 24), 20) := by decide +kernel
theorem f_138_20 : x_fe 138 20 = some (.iconst (1), 21) := by decide +kernel
theorem f_138_21 : x_fe 138 21 = some (.goto (Int.ofNat 25), 24) := by decide +kernel
theorem f_138_24 : x_fe 138 24 = some (.iconst (0), 25) := by decide +kernel
theorem f_138_25 : x_fe 138 25 = some (.ireturn, 26) := by decide +kernel
theorem f_139_0 : x_fe 139 0 = some (.aload 0, 1) := by decide +kernel
theorem f_139_1 : x_fe 139 1 = some (.getfield 192, 4) := by decide +kernel
theorem f_139_4 : x_fe 139 4 = some (.iconst (0), 5) := by decide +kernel
theorem f_139_5 : x_fe 139 5 = some (.iaload, 6) := by decide +kernel
theorem f_139_6 : x_fe 139 6 = some (.ifCond .ne (Int.ofNat 12), 9) := by decide +kernel
theorem f_139_9 : x_fe 139 9 = some (.iconst (-1000002), 11) := by decide +kernel
theorem f_139_11 : x_fe 139 11 = some (.ireturn, 12) := by decide +kernel
theorem f_139_12 : x_fe 139 12 = some (.iload 1, 13) := by decide +kernel
theorem f_139_13 : x_fe 139 13 = some (.i2l, 14) := by decide +kernel
theorem f_139_14 : x_fe 139 14 = some (.ldc2_w 0, 15) := by decide +kernel
theorem f_139_15 : x_fe 139 15 = some (.ldc2_w 1, 16) := by decide +kernel
theorem f_139_16 : x_fe 139 16 = some (.invokestatic 101, 19) := by decide +kernel
theorem f_139_19 : x_fe 139 19 = some (.ifCond .ne (Int.ofNat 25), 22) := by decide +kernel
theorem f_139_22 : x_fe 139 22 = some (.iconst (-1000001), 24) := by decide +kernel
theorem f_139_24 : x_fe 139 24 = some (.ireturn, 25) := by decide +kernel
theorem f_139_25 : x_fe 139 25 = some (.aload 0, 26) := by decide +kernel
theorem f_139_26 : x_fe 139 26 = some (.invokevirtual 138, 29) := by decide +kernel
theorem f_139_29 : x_fe 139 29 = some (.ifCond .ne (Int.ofNat 57), 32) := by decide +kernel
theorem f_139_32 : x_fe 139 32 = some (.aload 0, 33) := by decide +kernel
theorem f_139_33 : x_fe 139 33 = some (.getfield 192, 36) := by decide +kernel
theorem f_139_36 : x_fe 139 36 = some (.iconst (30), 38) := by decide +kernel
theorem f_139_38 : x_fe 139 38 = some (.iaload, 39) := by decide +kernel
theorem f_139_39 : x_fe 139 39 = some (.invokestatic 136, 42) := by decide +kernel
theorem f_139_42 : x_fe 139 42 = some (.aload 0, 43) := by decide +kernel
theorem f_139_43 : x_fe 139 43 = some (.getfield 192, 46) := by decide +kernel
theorem f_139_46 : x_fe 139 46 = some (.iconst (31), 48) := by decide +kernel
theorem f_139_48 : x_fe 139 48 = some (.iaload, 49) := by decide +kernel
theorem f_139_49 : x_fe 139 49 = some (.invokestatic 136, 52) := by decide +kernel
theorem f_139_52 : x_fe 139 52 = some (.iadd, 53) := by decide +kernel
theorem f_139_53 : x_fe 139 53 = some (.iconst (4), 54) := by decide +kernel
theorem f_139_54 : x_fe 139 54 = some (.if_icmp .le (Int.ofNat 60), 57) := by decide +kernel
theorem f_139_57 : x_fe 139 57 = some (.iconst (-1000000), 59) := by decide +kernel
theorem f_139_59 : x_fe 139 59 = some (.ireturn, 60) := by decide +kernel
theorem f_139_60 : x_fe 139 60 = some (.aload 0, 61) := by decide +kernel
theorem f_139_61 : x_fe 139 61 = some (.invokevirtual 140, 64) := by decide +kernel
theorem f_139_64 : x_fe 139 64 = some (.iload 1, 65) := by decide +kernel
theorem f_139_65 : x_fe 139 65 = some (.ifCond .ne (Int.ofNat 77), 68) := by decide +kernel
theorem f_139_68 : x_fe 139 68 = some (.aload 0, 69) := by decide +kernel
theorem f_139_69 : x_fe 139 69 = some (.getfield 216, 72) := by decide +kernel
theorem f_139_72 : x_fe 139 72 = some (.iconst (0), 73) := by decide +kernel
theorem f_139_73 : x_fe 139 73 = some (.iaload, 74) := by decide +kernel
theorem f_139_74 : x_fe 139 74 = some (.goto (Int.ofNat 81), 77) := by decide +kernel
theorem f_139_77 : x_fe 139 77 = some (.aload 0, 78) := by decide +kernel
theorem f_139_78 : x_fe 139 78 = some (.getfield 217, 81) := by decide +kernel
theorem f_139_81 : x_fe 139 81 = some (.ireturn, 82) := by decide +kernel
theorem f_140_0 : x_fe 140 0 = some (.aload 0, 1) := by decide +kernel
theorem f_140_1 : x_fe 140 1 = some (.getfield 213, 4) := by decide +kernel
theorem f_140_4 : x_fe 140 4 = some (.iconst (0), 5) := by decide +kernel
theorem f_140_5 : x_fe 140 5 = some (.aload 0, 6) := by decide +kernel
theorem f_140_6 : x_fe 140 6 = some (.getfield 192, 9) := by decide +kernel
theorem f_140_9 : x_fe 140 9 = some (.iconst (30), 11) := by decide +kernel
theorem f_140_11 : x_fe 140 11 = some (.iaload, 12) := by decide +kernel
theorem f_140_12 : x_fe 140 12 = some (.iastore, 13) := by decide +kernel
theorem f_140_13 : x_fe 140 13 = some (.aload 0, 14) := by decide +kernel
theorem f_140_14 : x_fe 140 14 = some (.getfield 213, 17) := by decide +kernel
theorem f_140_17 : x_fe 140 17 = some (.iconst (1), 18) := by decide +kernel
theorem f_140_18 : x_fe 140 18 = some (.aload 0, 19) := by decide +kernel
theorem f_140_19 : x_fe 140 19 = some (.getfield 192, 22) := by decide +kernel
theorem f_140_22 : x_fe 140 22 = some (.iconst (31), 24) := by decide +kernel
theorem f_140_24 : x_fe 140 24 = some (.iaload, 25) := by decide +kernel
theorem f_140_25 : x_fe 140 25 = some (.iastore, 26) := by decide +kernel
theorem f_140_26 : x_fe 140 26 = some (.aload 0, 27) := by decide +kernel
theorem f_140_27 : x_fe 140 27 = some (.iconst (0), 28) := by decide +kernel
theorem f_140_28 : x_fe 140 28 = some (.aload 0, 29) := by decide +kernel
theorem f_140_29 : x_fe 140 29 = some (.getfield 192, 32) := by decide +kernel
theorem f_140_32 : x_fe 140 32 = some (.iconst (25), 34) := by decide +kernel
theorem f_140_34 : x_fe 140 34 = some (.iaload, 35) := by decide +kernel
theorem f_140_35 : x_fe 140 35 = some (.aload 0, 36) := by decide +kernel
theorem f_140_36 : x_fe 140 36 = some (.getfield 192, 39) := by decide +kernel
theorem f_140_39 : x_fe 140 39 = some (.iconst (27), 41) := by decide +kernel
theorem f_140_41 : x_fe 140 41 = some (.iaload, 42) := by decide +kernel
theorem f_140_42 : x_fe 140 42 = some (.invokevirtual 141, 45) := by decide +kernel
theorem f_140_45 : x_fe 140 45 = some (.aload 0, 46) := by decide +kernel
theorem f_140_46 : x_fe 140 46 = some (.iconst (-1000000), 48) := by decide +kernel
theorem f_140_48 : x_fe 140 48 = some (.putfield 217, 51) := by decide +kernel
theorem f_140_51 : x_fe 140 51 = some (.iconst (0), 52) := by decide +kernel
theorem f_140_52 : x_fe 140 52 = some (.istore 1, 53) := by decide +kernel
theorem f_140_53 : x_fe 140 53 = some (.iload 1, 54) := by decide +kernel
theorem f_140_54 : x_fe 140 54 = some (.ifCond .lt (Int.ofNat 262), 57) := by decide +kernel
theorem f_140_57 : x_fe 140 57 = some (.aload 0, 58) := by decide +kernel
theorem f_140_58 : x_fe 140 58 = some (.getfield 213, 61) := by decide +kernel
theorem f_140_61 : x_fe 140 61 = some (.iconst (2), 62) := by decide +kernel
theorem f_140_62 : x_fe 140 62 = some (.iload 1, 63) := by decide +kernel
theorem f_140_63 : x_fe 140 63 = some (.imul, 64) := by decide +kernel
theorem f_140_64 : x_fe 140 64 = some (.iaload, 65) := by decide +kernel
theorem f_140_65 : x_fe 140 65 = some (.ifCond .ne (Int.ofNat 81), 68) := by decide +kernel
theorem f_140_68 : x_fe 140 68 = some (.aload 0, 69) := by decide +kernel
theorem f_140_69 : x_fe 140 69 = some (.getfield 213, 72) := by decide +kernel
theorem f_140_72 : x_fe 140 72 = some (.iconst (2), 73) := by decide +kernel
theorem f_140_73 : x_fe 140 73 = some (.iload 1, 74) := by decide +kernel
theorem f_140_74 : x_fe 140 74 = some (.imul, 75) := by decide +kernel
theorem f_140_75 : x_fe 140 75 = some (.iconst (1), 76) := by decide +kernel
theorem f_140_76 : x_fe 140 76 = some (.iadd, 77) := by decide +kernel
theorem f_140_77 : x_fe 140 77 = some (.iaload, 78) := by decide +kernel
theorem f_140_78 : x_fe 140 78 = some (.ifCond .eq (Int.ofNat 99), 81) := by decide +kernel
theorem f_140_81 : x_fe 140 81 = some (.aload 0, 82) := by decide +kernel
theorem f_140_82 : x_fe 140 82 = some (.getfield 214, 85) := by decide +kernel
theorem f_140_85 : x_fe 140 85 = some (.iload 1, 86) := by decide +kernel
theorem f_140_86 : x_fe 140 86 = some (.iaload, 87) := by decide +kernel
theorem f_140_87 : x_fe 140 87 = some (.iconst (8), 89) := by decide +kernel
theorem f_140_89 : x_fe 140 89 = some (.aload 0, 90) := by decide +kernel
theorem f_140_90 : x_fe 140 90 = some (.getfield 192, 93) := by decide +kernel
theorem f_140_93 : x_fe 140 93 = some (.iconst (1), 94) := by decide +kernel
theorem f_140_94 : x_fe 140 94 = some (.iaload, 95) := by decide +kernel
theorem f_140_95 : x_fe 140 95 = some (.imul, 96) := by decide +kernel
theorem f_140_96 : x_fe 140 96 = some (.if_icmp .ne (Int.ofNat 103), 99) := by decide +kernel
theorem f_140_99 : x_fe 140 99 = some (.iconst (1), 100) := by decide +kernel
theorem f_140_100 : x_fe 140 100 = some (.goto (Int.ofNat 104), 103) := by decide +kernel
theorem f_140_103 : x_fe 140 103 = some (.iconst (0), 104) := by decide +kernel
theorem f_140_104 : x_fe 140 104 = some (.istore 2, 105) := by decide +kernel
theorem f_140_105 : x_fe 140 105 = some (.iload 2, 106) := by decide +kernel
theorem f_140_106 : x_fe 140 106 = some (.ifCond .ne (Int.ofNat 123), 109) := by decide +kernel
theorem f_140_109 : x_fe 140 109 = some (.aload 0, 110) := by decide +kernel
theorem f_140_110 : x_fe 140 110 = some (.iload 1, 111) := by decide +kernel
theorem f_140_111 : x_fe 140 111 = some (.invokevirtual 142, 114) := by decide +kernel
theorem f_140_114 : x_fe 140 114 = some (.ifCond .eq (Int.ofNat 123), 117) := by decide +kernel
theorem f_140_117 : x_fe 140 117 = some (.iinc 1 (1), 120) := by decide +kernel
theorem f_140_120 : x_fe 140 120 = some (.goto (Int.ofNat 259), 123) := by decide +kernel
theorem f_140_123 : x_fe 140 123 = some (.iload 2, 124) := by decide +kernel
theorem f_140_124 : x_fe 140 124 = some (.ifCond .ne (Int.ofNat 140), 127) := by decide +kernel
theorem f_140_127 : x_fe 140 127 = some (.aload 0, 128) := by decide +kernel
theorem f_140_128 : x_fe 140 128 = some (.getfield 214, 131) := by decide +kernel
theorem f_140_131 : x_fe 140 131 = some (.iload 1, 132) := by decide +kernel
theorem f_140_132 : x_fe 140 132 = some (.dup2, 133) := by decide +kernel
theorem f_140_133 : x_fe 140 133 = some (.iaload, 134) := by decide +kernel
theorem f_140_134 : x_fe 140 134 = some (.iconst (1), 135) := by decide +kernel
theorem f_140_135 : x_fe 140 135 = some (.iadd, 136) := by decide +kernel
theorem f_140_136 : x_fe 140 136 = some (.iastore, 137) := by decide +kernel
theorem f_140_137 : x_fe 140 137 = some (.goto (Int.ofNat 259), 140) := by decide +kernel
theorem f_140_140 : x_fe 140 140 = some (.iinc 1 (-1), 143) := by decide +kernel
theorem f_140_143 : x_fe 140 143 = some (.iload 1, 144) := by decide +kernel
theorem f_140_144 : x_fe 140 144 = some (.ifCond .lt (Int.ofNat 259), 147) := by decide +kernel
theorem f_140_147 : x_fe 140 147 = some (.aload 0, 148) := by decide +kernel
theorem f_140_148 : x_fe 140 148 = some (.getfield 215, 151) := by decide +kernel
theorem f_140_151 : x_fe 140 151 = some (.iload 1, 152) := by decide +kernel
theorem f_140_152 : x_fe 140 152 = some (.iaload, 153) := by decide +kernel
theorem f_140_153 : x_fe 140 153 = some (.aload 0, 154) := by decide +kernel
theorem f_140_154 : x_fe 140 154 = some (.getfield 212, 157) := by decide +kernel
theorem f_140_157 : x_fe 140 157 = some (.iload 1, 158) := by decide +kernel
theorem f_140_158 : x_fe 140 158 = some (.iconst (1), 159) := by decide +kernel
theorem f_140_159 : x_fe 140 159 = some (.iadd, 160) := by decide +kernel
theorem f_140_160 : x_fe 140 160 = some (.iaload, 161) := by decide +kernel
theorem f_140_161 : x_fe 140 161 = some (.aload 0, 162) := by decide +kernel
theorem f_140_162 : x_fe 140 162 = some (.getfield 212, 165) := by decide +kernel
theorem f_140_165 : x_fe 140 165 = some (.iload 1, 166) := by decide +kernel
theorem f_140_166 : x_fe 140 166 = some (.iaload, 167) := by decide +kernel
theorem f_140_167 : x_fe 140 167 = some (.if_icmp .ne (Int.ofNat 181), 170) := by decide +kernel
theorem f_140_170 : x_fe 140 170 = some (.aload 0, 171) := by decide +kernel
theorem f_140_171 : x_fe 140 171 = some (.getfield 216, 174) := by decide +kernel
theorem f_140_174 : x_fe 140 174 = some (.iload 1, 175) := by decide +kernel
theorem f_140_175 : x_fe 140 175 = some (.iconst (1), 176) := by decide +kernel
theorem f_140_176 : x_fe 140 176 = some (.iadd, 177) := by decide +kernel
theorem f_140_177 : x_fe 140 177 = some (.iaload, 178) := by decide +kernel
theorem f_140_178 : x_fe 140 178 = some (.goto (Int.ofNat 190), 181) := by decide +kernel
theorem f_140_181 : x_fe 140 181 = some (.aload 0, 182) := by decide +kernel
theorem f_140_182 : x_fe 140 182 = some (.getfield 216, 185) := by decide +kernel
theorem f_140_185 : x_fe 140 185 = some (.iload 1, 186) := by decide +kernel
theorem f_140_186 : x_fe 140 186 = some (.iconst (1), 187) := by decide +kernel
theorem f_140_187 : x_fe 140 187 = some (.iadd, 188) := by decide +kernel
theorem f_140_188 : x_fe 140 188 = some (.iaload, 189) := by decide +kernel
theorem f_140_189 : x_fe 140 189 = some (.ineg, 190) := by decide +kernel
end
section
theorem f_140_190 : x_fe 140 190 = some (.iadd, 191) := by decide +kernel
theorem f_140_191 : x_fe 140 191 = some (.istore 3, 192) := by decide +kernel
theorem f_140_192 : x_fe 140 192 = some (.aload 0, 193) := by decide +kernel
theorem f_140_193 : x_fe 140 193 = some (.iload 1, 194) := by decide +kernel
theorem f_140_194 : x_fe 140 194 = some (.ifCond .ne (Int.ofNat 216), 197) := by decide +kernel
theorem f_140_197 : x_fe 140 197 = some (.iload 3, 198) := by decide +kernel
theorem f_140_198 : x_fe 140 198 = some (.aload 0, 199) := by decide +kernel
theorem f_140_199 : x_fe 140 199 = some (.getfield 216, 202) := by decide +kernel
theorem f_140_202 : x_fe 140 202 = some (.iconst (0), 203) := by decide +kernel
theorem f_140_203 : x_fe 140 203 = some (.iaload, 204) := by decide +kernel
theorem f_140_204 : x_fe 140 204 = some (.if_icmp .le (Int.ofNat 216), 207) := by decide +kernel
theorem f_140_207 : x_fe 140 207 = some (.aload 0, 208) := by decide +kernel
theorem f_140_208 : x_fe 140 208 = some (.getfield 214, 211) := by decide +kernel
theorem f_140_211 : x_fe 140 211 = some (.iconst (0), 212) := by decide +kernel
theorem f_140_212 : x_fe 140 212 = some (.iaload, 213) := by decide +kernel
theorem f_140_213 : x_fe 140 213 = some (.goto (Int.ofNat 220), 216) := by decide +kernel
theorem f_140_216 : x_fe 140 216 = some (.aload 0, 217) := by decide +kernel
theorem f_140_217 : x_fe 140 217 = some (.getfield 217, 220) := by decide +kernel
theorem f_140_220 : x_fe 140 220 = some (.putfield 217, 223) := by decide +kernel
theorem f_140_223 : x_fe 140 223 = some (.aload 0, 224) := by decide +kernel
theorem f_140_224 : x_fe 140 224 = some (.getfield 216, 227) := by decide +kernel
theorem f_140_227 : x_fe 140 227 = some (.iload 1, 228) := by decide +kernel
theorem f_140_228 : x_fe 140 228 = some (.iload 3, 229) := by decide +kernel
theorem f_140_229 : x_fe 140 229 = some (.aload 0, 230) := by decide +kernel
theorem f_140_230 : x_fe 140 230 = some (.getfield 216, 233) := by decide +kernel
theorem f_140_233 : x_fe 140 233 = some (.iload 1, 234) := by decide +kernel
theorem f_140_234 : x_fe 140 234 = some (.iaload, 235) := by decide +kernel
theorem f_140_235 : x_fe 140 235 = some (.if_icmp .le (Int.ofNat 242), 238) := by decide +kernel
theorem f_140_238 : x_fe 140 238 = some (.iload 3, 239) := by decide +kernel
theorem f_140_239 : x_fe 140 239 = some (.goto (Int.ofNat 248), 242) := by decide +kernel
theorem f_140_242 : x_fe 140 242 = some (.aload 0, 243) := by decide +kernel
theorem f_140_243 : x_fe 140 243 = some (.getfield 216, 246) := by decide +kernel
theorem f_140_246 : x_fe 140 246 = some (.iload 1, 247) := by decide +kernel
theorem f_140_247 : x_fe 140 247 = some (.iaload, 248) := by decide +kernel
theorem f_140_248 : x_fe 140 248 = some (.iastore, 249) := by decide +kernel
theorem f_140_249 : x_fe 140 249 = some (.aload 0, 250) := by decide +kernel
theorem f_140_250 : x_fe 140 250 = some (.getfield 214, 253) := by decide +kernel
theorem f_140_253 : x_fe 140 253 = some (.iload 1, 254) := by decide +kernel
theorem f_140_254 : x_fe 140 254 = some (.dup2, 255) := by decide +kernel
theorem f_140_255 : x_fe 140 255 = some (.iaload, 256) := by decide +kernel
theorem f_140_256 : x_fe 140 256 = some (.iconst (1), 257) := by decide +kernel
theorem f_140_257 : x_fe 140 257 = some (.iadd, 258) := by decide +kernel
theorem f_140_258 : x_fe 140 258 = some (.iastore, 259) := by decide +kernel
theorem f_140_259 : x_fe 140 259 = some (.goto (Int.ofNat 53), 262) := by decide +kernel
theorem f_140_262 : x_fe 140 262 = some (.return_, 263) := by decide +kernel
theorem f_141_0 : x_fe 141 0 = some (.aload 0, 1) := by decide +kernel
theorem f_141_1 : x_fe 141 1 = some (.getfield 211, 4) := by decide +kernel
theorem f_141_4 : x_fe 141 4 = some (.iload 1, 5) := by decide +kernel
theorem f_141_5 : x_fe 141 5 = some (.iload 2, 6) := by decide +kernel
theorem f_141_6 : x_fe 141 6 = some (.iastore, 7) := by decide +kernel
theorem f_141_7 : x_fe 141 7 = some (.aload 0, 8) := by decide +kernel
theorem f_141_8 : x_fe 141 8 = some (.getfield 212, 11) := by decide +kernel
theorem f_141_11 : x_fe 141 11 = some (.iload 1, 12) := by decide +kernel
theorem f_141_12 : x_fe 141 12 = some (.iload 3, 13) := by decide +kernel
theorem f_141_13 : x_fe 141 13 = some (.iastore, 14) := by decide +kernel
theorem f_141_14 : x_fe 141 14 = some (.aload 0, 15) := by decide +kernel
theorem f_141_15 : x_fe 141 15 = some (.getfield 214, 18) := by decide +kernel
theorem f_141_18 : x_fe 141 18 = some (.iload 1, 19) := by decide +kernel
theorem f_141_19 : x_fe 141 19 = some (.iconst (0), 20) := by decide +kernel
theorem f_141_20 : x_fe 141 20 = some (.iastore, 21) := by decide +kernel
theorem f_141_21 : x_fe 141 21 = some (.aload 0, 22) := by decide +kernel
theorem f_141_22 : x_fe 141 22 = some (.getfield 216, 25) := by decide +kernel
theorem f_141_25 : x_fe 141 25 = some (.iload 1, 26) := by decide +kernel
theorem f_141_26 : x_fe 141 26 = some (.aload 0, 27) := by decide +kernel
theorem f_141_27 : x_fe 141 27 = some (.getfield 213, 30) := by decide +kernel
theorem f_141_30 : x_fe 141 30 = some (.iconst (2), 31) := by decide +kernel
theorem f_141_31 : x_fe 141 31 = some (.iload 1, 32) := by decide +kernel
theorem f_141_32 : x_fe 141 32 = some (.imul, 33) := by decide +kernel
theorem f_141_33 : x_fe 141 33 = some (.iaload, 34) := by decide +kernel
theorem f_141_34 : x_fe 141 34 = some (.ifCond .ne (Int.ofNat 54), 37) := by decide +kernel
theorem f_141_37 : x_fe 141 37 = some (.aload 0, 38) := by decide +kernel
theorem f_141_38 : x_fe 141 38 = some (.getfield 213, 41) := by decide +kernel
theorem f_141_41 : x_fe 141 41 = some (.iconst (2), 42) := by decide +kernel
theorem f_141_42 : x_fe 141 42 = some (.iload 1, 43) := by decide +kernel
theorem f_141_43 : x_fe 141 43 = some (.imul, 44) := by decide +kernel
theorem f_141_44 : x_fe 141 44 = some (.iconst (1), 45) := by decide +kernel
theorem f_141_45 : x_fe 141 45 = some (.iadd, 46) := by decide +kernel
theorem f_141_46 : x_fe 141 46 = some (.iaload, 47) := by decide +kernel
theorem f_141_47 : x_fe 141 47 = some (.ifCond .ne (Int.ofNat 54), 50) := by decide +kernel
theorem f_141_50 : x_fe 141 50 = some (.iconst (0), 51) := by decide +kernel
theorem f_141_51 : x_fe 141 51 = some (.goto (Int.ofNat 56), 54) := by decide +kernel
theorem f_141_54 : x_fe 141 54 = some (.iconst (-268435456), 56) := by decide +kernel
theorem f_141_56 : x_fe 141 56 = some (.iastore, 57) := by decide +kernel
theorem f_141_57 : x_fe 141 57 = some (.return_, 58) := by decide +kernel
theorem f_142_0 : x_fe 142 0 = some (.aload 0, 1) := by decide +kernel
theorem f_142_1 : x_fe 142 1 = some (.getfield 214, 4) := by decide +kernel
theorem f_142_4 : x_fe 142 4 = some (.iload 1, 5) := by decide +kernel
theorem f_142_5 : x_fe 142 5 = some (.iaload, 6) := by decide +kernel
theorem f_142_6 : x_fe 142 6 = some (.istore 2, 7) := by decide +kernel
theorem f_142_7 : x_fe 142 7 = some (.aload 0, 8) := by decide +kernel
theorem f_142_8 : x_fe 142 8 = some (.getfield 212, 11) := by decide +kernel
theorem f_142_11 : x_fe 142 11 = some (.iload 1, 12) := by decide +kernel
theorem f_142_12 : x_fe 142 12 = some (.iaload, 13) := by decide +kernel
theorem f_142_13 : x_fe 142 13 = some (.istore 3, 14) := by decide +kernel
theorem f_142_14 : x_fe 142 14 = some (.aload 0, 15) := by decide +kernel
theorem f_142_15 : x_fe 142 15 = some (.getfield 213, 18) := by decide +kernel
theorem f_142_18 : x_fe 142 18 = some (.iconst (2), 19) := by decide +kernel
theorem f_142_19 : x_fe 142 19 = some (.iload 1, 20) := by decide +kernel
theorem f_142_20 : x_fe 142 20 = some (.imul, 21) := by decide +kernel
theorem f_142_21 : x_fe 142 21 = some (.iload 3, 22) := by decide +kernel
theorem f_142_22 : x_fe 142 22 = some (.iadd, 23) := by decide +kernel
theorem f_142_23 : x_fe 142 23 = some (.iaload, 24) := by decide +kernel
theorem f_142_24 : x_fe 142 24 = some (.iload 2, 25) := by decide +kernel
theorem f_142_25 : x_fe 142 25 = some (.iconst (8), 27) := by decide +kernel
theorem f_142_27 : x_fe 142 27 = some (.idiv, 28) := by decide +kernel
theorem f_142_28 : x_fe 142 28 = some (.invokestatic 122, 31) := by decide +kernel
theorem f_142_31 : x_fe 142 31 = some (.ifCond .ne (Int.ofNat 36), 34) := by decide +kernel
theorem f_142_34 : x_fe 142 34 = some (.iconst (0), 35) := by decide +kernel
theorem f_142_35 : x_fe 142 35 = some (.ireturn, 36) := by decide +kernel
theorem f_142_36 : x_fe 142 36 = some (.aload 0, 37) := by decide +kernel
theorem f_142_37 : x_fe 142 37 = some (.getfield 211, 40) := by decide +kernel
theorem f_142_40 : x_fe 142 40 = some (.iload 1, 41) := by decide +kernel
theorem f_142_41 : x_fe 142 41 = some (.iaload, 42) := by decide +kernel
theorem f_142_42 : x_fe 142 42 = some (.aload 0, 43) := by decide +kernel
theorem f_142_43 : x_fe 142 43 = some (.getfield 209, 46) := by decide +kernel
theorem f_142_46 : x_fe 142 46 = some (.iload 2, 47) := by decide +kernel
theorem f_142_47 : x_fe 142 47 = some (.iaload, 48) := by decide +kernel
theorem f_142_48 : x_fe 142 48 = some (.iand, 49) := by decide +kernel
theorem f_142_49 : x_fe 142 49 = some (.istore 4, 51) := by decide +kernel
theorem f_142_51 : x_fe 142 51 = some (.aload 0, 52) := by decide +kernel
theorem f_142_52 : x_fe 142 52 = some (.getfield 215, 55) := by decide +kernel
theorem f_142_55 : x_fe 142 55 = some (.iload 1, 56) := by decide +kernel
theorem f_142_56 : x_fe 142 56 = some (.aload 0, 57) := by decide +kernel
theorem f_142_57 : x_fe 142 57 = some (.iload 4, 59) := by decide +kernel
theorem f_142_59 : x_fe 142 59 = some (.invokevirtual 129, 62) := by decide +kernel
theorem f_142_62 : x_fe 142 62 = some (.iastore, 63) := by decide +kernel
theorem f_142_63 : x_fe 142 63 = some (.aload 0, 64) := by decide +kernel
theorem f_142_64 : x_fe 142 64 = some (.getfield 213, 67) := by decide +kernel
theorem f_142_67 : x_fe 142 67 = some (.iconst (2), 68) := by decide +kernel
theorem f_142_68 : x_fe 142 68 = some (.iload 1, 69) := by decide +kernel
theorem f_142_69 : x_fe 142 69 = some (.imul, 70) := by decide +kernel
theorem f_142_70 : x_fe 142 70 = some (.iconst (2), 71) := by decide +kernel
theorem f_142_71 : x_fe 142 71 = some (.iadd, 72) := by decide +kernel
theorem f_142_72 : x_fe 142 72 = some (.aload 0, 73) := by decide +kernel
theorem f_142_73 : x_fe 142 73 = some (.getfield 213, 76) := by decide +kernel
theorem f_142_76 : x_fe 142 76 = some (.iconst (2), 77) := by decide +kernel
theorem f_142_77 : x_fe 142 77 = some (.iload 1, 78) := by decide +kernel
theorem f_142_78 : x_fe 142 78 = some (.imul, 79) := by decide +kernel
theorem f_142_79 : x_fe 142 79 = some (.iaload, 80) := by decide +kernel
theorem f_142_80 : x_fe 142 80 = some (.iastore, 81) := by decide +kernel
theorem f_142_81 : x_fe 142 81 = some (.aload 0, 82) := by decide +kernel
theorem f_142_82 : x_fe 142 82 = some (.getfield 213, 85) := by decide +kernel
theorem f_142_85 : x_fe 142 85 = some (.iconst (2), 86) := by decide +kernel
theorem f_142_86 : x_fe 142 86 = some (.iload 1, 87) := by decide +kernel
theorem f_142_87 : x_fe 142 87 = some (.imul, 88) := by decide +kernel
theorem f_142_88 : x_fe 142 88 = some (.iconst (3), 89) := by decide +kernel
theorem f_142_89 : x_fe 142 89 = some (.iadd, 90) := by decide +kernel
theorem f_142_90 : x_fe 142 90 = some (.aload 0, 91) := by decide +kernel
theorem f_142_91 : x_fe 142 91 = some (.getfield 213, 94) := by decide +kernel
theorem f_142_94 : x_fe 142 94 = some (.iconst (2), 95) := by decide +kernel
theorem f_142_95 : x_fe 142 95 = some (.iload 1, 96) := by decide +kernel
theorem f_142_96 : x_fe 142 96 = some (.imul, 97) := by decide +kernel
theorem f_142_97 : x_fe 142 97 = some (.iconst (1), 98) := by decide +kernel
theorem f_142_98 : x_fe 142 98 = some (.iadd, 99) := by decide +kernel
theorem f_142_99 : x_fe 142 99 = some (.iaload, 100) := by decide +kernel
theorem f_142_100 : x_fe 142 100 = some (.iastore, 101) := by decide +kernel
theorem f_142_101 : x_fe 142 101 = some (.aload 0, 102) := by decide +kernel
theorem f_142_102 : x_fe 142 102 = some (.getfield 213, 105) := by decide +kernel
theorem f_142_105 : x_fe 142 105 = some (.iconst (2), 106) := by decide +kernel
theorem f_142_106 : x_fe 142 106 = some (.iload 1, 107) := by decide +kernel
theorem f_142_107 : x_fe 142 107 = some (.imul, 108) := by decide +kernel
theorem f_142_108 : x_fe 142 108 = some (.iconst (2), 109) := by decide +kernel
theorem f_142_109 : x_fe 142 109 = some (.iadd, 110) := by decide +kernel
theorem f_142_110 : x_fe 142 110 = some (.iload 3, 111) := by decide +kernel
theorem f_142_111 : x_fe 142 111 = some (.iadd, 112) := by decide +kernel
theorem f_142_112 : x_fe 142 112 = some (.dup2, 113) := by decide +kernel
theorem f_142_113 : x_fe 142 113 = some (.iaload, 114) := by decide +kernel
theorem f_142_114 : x_fe 142 114 = some (.iconst (1), 115) := by decide +kernel
theorem f_142_115 : x_fe 142 115 = some (.iload 2, 116) := by decide +kernel
theorem f_142_116 : x_fe 142 116 = some (.iconst (8), 118) := by decide +kernel
theorem f_142_118 : x_fe 142 118 = some (.idiv, 119) := by decide +kernel
theorem f_142_119 : x_fe 142 119 = some (.ishl, 120) := by decide +kernel
theorem f_142_120 : x_fe 142 120 = some (.iconst (-1), 121) := by decide +kernel
theorem f_142_121 : x_fe 142 121 = some (.ixor, 122) := by decide +kernel
theorem f_142_122 : x_fe 142 122 = some (.iand, 123) := by decide +kernel
theorem f_142_123 : x_fe 142 123 = some (.iastore, 124) := by decide +kernel
theorem f_142_124 : x_fe 142 124 = some (.aload 0, 125) := by decide +kernel
theorem f_142_125 : x_fe 142 125 = some (.iload 1, 126) := by decide +kernel
theorem f_142_126 : x_fe 142 126 = some (.iconst (1), 127) := by decide +kernel
theorem f_142_127 : x_fe 142 127 = some (.iadd, 128) := by decide +kernel
theorem f_142_128 : x_fe 142 128 = some (.iload 4, 130) := by decide +kernel
theorem f_142_130 : x_fe 142 130 = some (.ifCond .ne (Int.ofNat 139), 133) := by decide +kernel
theorem f_142_133 : x_fe 142 133 = some (.iconst (511), 136) := by decide +kernel
theorem f_142_136 : x_fe 142 136 = some (.goto (Int.ofNat 141), 139) := by decide +kernel
theorem f_142_139 : x_fe 142 139 = some (.iload 4, 141) := by decide +kernel
theorem f_142_141 : x_fe 142 141 = some (.aload 0, 142) := by decide +kernel
theorem f_142_142 : x_fe 142 142 = some (.getfield 213, 145) := by decide +kernel
theorem f_142_145 : x_fe 142 145 = some (.iconst (2), 146) := by decide +kernel
theorem f_142_146 : x_fe 142 146 = some (.iload 1, 147) := by decide +kernel
theorem f_142_147 : x_fe 142 147 = some (.imul, 148) := by decide +kernel
theorem f_142_148 : x_fe 142 148 = some (.iconst (3), 149) := by decide +kernel
theorem f_142_149 : x_fe 142 149 = some (.iadd, 150) := by decide +kernel
theorem f_142_150 : x_fe 142 150 = some (.iload 3, 151) := by decide +kernel
theorem f_142_151 : x_fe 142 151 = some (.isub, 152) := by decide +kernel
theorem f_142_152 : x_fe 142 152 = some (.iaload, 153) := by decide +kernel
theorem f_142_153 : x_fe 142 153 = some (.ifCond .eq (Int.ofNat 162), 156) := by decide +kernel
theorem f_142_156 : x_fe 142 156 = some (.iconst (1), 157) := by decide +kernel
theorem f_142_157 : x_fe 142 157 = some (.iload 3, 158) := by decide +kernel
theorem f_142_158 : x_fe 142 158 = some (.isub, 159) := by decide +kernel
theorem f_142_159 : x_fe 142 159 = some (.goto (Int.ofNat 163), 162) := by decide +kernel
theorem f_142_162 : x_fe 142 162 = some (.iload 3, 163) := by decide +kernel
theorem f_142_163 : x_fe 142 163 = some (.invokevirtual 141, 166) := by decide +kernel
theorem f_142_166 : x_fe 142 166 = some (.iconst (1), 167) := by decide +kernel
theorem f_142_167 : x_fe 142 167 = some (.ireturn, 168) := by decide +kernel
theorem f_143_0 : x_fe 143 0 = some (.aload 0, 1) := by decide +kernel
theorem f_143_1 : x_fe 143 1 = some (.iload 1, 2) := by decide +kernel
theorem f_143_2 : x_fe 143 2 = some (.invokevirtual 125, 5) := by decide +kernel
theorem f_143_5 : x_fe 143 5 = some (.ifCond .eq (Int.ofNat 25), 8) := by decide +kernel
theorem f_143_8 : x_fe 143 8 = some (.iload 2, 9) := by decide +kernel
theorem f_143_9 : x_fe 143 9 = some (.invokestatic 126, 12) := by decide +kernel
theorem f_143_12 : x_fe 143 12 = some (.ifCond .eq (Int.ofNat 25), 15) := by decide +kernel
theorem f_143_15 : x_fe 143 15 = some (.iload 3, 16) := by decide +kernel
theorem f_143_16 : x_fe 143 16 = some (.i2l, 17) := by decide +kernel
theorem f_143_17 : x_fe 143 17 = some (.ldc2_w 0, 18) := by decide +kernel
theorem f_143_18 : x_fe 143 18 = some (.ldc2_w 1, 19) := by decide +kernel
theorem f_143_19 : x_fe 143 19 = some (.invokestatic 101, 22) := by decide +kernel
theorem f_143_22 : x_fe 143 22 = some (.ifCond .ne (Int.ofNat 28), 25) := by decide +kernel
theorem f_143_25 : x_fe 143 25 = some (.iconst (-1000001), 27) := by decide +kernel
theorem f_143_27 : x_fe 143 27 = some (.ireturn, 28) := by decide +kernel
theorem f_143_28 : x_fe 143 28 = some (.aload 0, 29) := by decide +kernel
theorem f_143_29 : x_fe 143 29 = some (.iload 1, 30) := by decide +kernel
theorem f_143_30 : x_fe 143 30 = some (.invokevirtual 131, 33) := by decide +kernel
theorem f_143_33 : x_fe 143 33 = some (.ifCond .ne (Int.ofNat 39), 36) := by decide +kernel
theorem f_143_36 : x_fe 143 36 = some (.iconst (-1000002), 38) := by decide +kernel
theorem f_143_38 : x_fe 143 38 = some (.ireturn, 39) := by decide +kernel
theorem f_143_39 : x_fe 143 39 = some (.aload 0, 40) := by decide +kernel
theorem f_143_40 : x_fe 143 40 = some (.getfield 192, 43) := by decide +kernel
theorem f_143_43 : x_fe 143 43 = some (.iconst (25), 45) := by decide +kernel
theorem f_143_45 : x_fe 143 45 = some (.iaload, 46) := by decide +kernel
theorem f_143_46 : x_fe 143 46 = some (.aload 0, 47) := by decide +kernel
theorem f_143_47 : x_fe 143 47 = some (.getfield 209, 50) := by decide +kernel
theorem f_143_50 : x_fe 143 50 = some (.iconst (8), 52) := by decide +kernel
theorem f_143_52 : x_fe 143 52 = some (.iload 1, 53) := by decide +kernel
theorem f_143_53 : x_fe 143 53 = some (.imul, 54) := by decide +kernel
theorem f_143_54 : x_fe 143 54 = some (.iload 2, 55) := by decide +kernel
theorem f_143_55 : x_fe 143 55 = some (.iadd, 56) := by decide +kernel
theorem f_143_56 : x_fe 143 56 = some (.iaload, 57) := by decide +kernel
theorem f_143_57 : x_fe 143 57 = some (.iand, 58) := by decide +kernel
theorem f_143_58 : x_fe 143 58 = some (.istore 4, 60) := by decide +kernel
theorem f_143_60 : x_fe 143 60 = some (.aload 0, 61) := by decide +kernel
theorem f_143_61 : x_fe 143 61 = some (.iload 4, 63) := by decide +kernel
theorem f_143_63 : x_fe 143 63 = some (.invokevirtual 129, 66) := by decide +kernel
theorem f_143_66 : x_fe 143 66 = some (.istore 5, 68) := by decide +kernel
theorem f_143_68 : x_fe 143 68 = some (.iload 4, 70) := by decide +kernel
theorem f_143_70 : x_fe 143 70 = some (.ifCond .ne (Int.ofNat 79), 73) := by decide +kernel
theorem f_143_73 : x_fe 143 73 = some (.iconst (511), 76) := by decide +kernel
theorem f_143_76 : x_fe 143 76 = some (.goto (Int.ofNat 81), 79) := by decide +kernel
theorem f_143_79 : x_fe 143 79 = some (.iload 4, 81) := by decide +kernel
theorem f_143_81 : x_fe 143 81 = some (.istore 4, 83) := by decide +kernel
theorem f_143_83 : x_fe 143 83 = some (.aload 0, 84) := by decide +kernel
theorem f_143_84 : x_fe 143 84 = some (.getfield 192, 87) := by decide +kernel
theorem f_143_87 : x_fe 143 87 = some (.iconst (31), 89) := by decide +kernel
theorem f_143_89 : x_fe 143 89 = some (.aload 0, 90) := by decide +kernel
theorem f_143_90 : x_fe 143 90 = some (.getfield 192, 93) := by decide +kernel
theorem f_143_93 : x_fe 143 93 = some (.iconst (27), 95) := by decide +kernel
theorem f_143_95 : x_fe 143 95 = some (.iaload, 96) := by decide +kernel
theorem f_143_96 : x_fe 143 96 = some (.isub, 97) := by decide +kernel
theorem f_143_97 : x_fe 143 97 = some (.iaload, 98) := by decide +kernel
theorem f_143_98 : x_fe 143 98 = some (.istore 6, 100) := by decide +kernel
theorem f_143_100 : x_fe 143 100 = some (.iconst (0), 101) := by decide +kernel
theorem f_143_101 : x_fe 143 101 = some (.istore 7, 103) := by decide +kernel
theorem f_143_103 : x_fe 143 103 = some (.iconst (0), 104) := by decide +kernel
theorem f_143_104 : x_fe 143 104 = some (.istore 8, 106) := by decide +kernel
theorem f_143_106 : x_fe 143 106 = some (.iconst (0), 107) := by decide +kernel
theorem f_143_107 : x_fe 143 107 = some (.istore 9, 109) := by decide +kernel
theorem f_143_109 : x_fe 143 109 = some (.iload 9, 111) := by decide +kernel
theorem f_143_111 : x_fe 143 111 = some (.iconst (8), 113) := by decide +kernel
theorem f_143_113 : x_fe 143 113 = some (.aload 0, 114) := by decide +kernel
theorem f_143_114 : x_fe 143 114 = some (.getfield 192, 117) := by decide +kernel
theorem f_143_117 : x_fe 143 117 = some (.iconst (1), 118) := by decide +kernel
theorem f_143_118 : x_fe 143 118 = some (.iaload, 119) := by decide +kernel
theorem f_143_119 : x_fe 143 119 = some (.imul, 120) := by decide +kernel
theorem f_143_120 : x_fe 143 120 = some (.if_icmp .ge (Int.ofNat 164), 123) := by decide +kernel
theorem f_143_123 : x_fe 143 123 = some (.iload 6, 125) := by decide +kernel
theorem f_143_125 : x_fe 143 125 = some (.iload 9, 127) := by decide +kernel
theorem f_143_127 : x_fe 143 127 = some (.iconst (8), 129) := by decide +kernel
theorem f_143_129 : x_fe 143 129 = some (.idiv, 130) := by decide +kernel
theorem f_143_130 : x_fe 143 130 = some (.invokestatic 122, 133) := by decide +kernel
theorem f_143_133 : x_fe 143 133 = some (.ifCond .eq (Int.ofNat 158), 136) := by decide +kernel
theorem f_143_136 : x_fe 143 136 = some (.iload 7, 138) := by decide +kernel
theorem f_143_138 : x_fe 143 138 = some (.aload 0, 139) := by decide +kernel
theorem f_143_139 : x_fe 143 139 = some (.iload 4, 141) := by decide +kernel
theorem f_143_141 : x_fe 143 141 = some (.aload 0, 142) := by decide +kernel
theorem f_143_142 : x_fe 143 142 = some (.getfield 209, 145) := by decide +kernel
theorem f_143_145 : x_fe 143 145 = some (.iload 9, 147) := by decide +kernel
theorem f_143_147 : x_fe 143 147 = some (.iaload, 148) := by decide +kernel
theorem f_143_148 : x_fe 143 148 = some (.iand, 149) := by decide +kernel
theorem f_143_149 : x_fe 143 149 = some (.invokevirtual 129, 152) := by decide +kernel
theorem f_143_152 : x_fe 143 152 = some (.iadd, 153) := by decide +kernel
theorem f_143_153 : x_fe 143 153 = some (.istore 7, 155) := by decide +kernel
theorem f_143_155 : x_fe 143 155 = some (.iinc 8 (1), 158) := by decide +kernel
theorem f_143_158 : x_fe 143 158 = some (.iinc 9 (1), 161) := by decide +kernel
theorem f_143_161 : x_fe 143 161 = some (.goto (Int.ofNat 109), 164) := by decide +kernel
theorem f_143_164 : x_fe 143 164 = some (.iload 8, 166) := by decide +kernel
theorem f_143_166 : x_fe 143 166 = some (.ifCond .ne (Int.ofNat 174), 169) := by decide +kernel
theorem f_143_169 : x_fe 143 169 = some (.iload 5, 171) := by decide +kernel
theorem f_143_171 : x_fe 143 171 = some (.goto (Int.ofNat 182), 174) := by decide +kernel
theorem f_143_174 : x_fe 143 174 = some (.iload 5, 176) := by decide +kernel
theorem f_143_176 : x_fe 143 176 = some (.iload 8, 178) := by decide +kernel
theorem f_143_178 : x_fe 143 178 = some (.imul, 179) := by decide +kernel
theorem f_143_179 : x_fe 143 179 = some (.iload 7, 181) := by decide +kernel
theorem f_143_181 : x_fe 143 181 = some (.isub, 182) := by decide +kernel
theorem f_143_182 : x_fe 143 182 = some (.istore 9, 184) := by decide +kernel
theorem f_143_184 : x_fe 143 184 = some (.iload 8, 186) := by decide +kernel
theorem f_143_186 : x_fe 143 186 = some (.ifCond .ne (Int.ofNat 193), 189) := by decide +kernel
theorem f_143_189 : x_fe 143 189 = some (.iconst (1), 190) := by decide +kernel
theorem f_143_190 : x_fe 143 190 = some (.goto (Int.ofNat 195), 193) := by decide +kernel
theorem f_143_193 : x_fe 143 193 = some (.iload 8, 195) := by decide +kernel
theorem f_143_195 : x_fe 143 195 = some (.istore 10, 197) := by decide +kernel
theorem f_143_197 : x_fe 143 197 = some (.iload 9, 199) := by decide +kernel
theorem f_143_199 : x_fe 143 199 = some (.iload 10, 201) := by decide +kernel
theorem f_143_201 : x_fe 143 201 = some (.invokestatic 144, 204) := by decide +kernel
theorem f_143_204 : x_fe 143 204 = some (.istore 11, 206) := by decide +kernel
theorem f_143_206 : x_fe 143 206 = some (.iload 3, 207) := by decide +kernel
theorem f_143_207 : x_fe 143 207 = some (.ifCond .ne (Int.ofNat 218), 210) := by decide +kernel
theorem f_143_210 : x_fe 143 210 = some (.iload 9, 212) := by decide +kernel
theorem f_143_212 : x_fe 143 212 = some (.iload 11, 214) := by decide +kernel
theorem f_143_214 : x_fe 143 214 = some (.idiv, 215) := by decide +kernel
theorem f_143_215 : x_fe 143 215 = some (.goto (Int.ofNat 223), 218) := by decide +kernel
theorem f_143_218 : x_fe 143 218 = some (.iload 10, 220) := by decide +kernel
theorem f_143_220 : x_fe 143 220 = some (.iload 11, 222) := by decide +kernel
theorem f_143_222 : x_fe 143 222 = some (.idiv, 223) := by decide +kernel
theorem f_143_223 : x_fe 143 223 = some (.ireturn, 224) := by decide +kernel
theorem f_144_0 : x_fe 144 0 = some (.iload 0, 1) := by decide +kernel
theorem f_144_1 : x_fe 144 1 = some (.ifCond .ge (Int.ofNat 9), 4) := by decide +kernel
theorem f_144_4 : x_fe 144 4 = some (.iload 0, 5) := by decide +kernel
theorem f_144_5 : x_fe 144 5 = some (.ineg, 6) := by decide +kernel
theorem f_144_6 : x_fe 144 6 = some (.goto (Int.ofNat 10), 9) := by decide +kernel
theorem f_144_9 : x_fe 144 9 = some (.iload 0, 10) := by decide +kernel
theorem f_144_10 : x_fe 144 10 = some (.istore 2, 11) := by decide +kernel
theorem f_144_11 : x_fe 144 11 = some (.iload 1, 12) := by decide +kernel
theorem f_144_12 : x_fe 144 12 = some (.istore 3, 13) := by decide +kernel
theorem f_144_13 : x_fe 144 13 = some (.iload 3, 14) := by decide +kernel
theorem f_144_14 : x_fe 144 14 = some (.ifCond .eq (Int.ofNat 30), 17) := by decide +kernel
theorem f_144_17 : x_fe 144 17 = some (.iload 2, 18) := by decide +kernel
theorem f_144_18 : x_fe 144 18 = some (.iload 3, 19) := by decide +kernel
theorem f_144_19 : x_fe 144 19 = some (.irem, 20) := by decide +kernel
theorem f_144_20 : x_fe 144 20 = some (.istore 4, 22) := by decide +kernel
theorem f_144_22 : x_fe 144 22 = some (.iload 3, 23) := by decide +kernel
theorem f_144_23 : x_fe 144 23 = some (.istore 2, 24) := by decide +kernel
theorem f_144_24 : x_fe 144 24 = some (.iload 4, 26) := by decide +kernel
theorem f_144_26 : x_fe 144 26 = some (.istore 3, 27) := by decide +kernel
theorem f_144_27 : x_fe 144 27 = some (.goto (Int.ofNat 13), 30) := by decide +kernel
theorem f_144_30 : x_fe 144 30 = some (.iload 2, 31) := by decide +kernel
theorem f_144_31 : x_fe 144 31 = some (.ireturn, 32) := by decide +kernel
theorem f_145_0 : x_fe 145 0 = some (.aload 0, 1) := by decide +kernel
theorem f_145_1 : x_fe 145 1 = some (.getfield 192, 4) := by decide +kernel
theorem f_145_4 : x_fe 145 4 = some (.iconst (0), 5) := by decide +kernel
theorem f_145_5 : x_fe 145 5 = some (.iaload, 6) := by decide +kernel
theorem f_145_6 : x_fe 145 6 = some (.ifCond .ne (Int.ofNat 12), 9) := by decide +kernel
theorem f_145_9 : x_fe 145 9 = some (.iconst (-1000002), 11) := by decide +kernel
theorem f_145_11 : x_fe 145 11 = some (.ireturn, 12) := by decide +kernel
theorem f_145_12 : x_fe 145 12 = some (.iload 1, 13) := by decide +kernel
theorem f_145_13 : x_fe 145 13 = some (.invokestatic 128, 16) := by decide +kernel
theorem f_145_16 : x_fe 145 16 = some (.ifCond .eq (Int.ofNat 24), 19) := by decide +kernel
theorem f_145_19 : x_fe 145 19 = some (.iload 2, 20) := by decide +kernel
theorem f_145_20 : x_fe 145 20 = some (.iconst (-1), 21) := by decide +kernel
theorem f_145_21 : x_fe 145 21 = some (.if_icmp .ge (Int.ofNat 27), 24) := by decide +kernel
theorem f_145_24 : x_fe 145 24 = some (.iconst (-1000001), 26) := by decide +kernel
theorem f_145_26 : x_fe 145 26 = some (.ireturn, 27) := by decide +kernel
theorem f_145_27 : x_fe 145 27 = some (.aload 0, 28) := by decide +kernel
theorem f_145_28 : x_fe 145 28 = some (.iload 1, 29) := by decide +kernel
theorem f_145_29 : x_fe 145 29 = some (.invokevirtual 146, 32) := by decide +kernel
theorem f_145_32 : x_fe 145 32 = some (.istore 3, 33) := by decide +kernel
theorem f_145_33 : x_fe 145 33 = some (.iload 2, 34) := by decide +kernel
theorem f_145_34 : x_fe 145 34 = some (.iconst (-1), 35) := by decide +kernel
theorem f_145_35 : x_fe 145 35 = some (.if_icmp .eq (Int.ofNat 44), 38) := by decide +kernel
theorem f_145_38 : x_fe 145 38 = some (.iload 3, 39) := by decide +kernel
theorem f_145_39 : x_fe 145 39 = some (.iconst (-1000000), 41) := by decide +kernel
theorem f_145_41 : x_fe 145 41 = some (.if_icmp .ne (Int.ofNat 48), 44) := by decide +kernel
theorem f_145_44 : x_fe 145 44 = some (.iload 3, 45) := by decide +kernel
theorem f_145_45 : x_fe 145 45 = some (.goto (Int.ofNat 64), 48) := by decide +kernel
theorem f_145_48 : x_fe 145 48 = some (.iload 2, 49) := by decide +kernel
theorem f_145_49 : x_fe 145 49 = some (.iload 3, 50) := by decide +kernel
theorem f_145_50 : x_fe 145 50 = some (.if_icmp .ge (Int.ofNat 62), 53) := by decide +kernel
theorem f_145_53 : x_fe 145 53 = some (.aload 0, 54) := by decide +kernel
theorem f_145_54 : x_fe 145 54 = some (.getfield 218, 57) := by decide +kernel
theorem f_145_57 : x_fe 145 57 = some (.iload 2, 58) := by decide +kernel
theorem f_145_58 : x_fe 145 58 = some (.iaload, 59) := by decide +kernel
theorem f_145_59 : x_fe 145 59 = some (.goto (Int.ofNat 64), 62) := by decide +kernel
theorem f_145_62 : x_fe 145 62 = some (.iconst (-1000000), 64) := by decide +kernel
theorem f_145_64 : x_fe 145 64 = some (.ireturn, 65) := by decide +kernel
theorem f_146_0 : x_fe 146 0 = some (.iconst (8), 2) := by decide +kernel
theorem f_146_2 : x_fe 146 2 = some (.aload 0, 3) := by decide +kernel
theorem f_146_3 : x_fe 146 3 = some (.getfield 192, 6) := by decide +kernel
theorem f_146_6 : x_fe 146 6 = some (.iconst (1), 7) := by decide +kernel
theorem f_146_7 : x_fe 146 7 = some (.iaload, 8) := by decide +kernel
theorem f_146_8 : x_fe 146 8 = some (.imul, 9) := by decide +kernel
theorem f_146_9 : x_fe 146 9 = some (.istore 2, 10) := by decide +kernel
theorem f_146_10 : x_fe 146 10 = some (.iload 1, 11) := by decide +kernel
theorem f_146_11 : x_fe 146 11 = some (.iconst (511), 14) := by decide +kernel
theorem f_146_14 : x_fe 146 14 = some (.if_icmp .ne (Int.ofNat 19), 17) := by decide +kernel
theorem f_146_17 : x_fe 146 17 = some (.iconst (0), 18) := by decide +kernel
theorem f_146_18 : x_fe 146 18 = some (.ireturn, 19) := by decide +kernel
theorem f_146_19 : x_fe 146 19 = some (.iconst (0), 20) := by decide +kernel
theorem f_146_20 : x_fe 146 20 = some (.istore 3, 21) := by decide +kernel
theorem f_146_21 : x_fe 146 21 = some (.iload 3, 22) := by decide +kernel
theorem f_146_22 : x_fe 146 22 = some (.iload 2, 23) := by decide +kernel
theorem f_146_23 : x_fe 146 23 = some (.if_icmp .ge (Int.ofNat 51), 26) := by decide +kernel
theorem f_146_26 : x_fe 146 26 = some (.aload 0, 27) := by decide +kernel
theorem f_146_27 : x_fe 146 27 = some (.getfield 209, 30) := by decide +kernel
theorem f_146_30 : x_fe 146 30 = some (.iload 3, 31) := by decide +kernel
theorem f_146_31 : x_fe 146 31 = some (.iaload, 32) := by decide +kernel
theorem f_146_32 : x_fe 146 32 = some (.iload 1, 33) := by decide +kernel
theorem f_146_33 : x_fe 146 33 = some (.if_icmp .ne (Int.ofNat 45), 36) := by decide +kernel
theorem f_146_36 : x_fe 146 36 = some (.aload 0, 37) := by decide +kernel
theorem f_146_37 : x_fe 146 37 = some (.getfield 218, 40) := by decide +kernel
theorem f_146_40 : x_fe 146 40 = some (.iconst (0), 41) := by decide +kernel
theorem f_146_41 : x_fe 146 41 = some (.iload 3, 42) := by decide +kernel
theorem f_146_42 : x_fe 146 42 = some (.iastore, 43) := by decide +kernel
theorem f_146_43 : x_fe 146 43 = some (.iconst (1), 44) := by decide +kernel
theorem f_146_44 : x_fe 146 44 = some (.ireturn, 45) := by decide +kernel
theorem f_146_45 : x_fe 146 45 = some (.iinc 3 (1), 48) := by decide +kernel
theorem f_146_48 : x_fe 146 48 = some (.goto (Int.ofNat 21), 51) := by decide +kernel
theorem f_146_51 : x_fe 146 51 = some (.iconst (0), 52) := by decide +kernel
theorem f_146_52 : x_fe 146 52 = some (.istore 3, 53) := by decide +kernel
theorem f_146_53 : x_fe 146 53 = some (.iload 3, 54) := by decide +kernel
theorem f_146_54 : x_fe 146 54 = some (.iload 2, 55) := by decide +kernel
theorem f_146_55 : x_fe 146 55 = some (.if_icmp .ge (Int.ofNat 117), 58) := by decide +kernel
theorem f_146_58 : x_fe 146 58 = some (.iload 3, 59) := by decide +kernel
theorem f_146_59 : x_fe 146 59 = some (.invokestatic 147, 62) := by decide +kernel
theorem f_146_62 : x_fe 146 62 = some (.istore 4, 64) := by decide +kernel
theorem f_146_64 : x_fe 146 64 = some (.iload 4, 66) := by decide +kernel
theorem f_146_66 : x_fe 146 66 = some (.iload 2, 67) := by decide +kernel
theorem f_146_67 : x_fe 146 67 = some (.if_icmp .ge (Int.ofNat 111), 70) := by decide +kernel
theorem f_146_70 : x_fe 146 70 = some (.aload 0, 71) := by decide +kernel
theorem f_146_71 : x_fe 146 71 = some (.getfield 209, 74) := by decide +kernel
theorem f_146_74 : x_fe 146 74 = some (.iload 3, 75) := by decide +kernel
theorem f_146_75 : x_fe 146 75 = some (.iaload, 76) := by decide +kernel
theorem f_146_76 : x_fe 146 76 = some (.aload 0, 77) := by decide +kernel
theorem f_146_77 : x_fe 146 77 = some (.getfield 209, 80) := by decide +kernel
theorem f_146_80 : x_fe 146 80 = some (.iload 4, 82) := by decide +kernel
theorem f_146_82 : x_fe 146 82 = some (.iaload, 83) := by decide +kernel
theorem f_146_83 : x_fe 146 83 = some (.iand, 84) := by decide +kernel
theorem f_146_84 : x_fe 146 84 = some (.iload 1, 85) := by decide +kernel
theorem f_146_85 : x_fe 146 85 = some (.if_icmp .ne (Int.ofNat 105), 88) := by decide +kernel
theorem f_146_88 : x_fe 146 88 = some (.aload 0, 89) := by decide +kernel
theorem f_146_89 : x_fe 146 89 = some (.getfield 218, 92) := by decide +kernel
theorem f_146_92 : x_fe 146 92 = some (.iconst (0), 93) := by decide +kernel
theorem f_146_93 : x_fe 146 93 = some (.iload 3, 94) := by decide +kernel
theorem f_146_94 : x_fe 146 94 = some (.iastore, 95) := by decide +kernel
theorem f_146_95 : x_fe 146 95 = some (.aload 0, 96) := by decide +kernel
theorem f_146_96 : x_fe 146 96 = some (.getfield 218, 99) := by decide +kernel
theorem f_146_99 : x_fe 146 99 = some (.iconst (1), 100) := by decide +kernel
theorem f_146_100 : x_fe 146 100 = some (.iload 4, 102) := by decide +kernel
theorem f_146_102 : x_fe 146 102 = some (.iastore, 103) := by decide +kernel
theorem f_146_103 : x_fe 146 103 = some (.iconst (2), 104) := by decide +kernel
theorem f_146_104 : x_fe 146 104 = some (.ireturn, 105) := by decide +kernel
theorem f_146_105 : x_fe 146 105 = some (.iinc 4 (1), 108) := by decide +kernel
theorem f_146_108 : x_fe 146 108 = some (.goto (Int.ofNat 64), 111) := by decide +kernel
theorem f_146_111 : x_fe 146 111 = some (.iinc 3 (1), 114) := by decide +kernel
theorem f_146_114 : x_fe 146 114 = some (.goto (Int.ofNat 53), 117) := by decide +kernel
theorem f_146_117 : x_fe 146 117 = some (.iconst (0), 118) := by decide +kernel
theorem f_146_118 : x_fe 146 118 = some (.istore 3, 119) := by decide +kernel
theorem f_146_119 : x_fe 146 119 = some (.iload 3, 120) := by decide +kernel
theorem f_146_120 : x_fe 146 120 = some (.iload 2, 121) := by decide +kernel
theorem f_146_121 : x_fe 146 121 = some (.if_icmp .ge (Int.ofNat 230), 124) := by decide +kernel
theorem f_146_124 : x_fe 146 124 = some (.iload 3, 125) := by decide +kernel
theorem f_146_125 : x_fe 146 125 = some (.invokestatic 147, 128) := by decide +kernel
theorem f_146_128 : x_fe 146 128 = some (.istore 4, 130) := by decide +kernel
theorem f_146_130 : x_fe 146 130 = some (.iload 4, 132) := by decide +kernel
theorem f_146_132 : x_fe 146 132 = some (.iload 2, 133) := by decide +kernel
theorem f_146_133 : x_fe 146 133 = some (.if_icmp .ge (Int.ofNat 224), 136) := by decide +kernel
theorem f_146_136 : x_fe 146 136 = some (.aload 0, 137) := by decide +kernel
theorem f_146_137 : x_fe 146 137 = some (.getfield 209, 140) := by decide +kernel
theorem f_146_140 : x_fe 146 140 = some (.iload 3, 141) := by decide +kernel
theorem f_146_141 : x_fe 146 141 = some (.iaload, 142) := by decide +kernel
theorem f_146_142 : x_fe 146 142 = some (.aload 0, 143) := by decide +kernel
theorem f_146_143 : x_fe 146 143 = some (.getfield 209, 146) := by decide +kernel
theorem f_146_146 : x_fe 146 146 = some (.iload 4, 148) := by decide +kernel
theorem f_146_148 : x_fe 146 148 = some (.iaload, 149) := by decide +kernel
theorem f_146_149 : x_fe 146 149 = some (.iand, 150) := by decide +kernel
theorem f_146_150 : x_fe 146 150 = some (.istore 5, 152) := by decide +kernel
theorem f_146_152 : x_fe 146 152 = some (.iload 4, 154) := by decide +kernel
theorem f_146_154 : x_fe 146 154 = some (.invokestatic 147, 157) := by decide +kernel
theorem f_146_157 : x_fe 146 157 = some (.istore 6, 159) := by decide +kernel
theorem f_146_159 : x_fe 146 159 = some (.iload 6, 161) := by decide +kernel
theorem f_146_161 : x_fe 146 161 = some (.iload 2, 162) := by decide +kernel
theorem f_146_162 : x_fe 146 162 = some (.if_icmp .ge (Int.ofNat 218), 165) := by decide +kernel
theorem f_146_165 : x_fe 146 165 = some (.iload 5, 167) := by decide +kernel
theorem f_146_167 : x_fe 146 167 = some (.iload 1, 168) := by decide +kernel
theorem f_146_168 : x_fe 146 168 = some (.iand, 169) := by decide +kernel
theorem f_146_169 : x_fe 146 169 = some (.iload 1, 170) := by decide +kernel
theorem f_146_170 : x_fe 146 170 = some (.if_icmp .ne (Int.ofNat 218), 173) := by decide +kernel
theorem f_146_173 : x_fe 146 173 = some (.iload 5, 175) := by decide +kernel
theorem f_146_175 : x_fe 146 175 = some (.aload 0, 176) := by decide +kernel
theorem f_146_176 : x_fe 146 176 = some (.getfield 209, 179) := by decide +kernel
theorem f_146_179 : x_fe 146 179 = some (.iload 6, 181) := by decide +kernel
theorem f_146_181 : x_fe 146 181 = some (.iaload, 182) := by decide +kernel
theorem f_146_182 : x_fe 146 182 = some (.iand, 183) := by decide +kernel
theorem f_146_183 : x_fe 146 183 = some (.iload 1, 184) := by decide +kernel
theorem f_146_184 : x_fe 146 184 = some (.if_icmp .ne (Int.ofNat 212), 187) := by decide +kernel
theorem f_146_187 : x_fe 146 187 = some (.aload 0, 188) := by decide +kernel
theorem f_146_188 : x_fe 146 188 = some (.getfield 218, 191) := by decide +kernel
theorem f_146_191 : x_fe 146 191 = some (.iconst (0), 192) := by decide +kernel
theorem f_146_192 : x_fe 146 192 = some (.iload 3, 193) := by decide +kernel
theorem f_146_193 : x_fe 146 193 = some (.iastore, 194) := by decide +kernel
theorem f_146_194 : x_fe 146 194 = some (.aload 0, 195) := by decide +kernel
theorem f_146_195 : x_fe 146 195 = some (.getfield 218, 198) := by decide +kernel
theorem f_146_198 : x_fe 146 198 = some (.iconst (1), 199) := by decide +kernel
theorem f_146_199 : x_fe 146 199 = some (.iload 4, 201) := by decide +kernel
theorem f_146_201 : x_fe 146 201 = some (.iastore, 202) := by decide +kernel
theorem f_146_202 : x_fe 146 202 = some (.aload 0, 203) := by decide +kernel
theorem f_146_203 : x_fe 146 203 = some (.getfield 218, 206) := by decide +kernel
theorem f_146_206 : x_fe 146 206 = some (.iconst (2), 207) := by decide +kernel
theorem f_146_207 : x_fe 146 207 = some (.iload 6, 209) := by decide +kernel
theorem f_146_209 : x_fe 146 209 = some (.iastore, 210) := by decide +kernel
theorem f_146_210 : x_fe 146 210 = some (.iconst (3), 211) := by decide +kernel
theorem f_146_211 : x_fe 146 211 = some (.ireturn, 212) := by decide +kernel
theorem f_146_212 : x_fe 146 212 = some (.iinc 6 (1), 215) := by decide +kernel
theorem f_146_215 : x_fe 146 215 = some (.goto (Int.ofNat 159), 218) := by decide +kernel
theorem f_146_218 : x_fe 146 218 = some (.iinc 4 (1), 221) := by decide +kernel
theorem f_146_221 : x_fe 146 221 = some (.goto (Int.ofNat 130), 224) := by decide +kernel
theorem f_146_224 : x_fe 146 224 = some (.iinc 3 (1), 227) := by decide +kernel
theorem f_146_227 : x_fe 146 227 = some (.goto (Int.ofNat 119), 230) := by decide +kernel
theorem f_146_230 : x_fe 146 230 = some (.iconst (-1000000), 232) := by decide +kernel
theorem f_146_232 : x_fe 146 232 = some (.ireturn, 233) := by decide +kernel
theorem f_147_0 : x_fe 147 0 = some (.iconst (8), 2) := by decide +kernel
theorem f_147_2 : x_fe 147 2 = some (.iload 0, 3) := by decide +kernel
theorem f_147_3 : x_fe 147 3 = some (.iconst (8), 5) := by decide +kernel
theorem f_147_5 : x_fe 147 5 = some (.idiv, 6) := by decide +kernel
theorem f_147_6 : x_fe 147 6 = some (.iconst (1), 7) := by decide +kernel
theorem f_147_7 : x_fe 147 7 = some (.iadd, 8) := by decide +kernel
theorem f_147_8 : x_fe 147 8 = some (.imul, 9) := by decide +kernel
theorem f_147_9 : x_fe 147 9 = some (.ireturn, 10) := by decide +kernel
theorem f_148_0 : x_fe 148 0 = some (.aload 0, 1) := by decide +kernel
theorem f_148_1 : x_fe 148 1 = some (.getfield 192, 4) := by decide +kernel
theorem f_148_4 : x_fe 148 4 = some (.iconst (0), 5) := by decide +kernel
theorem f_148_5 : x_fe 148 5 = some (.iaload, 6) := by decide +kernel
theorem f_148_6 : x_fe 148 6 = some (.ifCond .ne (Int.ofNat 12), 9) := by decide +kernel
theorem f_148_9 : x_fe 148 9 = some (.iconst (-1000002), 11) := by decide +kernel
theorem f_148_11 : x_fe 148 11 = some (.ireturn, 12) := by decide +kernel
theorem f_148_12 : x_fe 148 12 = some (.iload 1, 13) := by decide +kernel
theorem f_148_13 : x_fe 148 13 = some (.iconst (-1), 14) := by decide +kernel
theorem f_148_14 : x_fe 148 14 = some (.if_icmp .ge (Int.ofNat 20), 17) := by decide +kernel
theorem f_148_17 : x_fe 148 17 = some (.iconst (-1000001), 19) := by decide +kernel
theorem f_148_19 : x_fe 148 19 = some (.ireturn, 20) := by decide +kernel
theorem f_148_20 : x_fe 148 20 = some (.iconst (0), 21) := by decide +kernel
theorem f_148_21 : x_fe 148 21 = some (.istore 2, 22) := by decide +kernel
theorem f_148_22 : x_fe 148 22 = some (.iconst (0), 23) := by decide +kernel
theorem f_148_23 : x_fe 148 23 = some (.istore 3, 24) := by decide +kernel
theorem f_148_24 : x_fe 148 24 = some (.iload 3, 25) := by decide +kernel
theorem f_148_25 : x_fe 148 25 = some (.aload 0, 26) := by decide +kernel
theorem f_148_26 : x_fe 148 26 = some (.getfield 192, 29) := by decide +kernel
theorem f_148_29 : x_fe 148 29 = some (.iconst (1), 30) := by decide +kernel
theorem f_148_30 : x_fe 148 30 = some (.iaload, 31) := by decide +kernel
theorem f_148_31 : x_fe 148 31 = some (.if_icmp .ge (Int.ofNat 120), 34) := by decide +kernel
theorem f_148_34 : x_fe 148 34 = some (.iload 3, 35) := by decide +kernel
theorem f_148_35 : x_fe 148 35 = some (.iconst (1), 36) := by decide +kernel
theorem f_148_36 : x_fe 148 36 = some (.iadd, 37) := by decide +kernel
theorem f_148_37 : x_fe 148 37 = some (.istore 4, 39) := by decide +kernel
theorem f_148_39 : x_fe 148 39 = some (.iload 4, 41) := by decide +kernel
theorem f_148_41 : x_fe 148 41 = some (.aload 0, 42) := by decide +kernel
theorem f_148_42 : x_fe 148 42 = some (.getfield 192, 45) := by decide +kernel
theorem f_148_45 : x_fe 148 45 = some (.iconst (1), 46) := by decide +kernel
theorem f_148_46 : x_fe 148 46 = some (.iaload, 47) := by decide +kernel
theorem f_148_47 : x_fe 148 47 = some (.if_icmp .ge (Int.ofNat 114), 50) := by decide +kernel
theorem f_148_50 : x_fe 148 50 = some (.iload 4, 52) := by decide +kernel
theorem f_148_52 : x_fe 148 52 = some (.iconst (1), 53) := by decide +kernel
theorem f_148_53 : x_fe 148 53 = some (.iadd, 54) := by decide +kernel
theorem f_148_54 : x_fe 148 54 = some (.istore 5, 56) := by decide +kernel
theorem f_148_56 : x_fe 148 56 = some (.iload 5, 58) := by decide +kernel
theorem f_148_58 : x_fe 148 58 = some (.aload 0, 59) := by decide +kernel
theorem f_148_59 : x_fe 148 59 = some (.getfield 192, 62) := by decide +kernel
theorem f_148_62 : x_fe 148 62 = some (.iconst (1), 63) := by decide +kernel
theorem f_148_63 : x_fe 148 63 = some (.iaload, 64) := by decide +kernel
theorem f_148_64 : x_fe 148 64 = some (.if_icmp .ge (Int.ofNat 108), 67) := by decide +kernel
theorem f_148_67 : x_fe 148 67 = some (.aload 0, 68) := by decide +kernel
theorem f_148_68 : x_fe 148 68 = some (.iload 3, 69) := by decide +kernel
theorem f_148_69 : x_fe 148 69 = some (.iload 4, 71) := by decide +kernel
theorem f_148_71 : x_fe 148 71 = some (.iload 5, 73) := by decide +kernel
theorem f_148_73 : x_fe 148 73 = some (.invokevirtual 149, 76) := by decide +kernel
theorem f_148_76 : x_fe 148 76 = some (.ifCond .eq (Int.ofNat 102), 79) := by decide +kernel
theorem f_148_79 : x_fe 148 79 = some (.iload 2, 80) := by decide +kernel
theorem f_148_80 : x_fe 148 80 = some (.iload 1, 81) := by decide +kernel
theorem f_148_81 : x_fe 148 81 = some (.if_icmp .ne (Int.ofNat 99), 84) := by decide +kernel
theorem f_148_84 : x_fe 148 84 = some (.iconst (400), 87) := by decide +kernel
theorem f_148_87 : x_fe 148 87 = some (.iload 3, 88) := by decide +kernel
theorem f_148_88 : x_fe 148 88 = some (.imul, 89) := by decide +kernel
theorem f_148_89 : x_fe 148 89 = some (.iconst (20), 91) := by decide +kernel
theorem f_148_91 : x_fe 148 91 = some (.iload 4, 93) := by decide +kernel
theorem f_148_93 : x_fe 148 93 = some (.imul, 94) := by decide +kernel
theorem f_148_94 : x_fe 148 94 = some (.iadd, 95) := by decide +kernel
theorem f_148_95 : x_fe 148 95 = some (.iload 5, 97) := by decide +kernel
theorem f_148_97 : x_fe 148 97 = some (.iadd, 98) := by decide +kernel
theorem f_148_98 : x_fe 148 98 = some (.ireturn, 99) := by decide +kernel
theorem f_148_99 : x_fe 148 99 = some (.iinc 2 (1), 102) := by decide +kernel
theorem f_148_102 : x_fe 148 102 = some (.iinc 5 (1), 105) := by decide +kernel
theorem f_148_105 : x_fe 148 105 = some (.goto (Int.ofNat 56), 108) := by decide +kernel
theorem f_148_108 : x_fe 148 108 = some (.iinc 4 (1), 111) := by decide +kernel
theorem f_148_111 : x_fe 148 111 = some (.goto (Int.ofNat 39), 114) := by decide +kernel
theorem f_148_114 : x_fe 148 114 = some (.iinc 3 (1), 117) := by decide +kernel
theorem f_148_117 : x_fe 148 117 = some (.goto (Int.ofNat 24), 120) := by decide +kernel
theorem f_148_120 : x_fe 148 120 = some (.iload 1, 121) := by decide +kernel
theorem f_148_121 : x_fe 148 121 = some (.iconst (-1), 122) := by decide +kernel
theorem f_148_122 : x_fe 148 122 = some (.if_icmp .ne (Int.ofNat 129), 125) := by decide +kernel
theorem f_148_125 : x_fe 148 125 = some (.iload 2, 126) := by decide +kernel
theorem f_148_126 : x_fe 148 126 = some (.goto (Int.ofNat 131), 129) := by decide +kernel
theorem f_148_129 : x_fe 148 129 = some (.iconst (-1000000), 131) := by decide +kernel
theorem f_148_131 : x_fe 148 131 = some (.ireturn, 132) := by decide +kernel
theorem f_149_0 : x_fe 149 0 = some (.iconst (0), 1) := by decide +kernel
theorem f_149_1 : x_fe 149 1 = some (.istore 4, 3) := by decide +kernel
theorem f_149_3 : x_fe 149 3 = some (.iconst (0), 4) := by decide +kernel
theorem f_149_4 : x_fe 149 4 = some (.istore 5, 6) := by decide +kernel
theorem f_149_6 : x_fe 149 6 = some (.iload 5, 8) := by decide +kernel
theorem f_149_8 : x_fe 149 8 = some (.iconst (64), 10) := by decide +kernel
theorem f_149_10 : x_fe 149 10 = some (.if_icmp .ge (Int.ofNat 75), 13) := by decide +kernel
theorem f_149_13 : x_fe 149 13 = some (.iload 4, 15) := by decide +kernel
theorem f_149_15 : x_fe 149 15 = some (.ifCond .ne (Int.ofNat 62), 18) := by decide +kernel
theorem f_149_18 : x_fe 149 18 = some (.aload 0, 19) := by decide +kernel
theorem f_149_19 : x_fe 149 19 = some (.getfield 209, 22) := by decide +kernel
theorem f_149_22 : x_fe 149 22 = some (.iconst (8), 24) := by decide +kernel
theorem f_149_24 : x_fe 149 24 = some (.iload 1, 25) := by decide +kernel
theorem f_149_25 : x_fe 149 25 = some (.imul, 26) := by decide +kernel
theorem f_149_26 : x_fe 149 26 = some (.iaload, 27) := by decide +kernel
theorem f_149_27 : x_fe 149 27 = some (.aload 0, 28) := by decide +kernel
theorem f_149_28 : x_fe 149 28 = some (.getfield 209, 31) := by decide +kernel
theorem f_149_31 : x_fe 149 31 = some (.iconst (8), 33) := by decide +kernel
theorem f_149_33 : x_fe 149 33 = some (.iload 2, 34) := by decide +kernel
theorem f_149_34 : x_fe 149 34 = some (.imul, 35) := by decide +kernel
theorem f_149_35 : x_fe 149 35 = some (.iload 5, 37) := by decide +kernel
theorem f_149_37 : x_fe 149 37 = some (.iconst (8), 39) := by decide +kernel
theorem f_149_39 : x_fe 149 39 = some (.idiv, 40) := by decide +kernel
theorem f_149_40 : x_fe 149 40 = some (.iadd, 41) := by decide +kernel
theorem f_149_41 : x_fe 149 41 = some (.iaload, 42) := by decide +kernel
theorem f_149_42 : x_fe 149 42 = some (.iand, 43) := by decide +kernel
theorem f_149_43 : x_fe 149 43 = some (.aload 0, 44) := by decide +kernel
theorem f_149_44 : x_fe 149 44 = some (.getfield 209, 47) := by decide +kernel
theorem f_149_47 : x_fe 149 47 = some (.iconst (8), 49) := by decide +kernel
theorem f_149_49 : x_fe 149 49 = some (.iload 3, 50) := by decide +kernel
theorem f_149_50 : x_fe 149 50 = some (.imul, 51) := by decide +kernel
theorem f_149_51 : x_fe 149 51 = some (.iload 5, 53) := by decide +kernel
theorem f_149_53 : x_fe 149 53 = some (.iconst (8), 55) := by decide +kernel
theorem f_149_55 : x_fe 149 55 = some (.irem, 56) := by decide +kernel
theorem f_149_56 : x_fe 149 56 = some (.iadd, 57) := by decide +kernel
theorem f_149_57 : x_fe 149 57 = some (.iaload, 58) := by decide +kernel
theorem f_149_58 : x_fe 149 58 = some (.iand, 59) := by decide +kernel
theorem f_149_59 : x_fe 149 59 = some (.ifCond .ne (Int.ofNat 66), 62) := by decide +kernel
theorem f_149_62 : x_fe 149 62 = some (.iconst (1), 63) := by decide +kernel
theorem f_149_63 : x_fe 149 63 = some (.goto (Int.ofNat 67), 66) := by decide +kernel
theorem f_149_66 : x_fe 149 66 = some (.iconst (0), 67) := by decide +kernel
theorem f_149_67 : x_fe 149 67 = some (.istore 4, 69) := by decide +kernel
theorem f_149_69 : x_fe 149 69 = some (.iinc 5 (1), 72) := by decide +kernel
theorem f_149_72 : x_fe 149 72 = some (.goto (Int.ofNat 6), 75) := by decide +kernel
theorem f_149_75 : x_fe 149 75 = some (.iload 4, 77) := by decide +kernel
theorem f_149_77 : x_fe 149 77 = some (.ireturn, 78) := by decide +kernel
theorem f_150_0 : x_fe 150 0 = some (.aload 0, 1) := by decide +kernel
theorem f_150_1 : x_fe 150 1 = some (.iload 1, 2) := by decide +kernel
theorem f_150_2 : x_fe 150 2 = some (.invokevirtual 125, 5) := by decide +kernel
theorem f_150_5 : x_fe 150 5 = some (.ifCond .eq (Int.ofNat 18), 8) := by decide +kernel
theorem f_150_8 : x_fe 150 8 = some (.iload 2, 9) := by decide +kernel
theorem f_150_9 : x_fe 150 9 = some (.i2l, 10) := by decide +kernel
theorem f_150_10 : x_fe 150 10 = some (.ldc2_w 0, 11) := by decide +kernel
theorem f_150_11 : x_fe 150 11 = some (.ldc2_w 1, 12) := by decide +kernel
theorem f_150_12 : x_fe 150 12 = some (.invokestatic 101, 15) := by decide +kernel
theorem f_150_15 : x_fe 150 15 = some (.ifCond .ne (Int.ofNat 21), 18) := by decide +kernel
theorem f_150_18 : x_fe 150 18 = some (.iconst (-1000001), 20) := by decide +kernel
theorem f_150_20 : x_fe 150 20 = some (.ireturn, 21) := by decide +kernel
theorem f_150_21 : x_fe 150 21 = some (.iload 2, 22) := by decide +kernel
theorem f_150_22 : x_fe 150 22 = some (.iconst (1), 23) := by decide +kernel
theorem f_150_23 : x_fe 150 23 = some (.if_icmp .ne (Int.ofNat 32), 26) := by decide +kernel
theorem f_150_26 : x_fe 150 26 = some (.aload 0, 27) := by decide +kernel
theorem f_150_27 : x_fe 150 27 = some (.iload 1, 28) := by decide +kernel
theorem f_150_28 : x_fe 150 28 = some (.invokevirtual 151, 31) := by decide +kernel
theorem f_150_31 : x_fe 150 31 = some (.ireturn, 32) := by decide +kernel
theorem f_150_32 : x_fe 150 32 = some (.aload 0, 33) := by decide +kernel
theorem f_150_33 : x_fe 150 33 = some (.iload 1, 34) := by decide +kernel
theorem f_150_34 : x_fe 150 34 = some (.invokevirtual 152, 37) := by decide +kernel
theorem f_150_37 : x_fe 150 37 = some (.istore 3, 38) := by decide +kernel
theorem f_150_38 : x_fe 150 38 = some (.iconst (0), 39) := by decide +kernel
theorem f_150_39 : x_fe 150 39 = some (.istore 4, 41) := by decide +kernel
theorem f_150_41 : x_fe 150 41 = some (.iconst (0), 42) := by decide +kernel
theorem f_150_42 : x_fe 150 42 = some (.istore 5, 44) := by decide +kernel
theorem f_150_44 : x_fe 150 44 = some (.iload 5, 46) := by decide +kernel
theorem f_150_46 : x_fe 150 46 = some (.iload 3, 47) := by decide +kernel
theorem f_150_47 : x_fe 150 47 = some (.if_icmp .ge (Int.ofNat 77), 50) := by decide +kernel
theorem f_150_50 : x_fe 150 50 = some (.iload 4, 52) := by decide +kernel
theorem f_150_52 : x_fe 150 52 = some (.aload 0, 53) := by decide +kernel
theorem f_150_53 : x_fe 150 53 = some (.iload 5, 55) := by decide +kernel
theorem f_150_55 : x_fe 150 55 = some (.invokevirtual 152, 58) := by decide +kernel
theorem f_150_58 : x_fe 150 58 = some (.iload 5, 60) := by decide +kernel
theorem f_150_60 : x_fe 150 60 = some (.if_icmp .ne (Int.ofNat 67), 63) := by decide +kernel
theorem f_150_63 : x_fe 150 63 = some (.iconst (1), 64) := by decide +kernel
theorem f_150_64 : x_fe 150 64 = some (.goto (Int.ofNat 68), 67) := by decide +kernel
theorem f_150_67 : x_fe 150 67 = some (.iconst (0), 68) := by decide +kernel
theorem f_150_68 : x_fe 150 68 = some (.iadd, 69) := by decide +kernel
theorem f_150_69 : x_fe 150 69 = some (.istore 4, 71) := by decide +kernel
theorem f_150_71 : x_fe 150 71 = some (.iinc 5 (1), 74) := by decide +kernel
theorem f_150_74 : x_fe 150 74 = some (.goto (Int.ofNat 44), 77) := by decide +kernel
theorem f_150_77 : x_fe 150 77 = some (.iload 4, 79) := by decide +kernel
theorem f_150_79 : x_fe 150 79 = some (.ireturn, 80) := by decide +kernel
theorem f_151_0 : x_fe 151 0 = some (.iconst (0), 1) := by decide +kernel
theorem f_151_1 : x_fe 151 1 = some (.istore 2, 2) := by decide +kernel
theorem f_151_2 : x_fe 151 2 = some (.iconst (0), 3) := by decide +kernel
theorem f_151_3 : x_fe 151 3 = some (.istore 3, 4) := by decide +kernel
theorem f_151_4 : x_fe 151 4 = some (.iload 3, 5) := by decide +kernel
theorem f_151_5 : x_fe 151 5 = some (.iconst (8), 7) := by decide +kernel
theorem f_151_7 : x_fe 151 7 = some (.if_icmp .ge (Int.ofNat 85), 10) := by decide +kernel
theorem f_151_10 : x_fe 151 10 = some (.iconst (1), 11) := by decide +kernel
theorem f_151_11 : x_fe 151 11 = some (.istore 4, 13) := by decide +kernel
end
section
theorem f_151_13 : x_fe 151 13 = some (.iconst (0), 14) := by decide +kernel
theorem f_151_14 : x_fe 151 14 = some (.istore 5, 16) := by decide +kernel
theorem f_151_16 : x_fe 151 16 = some (.iload 5, 18) := by decide +kernel
theorem f_151_18 : x_fe 151 18 = some (.iload 3, 19) := by decide +kernel
theorem f_151_19 : x_fe 151 19 = some (.if_icmp .ge (Int.ofNat 66), 22) := by decide +kernel
theorem f_151_22 : x_fe 151 22 = some (.iload 4, 24) := by decide +kernel
theorem f_151_24 : x_fe 151 24 = some (.ifCond .eq (Int.ofNat 57), 27) := by decide +kernel
theorem f_151_27 : x_fe 151 27 = some (.aload 0, 28) := by decide +kernel
theorem f_151_28 : x_fe 151 28 = some (.getfield 209, 31) := by decide +kernel
theorem f_151_31 : x_fe 151 31 = some (.iconst (8), 33) := by decide +kernel
theorem f_151_33 : x_fe 151 33 = some (.iload 1, 34) := by decide +kernel
theorem f_151_34 : x_fe 151 34 = some (.imul, 35) := by decide +kernel
theorem f_151_35 : x_fe 151 35 = some (.iload 5, 37) := by decide +kernel
theorem f_151_37 : x_fe 151 37 = some (.iadd, 38) := by decide +kernel
theorem f_151_38 : x_fe 151 38 = some (.iaload, 39) := by decide +kernel
theorem f_151_39 : x_fe 151 39 = some (.aload 0, 40) := by decide +kernel
theorem f_151_40 : x_fe 151 40 = some (.getfield 209, 43) := by decide +kernel
theorem f_151_43 : x_fe 151 43 = some (.iconst (8), 45) := by decide +kernel
theorem f_151_45 : x_fe 151 45 = some (.iload 1, 46) := by decide +kernel
theorem f_151_46 : x_fe 151 46 = some (.imul, 47) := by decide +kernel
theorem f_151_47 : x_fe 151 47 = some (.iload 3, 48) := by decide +kernel
theorem f_151_48 : x_fe 151 48 = some (.iadd, 49) := by decide +kernel
theorem f_151_49 : x_fe 151 49 = some (.iaload, 50) := by decide +kernel
theorem f_151_50 : x_fe 151 50 = some (.if_icmp .eq (Int.ofNat 57), 53) := by decide +kernel
theorem f_151_53 : x_fe 151 53 = some (.iconst (1), 54) := by decide +kernel
theorem f_151_54 : x_fe 151 54 = some (.goto (Int.ofNat 58), 57) := by decide +kernel
theorem f_151_57 : x_fe 151 57 = some (.iconst (0), 58) := by decide +kernel
theorem f_151_58 : x_fe 151 58 = some (.istore 4, 60) := by decide +kernel
theorem f_151_60 : x_fe 151 60 = some (.iinc 5 (1), 63) := by decide +kernel
theorem f_151_63 : x_fe 151 63 = some (.goto (Int.ofNat 16), 66) := by decide +kernel
theorem f_151_66 : x_fe 151 66 = some (.iload 2, 67) := by decide +kernel
theorem f_151_67 : x_fe 151 67 = some (.iload 4, 69) := by decide +kernel
theorem f_151_69 : x_fe 151 69 = some (.ifCond .eq (Int.ofNat 76), 72) := by decide +kernel
theorem f_151_72 : x_fe 151 72 = some (.iconst (1), 73) := by decide +kernel
theorem f_151_73 : x_fe 151 73 = some (.goto (Int.ofNat 77), 76) := by decide +kernel
theorem f_151_76 : x_fe 151 76 = some (.iconst (0), 77) := by decide +kernel
theorem f_151_77 : x_fe 151 77 = some (.iadd, 78) := by decide +kernel
theorem f_151_78 : x_fe 151 78 = some (.istore 2, 79) := by decide +kernel
theorem f_151_79 : x_fe 151 79 = some (.iinc 3 (1), 82) := by decide +kernel
theorem f_151_82 : x_fe 151 82 = some (.goto (Int.ofNat 4), 85) := by decide +kernel
theorem f_151_85 : x_fe 151 85 = some (.iload 2, 86) := by decide +kernel
theorem f_151_86 : x_fe 151 86 = some (.ireturn, 87) := by decide +kernel
theorem f_152_0 : x_fe 152 0 = some (.iconst (0), 1) := by decide +kernel
theorem f_152_1 : x_fe 152 1 = some (.istore 2, 2) := by decide +kernel
theorem f_152_2 : x_fe 152 2 = some (.aload 0, 3) := by decide +kernel
theorem f_152_3 : x_fe 152 3 = some (.iload 1, 4) := by decide +kernel
theorem f_152_4 : x_fe 152 4 = some (.iload 2, 5) := by decide +kernel
theorem f_152_5 : x_fe 152 5 = some (.invokevirtual 153, 8) := by decide +kernel
theorem f_152_8 : x_fe 152 8 = some (.ifCond .ne (Int.ofNat 17), 11) := by decide +kernel
theorem f_152_11 : x_fe 152 11 = some (.iinc 2 (1), 14) := by decide +kernel
theorem f_152_14 : x_fe 152 14 = some (.goto (Int.ofNat 2), 17) := by decide +kernel
theorem f_152_17 : x_fe 152 17 = some (.iload 2, 18) := by decide +kernel
theorem f_152_18 : x_fe 152 18 = some (.ireturn, 19) := by decide +kernel
theorem f_153_0 : x_fe 153 0 = some (.iconst (0), 1) := by decide +kernel
theorem f_153_1 : x_fe 153 1 = some (.istore 3, 2) := by decide +kernel
theorem f_153_2 : x_fe 153 2 = some (.iconst (0), 3) := by decide +kernel
theorem f_153_3 : x_fe 153 3 = some (.istore 4, 5) := by decide +kernel
theorem f_153_5 : x_fe 153 5 = some (.iload 4, 7) := by decide +kernel
theorem f_153_7 : x_fe 153 7 = some (.iconst (8), 9) := by decide +kernel
theorem f_153_9 : x_fe 153 9 = some (.if_icmp .ge (Int.ofNat 52), 12) := by decide +kernel
theorem f_153_12 : x_fe 153 12 = some (.iload 3, 13) := by decide +kernel
theorem f_153_13 : x_fe 153 13 = some (.ifCond .ne (Int.ofNat 40), 16) := by decide +kernel
theorem f_153_16 : x_fe 153 16 = some (.aload 0, 17) := by decide +kernel
theorem f_153_17 : x_fe 153 17 = some (.getfield 209, 20) := by decide +kernel
theorem f_153_20 : x_fe 153 20 = some (.iconst (8), 22) := by decide +kernel
theorem f_153_22 : x_fe 153 22 = some (.iload 1, 23) := by decide +kernel
theorem f_153_23 : x_fe 153 23 = some (.imul, 24) := by decide +kernel
theorem f_153_24 : x_fe 153 24 = some (.iload 4, 26) := by decide +kernel
theorem f_153_26 : x_fe 153 26 = some (.iadd, 27) := by decide +kernel
theorem f_153_27 : x_fe 153 27 = some (.iaload, 28) := by decide +kernel
theorem f_153_28 : x_fe 153 28 = some (.aload 0, 29) := by decide +kernel
theorem f_153_29 : x_fe 153 29 = some (.getfield 209, 32) := by decide +kernel
theorem f_153_32 : x_fe 153 32 = some (.iconst (8), 34) := by decide +kernel
theorem f_153_34 : x_fe 153 34 = some (.iload 2, 35) := by decide +kernel
theorem f_153_35 : x_fe 153 35 = some (.imul, 36) := by decide +kernel
theorem f_153_36 : x_fe 153 36 = some (.iaload, 37) := by decide +kernel
theorem f_153_37 : x_fe 153 37 = some (.if_icmp .ne (Int.ofNat 44), 40) := by decide +kernel
theorem f_153_40 : x_fe 153 40 = some (.iconst (1), 41) := by decide +kernel
theorem f_153_41 : x_fe 153 41 = some (.goto (Int.ofNat 45), 44) := by decide +kernel
theorem f_153_44 : x_fe 153 44 = some (.iconst (0), 45) := by decide +kernel
theorem f_153_45 : x_fe 153 45 = some (.istore 3, 46) := by decide +kernel
theorem f_153_46 : x_fe 153 46 = some (.iinc 4 (1), 49) := by decide +kernel
theorem f_153_49 : x_fe 153 49 = some (.goto (Int.ofNat 5), 52) := by decide +kernel
theorem f_153_52 : x_fe 153 52 = some (.iload 3, 53) := by decide +kernel
theorem f_153_53 : x_fe 153 53 = some (.ireturn, 54) := by decide +kernel
theorem f_154_0 : x_fe 154 0 = some (.aload 0, 1) := by decide +kernel
theorem f_154_1 : x_fe 154 1 = some (.getfield 192, 4) := by decide +kernel
theorem f_154_4 : x_fe 154 4 = some (.iconst (0), 5) := by decide +kernel
theorem f_154_5 : x_fe 154 5 = some (.iaload, 6) := by decide +kernel
theorem f_154_6 : x_fe 154 6 = some (.ifCond .ne (Int.ofNat 12), 9) := by decide +kernel
theorem f_154_9 : x_fe 154 9 = some (.iconst (-1000002), 11) := by decide +kernel
theorem f_154_11 : x_fe 154 11 = some (.ireturn, 12) := by decide +kernel
theorem f_154_12 : x_fe 154 12 = some (.iload 1, 13) := by decide +kernel
theorem f_154_13 : x_fe 154 13 = some (.invokestatic 128, 16) := by decide +kernel
theorem f_154_16 : x_fe 154 16 = some (.ifCond .eq (Int.ofNat 39), 19) := by decide +kernel
theorem f_154_19 : x_fe 154 19 = some (.iload 2, 20) := by decide +kernel
theorem f_154_20 : x_fe 154 20 = some (.invokestatic 128, 23) := by decide +kernel
theorem f_154_23 : x_fe 154 23 = some (.ifCond .eq (Int.ofNat 39), 26) := by decide +kernel
theorem f_154_26 : x_fe 154 26 = some (.iload 3, 27) := by decide +kernel
theorem f_154_27 : x_fe 154 27 = some (.iconst (-1), 28) := by decide +kernel
theorem f_154_28 : x_fe 154 28 = some (.if_icmp .eq (Int.ofNat 42), 31) := by decide +kernel
theorem f_154_31 : x_fe 154 31 = some (.aload 0, 32) := by decide +kernel
theorem f_154_32 : x_fe 154 32 = some (.iload 3, 33) := by decide +kernel
theorem f_154_33 : x_fe 154 33 = some (.invokevirtual 125, 36) := by decide +kernel
theorem f_154_36 : x_fe 154 36 = some (.ifCond .ne (Int.ofNat 42), 39) := by decide +kernel
theorem f_154_39 : x_fe 154 39 = some (.iconst (-1000001), 41) := by decide +kernel
theorem f_154_41 : x_fe 154 41 = some (.ireturn, 42) := by decide +kernel
theorem f_154_42 : x_fe 154 42 = some (.iload 3, 43) := by decide +kernel
theorem f_154_43 : x_fe 154 43 = some (.iconst (-1), 44) := by decide +kernel
theorem f_154_44 : x_fe 154 44 = some (.if_icmp .eq (Int.ofNat 55), 47) := by decide +kernel
theorem f_154_47 : x_fe 154 47 = some (.aload 0, 48) := by decide +kernel
theorem f_154_48 : x_fe 154 48 = some (.iload 1, 49) := by decide +kernel
theorem f_154_49 : x_fe 154 49 = some (.iload 2, 50) := by decide +kernel
theorem f_154_50 : x_fe 154 50 = some (.iload 3, 51) := by decide +kernel
theorem f_154_51 : x_fe 154 51 = some (.invokevirtual 155, 54) := by decide +kernel
theorem f_154_54 : x_fe 154 54 = some (.ireturn, 55) := by decide +kernel
theorem f_154_55 : x_fe 154 55 = some (.iconst (0), 56) := by decide +kernel
theorem f_154_56 : x_fe 154 56 = some (.istore 4, 58) := by decide +kernel
theorem f_154_58 : x_fe 154 58 = some (.iconst (0), 59) := by decide +kernel
theorem f_154_59 : x_fe 154 59 = some (.istore 5, 61) := by decide +kernel
theorem f_154_61 : x_fe 154 61 = some (.iload 5, 63) := by decide +kernel
theorem f_154_63 : x_fe 154 63 = some (.aload 0, 64) := by decide +kernel
theorem f_154_64 : x_fe 154 64 = some (.getfield 192, 67) := by decide +kernel
theorem f_154_67 : x_fe 154 67 = some (.iconst (1), 68) := by decide +kernel
theorem f_154_68 : x_fe 154 68 = some (.iaload, 69) := by decide +kernel
theorem f_154_69 : x_fe 154 69 = some (.if_icmp .ge (Int.ofNat 104), 72) := by decide +kernel
theorem f_154_72 : x_fe 154 72 = some (.iload 4, 74) := by decide +kernel
theorem f_154_74 : x_fe 154 74 = some (.aload 0, 75) := by decide +kernel
theorem f_154_75 : x_fe 154 75 = some (.iload 1, 76) := by decide +kernel
theorem f_154_76 : x_fe 154 76 = some (.iload 2, 77) := by decide +kernel
theorem f_154_77 : x_fe 154 77 = some (.iload 5, 79) := by decide +kernel
theorem f_154_79 : x_fe 154 79 = some (.invokevirtual 155, 82) := by decide +kernel
theorem f_154_82 : x_fe 154 82 = some (.iconst (-1000000), 84) := by decide +kernel
theorem f_154_84 : x_fe 154 84 = some (.if_icmp .ne (Int.ofNat 91), 87) := by decide +kernel
theorem f_154_87 : x_fe 154 87 = some (.iconst (0), 88) := by decide +kernel
theorem f_154_88 : x_fe 154 88 = some (.goto (Int.ofNat 95), 91) := by decide +kernel
theorem f_154_91 : x_fe 154 91 = some (.iconst (1), 92) := by decide +kernel
theorem f_154_92 : x_fe 154 92 = some (.iload 5, 94) := by decide +kernel
theorem f_154_94 : x_fe 154 94 = some (.ishl, 95) := by decide +kernel
theorem f_154_95 : x_fe 154 95 = some (.ior, 96) := by decide +kernel
theorem f_154_96 : x_fe 154 96 = some (.istore 4, 98) := by decide +kernel
theorem f_154_98 : x_fe 154 98 = some (.iinc 5 (1), 101) := by decide +kernel
theorem f_154_101 : x_fe 154 101 = some (.goto (Int.ofNat 61), 104) := by decide +kernel
theorem f_154_104 : x_fe 154 104 = some (.iload 4, 106) := by decide +kernel
theorem f_154_106 : x_fe 154 106 = some (.ireturn, 107) := by decide +kernel
theorem f_155_0 : x_fe 155 0 = some (.iconst (0), 1) := by decide +kernel
theorem f_155_1 : x_fe 155 1 = some (.istore 4, 3) := by decide +kernel
theorem f_155_3 : x_fe 155 3 = some (.iload 4, 5) := by decide +kernel
theorem f_155_5 : x_fe 155 5 = some (.iconst (8), 7) := by decide +kernel
theorem f_155_7 : x_fe 155 7 = some (.if_icmp .ge (Int.ofNat 37), 10) := by decide +kernel
theorem f_155_10 : x_fe 155 10 = some (.iload 1, 11) := by decide +kernel
theorem f_155_11 : x_fe 155 11 = some (.aload 0, 12) := by decide +kernel
theorem f_155_12 : x_fe 155 12 = some (.getfield 209, 15) := by decide +kernel
theorem f_155_15 : x_fe 155 15 = some (.iconst (8), 17) := by decide +kernel
theorem f_155_17 : x_fe 155 17 = some (.iload 3, 18) := by decide +kernel
theorem f_155_18 : x_fe 155 18 = some (.imul, 19) := by decide +kernel
theorem f_155_19 : x_fe 155 19 = some (.iload 4, 21) := by decide +kernel
theorem f_155_21 : x_fe 155 21 = some (.iadd, 22) := by decide +kernel
theorem f_155_22 : x_fe 155 22 = some (.iaload, 23) := by decide +kernel
theorem f_155_23 : x_fe 155 23 = some (.iand, 24) := by decide +kernel
theorem f_155_24 : x_fe 155 24 = some (.iload 2, 25) := by decide +kernel
theorem f_155_25 : x_fe 155 25 = some (.if_icmp .ne (Int.ofNat 31), 28) := by decide +kernel
theorem f_155_28 : x_fe 155 28 = some (.iload 4, 30) := by decide +kernel
theorem f_155_30 : x_fe 155 30 = some (.ireturn, 31) := by decide +kernel
theorem f_155_31 : x_fe 155 31 = some (.iinc 4 (1), 34) := by decide +kernel
theorem f_155_34 : x_fe 155 34 = some (.goto (Int.ofNat 3), 37) := by decide +kernel
theorem f_155_37 : x_fe 155 37 = some (.iconst (-1000000), 39) := by decide +kernel
theorem f_155_39 : x_fe 155 39 = some (.ireturn, 40) := by decide +kernel
theorem f_156_0 : x_fe 156 0 = some (.iload 1, 1) := by decide +kernel
theorem f_156_1 : x_fe 156 1 = some (.i2l, 2) := by decide +kernel
theorem f_156_2 : x_fe 156 2 = some (.ldc2_w 0, 3) := by decide +kernel
theorem f_156_3 : x_fe 156 3 = some (.ldc2_w 1, 4) := by decide +kernel
theorem f_156_4 : x_fe 156 4 = some (.invokestatic 101, 7) := by decide +kernel
theorem f_156_7 : x_fe 156 7 = some (.ifCond .ne (Int.ofNat 13), 10) := by decide +kernel
theorem f_156_10 : x_fe 156 10 = some (.iconst (-1000001), 12) := by decide +kernel
theorem f_156_12 : x_fe 156 12 = some (.ireturn, 13) := by decide +kernel
theorem f_156_13 : x_fe 156 13 = some (.aload 0, 14) := by decide +kernel
theorem f_156_14 : x_fe 156 14 = some (.getfield 192, 17) := by decide +kernel
theorem f_156_17 : x_fe 156 17 = some (.iconst (0), 18) := by decide +kernel
theorem f_156_18 : x_fe 156 18 = some (.iaload, 19) := by decide +kernel
theorem f_156_19 : x_fe 156 19 = some (.ifCond .ne (Int.ofNat 25), 22) := by decide +kernel
theorem f_156_22 : x_fe 156 22 = some (.iconst (-1000002), 24) := by decide +kernel
theorem f_156_24 : x_fe 156 24 = some (.ireturn, 25) := by decide +kernel
theorem f_156_25 : x_fe 156 25 = some (.aload 0, 26) := by decide +kernel
theorem f_156_26 : x_fe 156 26 = some (.iconst (0), 27) := by decide +kernel
theorem f_156_27 : x_fe 156 27 = some (.iconst (1), 28) := by decide +kernel
theorem f_156_28 : x_fe 156 28 = some (.iload 1, 29) := by decide +kernel
theorem f_156_29 : x_fe 156 29 = some (.iadd, 30) := by decide +kernel
theorem f_156_30 : x_fe 156 30 = some (.invokevirtual 157, 33) := by decide +kernel
theorem f_156_33 : x_fe 156 33 = some (.iconst (1), 34) := by decide +kernel
theorem f_156_34 : x_fe 156 34 = some (.ireturn, 35) := by decide +kernel
theorem f_157_0 : x_fe 157 0 = some (.iconst (0), 1) := by decide +kernel
theorem f_157_1 : x_fe 157 1 = some (.istore 3, 2) := by decide +kernel
theorem f_157_2 : x_fe 157 2 = some (.iload 3, 3) := by decide +kernel
theorem f_157_3 : x_fe 157 3 = some (.iconst (33), 5) := by decide +kernel
theorem f_157_5 : x_fe 157 5 = some (.if_icmp .ge (Int.ofNat 36), 8) := by decide +kernel
theorem f_157_8 : x_fe 157 8 = some (.aload 0, 9) := by decide +kernel
theorem f_157_9 : x_fe 157 9 = some (.getfield 192, 12) := by decide +kernel
theorem f_157_12 : x_fe 157 12 = some (.iconst (33), 14) := by decide +kernel
theorem f_157_14 : x_fe 157 14 = some (.iload 2, 15) := by decide +kernel
theorem f_157_15 : x_fe 157 15 = some (.imul, 16) := by decide +kernel
theorem f_157_16 : x_fe 157 16 = some (.iload 3, 17) := by decide +kernel
theorem f_157_17 : x_fe 157 17 = some (.iadd, 18) := by decide +kernel
theorem f_157_18 : x_fe 157 18 = some (.aload 0, 19) := by decide +kernel
theorem f_157_19 : x_fe 157 19 = some (.getfield 192, 22) := by decide +kernel
theorem f_157_22 : x_fe 157 22 = some (.iconst (33), 24) := by decide +kernel
theorem f_157_24 : x_fe 157 24 = some (.iload 1, 25) := by decide +kernel
theorem f_157_25 : x_fe 157 25 = some (.imul, 26) := by decide +kernel
theorem f_157_26 : x_fe 157 26 = some (.iload 3, 27) := by decide +kernel
theorem f_157_27 : x_fe 157 27 = some (.iadd, 28) := by decide +kernel
theorem f_157_28 : x_fe 157 28 = some (.iaload, 29) := by decide +kernel
theorem f_157_29 : x_fe 157 29 = some (.iastore, 30) := by decide +kernel
theorem f_157_30 : x_fe 157 30 = some (.iinc 3 (1), 33) := by decide +kernel
theorem f_157_33 : x_fe 157 33 = some (.goto (Int.ofNat 2), 36) := by decide +kernel
theorem f_157_36 : x_fe 157 36 = some (.return_, 37) := by decide +kernel
theorem f_158_0 : x_fe 158 0 = some (.iload 1, 1) := by decide +kernel
theorem f_158_1 : x_fe 158 1 = some (.i2l, 2) := by decide +kernel
theorem f_158_2 : x_fe 158 2 = some (.ldc2_w 0, 3) := by decide +kernel
theorem f_158_3 : x_fe 158 3 = some (.ldc2_w 1, 4) := by decide +kernel
theorem f_158_4 : x_fe 158 4 = some (.invokestatic 101, 7) := by decide +kernel
theorem f_158_7 : x_fe 158 7 = some (.ifCond .ne (Int.ofNat 13), 10) := by decide +kernel
theorem f_158_10 : x_fe 158 10 = some (.iconst (-1000001), 12) := by decide +kernel
theorem f_158_12 : x_fe 158 12 = some (.ireturn, 13) := by decide +kernel
theorem f_158_13 : x_fe 158 13 = some (.aload 0, 14) := by decide +kernel
theorem f_158_14 : x_fe 158 14 = some (.getfield 192, 17) := by decide +kernel
theorem f_158_17 : x_fe 158 17 = some (.iconst (33), 19) := by decide +kernel
theorem f_158_19 : x_fe 158 19 = some (.iconst (1), 20) := by decide +kernel
theorem f_158_20 : x_fe 158 20 = some (.iload 1, 21) := by decide +kernel
theorem f_158_21 : x_fe 158 21 = some (.iadd, 22) := by decide +kernel
theorem f_158_22 : x_fe 158 22 = some (.imul, 23) := by decide +kernel
theorem f_158_23 : x_fe 158 23 = some (.iconst (0), 24) := by decide +kernel
theorem f_158_24 : x_fe 158 24 = some (.iadd, 25) := by decide +kernel
theorem f_158_25 : x_fe 158 25 = some (.iaload, 26) := by decide +kernel
theorem f_158_26 : x_fe 158 26 = some (.ifCond .ne (Int.ofNat 32), 29) := by decide +kernel
theorem f_158_29 : x_fe 158 29 = some (.iconst (-1000002), 31) := by decide +kernel
theorem f_158_31 : x_fe 158 31 = some (.ireturn, 32) := by decide +kernel
theorem f_158_32 : x_fe 158 32 = some (.aload 0, 33) := by decide +kernel
theorem f_158_33 : x_fe 158 33 = some (.iconst (1), 34) := by decide +kernel
theorem f_158_34 : x_fe 158 34 = some (.iload 1, 35) := by decide +kernel
theorem f_158_35 : x_fe 158 35 = some (.iadd, 36) := by decide +kernel
theorem f_158_36 : x_fe 158 36 = some (.iconst (0), 37) := by decide +kernel
theorem f_158_37 : x_fe 158 37 = some (.invokevirtual 157, 40) := by decide +kernel
theorem f_158_40 : x_fe 158 40 = some (.aload 0, 41) := by decide +kernel
theorem f_158_41 : x_fe 158 41 = some (.invokevirtual 120, 44) := by decide +kernel
theorem f_158_44 : x_fe 158 44 = some (.iconst (1), 45) := by decide +kernel
theorem f_158_45 : x_fe 158 45 = some (.ireturn, 46) := by decide +kernel
theorem f_159_0 : x_fe 159 0 = some (.aload 0, 1) := by decide +kernel
theorem f_159_1 : x_fe 159 1 = some (.iload 1, 2) := by decide +kernel
theorem f_159_2 : x_fe 159 2 = some (.invokevirtual 125, 5) := by decide +kernel
theorem f_159_5 : x_fe 159 5 = some (.ifCond .eq (Int.ofNat 16), 8) := by decide +kernel
theorem f_159_8 : x_fe 159 8 = some (.aload 0, 9) := by decide +kernel
theorem f_159_9 : x_fe 159 9 = some (.iload 1, 10) := by decide +kernel
theorem f_159_10 : x_fe 159 10 = some (.invokevirtual 160, 13) := by decide +kernel
theorem f_159_13 : x_fe 159 13 = some (.goto (Int.ofNat 18), 16) := by decide +kernel
theorem f_159_16 : x_fe 159 16 = some (.iconst (-1000001), 18) := by decide +kernel
theorem f_159_18 : x_fe 159 18 = some (.ireturn, 19) := by decide +kernel
theorem f_160_0 : x_fe 160 0 = some (.aload 0, 1) := by decide +kernel
theorem f_160_1 : x_fe 160 1 = some (.getfield 192, 4) := by decide +kernel
theorem f_160_4 : x_fe 160 4 = some (.iconst (2), 5) := by decide +kernel
theorem f_160_5 : x_fe 160 5 = some (.iload 1, 6) := by decide +kernel
theorem f_160_6 : x_fe 160 6 = some (.iadd, 7) := by decide +kernel
theorem f_160_7 : x_fe 160 7 = some (.iaload, 8) := by decide +kernel
theorem f_160_8 : x_fe 160 8 = some (.invokestatic 136, 11) := by decide +kernel
theorem f_160_11 : x_fe 160 11 = some (.istore 2, 12) := by decide +kernel
theorem f_160_12 : x_fe 160 12 = some (.aload 0, 13) := by decide +kernel
theorem f_160_13 : x_fe 160 13 = some (.iload 1, 14) := by decide +kernel
theorem f_160_14 : x_fe 160 14 = some (.invokevirtual 151, 17) := by decide +kernel
theorem f_160_17 : x_fe 160 17 = some (.iconst (1), 18) := by decide +kernel
theorem f_160_18 : x_fe 160 18 = some (.if_icmp .ne (Int.ofNat 25), 21) := by decide +kernel
theorem f_160_21 : x_fe 160 21 = some (.iconst (1), 22) := by decide +kernel
theorem f_160_22 : x_fe 160 22 = some (.goto (Int.ofNat 26), 25) := by decide +kernel
theorem f_160_25 : x_fe 160 25 = some (.iconst (0), 26) := by decide +kernel
theorem f_160_26 : x_fe 160 26 = some (.istore 3, 27) := by decide +kernel
theorem f_160_27 : x_fe 160 27 = some (.iload 2, 28) := by decide +kernel
theorem f_160_28 : x_fe 160 28 = some (.ifCond .ne (Int.ofNat 35), 31) := by decide +kernel
theorem f_160_31 : x_fe 160 31 = some (.iconst (2), 32) := by decide +kernel
theorem f_160_32 : x_fe 160 32 = some (.goto (Int.ofNat 66), 35) := by decide +kernel
theorem f_160_35 : x_fe 160 35 = some (.iload 3, 36) := by decide +kernel
theorem f_160_36 : x_fe 160 36 = some (.ifCond .eq (Int.ofNat 48), 39) := by decide +kernel
theorem f_160_39 : x_fe 160 39 = some (.iload 2, 40) := by decide +kernel
theorem f_160_40 : x_fe 160 40 = some (.iconst (5), 41) := by decide +kernel
theorem f_160_41 : x_fe 160 41 = some (.if_icmp .le (Int.ofNat 48), 44) := by decide +kernel
theorem f_160_44 : x_fe 160 44 = some (.iconst (5), 45) := by decide +kernel
theorem f_160_45 : x_fe 160 45 = some (.goto (Int.ofNat 66), 48) := by decide +kernel
theorem f_160_48 : x_fe 160 48 = some (.iload 3, 49) := by decide +kernel
theorem f_160_49 : x_fe 160 49 = some (.ifCond .eq (Int.ofNat 56), 52) := by decide +kernel
theorem f_160_52 : x_fe 160 52 = some (.iconst (3), 53) := by decide +kernel
theorem f_160_53 : x_fe 160 53 = some (.goto (Int.ofNat 66), 56) := by decide +kernel
theorem f_160_56 : x_fe 160 56 = some (.iload 2, 57) := by decide +kernel
theorem f_160_57 : x_fe 160 57 = some (.iconst (5), 58) := by decide +kernel
theorem f_160_58 : x_fe 160 58 = some (.if_icmp .le (Int.ofNat 65), 61) := by decide +kernel
theorem f_160_61 : x_fe 160 61 = some (.iconst (4), 62) := by decide +kernel
theorem f_160_62 : x_fe 160 62 = some (.goto (Int.ofNat 66), 65) := by decide +kernel
theorem f_160_65 : x_fe 160 65 = some (.iconst (1), 66) := by decide +kernel
theorem f_160_66 : x_fe 160 66 = some (.ireturn, 67) := by decide +kernel
theorem f_161_0 : x_fe 161 0 = some (.aload 0, 1) := by decide +kernel
theorem f_161_1 : x_fe 161 1 = some (.iload 1, 2) := by decide +kernel
theorem f_161_2 : x_fe 161 2 = some (.invokevirtual 125, 5) := by decide +kernel
theorem f_161_5 : x_fe 161 5 = some (.ifCond .eq (Int.ofNat 20), 8) := by decide +kernel
theorem f_161_8 : x_fe 161 8 = some (.iload 2, 9) := by decide +kernel
theorem f_161_9 : x_fe 161 9 = some (.i2l, 10) := by decide +kernel
theorem f_161_10 : x_fe 161 10 = some (.ldc2_w 0, 11) := by decide +kernel
theorem f_161_11 : x_fe 161 11 = some (.ldc2_w 5, 14) := by decide +kernel
theorem f_161_14 : x_fe 161 14 = some (.invokestatic 101, 17) := by decide +kernel
theorem f_161_17 : x_fe 161 17 = some (.ifCond .ne (Int.ofNat 23), 20) := by decide +kernel
theorem f_161_20 : x_fe 161 20 = some (.iconst (-1000001), 22) := by decide +kernel
theorem f_161_22 : x_fe 161 22 = some (.ireturn, 23) := by decide +kernel
theorem f_161_23 : x_fe 161 23 = some (.aload 0, 24) := by decide +kernel
theorem f_161_24 : x_fe 161 24 = some (.iload 1, 25) := by decide +kernel
theorem f_161_25 : x_fe 161 25 = some (.invokevirtual 160, 28) := by decide +kernel
theorem f_161_28 : x_fe 161 28 = some (.istore 3, 29) := by decide +kernel
theorem f_161_29 : x_fe 161 29 = some (.iload 2, 30) := by decide +kernel
theorem f_161_30 : x_fe 161 30 = some (.ifCond .eq (Int.ofNat 58), 33) := by decide +kernel
theorem f_161_33 : x_fe 161 33 = some (.iload 2, 34) := by decide +kernel
theorem f_161_34 : x_fe 161 34 = some (.iload 3, 35) := by decide +kernel
theorem f_161_35 : x_fe 161 35 = some (.if_icmp .eq (Int.ofNat 58), 38) := by decide +kernel
theorem f_161_38 : x_fe 161 38 = some (.iload 2, 39) := by decide +kernel
theorem f_161_39 : x_fe 161 39 = some (.iconst (1), 40) := by decide +kernel
theorem f_161_40 : x_fe 161 40 = some (.if_icmp .ne (Int.ofNat 48), 43) := by decide +kernel
theorem f_161_43 : x_fe 161 43 = some (.iload 3, 44) := by decide +kernel
theorem f_161_44 : x_fe 161 44 = some (.iconst (2), 45) := by decide +kernel
theorem f_161_45 : x_fe 161 45 = some (.if_icmp .ne (Int.ofNat 58), 48) := by decide +kernel
theorem f_161_48 : x_fe 161 48 = some (.iload 2, 49) := by decide +kernel
theorem f_161_49 : x_fe 161 49 = some (.iconst (3), 50) := by decide +kernel
theorem f_161_50 : x_fe 161 50 = some (.if_icmp .ne (Int.ofNat 62), 53) := by decide +kernel
theorem f_161_53 : x_fe 161 53 = some (.iload 3, 54) := by decide +kernel
theorem f_161_54 : x_fe 161 54 = some (.iconst (5), 55) := by decide +kernel
theorem f_161_55 : x_fe 161 55 = some (.if_icmp .ne (Int.ofNat 62), 58) := by decide +kernel
theorem f_161_58 : x_fe 161 58 = some (.iconst (1), 59) := by decide +kernel
theorem f_161_59 : x_fe 161 59 = some (.goto (Int.ofNat 63), 62) := by decide +kernel
theorem f_161_62 : x_fe 161 62 = some (.iconst (0), 63) := by decide +kernel
theorem f_161_63 : x_fe 161 63 = some (.istore 4, 65) := by decide +kernel
theorem f_161_65 : x_fe 161 65 = some (.iload 4, 67) := by decide +kernel
theorem f_161_67 : x_fe 161 67 = some (.ifCond .eq (Int.ofNat 78), 70) := by decide +kernel
theorem f_161_70 : x_fe 161 70 = some (.aload 0, 71) := by decide +kernel
theorem f_161_71 : x_fe 161 71 = some (.iload 1, 72) := by decide +kernel
theorem f_161_72 : x_fe 161 72 = some (.invokevirtual 103, 75) := by decide +kernel
theorem f_161_75 : x_fe 161 75 = some (.goto (Int.ofNat 83), 78) := by decide +kernel
theorem f_161_78 : x_fe 161 78 = some (.aload 0, 79) := by decide +kernel
theorem f_161_79 : x_fe 161 79 = some (.iconst (3), 80) := by decide +kernel
theorem f_161_80 : x_fe 161 80 = some (.invokevirtual 102, 83) := by decide +kernel
theorem f_161_83 : x_fe 161 83 = some (.ireturn, 84) := by decide +kernel
theorem f_162_0 : x_fe 162 0 = some (.aload 0, 1) := by decide +kernel
theorem f_162_1 : x_fe 162 1 = some (.iload 1, 2) := by decide +kernel
theorem f_162_2 : x_fe 162 2 = some (.invokevirtual 125, 5) := by decide +kernel
theorem f_162_5 : x_fe 162 5 = some (.ifCond .eq (Int.ofNat 18), 8) := by decide +kernel
theorem f_162_8 : x_fe 162 8 = some (.iload 2, 9) := by decide +kernel
theorem f_162_9 : x_fe 162 9 = some (.i2l, 10) := by decide +kernel
theorem f_162_10 : x_fe 162 10 = some (.ldc2_w 0, 11) := by decide +kernel
theorem f_162_11 : x_fe 162 11 = some (.ldc2_w 1, 12) := by decide +kernel
theorem f_162_12 : x_fe 162 12 = some (.invokestatic 101, 15) := by decide +kernel
theorem f_162_15 : x_fe 162 15 = some (.ifCond .ne (Int.ofNat 21), 18) := by decide +kernel
theorem f_162_18 : x_fe 162 18 = some (.iconst (-1000001), 20) := by decide +kernel
theorem f_162_20 : x_fe 162 20 = some (.ireturn, 21) := by decide +kernel
theorem f_162_21 : x_fe 162 21 = some (.aload 0, 22) := by decide +kernel
theorem f_162_22 : x_fe 162 22 = some (.iconst (0), 23) := by decide +kernel
theorem f_162_23 : x_fe 162 23 = some (.putfield 201, 26) := by decide +kernel
theorem f_162_26 : x_fe 162 26 = some (.iload 2, 27) := by decide +kernel
theorem f_162_27 : x_fe 162 27 = some (.ifCond .ne (Int.ofNat 38), 30) := by decide +kernel
theorem f_162_30 : x_fe 162 30 = some (.aload 0, 31) := by decide +kernel
theorem f_162_31 : x_fe 162 31 = some (.iload 1, 32) := by decide +kernel
theorem f_162_32 : x_fe 162 32 = some (.invokevirtual 163, 35) := by decide +kernel
theorem f_162_35 : x_fe 162 35 = some (.goto (Int.ofNat 43), 38) := by decide +kernel
theorem f_162_38 : x_fe 162 38 = some (.aload 0, 39) := by decide +kernel
theorem f_162_39 : x_fe 162 39 = some (.iload 1, 40) := by decide +kernel
theorem f_162_40 : x_fe 162 40 = some (.invokevirtual 167, 43) := by decide +kernel
theorem f_162_43 : x_fe 162 43 = some (.ireturn, 44) := by decide +kernel
theorem f_163_0 : x_fe 163 0 = some (.aload 0, 1) := by decide +kernel
theorem f_163_1 : x_fe 163 1 = some (.iload 1, 2) := by decide +kernel
theorem f_163_2 : x_fe 163 2 = some (.invokevirtual 160, 5) := by decide +kernel
theorem f_163_5 : x_fe 163 5 = some (.istore 2, 6) := by decide +kernel
theorem f_163_6 : x_fe 163 6 = some (.iload 2, 7) := by decide +kernel
theorem f_163_7 : x_fe 163 7 = some (.iconst (3), 8) := by decide +kernel
theorem f_163_8 : x_fe 163 8 = some (.if_icmp .eq (Int.ofNat 16), 11) := by decide +kernel
theorem f_163_11 : x_fe 163 11 = some (.iload 2, 12) := by decide +kernel
theorem f_163_12 : x_fe 163 12 = some (.iconst (5), 13) := by decide +kernel
theorem f_163_13 : x_fe 163 13 = some (.if_icmp .ne (Int.ofNat 30), 16) := by decide +kernel
theorem f_163_16 : x_fe 163 16 = some (.aload 0, 17) := by decide +kernel
theorem f_163_17 : x_fe 163 17 = some (.iconst (12), 19) := by decide +kernel
theorem f_163_19 : x_fe 163 19 = some (.invokevirtual 164, 22) := by decide +kernel
theorem f_163_22 : x_fe 163 22 = some (.iconst (2), 23) := by decide +kernel
theorem f_163_23 : x_fe 163 23 = some (.aload 0, 24) := by decide +kernel
theorem f_163_24 : x_fe 163 24 = some (.iload 1, 25) := by decide +kernel
theorem f_163_25 : x_fe 163 25 = some (.invokevirtual 165, 28) := by decide +kernel
theorem f_163_28 : x_fe 163 28 = some (.imul, 29) := by decide +kernel
theorem f_163_29 : x_fe 163 29 = some (.ireturn, 30) := by decide +kernel
theorem f_163_30 : x_fe 163 30 = some (.iload 2, 31) := by decide +kernel
theorem f_163_31 : x_fe 163 31 = some (.iconst (4), 32) := by decide +kernel
theorem f_163_32 : x_fe 163 32 = some (.if_icmp .ne (Int.ofNat 48), 35) := by decide +kernel
theorem f_163_35 : x_fe 163 35 = some (.aload 0, 36) := by decide +kernel
theorem f_163_36 : x_fe 163 36 = some (.iconst (13), 38) := by decide +kernel
theorem f_163_38 : x_fe 163 38 = some (.invokevirtual 164, 41) := by decide +kernel
theorem f_163_41 : x_fe 163 41 = some (.aload 0, 42) := by decide +kernel
theorem f_163_42 : x_fe 163 42 = some (.iload 1, 43) := by decide +kernel
theorem f_163_43 : x_fe 163 43 = some (.invokevirtual 165, 46) := by decide +kernel
theorem f_163_46 : x_fe 163 46 = some (.ineg, 47) := by decide +kernel
theorem f_163_47 : x_fe 163 47 = some (.ireturn, 48) := by decide +kernel
theorem f_163_48 : x_fe 163 48 = some (.iload 2, 49) := by decide +kernel
theorem f_163_49 : x_fe 163 49 = some (.iconst (2), 50) := by decide +kernel
theorem f_163_50 : x_fe 163 50 = some (.if_icmp .ne (Int.ofNat 68), 53) := by decide +kernel
theorem f_163_53 : x_fe 163 53 = some (.aload 0, 54) := by decide +kernel
theorem f_163_54 : x_fe 163 54 = some (.iconst (14), 56) := by decide +kernel
theorem f_163_56 : x_fe 163 56 = some (.invokevirtual 164, 59) := by decide +kernel
theorem f_163_59 : x_fe 163 59 = some (.aload 0, 60) := by decide +kernel
theorem f_163_60 : x_fe 163 60 = some (.iload 1, 61) := by decide +kernel
theorem f_163_61 : x_fe 163 61 = some (.invokevirtual 166, 64) := by decide +kernel
theorem f_163_64 : x_fe 163 64 = some (.iconst (100), 66) := by decide +kernel
theorem f_163_66 : x_fe 163 66 = some (.isub, 67) := by decide +kernel
theorem f_163_67 : x_fe 163 67 = some (.ireturn, 68) := by decide +kernel
theorem f_163_68 : x_fe 163 68 = some (.aload 0, 69) := by decide +kernel
theorem f_163_69 : x_fe 163 69 = some (.iload 1, 70) := by decide +kernel
theorem f_163_70 : x_fe 163 70 = some (.invokevirtual 165, 73) := by decide +kernel
theorem f_163_73 : x_fe 163 73 = some (.ireturn, 74) := by decide +kernel
theorem f_164_0 : x_fe 164 0 = some (.aload 0, 1) := by decide +kernel
theorem f_164_1 : x_fe 164 1 = some (.getfield 201, 4) := by decide +kernel
theorem f_164_4 : x_fe 164 4 = some (.iconst (16), 6) := by decide +kernel
theorem f_164_6 : x_fe 164 6 = some (.if_icmp .ge (Int.ofNat 29), 9) := by decide +kernel
theorem f_164_9 : x_fe 164 9 = some (.aload 0, 10) := by decide +kernel
theorem f_164_10 : x_fe 164 10 = some (.getfield 200, 13) := by decide +kernel
theorem f_164_13 : x_fe 164 13 = some (.aload 0, 14) := by decide +kernel
theorem f_164_14 : x_fe 164 14 = some (.getfield 201, 17) := by decide +kernel
theorem f_164_17 : x_fe 164 17 = some (.iload 1, 18) := by decide +kernel
theorem f_164_18 : x_fe 164 18 = some (.iastore, 19) := by decide +kernel
theorem f_164_19 : x_fe 164 19 = some (.aload 0, 20) := by decide +kernel
theorem f_164_20 : x_fe 164 20 = some (.dup, 21) := by decide +kernel
theorem f_164_21 : x_fe 164 21 = some (.getfield 201, 24) := by decide +kernel
theorem f_164_24 : x_fe 164 24 = some (.iconst (1), 25) := by decide +kernel
theorem f_164_25 : x_fe 164 25 = some (.iadd, 26) := by decide +kernel
theorem f_164_26 : x_fe 164 26 = some (.putfield 201, 29) := by decide +kernel
theorem f_164_29 : x_fe 164 29 = some (.return_, 30) := by decide +kernel
theorem f_165_0 : x_fe 165 0 = some (.aload 0, 1) := by decide +kernel
theorem f_165_1 : x_fe 165 1 = some (.iconst (11), 3) := by decide +kernel
theorem f_165_3 : x_fe 165 3 = some (.invokevirtual 164, 6) := by decide +kernel
theorem f_165_6 : x_fe 165 6 = some (.aload 0, 7) := by decide +kernel
theorem f_165_7 : x_fe 165 7 = some (.iload 1, 8) := by decide +kernel
theorem f_165_8 : x_fe 165 8 = some (.invokevirtual 166, 11) := by decide +kernel
theorem f_165_11 : x_fe 165 11 = some (.istore 2, 12) := by decide +kernel
theorem f_165_12 : x_fe 165 12 = some (.iload 2, 13) := by decide +kernel
theorem f_165_13 : x_fe 165 13 = some (.aload 0, 14) := by decide +kernel
theorem f_165_14 : x_fe 165 14 = some (.iload 1, 15) := by decide +kernel
theorem f_165_15 : x_fe 165 15 = some (.invokevirtual 167, 18) := by decide +kernel
theorem f_165_18 : x_fe 165 18 = some (.iadd, 19) := by decide +kernel
theorem f_165_19 : x_fe 165 19 = some (.ireturn, 20) := by decide +kernel
theorem f_166_0 : x_fe 166 0 = some (.aload 0, 1) := by decide +kernel
theorem f_166_1 : x_fe 166 1 = some (.iconst (10), 3) := by decide +kernel
theorem f_166_3 : x_fe 166 3 = some (.invokevirtual 164, 6) := by decide +kernel
theorem f_166_6 : x_fe 166 6 = some (.aload 0, 7) := by decide +kernel
theorem f_166_7 : x_fe 166 7 = some (.getfield 192, 10) := by decide +kernel
theorem f_166_10 : x_fe 166 10 = some (.iconst (2), 11) := by decide +kernel
theorem f_166_11 : x_fe 166 11 = some (.iload 1, 12) := by decide +kernel
theorem f_166_12 : x_fe 166 12 = some (.iadd, 13) := by decide +kernel
theorem f_166_13 : x_fe 166 13 = some (.iaload, 14) := by decide +kernel
theorem f_166_14 : x_fe 166 14 = some (.invokestatic 136, 17) := by decide +kernel
theorem f_166_17 : x_fe 166 17 = some (.ireturn, 18) := by decide +kernel
theorem f_167_0 : x_fe 167 0 = some (.aload 0, 1) := by decide +kernel
theorem f_167_1 : x_fe 167 1 = some (.iload 1, 2) := by decide +kernel
theorem f_167_2 : x_fe 167 2 = some (.invokevirtual 160, 5) := by decide +kernel
theorem f_167_5 : x_fe 167 5 = some (.istore 2, 6) := by decide +kernel
theorem f_167_6 : x_fe 167 6 = some (.iload 2, 7) := by decide +kernel
theorem f_167_7 : x_fe 167 7 = some (.iconst (5), 8) := by decide +kernel
theorem f_167_8 : x_fe 167 8 = some (.if_icmp .ne (Int.ofNat 27), 11) := by decide +kernel
theorem f_167_11 : x_fe 167 11 = some (.aload 0, 12) := by decide +kernel
theorem f_167_12 : x_fe 167 12 = some (.iconst (22), 14) := by decide +kernel
theorem f_167_14 : x_fe 167 14 = some (.invokevirtual 164, 17) := by decide +kernel
theorem f_167_17 : x_fe 167 17 = some (.aload 0, 18) := by decide +kernel
theorem f_167_18 : x_fe 167 18 = some (.iload 1, 19) := by decide +kernel
theorem f_167_19 : x_fe 167 19 = some (.invokevirtual 168, 22) := by decide +kernel
theorem f_167_22 : x_fe 167 22 = some (.iconst (1000), 25) := by decide +kernel
theorem f_167_25 : x_fe 167 25 = some (.isub, 26) := by decide +kernel
theorem f_167_26 : x_fe 167 26 = some (.ireturn, 27) := by decide +kernel
theorem f_167_27 : x_fe 167 27 = some (.iload 2, 28) := by decide +kernel
theorem f_167_28 : x_fe 167 28 = some (.iconst (4), 29) := by decide +kernel
theorem f_167_29 : x_fe 167 29 = some (.if_icmp .ne (Int.ofNat 48), 32) := by decide +kernel
theorem f_167_32 : x_fe 167 32 = some (.aload 0, 33) := by decide +kernel
theorem f_167_33 : x_fe 167 33 = some (.iconst (24), 35) := by decide +kernel
theorem f_167_35 : x_fe 167 35 = some (.invokevirtual 164, 38) := by decide +kernel
theorem f_167_38 : x_fe 167 38 = some (.aload 0, 39) := by decide +kernel
theorem f_167_39 : x_fe 167 39 = some (.iload 1, 40) := by decide +kernel
theorem f_167_40 : x_fe 167 40 = some (.invokevirtual 168, 43) := by decide +kernel
theorem f_167_43 : x_fe 167 43 = some (.iconst (500), 46) := by decide +kernel
theorem f_167_46 : x_fe 167 46 = some (.iadd, 47) := by decide +kernel
theorem f_167_47 : x_fe 167 47 = some (.ireturn, 48) := by decide +kernel
theorem f_167_48 : x_fe 167 48 = some (.iload 2, 49) := by decide +kernel
theorem f_167_49 : x_fe 167 49 = some (.iconst (2), 50) := by decide +kernel
theorem f_167_50 : x_fe 167 50 = some (.if_icmp .ne (Int.ofNat 82), 53) := by decide +kernel
theorem f_167_53 : x_fe 167 53 = some (.aload 0, 54) := by decide +kernel
theorem f_167_54 : x_fe 167 54 = some (.iconst (23), 56) := by decide +kernel
theorem f_167_56 : x_fe 167 56 = some (.invokevirtual 164, 59) := by decide +kernel
theorem f_167_59 : x_fe 167 59 = some (.aload 0, 60) := by decide +kernel
theorem f_167_60 : x_fe 167 60 = some (.iload 1, 61) := by decide +kernel
theorem f_167_61 : x_fe 167 61 = some (.invokevirtual 169, 64) := by decide +kernel
theorem f_167_64 : x_fe 167 64 = some (.istore 3, 65) := by decide +kernel
theorem f_167_65 : x_fe 167 65 = some (.aload 0, 66) := by decide +kernel
theorem f_167_66 : x_fe 167 66 = some (.iconst (14), 68) := by decide +kernel
theorem f_167_68 : x_fe 167 68 = some (.invokevirtual 164, 71) := by decide +kernel
theorem f_167_71 : x_fe 167 71 = some (.iload 3, 72) := by decide +kernel
theorem f_167_72 : x_fe 167 72 = some (.aload 0, 73) := by decide +kernel
theorem f_167_73 : x_fe 167 73 = some (.iload 1, 74) := by decide +kernel
theorem f_167_74 : x_fe 167 74 = some (.invokevirtual 166, 77) := by decide +kernel
theorem f_167_77 : x_fe 167 77 = some (.iadd, 78) := by decide +kernel
theorem f_167_78 : x_fe 167 78 = some (.iconst (100), 80) := by decide +kernel
theorem f_167_80 : x_fe 167 80 = some (.isub, 81) := by decide +kernel
theorem f_167_81 : x_fe 167 81 = some (.ireturn, 82) := by decide +kernel
theorem f_167_82 : x_fe 167 82 = some (.aload 0, 83) := by decide +kernel
theorem f_167_83 : x_fe 167 83 = some (.iload 1, 84) := by decide +kernel
theorem f_167_84 : x_fe 167 84 = some (.invokevirtual 168, 87) := by decide +kernel
theorem f_167_87 : x_fe 167 87 = some (.ireturn, 88) := by decide +kernel
theorem f_168_0 : x_fe 168 0 = some (.aload 0, 1) := by decide +kernel
theorem f_168_1 : x_fe 168 1 = some (.iconst (21), 3) := by decide +kernel
theorem f_168_3 : x_fe 168 3 = some (.invokevirtual 164, 6) := by decide +kernel
theorem f_168_6 : x_fe 168 6 = some (.aload 0, 7) := by decide +kernel
theorem f_168_7 : x_fe 168 7 = some (.iload 1, 8) := by decide +kernel
theorem f_168_8 : x_fe 168 8 = some (.invokevirtual 169, 11) := by decide +kernel
theorem f_168_11 : x_fe 168 11 = some (.istore 2, 12) := by decide +kernel
theorem f_168_12 : x_fe 168 12 = some (.iload 2, 13) := by decide +kernel
theorem f_168_13 : x_fe 168 13 = some (.aload 0, 14) := by decide +kernel
theorem f_168_14 : x_fe 168 14 = some (.aload 0, 15) := by decide +kernel
theorem f_168_15 : x_fe 168 15 = some (.getfield 192, 18) := by decide +kernel
theorem f_168_18 : x_fe 168 18 = some (.iconst (2), 19) := by decide +kernel
theorem f_168_19 : x_fe 168 19 = some (.iload 1, 20) := by decide +kernel
theorem f_168_20 : x_fe 168 20 = some (.iadd, 21) := by decide +kernel
theorem f_168_21 : x_fe 168 21 = some (.iaload, 22) := by decide +kernel
theorem f_168_22 : x_fe 168 22 = some (.invokevirtual 129, 25) := by decide +kernel
theorem f_168_25 : x_fe 168 25 = some (.iadd, 26) := by decide +kernel
theorem f_168_26 : x_fe 168 26 = some (.ireturn, 27) := by decide +kernel
theorem f_169_0 : x_fe 169 0 = some (.aload 0, 1) := by decide +kernel
theorem f_169_1 : x_fe 169 1 = some (.iconst (20), 3) := by decide +kernel
theorem f_169_3 : x_fe 169 3 = some (.invokevirtual 164, 6) := by decide +kernel
theorem f_169_6 : x_fe 169 6 = some (.iload 1, 7) := by decide +kernel
theorem f_169_7 : x_fe 169 7 = some (.ireturn, 8) := by decide +kernel
theorem f_170_0 : x_fe 170 0 = some (.iload 1, 1) := by decide +kernel
theorem f_170_1 : x_fe 170 1 = some (.i2l, 2) := by decide +kernel
theorem f_170_2 : x_fe 170 2 = some (.ldc2_w 0, 3) := by decide +kernel
theorem f_170_3 : x_fe 170 3 = some (.aload 0, 4) := by decide +kernel
theorem f_170_4 : x_fe 170 4 = some (.getfield 201, 7) := by decide +kernel
theorem f_170_7 : x_fe 170 7 = some (.iconst (1), 8) := by decide +kernel
theorem f_170_8 : x_fe 170 8 = some (.isub, 9) := by decide +kernel
theorem f_170_9 : x_fe 170 9 = some (.i2l, 10) := by decide +kernel
theorem f_170_10 : x_fe 170 10 = some (.invokestatic 101, 13) := by decide +kernel
theorem f_170_13 : x_fe 170 13 = some (.ifCond .eq (Int.ofNat 25), 16) := by decide +kernel
theorem f_170_16 : x_fe 170 16 = some (.aload 0, 17) := by decide +kernel
theorem f_170_17 : x_fe 170 17 = some (.getfield 200, 20) := by decide +kernel
theorem f_170_20 : x_fe 170 20 = some (.iload 1, 21) := by decide +kernel
theorem f_170_21 : x_fe 170 21 = some (.iaload, 22) := by decide +kernel
theorem f_170_22 : x_fe 170 22 = some (.goto (Int.ofNat 27), 25) := by decide +kernel
theorem f_170_25 : x_fe 170 25 = some (.iconst (-1000000), 27) := by decide +kernel
theorem f_170_27 : x_fe 170 27 = some (.ireturn, 28) := by decide +kernel
theorem f_171_0 : x_fe 171 0 = some (.iconst (0), 1) := by decide +kernel
theorem f_171_1 : x_fe 171 1 = some (.istore 2, 2) := by decide +kernel
theorem f_171_2 : x_fe 171 2 = some (.iconst (0), 3) := by decide +kernel
theorem f_171_3 : x_fe 171 3 = some (.istore 3, 4) := by decide +kernel
theorem f_171_4 : x_fe 171 4 = some (.iload 3, 5) := by decide +kernel
theorem f_171_5 : x_fe 171 5 = some (.iconst (8), 7) := by decide +kernel
theorem f_171_7 : x_fe 171 7 = some (.if_icmp .ge (Int.ofNat 35), 10) := by decide +kernel
theorem f_171_10 : x_fe 171 10 = some (.iload 2, 11) := by decide +kernel
theorem f_171_11 : x_fe 171 11 = some (.aload 0, 12) := by decide +kernel
theorem f_171_12 : x_fe 171 12 = some (.getfield 197, 15) := by decide +kernel
theorem f_171_15 : x_fe 171 15 = some (.iload 3, 16) := by decide +kernel
theorem f_171_16 : x_fe 171 16 = some (.iaload, 17) := by decide +kernel
theorem f_171_17 : x_fe 171 17 = some (.iconst (-1000000), 19) := by decide +kernel
theorem f_171_19 : x_fe 171 19 = some (.if_icmp .ne (Int.ofNat 26), 22) := by decide +kernel
theorem f_171_22 : x_fe 171 22 = some (.iconst (0), 23) := by decide +kernel
theorem f_171_23 : x_fe 171 23 = some (.goto (Int.ofNat 27), 26) := by decide +kernel
theorem f_171_26 : x_fe 171 26 = some (.iconst (1), 27) := by decide +kernel
theorem f_171_27 : x_fe 171 27 = some (.iadd, 28) := by decide +kernel
theorem f_171_28 : x_fe 171 28 = some (.istore 2, 29) := by decide +kernel
theorem f_171_29 : x_fe 171 29 = some (.iinc 3 (1), 32) := by decide +kernel
theorem f_171_32 : x_fe 171 32 = some (.goto (Int.ofNat 4), 35) := by decide +kernel
theorem f_171_35 : x_fe 171 35 = some (.iload 1, 36) := by decide +kernel
theorem f_171_36 : x_fe 171 36 = some (.ifCond .ne (Int.ofNat 43), 39) := by decide +kernel
theorem f_171_39 : x_fe 171 39 = some (.iload 2, 40) := by decide +kernel
theorem f_171_40 : x_fe 171 40 = some (.goto (Int.ofNat 107), 43) := by decide +kernel
theorem f_171_43 : x_fe 171 43 = some (.iload 1, 44) := by decide +kernel
theorem f_171_44 : x_fe 171 44 = some (.iconst (1), 45) := by decide +kernel
theorem f_171_45 : x_fe 171 45 = some (.if_icmp .ne (Int.ofNat 57), 48) := by decide +kernel
theorem f_171_48 : x_fe 171 48 = some (.aload 0, 49) := by decide +kernel
theorem f_171_49 : x_fe 171 49 = some (.getfield 192, 52) := by decide +kernel
theorem f_171_52 : x_fe 171 52 = some (.iconst (1), 53) := by decide +kernel
theorem f_171_53 : x_fe 171 53 = some (.iaload, 54) := by decide +kernel
theorem f_171_54 : x_fe 171 54 = some (.goto (Int.ofNat 107), 57) := by decide +kernel
theorem f_171_57 : x_fe 171 57 = some (.iload 1, 58) := by decide +kernel
theorem f_171_58 : x_fe 171 58 = some (.iconst (2), 59) := by decide +kernel
theorem f_171_59 : x_fe 171 59 = some (.if_icmp .ne (Int.ofNat 93), 62) := by decide +kernel
theorem f_171_62 : x_fe 171 62 = some (.aload 0, 63) := by decide +kernel
theorem f_171_63 : x_fe 171 63 = some (.getfield 192, 66) := by decide +kernel
theorem f_171_66 : x_fe 171 66 = some (.iconst (1), 67) := by decide +kernel
theorem f_171_67 : x_fe 171 67 = some (.iaload, 68) := by decide +kernel
theorem f_171_68 : x_fe 171 68 = some (.aload 0, 69) := by decide +kernel
theorem f_171_69 : x_fe 171 69 = some (.getfield 192, 72) := by decide +kernel
theorem f_171_72 : x_fe 171 72 = some (.iconst (30), 74) := by decide +kernel
theorem f_171_74 : x_fe 171 74 = some (.iaload, 75) := by decide +kernel
theorem f_171_75 : x_fe 171 75 = some (.invokestatic 136, 78) := by decide +kernel
theorem f_171_78 : x_fe 171 78 = some (.isub, 79) := by decide +kernel
theorem f_171_79 : x_fe 171 79 = some (.aload 0, 80) := by decide +kernel
theorem f_171_80 : x_fe 171 80 = some (.getfield 192, 83) := by decide +kernel
theorem f_171_83 : x_fe 171 83 = some (.iconst (31), 85) := by decide +kernel
theorem f_171_85 : x_fe 171 85 = some (.iaload, 86) := by decide +kernel
theorem f_171_86 : x_fe 171 86 = some (.invokestatic 136, 89) := by decide +kernel
theorem f_171_89 : x_fe 171 89 = some (.isub, 90) := by decide +kernel
theorem f_171_90 : x_fe 171 90 = some (.goto (Int.ofNat 107), 93) := by decide +kernel
theorem f_171_93 : x_fe 171 93 = some (.iload 1, 94) := by decide +kernel
theorem f_171_94 : x_fe 171 94 = some (.iconst (3), 95) := by decide +kernel
theorem f_171_95 : x_fe 171 95 = some (.if_icmp .ne (Int.ofNat 105), 98) := by decide +kernel
theorem f_171_98 : x_fe 171 98 = some (.aload 0, 99) := by decide +kernel
theorem f_171_99 : x_fe 171 99 = some (.getfield 194, 102) := by decide +kernel
theorem f_171_102 : x_fe 171 102 = some (.goto (Int.ofNat 107), 105) := by decide +kernel
theorem f_171_105 : x_fe 171 105 = some (.iconst (-1000001), 107) := by decide +kernel
theorem f_171_107 : x_fe 171 107 = some (.ireturn, 108) := by decide +kernel
theorem f_172_0 : x_fe 172 0 = some (.aload 0, 1) := by decide +kernel
theorem f_172_1 : x_fe 172 1 = some (.getfield 196, 4) := by decide +kernel
theorem f_172_4 : x_fe 172 4 = some (.ireturn, 5) := by decide +kernel
theorem f_173_0 : x_fe 173 0 = some (.aload 0, 1) := by decide +kernel
theorem f_173_1 : x_fe 173 1 = some (.getfield 256, 4) := by decide +kernel
theorem f_173_4 : x_fe 173 4 = some (.arraylength, 5) := by decide +kernel
theorem f_173_5 : x_fe 173 5 = some (.aload 0, 6) := by decide +kernel
theorem f_173_6 : x_fe 173 6 = some (.invokevirtual 174, 9) := by decide +kernel
theorem f_173_9 : x_fe 173 9 = some (.ishr, 10) := by decide +kernel
theorem f_173_10 : x_fe 173 10 = some (.ireturn, 11) := by decide +kernel
theorem f_174_0 : x_fe 174 0 = some (.getstatic 2, 3) := by decide +kernel
theorem f_174_3 : x_fe 174 3 = some (.ifCond .eq (Int.ofNat 13), 6) := by decide +kernel
theorem f_174_6 : x_fe 174 6 = some (.aload 0, 7) := by decide +kernel
theorem f_174_7 : x_fe 174 7 = some (.getfield 257, 10) := by decide +kernel
theorem f_174_10 : x_fe 174 10 = some (.goto (Int.ofNat 14), 13) := by decide +kernel
theorem f_174_13 : x_fe 174 13 = some (.iconst (1), 14) := by decide +kernel
theorem f_174_14 : x_fe 174 14 = some (.ireturn, 15) := by decide +kernel
theorem f_175_0 : x_fe 175 0 = some (.aload 0, 1) := by decide +kernel
theorem f_175_1 : x_fe 175 1 = some (.invokevirtual 176, 4) := by decide +kernel
theorem f_175_4 : x_fe 175 4 = some (.ifCond .eq (Int.ofNat 16), 7) := by decide +kernel
theorem f_175_7 : x_fe 175 7 = some (.aload 0, 8) := by decide +kernel
theorem f_175_8 : x_fe 175 8 = some (.getfield 256, 11) := by decide +kernel
theorem f_175_11 : x_fe 175 11 = some (.iload 1, 12) := by decide +kernel
theorem f_175_12 : x_fe 175 12 = some (.invokestatic 178, 15) := by decide +kernel
theorem f_175_15 : x_fe 175 15 = some (.ireturn, 16) := by decide +kernel
theorem f_175_16 : x_fe 175 16 = some (.aload 0, 17) := by decide +kernel
theorem f_175_17 : x_fe 175 17 = some (.getfield 256, 20) := by decide +kernel
theorem f_175_20 : x_fe 175 20 = some (.iload 1, 21) := by decide +kernel
theorem f_175_24 : x_fe 175 24 = some (.ireturn, 25) := by decide +kernel
theorem f_176_0 : x_fe 176 0 = some (.getstatic 2, 3) := by decide +kernel
theorem f_176_3 : x_fe 176 3 = some (.ifCond .eq (Int.ofNat 17), 6) := by decide +kernel
theorem f_176_6 : x_fe 176 6 = some (.aload 0, 7) := by decide +kernel
theorem f_176_7 : x_fe 176 7 = some (.getfield 257, 10) := by decide +kernel
theorem f_176_10 : x_fe 176 10 = some (.ifCond .ne (Int.ofNat 17), 13) := by decide +kernel
theorem f_176_13 : x_fe 176 13 = some (.iconst (1), 14) := by decide +kernel
theorem f_176_14 : x_fe 176 14 = some (.goto (Int.ofNat 18), 17) := by decide +kernel
theorem f_176_17 : x_fe 176 17 = some (.iconst (0), 18) := by decide +kernel
theorem f_176_18 : x_fe 176 18 = some (.ireturn, 19) := by decide +kernel
theorem f_177_0 : x_fe 177 0 = some (.iload 0, 1) := by decide +kernel
theorem f_177_1 : x_fe 177 1 = some (.iload 1, 2) := by decide +kernel
theorem f_177_2 : x_fe 177 2 = some (.getstatic 3, 5) := by decide +kernel
theorem f_177_5 : x_fe 177 5 = some (.invokestatic 183, 8) := by decide +kernel
theorem f_177_8 : x_fe 177 8 = some (.pop, 9) := by decide +kernel
theorem f_177_9 : x_fe 177 9 = some (.return_, 10) := by decide +kernel
theorem f_178_0 : x_fe 178 0 = some (.iload 1, 1) := by decide +kernel
theorem f_178_1 : x_fe 178 1 = some (.aload 0, 2) := by decide +kernel
theorem f_178_2 : x_fe 178 2 = some (.arraylength, 3) := by decide +kernel
theorem f_178_3 : x_fe 178 3 = some (.invokestatic 177, 6) := by decide +kernel
theorem f_178_6 : x_fe 178 6 = some (.aload 0, 7) := by decide +kernel
theorem f_178_7 : x_fe 178 7 = some (.iload 1, 8) := by decide +kernel
theorem f_178_8 : x_fe 178 8 = some (.baload, 9) := by decide +kernel
theorem f_178_9 : x_fe 178 9 = some (.iconst (255), 12) := by decide +kernel
theorem f_178_12 : x_fe 178 12 = some (.iand, 13) := by decide +kernel
theorem f_178_13 : x_fe 178 13 = some (.i2c, 14) := by decide +kernel
theorem f_178_14 : x_fe 178 14 = some (.ireturn, 15) := by decide +kernel
theorem f_179_0 : x_fe 179 0 = some (.iload 0, 1) := by decide +kernel
theorem f_179_1 : x_fe 179 1 = some (.iload 0, 2) := by decide +kernel
theorem f_179_2 : x_fe 179 2 = some (.iconst (1), 3) := by decide +kernel
theorem f_179_3 : x_fe 179 3 = some (.iushr, 4) := by decide +kernel
theorem f_179_4 : x_fe 179 4 = some (.iconst (1431655765), 7) := by decide +kernel
theorem f_179_7 : x_fe 179 7 = some (.iand, 8) := by decide +kernel
theorem f_179_8 : x_fe 179 8 = some (.isub, 9) := by decide +kernel
theorem f_179_9 : x_fe 179 9 = some (.istore 0, 10) := by decide +kernel
theorem f_179_10 : x_fe 179 10 = some (.iload 0, 11) := by decide +kernel
theorem f_179_11 : x_fe 179 11 = some (.iconst (858993459), 14) := by decide +kernel
theorem f_179_14 : x_fe 179 14 = some (.iand, 15) := by decide +kernel
theorem f_179_15 : x_fe 179 15 = some (.iload 0, 16) := by decide +kernel
theorem f_179_16 : x_fe 179 16 = some (.iconst (2), 17) := by decide +kernel
theorem f_179_17 : x_fe 179 17 = some (.iushr, 18) := by decide +kernel
theorem f_179_18 : x_fe 179 18 = some (.iconst (858993459), 21) := by decide +kernel
theorem f_179_21 : x_fe 179 21 = some (.iand, 22) := by decide +kernel
theorem f_179_22 : x_fe 179 22 = some (.iadd, 23) := by decide +kernel
theorem f_179_23 : x_fe 179 23 = some (.istore 0, 24) := by decide +kernel
theorem f_179_24 : x_fe 179 24 = some (.iload 0, 25) := by decide +kernel
theorem f_179_25 : x_fe 179 25 = some (.iload 0, 26) := by decide +kernel
theorem f_179_26 : x_fe 179 26 = some (.iconst (4), 27) := by decide +kernel
theorem f_179_27 : x_fe 179 27 = some (.iushr, 28) := by decide +kernel
theorem f_179_28 : x_fe 179 28 = some (.iadd, 29) := by decide +kernel
theorem f_179_29 : x_fe 179 29 = some (.iconst (252645135), 32) := by decide +kernel
theorem f_179_32 : x_fe 179 32 = some (.iand, 33) := by decide +kernel
theorem f_179_33 : x_fe 179 33 = some (.istore 0, 34) := by decide +kernel
theorem f_179_34 : x_fe 179 34 = some (.iload 0, 35) := by decide +kernel
theorem f_179_35 : x_fe 179 35 = some (.iload 0, 36) := by decide +kernel
theorem f_179_36 : x_fe 179 36 = some (.iconst (8), 38) := by decide +kernel
theorem f_179_38 : x_fe 179 38 = some (.iushr, 39) := by decide +kernel
theorem f_179_39 : x_fe 179 39 = some (.iadd, 40) := by decide +kernel
theorem f_179_40 : x_fe 179 40 = some (.istore 0, 41) := by decide +kernel
theorem f_179_41 : x_fe 179 41 = some (.iload 0, 42) := by decide +kernel
theorem f_179_42 : x_fe 179 42 = some (.iload 0, 43) := by decide +kernel
theorem f_179_43 : x_fe 179 43 = some (.iconst (16), 45) := by decide +kernel
theorem f_179_45 : x_fe 179 45 = some (.iushr, 46) := by decide +kernel
theorem f_179_46 : x_fe 179 46 = some (.iadd, 47) := by decide +kernel
end
section
theorem f_179_47 : x_fe 179 47 = some (.istore 0, 48) := by decide +kernel
theorem f_179_48 : x_fe 179 48 = some (.iload 0, 49) := by decide +kernel
theorem f_179_49 : x_fe 179 49 = some (.iconst (63), 51) := by decide +kernel
theorem f_179_51 : x_fe 179 51 = some (.iand, 52) := by decide +kernel
theorem f_179_52 : x_fe 179 52 = some (.ireturn, 53) := by decide +kernel
theorem f_180_0 : x_fe 180 0 = some (.iload 0, 1) := by decide +kernel
theorem f_180_1 : x_fe 180 1 = some (.ifCond .ge (Int.ofNat 9), 4) := by decide +kernel
theorem f_180_4 : x_fe 180 4 = some (.iload 0, 5) := by decide +kernel
theorem f_180_5 : x_fe 180 5 = some (.ineg, 6) := by decide +kernel
theorem f_180_6 : x_fe 180 6 = some (.goto (Int.ofNat 10), 9) := by decide +kernel
theorem f_180_9 : x_fe 180 9 = some (.iload 0, 10) := by decide +kernel
theorem f_180_10 : x_fe 180 10 = some (.ireturn, 11) := by decide +kernel
theorem f_181_0 : x_fe 181 0 = some (.iload 0, 1) := by decide +kernel
theorem f_181_1 : x_fe 181 1 = some (.iload 1, 2) := by decide +kernel
theorem f_181_2 : x_fe 181 2 = some (.if_icmp .lt (Int.ofNat 9), 5) := by decide +kernel
theorem f_181_5 : x_fe 181 5 = some (.iload 0, 6) := by decide +kernel
theorem f_181_6 : x_fe 181 6 = some (.goto (Int.ofNat 10), 9) := by decide +kernel
theorem f_181_9 : x_fe 181 9 = some (.iload 1, 10) := by decide +kernel
theorem f_181_10 : x_fe 181 10 = some (.ireturn, 11) := by decide +kernel
theorem f_182_0 : x_fe 182 0 = some (.iconst (0), 1) := by decide +kernel
theorem f_182_1 : x_fe 182 1 = some (.istore 2, 2) := by decide +kernel
theorem f_182_2 : x_fe 182 2 = some (.aload 0, 3) := by decide +kernel
theorem f_182_3 : x_fe 182 3 = some (.arraylength, 4) := by decide +kernel
theorem f_182_4 : x_fe 182 4 = some (.istore 3, 5) := by decide +kernel
theorem f_182_5 : x_fe 182 5 = some (.iload 2, 6) := by decide +kernel
theorem f_182_6 : x_fe 182 6 = some (.iload 3, 7) := by decide +kernel
theorem f_182_7 : x_fe 182 7 = some (.if_icmp .ge (Int.ofNat 20), 10) := by decide +kernel
theorem f_182_10 : x_fe 182 10 = some (.aload 0, 11) := by decide +kernel
theorem f_182_11 : x_fe 182 11 = some (.iload 2, 12) := by decide +kernel
theorem f_182_12 : x_fe 182 12 = some (.iload 1, 13) := by decide +kernel
theorem f_182_13 : x_fe 182 13 = some (.iastore, 14) := by decide +kernel
theorem f_182_14 : x_fe 182 14 = some (.iinc 2 (1), 17) := by decide +kernel
theorem f_182_17 : x_fe 182 17 = some (.goto (Int.ofNat 5), 20) := by decide +kernel
theorem f_182_20 : x_fe 182 20 = some (.return_, 21) := by decide +kernel
theorem f_183_0 : x_fe 183 0 = some (.iload 0, 1) := by decide +kernel
theorem f_183_1 : x_fe 183 1 = some (.ifCond .lt (Int.ofNat 9), 4) := by decide +kernel
theorem f_183_4 : x_fe 183 4 = some (.iload 0, 5) := by decide +kernel
theorem f_183_5 : x_fe 183 5 = some (.iload 1, 6) := by decide +kernel
theorem f_183_6 : x_fe 183 6 = some (.if_icmp .lt (Int.ofNat 16), 9) := by decide +kernel
theorem f_183_9 : x_fe 183 9 = some (.aload 2, 10) := by decide +kernel
theorem f_183_10 : x_fe 183 10 = some (.iload 0, 11) := by decide +kernel
theorem f_183_11 : x_fe 183 11 = some (.iload 1, 12) := by decide +kernel
theorem f_183_16 : x_fe 183 16 = some (.iload 0, 17) := by decide +kernel
theorem f_183_17 : x_fe 183 17 = some (.ireturn, 18) := by decide +kernel
theorem f_184_0 : x_fe 184 0 = some (.new 5, 3) := by decide +kernel
theorem f_184_3 : x_fe 184 3 = some (.dup, 4) := by decide +kernel
theorem f_184_4 : x_fe 184 4 = some (.invokespecial 42, 7) := by decide +kernel
theorem f_184_7 : x_fe 184 7 = some (.astore 1, 8) := by decide +kernel
theorem f_184_8 : x_fe 184 8 = some (.new 6, 11) := by decide +kernel
theorem f_184_11 : x_fe 184 11 = some (.dup, 12) := by decide +kernel
theorem f_184_12 : x_fe 184 12 = some (.invokespecial 98, 15) := by decide +kernel
theorem f_184_15 : x_fe 184 15 = some (.astore 2, 16) := by decide +kernel
theorem f_184_16 : x_fe 184 16 = some (.iconst (0), 17) := by decide +kernel
theorem f_184_17 : x_fe 184 17 = some (.istore 3, 18) := by decide +kernel
theorem f_184_18 : x_fe 184 18 = some (.iload 3, 19) := by decide +kernel
theorem f_184_19 : x_fe 184 19 = some (.aload 0, 20) := by decide +kernel
theorem f_184_20 : x_fe 184 20 = some (.arraylength, 21) := by decide +kernel
theorem f_184_21 : x_fe 184 21 = some (.iconst (6), 23) := by decide +kernel
theorem f_184_23 : x_fe 184 23 = some (.isub, 24) := by decide +kernel
theorem f_184_24 : x_fe 184 24 = some (.if_icmp .gt (Int.ofNat 1003), 27) := by decide +kernel
theorem f_184_27 : x_fe 184 27 = some (.aload 0, 28) := by decide +kernel
theorem f_184_28 : x_fe 184 28 = some (.iload 3, 29) := by decide +kernel
theorem f_184_29 : x_fe 184 29 = some (.iaload, 30) := by decide +kernel
theorem f_184_30 : x_fe 184 30 = some (.iconst (31), 32) := by decide +kernel
theorem f_184_32 : x_fe 184 32 = some (.iand, 33) := by decide +kernel
theorem f_184_33 : x_fe 184 33 = some (.tableswitch (964) (0) (26) #[123, 166, 209, 272, 295, 358, 371, 384, 417, 440, 473, 516, 549, 572, 595, 638, 671, 694, 727, 770, 793, 816, 839, 872, 905, 928, 951], 156) := by decide +kernel
theorem f_184_156 : x_fe 184 156 = some (.aload 1, 157) := by decide +kernel
theorem f_184_157 : x_fe 184 157 = some (.aload 0, 158) := by decide +kernel
theorem f_184_158 : x_fe 184 158 = some (.iload 3, 159) := by decide +kernel
theorem f_184_159 : x_fe 184 159 = some (.iconst (1), 160) := by decide +kernel
theorem f_184_160 : x_fe 184 160 = some (.iadd, 161) := by decide +kernel
theorem f_184_161 : x_fe 184 161 = some (.iaload, 162) := by decide +kernel
theorem f_184_162 : x_fe 184 162 = some (.aload 0, 163) := by decide +kernel
theorem f_184_163 : x_fe 184 163 = some (.iload 3, 164) := by decide +kernel
theorem f_184_164 : x_fe 184 164 = some (.iconst (2), 165) := by decide +kernel
theorem f_184_165 : x_fe 184 165 = some (.iadd, 166) := by decide +kernel
theorem f_184_166 : x_fe 184 166 = some (.iaload, 167) := by decide +kernel
theorem f_184_167 : x_fe 184 167 = some (.aload 0, 168) := by decide +kernel
theorem f_184_168 : x_fe 184 168 = some (.iload 3, 169) := by decide +kernel
theorem f_184_169 : x_fe 184 169 = some (.iconst (3), 170) := by decide +kernel
theorem f_184_170 : x_fe 184 170 = some (.iadd, 171) := by decide +kernel
theorem f_184_171 : x_fe 184 171 = some (.iaload, 172) := by decide +kernel
theorem f_184_172 : x_fe 184 172 = some (.invokevirtual 43, 175) := by decide +kernel
theorem f_184_175 : x_fe 184 175 = some (.aload 2, 176) := by decide +kernel
theorem f_184_176 : x_fe 184 176 = some (.aload 0, 177) := by decide +kernel
theorem f_184_177 : x_fe 184 177 = some (.iload 3, 178) := by decide +kernel
theorem f_184_178 : x_fe 184 178 = some (.iconst (1), 179) := by decide +kernel
theorem f_184_179 : x_fe 184 179 = some (.iadd, 180) := by decide +kernel
theorem f_184_180 : x_fe 184 180 = some (.iaload, 181) := by decide +kernel
theorem f_184_181 : x_fe 184 181 = some (.aload 0, 182) := by decide +kernel
theorem f_184_182 : x_fe 184 182 = some (.iload 3, 183) := by decide +kernel
theorem f_184_183 : x_fe 184 183 = some (.iconst (2), 184) := by decide +kernel
theorem f_184_184 : x_fe 184 184 = some (.iadd, 185) := by decide +kernel
theorem f_184_185 : x_fe 184 185 = some (.iaload, 186) := by decide +kernel
theorem f_184_186 : x_fe 184 186 = some (.aload 0, 187) := by decide +kernel
theorem f_184_187 : x_fe 184 187 = some (.iload 3, 188) := by decide +kernel
theorem f_184_188 : x_fe 184 188 = some (.iconst (3), 189) := by decide +kernel
theorem f_184_189 : x_fe 184 189 = some (.iadd, 190) := by decide +kernel
theorem f_184_190 : x_fe 184 190 = some (.iaload, 191) := by decide +kernel
theorem f_184_191 : x_fe 184 191 = some (.invokevirtual 99, 194) := by decide +kernel
theorem f_184_194 : x_fe 184 194 = some (.if_icmp .eq (Int.ofNat 997), 197) := by decide +kernel
theorem f_184_197 : x_fe 184 197 = some (.iconst (0), 198) := by decide +kernel
theorem f_184_198 : x_fe 184 198 = some (.ireturn, 199) := by decide +kernel
theorem f_184_199 : x_fe 184 199 = some (.aload 1, 200) := by decide +kernel
theorem f_184_200 : x_fe 184 200 = some (.aload 0, 201) := by decide +kernel
theorem f_184_201 : x_fe 184 201 = some (.iload 3, 202) := by decide +kernel
theorem f_184_202 : x_fe 184 202 = some (.iconst (1), 203) := by decide +kernel
theorem f_184_203 : x_fe 184 203 = some (.iadd, 204) := by decide +kernel
theorem f_184_204 : x_fe 184 204 = some (.iaload, 205) := by decide +kernel
theorem f_184_205 : x_fe 184 205 = some (.aload 0, 206) := by decide +kernel
theorem f_184_206 : x_fe 184 206 = some (.iload 3, 207) := by decide +kernel
theorem f_184_207 : x_fe 184 207 = some (.iconst (2), 208) := by decide +kernel
theorem f_184_208 : x_fe 184 208 = some (.iadd, 209) := by decide +kernel
theorem f_184_209 : x_fe 184 209 = some (.iaload, 210) := by decide +kernel
theorem f_184_210 : x_fe 184 210 = some (.aload 0, 211) := by decide +kernel
theorem f_184_211 : x_fe 184 211 = some (.iload 3, 212) := by decide +kernel
theorem f_184_212 : x_fe 184 212 = some (.iconst (3), 213) := by decide +kernel
theorem f_184_213 : x_fe 184 213 = some (.iadd, 214) := by decide +kernel
theorem f_184_214 : x_fe 184 214 = some (.iaload, 215) := by decide +kernel
theorem f_184_215 : x_fe 184 215 = some (.invokevirtual 47, 218) := by decide +kernel
theorem f_184_218 : x_fe 184 218 = some (.aload 2, 219) := by decide +kernel
theorem f_184_219 : x_fe 184 219 = some (.aload 0, 220) := by decide +kernel
theorem f_184_220 : x_fe 184 220 = some (.iload 3, 221) := by decide +kernel
theorem f_184_221 : x_fe 184 221 = some (.iconst (1), 222) := by decide +kernel
theorem f_184_222 : x_fe 184 222 = some (.iadd, 223) := by decide +kernel
theorem f_184_223 : x_fe 184 223 = some (.iaload, 224) := by decide +kernel
theorem f_184_224 : x_fe 184 224 = some (.aload 0, 225) := by decide +kernel
theorem f_184_225 : x_fe 184 225 = some (.iload 3, 226) := by decide +kernel
theorem f_184_226 : x_fe 184 226 = some (.iconst (2), 227) := by decide +kernel
theorem f_184_227 : x_fe 184 227 = some (.iadd, 228) := by decide +kernel
theorem f_184_228 : x_fe 184 228 = some (.iaload, 229) := by decide +kernel
theorem f_184_229 : x_fe 184 229 = some (.aload 0, 230) := by decide +kernel
theorem f_184_230 : x_fe 184 230 = some (.iload 3, 231) := by decide +kernel
theorem f_184_231 : x_fe 184 231 = some (.iconst (3), 232) := by decide +kernel
theorem f_184_232 : x_fe 184 232 = some (.iadd, 233) := by decide +kernel
theorem f_184_233 : x_fe 184 233 = some (.iaload, 234) := by decide +kernel
theorem f_184_234 : x_fe 184 234 = some (.invokevirtual 104, 237) := by decide +kernel
theorem f_184_237 : x_fe 184 237 = some (.if_icmp .eq (Int.ofNat 997), 240) := by decide +kernel
theorem f_184_240 : x_fe 184 240 = some (.iconst (0), 241) := by decide +kernel
theorem f_184_241 : x_fe 184 241 = some (.ireturn, 242) := by decide +kernel
theorem f_184_242 : x_fe 184 242 = some (.aload 1, 243) := by decide +kernel
theorem f_184_243 : x_fe 184 243 = some (.aload 0, 244) := by decide +kernel
theorem f_184_244 : x_fe 184 244 = some (.iload 3, 245) := by decide +kernel
theorem f_184_245 : x_fe 184 245 = some (.iconst (1), 246) := by decide +kernel
theorem f_184_246 : x_fe 184 246 = some (.iadd, 247) := by decide +kernel
theorem f_184_247 : x_fe 184 247 = some (.iaload, 248) := by decide +kernel
theorem f_184_248 : x_fe 184 248 = some (.aload 0, 249) := by decide +kernel
theorem f_184_249 : x_fe 184 249 = some (.iload 3, 250) := by decide +kernel
theorem f_184_250 : x_fe 184 250 = some (.iconst (2), 251) := by decide +kernel
theorem f_184_251 : x_fe 184 251 = some (.iadd, 252) := by decide +kernel
theorem f_184_252 : x_fe 184 252 = some (.iaload, 253) := by decide +kernel
theorem f_184_253 : x_fe 184 253 = some (.aload 0, 254) := by decide +kernel
theorem f_184_254 : x_fe 184 254 = some (.iload 3, 255) := by decide +kernel
theorem f_184_255 : x_fe 184 255 = some (.iconst (3), 256) := by decide +kernel
theorem f_184_256 : x_fe 184 256 = some (.iadd, 257) := by decide +kernel
theorem f_184_257 : x_fe 184 257 = some (.iaload, 258) := by decide +kernel
theorem f_184_258 : x_fe 184 258 = some (.aload 0, 259) := by decide +kernel
theorem f_184_259 : x_fe 184 259 = some (.iload 3, 260) := by decide +kernel
theorem f_184_260 : x_fe 184 260 = some (.iconst (4), 261) := by decide +kernel
theorem f_184_261 : x_fe 184 261 = some (.iadd, 262) := by decide +kernel
theorem f_184_262 : x_fe 184 262 = some (.iaload, 263) := by decide +kernel
theorem f_184_263 : x_fe 184 263 = some (.aload 0, 264) := by decide +kernel
theorem f_184_264 : x_fe 184 264 = some (.iload 3, 265) := by decide +kernel
theorem f_184_265 : x_fe 184 265 = some (.iconst (5), 266) := by decide +kernel
theorem f_184_266 : x_fe 184 266 = some (.iadd, 267) := by decide +kernel
theorem f_184_267 : x_fe 184 267 = some (.iaload, 268) := by decide +kernel
theorem f_184_268 : x_fe 184 268 = some (.invokevirtual 48, 271) := by decide +kernel
theorem f_184_271 : x_fe 184 271 = some (.aload 2, 272) := by decide +kernel
theorem f_184_272 : x_fe 184 272 = some (.aload 0, 273) := by decide +kernel
theorem f_184_273 : x_fe 184 273 = some (.iload 3, 274) := by decide +kernel
theorem f_184_274 : x_fe 184 274 = some (.iconst (1), 275) := by decide +kernel
theorem f_184_275 : x_fe 184 275 = some (.iadd, 276) := by decide +kernel
theorem f_184_276 : x_fe 184 276 = some (.iaload, 277) := by decide +kernel
theorem f_184_277 : x_fe 184 277 = some (.aload 0, 278) := by decide +kernel
theorem f_184_278 : x_fe 184 278 = some (.iload 3, 279) := by decide +kernel
theorem f_184_279 : x_fe 184 279 = some (.iconst (2), 280) := by decide +kernel
theorem f_184_280 : x_fe 184 280 = some (.iadd, 281) := by decide +kernel
theorem f_184_281 : x_fe 184 281 = some (.iaload, 282) := by decide +kernel
theorem f_184_282 : x_fe 184 282 = some (.aload 0, 283) := by decide +kernel
theorem f_184_283 : x_fe 184 283 = some (.iload 3, 284) := by decide +kernel
theorem f_184_284 : x_fe 184 284 = some (.iconst (3), 285) := by decide +kernel
theorem f_184_285 : x_fe 184 285 = some (.iadd, 286) := by decide +kernel
theorem f_184_286 : x_fe 184 286 = some (.iaload, 287) := by decide +kernel
theorem f_184_287 : x_fe 184 287 = some (.aload 0, 288) := by decide +kernel
theorem f_184_288 : x_fe 184 288 = some (.iload 3, 289) := by decide +kernel
theorem f_184_289 : x_fe 184 289 = some (.iconst (4), 290) := by decide +kernel
theorem f_184_290 : x_fe 184 290 = some (.iadd, 291) := by decide +kernel
theorem f_184_291 : x_fe 184 291 = some (.iaload, 292) := by decide +kernel
theorem f_184_292 : x_fe 184 292 = some (.aload 0, 293) := by decide +kernel
theorem f_184_293 : x_fe 184 293 = some (.iload 3, 294) := by decide +kernel
theorem f_184_294 : x_fe 184 294 = some (.iconst (5), 295) := by decide +kernel
theorem f_184_295 : x_fe 184 295 = some (.iadd, 296) := by decide +kernel
theorem f_184_296 : x_fe 184 296 = some (.iaload, 297) := by decide +kernel
theorem f_184_297 : x_fe 184 297 = some (.invokevirtual 105, 300) := by decide +kernel
theorem f_184_300 : x_fe 184 300 = some (.if_icmp .eq (Int.ofNat 997), 303) := by decide +kernel
theorem f_184_303 : x_fe 184 303 = some (.iconst (0), 304) := by decide +kernel
theorem f_184_304 : x_fe 184 304 = some (.ireturn, 305) := by decide +kernel
theorem f_184_305 : x_fe 184 305 = some (.aload 1, 306) := by decide +kernel
theorem f_184_306 : x_fe 184 306 = some (.aload 0, 307) := by decide +kernel
theorem f_184_307 : x_fe 184 307 = some (.iload 3, 308) := by decide +kernel
theorem f_184_308 : x_fe 184 308 = some (.iconst (1), 309) := by decide +kernel
theorem f_184_309 : x_fe 184 309 = some (.iadd, 310) := by decide +kernel
theorem f_184_310 : x_fe 184 310 = some (.iaload, 311) := by decide +kernel
theorem f_184_311 : x_fe 184 311 = some (.invokevirtual 49, 314) := by decide +kernel
theorem f_184_314 : x_fe 184 314 = some (.aload 2, 315) := by decide +kernel
theorem f_184_315 : x_fe 184 315 = some (.aload 0, 316) := by decide +kernel
theorem f_184_316 : x_fe 184 316 = some (.iload 3, 317) := by decide +kernel
theorem f_184_317 : x_fe 184 317 = some (.iconst (1), 318) := by decide +kernel
theorem f_184_318 : x_fe 184 318 = some (.iadd, 319) := by decide +kernel
theorem f_184_319 : x_fe 184 319 = some (.iaload, 320) := by decide +kernel
theorem f_184_320 : x_fe 184 320 = some (.invokevirtual 107, 323) := by decide +kernel
theorem f_184_323 : x_fe 184 323 = some (.if_icmp .eq (Int.ofNat 997), 326) := by decide +kernel
theorem f_184_326 : x_fe 184 326 = some (.iconst (0), 327) := by decide +kernel
theorem f_184_327 : x_fe 184 327 = some (.ireturn, 328) := by decide +kernel
theorem f_184_328 : x_fe 184 328 = some (.aload 1, 329) := by decide +kernel
theorem f_184_329 : x_fe 184 329 = some (.aload 0, 330) := by decide +kernel
theorem f_184_330 : x_fe 184 330 = some (.iload 3, 331) := by decide +kernel
theorem f_184_331 : x_fe 184 331 = some (.iconst (1), 332) := by decide +kernel
theorem f_184_332 : x_fe 184 332 = some (.iadd, 333) := by decide +kernel
theorem f_184_333 : x_fe 184 333 = some (.iaload, 334) := by decide +kernel
theorem f_184_334 : x_fe 184 334 = some (.i2l, 335) := by decide +kernel
theorem f_184_335 : x_fe 184 335 = some (.iconst (32), 337) := by decide +kernel
theorem f_184_337 : x_fe 184 337 = some (.lshl, 338) := by decide +kernel
theorem f_184_338 : x_fe 184 338 = some (.aload 0, 339) := by decide +kernel
theorem f_184_339 : x_fe 184 339 = some (.iload 3, 340) := by decide +kernel
theorem f_184_340 : x_fe 184 340 = some (.iconst (2), 341) := by decide +kernel
theorem f_184_341 : x_fe 184 341 = some (.iadd, 342) := by decide +kernel
theorem f_184_342 : x_fe 184 342 = some (.iaload, 343) := by decide +kernel
theorem f_184_343 : x_fe 184 343 = some (.i2l, 344) := by decide +kernel
theorem f_184_344 : x_fe 184 344 = some (.ldc2_w 4294967295, 347) := by decide +kernel
theorem f_184_347 : x_fe 184 347 = some (.land, 348) := by decide +kernel
theorem f_184_348 : x_fe 184 348 = some (.lor, 349) := by decide +kernel
theorem f_184_349 : x_fe 184 349 = some (.aload 0, 350) := by decide +kernel
theorem f_184_350 : x_fe 184 350 = some (.iload 3, 351) := by decide +kernel
theorem f_184_351 : x_fe 184 351 = some (.iconst (3), 352) := by decide +kernel
theorem f_184_352 : x_fe 184 352 = some (.iadd, 353) := by decide +kernel
theorem f_184_353 : x_fe 184 353 = some (.iaload, 354) := by decide +kernel
theorem f_184_354 : x_fe 184 354 = some (.invokevirtual 50, 357) := by decide +kernel
theorem f_184_357 : x_fe 184 357 = some (.aload 2, 358) := by decide +kernel
theorem f_184_358 : x_fe 184 358 = some (.aload 0, 359) := by decide +kernel
theorem f_184_359 : x_fe 184 359 = some (.iload 3, 360) := by decide +kernel
theorem f_184_360 : x_fe 184 360 = some (.iconst (1), 361) := by decide +kernel
theorem f_184_361 : x_fe 184 361 = some (.iadd, 362) := by decide +kernel
theorem f_184_362 : x_fe 184 362 = some (.iaload, 363) := by decide +kernel
theorem f_184_363 : x_fe 184 363 = some (.i2l, 364) := by decide +kernel
theorem f_184_364 : x_fe 184 364 = some (.iconst (32), 366) := by decide +kernel
theorem f_184_366 : x_fe 184 366 = some (.lshl, 367) := by decide +kernel
theorem f_184_367 : x_fe 184 367 = some (.aload 0, 368) := by decide +kernel
theorem f_184_368 : x_fe 184 368 = some (.iload 3, 369) := by decide +kernel
theorem f_184_369 : x_fe 184 369 = some (.iconst (2), 370) := by decide +kernel
theorem f_184_370 : x_fe 184 370 = some (.iadd, 371) := by decide +kernel
theorem f_184_371 : x_fe 184 371 = some (.iaload, 372) := by decide +kernel
theorem f_184_372 : x_fe 184 372 = some (.i2l, 373) := by decide +kernel
theorem f_184_373 : x_fe 184 373 = some (.ldc2_w 4294967295, 376) := by decide +kernel
theorem f_184_376 : x_fe 184 376 = some (.land, 377) := by decide +kernel
theorem f_184_377 : x_fe 184 377 = some (.lor, 378) := by decide +kernel
theorem f_184_378 : x_fe 184 378 = some (.aload 0, 379) := by decide +kernel
theorem f_184_379 : x_fe 184 379 = some (.iload 3, 380) := by decide +kernel
theorem f_184_380 : x_fe 184 380 = some (.iconst (3), 381) := by decide +kernel
theorem f_184_381 : x_fe 184 381 = some (.iadd, 382) := by decide +kernel
theorem f_184_382 : x_fe 184 382 = some (.iaload, 383) := by decide +kernel
theorem f_184_383 : x_fe 184 383 = some (.invokevirtual 108, 386) := by decide +kernel
theorem f_184_386 : x_fe 184 386 = some (.if_icmp .eq (Int.ofNat 997), 389) := by decide +kernel
theorem f_184_389 : x_fe 184 389 = some (.iconst (0), 390) := by decide +kernel
theorem f_184_390 : x_fe 184 390 = some (.ireturn, 391) := by decide +kernel
theorem f_184_391 : x_fe 184 391 = some (.aload 1, 392) := by decide +kernel
theorem f_184_392 : x_fe 184 392 = some (.invokevirtual 51, 395) := by decide +kernel
theorem f_184_395 : x_fe 184 395 = some (.aload 2, 396) := by decide +kernel
theorem f_184_396 : x_fe 184 396 = some (.invokevirtual 109, 399) := by decide +kernel
theorem f_184_399 : x_fe 184 399 = some (.if_icmp .eq (Int.ofNat 997), 402) := by decide +kernel
theorem f_184_402 : x_fe 184 402 = some (.iconst (0), 403) := by decide +kernel
theorem f_184_403 : x_fe 184 403 = some (.ireturn, 404) := by decide +kernel
theorem f_184_404 : x_fe 184 404 = some (.aload 1, 405) := by decide +kernel
theorem f_184_405 : x_fe 184 405 = some (.invokevirtual 57, 408) := by decide +kernel
theorem f_184_408 : x_fe 184 408 = some (.aload 2, 409) := by decide +kernel
theorem f_184_409 : x_fe 184 409 = some (.invokevirtual 123, 412) := by decide +kernel
theorem f_184_412 : x_fe 184 412 = some (.if_icmp .eq (Int.ofNat 997), 415) := by decide +kernel
theorem f_184_415 : x_fe 184 415 = some (.iconst (0), 416) := by decide +kernel
theorem f_184_416 : x_fe 184 416 = some (.ireturn, 417) := by decide +kernel
theorem f_184_417 : x_fe 184 417 = some (.aload 1, 418) := by decide +kernel
theorem f_184_418 : x_fe 184 418 = some (.aload 0, 419) := by decide +kernel
theorem f_184_419 : x_fe 184 419 = some (.iload 3, 420) := by decide +kernel
theorem f_184_420 : x_fe 184 420 = some (.iconst (1), 421) := by decide +kernel
theorem f_184_421 : x_fe 184 421 = some (.iadd, 422) := by decide +kernel
theorem f_184_422 : x_fe 184 422 = some (.iaload, 423) := by decide +kernel
theorem f_184_423 : x_fe 184 423 = some (.aload 0, 424) := by decide +kernel
theorem f_184_424 : x_fe 184 424 = some (.iload 3, 425) := by decide +kernel
theorem f_184_425 : x_fe 184 425 = some (.iconst (2), 426) := by decide +kernel
theorem f_184_426 : x_fe 184 426 = some (.iadd, 427) := by decide +kernel
theorem f_184_427 : x_fe 184 427 = some (.iaload, 428) := by decide +kernel
theorem f_184_428 : x_fe 184 428 = some (.invokevirtual 58, 431) := by decide +kernel
theorem f_184_431 : x_fe 184 431 = some (.aload 2, 432) := by decide +kernel
theorem f_184_432 : x_fe 184 432 = some (.aload 0, 433) := by decide +kernel
theorem f_184_433 : x_fe 184 433 = some (.iload 3, 434) := by decide +kernel
theorem f_184_434 : x_fe 184 434 = some (.iconst (1), 435) := by decide +kernel
theorem f_184_435 : x_fe 184 435 = some (.iadd, 436) := by decide +kernel
theorem f_184_436 : x_fe 184 436 = some (.iaload, 437) := by decide +kernel
theorem f_184_437 : x_fe 184 437 = some (.aload 0, 438) := by decide +kernel
theorem f_184_438 : x_fe 184 438 = some (.iload 3, 439) := by decide +kernel
theorem f_184_439 : x_fe 184 439 = some (.iconst (2), 440) := by decide +kernel
theorem f_184_440 : x_fe 184 440 = some (.iadd, 441) := by decide +kernel
theorem f_184_441 : x_fe 184 441 = some (.iaload, 442) := by decide +kernel
theorem f_184_442 : x_fe 184 442 = some (.invokevirtual 124, 445) := by decide +kernel
theorem f_184_445 : x_fe 184 445 = some (.if_icmp .eq (Int.ofNat 997), 448) := by decide +kernel
theorem f_184_448 : x_fe 184 448 = some (.iconst (0), 449) := by decide +kernel
theorem f_184_449 : x_fe 184 449 = some (.ireturn, 450) := by decide +kernel
theorem f_184_450 : x_fe 184 450 = some (.aload 1, 451) := by decide +kernel
theorem f_184_451 : x_fe 184 451 = some (.aload 0, 452) := by decide +kernel
theorem f_184_452 : x_fe 184 452 = some (.iload 3, 453) := by decide +kernel
theorem f_184_453 : x_fe 184 453 = some (.iconst (1), 454) := by decide +kernel
theorem f_184_454 : x_fe 184 454 = some (.iadd, 455) := by decide +kernel
theorem f_184_455 : x_fe 184 455 = some (.iaload, 456) := by decide +kernel
theorem f_184_456 : x_fe 184 456 = some (.invokevirtual 61, 459) := by decide +kernel
theorem f_184_459 : x_fe 184 459 = some (.aload 2, 460) := by decide +kernel
theorem f_184_460 : x_fe 184 460 = some (.aload 0, 461) := by decide +kernel
theorem f_184_461 : x_fe 184 461 = some (.iload 3, 462) := by decide +kernel
theorem f_184_462 : x_fe 184 462 = some (.iconst (1), 463) := by decide +kernel
theorem f_184_463 : x_fe 184 463 = some (.iadd, 464) := by decide +kernel
theorem f_184_464 : x_fe 184 464 = some (.iaload, 465) := by decide +kernel
theorem f_184_465 : x_fe 184 465 = some (.invokevirtual 127, 468) := by decide +kernel
theorem f_184_468 : x_fe 184 468 = some (.if_icmp .eq (Int.ofNat 997), 471) := by decide +kernel
theorem f_184_471 : x_fe 184 471 = some (.iconst (0), 472) := by decide +kernel
theorem f_184_472 : x_fe 184 472 = some (.ireturn, 473) := by decide +kernel
theorem f_184_473 : x_fe 184 473 = some (.aload 1, 474) := by decide +kernel
theorem f_184_474 : x_fe 184 474 = some (.aload 0, 475) := by decide +kernel
theorem f_184_475 : x_fe 184 475 = some (.iload 3, 476) := by decide +kernel
theorem f_184_476 : x_fe 184 476 = some (.iconst (1), 477) := by decide +kernel
theorem f_184_477 : x_fe 184 477 = some (.iadd, 478) := by decide +kernel
theorem f_184_478 : x_fe 184 478 = some (.iaload, 479) := by decide +kernel
theorem f_184_479 : x_fe 184 479 = some (.aload 0, 480) := by decide +kernel
theorem f_184_480 : x_fe 184 480 = some (.iload 3, 481) := by decide +kernel
theorem f_184_481 : x_fe 184 481 = some (.iconst (2), 482) := by decide +kernel
theorem f_184_482 : x_fe 184 482 = some (.iadd, 483) := by decide +kernel
theorem f_184_483 : x_fe 184 483 = some (.iaload, 484) := by decide +kernel
theorem f_184_484 : x_fe 184 484 = some (.invokevirtual 63, 487) := by decide +kernel
theorem f_184_487 : x_fe 184 487 = some (.aload 2, 488) := by decide +kernel
theorem f_184_488 : x_fe 184 488 = some (.aload 0, 489) := by decide +kernel
theorem f_184_489 : x_fe 184 489 = some (.iload 3, 490) := by decide +kernel
theorem f_184_490 : x_fe 184 490 = some (.iconst (1), 491) := by decide +kernel
theorem f_184_491 : x_fe 184 491 = some (.iadd, 492) := by decide +kernel
theorem f_184_492 : x_fe 184 492 = some (.iaload, 493) := by decide +kernel
theorem f_184_493 : x_fe 184 493 = some (.aload 0, 494) := by decide +kernel
theorem f_184_494 : x_fe 184 494 = some (.iload 3, 495) := by decide +kernel
theorem f_184_495 : x_fe 184 495 = some (.iconst (2), 496) := by decide +kernel
theorem f_184_496 : x_fe 184 496 = some (.iadd, 497) := by decide +kernel
theorem f_184_497 : x_fe 184 497 = some (.iaload, 498) := by decide +kernel
theorem f_184_498 : x_fe 184 498 = some (.invokevirtual 130, 501) := by decide +kernel
theorem f_184_501 : x_fe 184 501 = some (.if_icmp .eq (Int.ofNat 997), 504) := by decide +kernel
theorem f_184_504 : x_fe 184 504 = some (.iconst (0), 505) := by decide +kernel
theorem f_184_505 : x_fe 184 505 = some (.ireturn, 506) := by decide +kernel
theorem f_184_506 : x_fe 184 506 = some (.aload 1, 507) := by decide +kernel
theorem f_184_507 : x_fe 184 507 = some (.aload 0, 508) := by decide +kernel
theorem f_184_508 : x_fe 184 508 = some (.iload 3, 509) := by decide +kernel
theorem f_184_509 : x_fe 184 509 = some (.iconst (1), 510) := by decide +kernel
theorem f_184_510 : x_fe 184 510 = some (.iadd, 511) := by decide +kernel
theorem f_184_511 : x_fe 184 511 = some (.iaload, 512) := by decide +kernel
theorem f_184_512 : x_fe 184 512 = some (.aload 0, 513) := by decide +kernel
theorem f_184_513 : x_fe 184 513 = some (.iload 3, 514) := by decide +kernel
theorem f_184_514 : x_fe 184 514 = some (.iconst (2), 515) := by decide +kernel
theorem f_184_515 : x_fe 184 515 = some (.iadd, 516) := by decide +kernel
theorem f_184_516 : x_fe 184 516 = some (.iaload, 517) := by decide +kernel
theorem f_184_517 : x_fe 184 517 = some (.aload 0, 518) := by decide +kernel
theorem f_184_518 : x_fe 184 518 = some (.iload 3, 519) := by decide +kernel
theorem f_184_519 : x_fe 184 519 = some (.iconst (3), 520) := by decide +kernel
theorem f_184_520 : x_fe 184 520 = some (.iadd, 521) := by decide +kernel
theorem f_184_521 : x_fe 184 521 = some (.iaload, 522) := by decide +kernel
theorem f_184_522 : x_fe 184 522 = some (.invokevirtual 64, 525) := by decide +kernel
theorem f_184_525 : x_fe 184 525 = some (.aload 2, 526) := by decide +kernel
theorem f_184_526 : x_fe 184 526 = some (.aload 0, 527) := by decide +kernel
theorem f_184_527 : x_fe 184 527 = some (.iload 3, 528) := by decide +kernel
theorem f_184_528 : x_fe 184 528 = some (.iconst (1), 529) := by decide +kernel
theorem f_184_529 : x_fe 184 529 = some (.iadd, 530) := by decide +kernel
theorem f_184_530 : x_fe 184 530 = some (.iaload, 531) := by decide +kernel
theorem f_184_531 : x_fe 184 531 = some (.aload 0, 532) := by decide +kernel
theorem f_184_532 : x_fe 184 532 = some (.iload 3, 533) := by decide +kernel
theorem f_184_533 : x_fe 184 533 = some (.iconst (2), 534) := by decide +kernel
theorem f_184_534 : x_fe 184 534 = some (.iadd, 535) := by decide +kernel
theorem f_184_535 : x_fe 184 535 = some (.iaload, 536) := by decide +kernel
theorem f_184_536 : x_fe 184 536 = some (.aload 0, 537) := by decide +kernel
theorem f_184_537 : x_fe 184 537 = some (.iload 3, 538) := by decide +kernel
theorem f_184_538 : x_fe 184 538 = some (.iconst (3), 539) := by decide +kernel
theorem f_184_539 : x_fe 184 539 = some (.iadd, 540) := by decide +kernel
theorem f_184_540 : x_fe 184 540 = some (.iaload, 541) := by decide +kernel
theorem f_184_541 : x_fe 184 541 = some (.invokevirtual 133, 544) := by decide +kernel
theorem f_184_544 : x_fe 184 544 = some (.if_icmp .eq (Int.ofNat 997), 547) := by decide +kernel
theorem f_184_547 : x_fe 184 547 = some (.iconst (0), 548) := by decide +kernel
theorem f_184_548 : x_fe 184 548 = some (.ireturn, 549) := by decide +kernel
theorem f_184_549 : x_fe 184 549 = some (.aload 1, 550) := by decide +kernel
theorem f_184_550 : x_fe 184 550 = some (.aload 0, 551) := by decide +kernel
theorem f_184_551 : x_fe 184 551 = some (.iload 3, 552) := by decide +kernel
theorem f_184_552 : x_fe 184 552 = some (.iconst (1), 553) := by decide +kernel
theorem f_184_553 : x_fe 184 553 = some (.iadd, 554) := by decide +kernel
theorem f_184_554 : x_fe 184 554 = some (.iaload, 555) := by decide +kernel
theorem f_184_555 : x_fe 184 555 = some (.aload 0, 556) := by decide +kernel
theorem f_184_556 : x_fe 184 556 = some (.iload 3, 557) := by decide +kernel
theorem f_184_557 : x_fe 184 557 = some (.iconst (2), 558) := by decide +kernel
theorem f_184_558 : x_fe 184 558 = some (.iadd, 559) := by decide +kernel
theorem f_184_559 : x_fe 184 559 = some (.iaload, 560) := by decide +kernel
theorem f_184_560 : x_fe 184 560 = some (.invokevirtual 67, 563) := by decide +kernel
theorem f_184_563 : x_fe 184 563 = some (.aload 2, 564) := by decide +kernel
theorem f_184_564 : x_fe 184 564 = some (.aload 0, 565) := by decide +kernel
theorem f_184_565 : x_fe 184 565 = some (.iload 3, 566) := by decide +kernel
theorem f_184_566 : x_fe 184 566 = some (.iconst (1), 567) := by decide +kernel
theorem f_184_567 : x_fe 184 567 = some (.iadd, 568) := by decide +kernel
theorem f_184_568 : x_fe 184 568 = some (.iaload, 569) := by decide +kernel
theorem f_184_569 : x_fe 184 569 = some (.aload 0, 570) := by decide +kernel
theorem f_184_570 : x_fe 184 570 = some (.iload 3, 571) := by decide +kernel
theorem f_184_571 : x_fe 184 571 = some (.iconst (2), 572) := by decide +kernel
theorem f_184_572 : x_fe 184 572 = some (.iadd, 573) := by decide +kernel
theorem f_184_573 : x_fe 184 573 = some (.iaload, 574) := by decide +kernel
theorem f_184_574 : x_fe 184 574 = some (.invokevirtual 135, 577) := by decide +kernel
theorem f_184_577 : x_fe 184 577 = some (.if_icmp .eq (Int.ofNat 997), 580) := by decide +kernel
theorem f_184_580 : x_fe 184 580 = some (.iconst (0), 581) := by decide +kernel
theorem f_184_581 : x_fe 184 581 = some (.ireturn, 582) := by decide +kernel
theorem f_184_582 : x_fe 184 582 = some (.aload 1, 583) := by decide +kernel
theorem f_184_583 : x_fe 184 583 = some (.aload 0, 584) := by decide +kernel
theorem f_184_584 : x_fe 184 584 = some (.iload 3, 585) := by decide +kernel
theorem f_184_585 : x_fe 184 585 = some (.iconst (1), 586) := by decide +kernel
theorem f_184_586 : x_fe 184 586 = some (.iadd, 587) := by decide +kernel
theorem f_184_587 : x_fe 184 587 = some (.iaload, 588) := by decide +kernel
theorem f_184_588 : x_fe 184 588 = some (.invokevirtual 70, 591) := by decide +kernel
theorem f_184_591 : x_fe 184 591 = some (.aload 2, 592) := by decide +kernel
theorem f_184_592 : x_fe 184 592 = some (.aload 0, 593) := by decide +kernel
theorem f_184_593 : x_fe 184 593 = some (.iload 3, 594) := by decide +kernel
theorem f_184_594 : x_fe 184 594 = some (.iconst (1), 595) := by decide +kernel
theorem f_184_595 : x_fe 184 595 = some (.iadd, 596) := by decide +kernel
theorem f_184_596 : x_fe 184 596 = some (.iaload, 597) := by decide +kernel
theorem f_184_597 : x_fe 184 597 = some (.invokevirtual 137, 600) := by decide +kernel
theorem f_184_600 : x_fe 184 600 = some (.if_icmp .eq (Int.ofNat 997), 603) := by decide +kernel
theorem f_184_603 : x_fe 184 603 = some (.iconst (0), 604) := by decide +kernel
theorem f_184_604 : x_fe 184 604 = some (.ireturn, 605) := by decide +kernel
theorem f_184_605 : x_fe 184 605 = some (.aload 1, 606) := by decide +kernel
theorem f_184_606 : x_fe 184 606 = some (.aload 0, 607) := by decide +kernel
theorem f_184_607 : x_fe 184 607 = some (.iload 3, 608) := by decide +kernel
theorem f_184_608 : x_fe 184 608 = some (.iconst (1), 609) := by decide +kernel
theorem f_184_609 : x_fe 184 609 = some (.iadd, 610) := by decide +kernel
theorem f_184_610 : x_fe 184 610 = some (.iaload, 611) := by decide +kernel
theorem f_184_611 : x_fe 184 611 = some (.invokevirtual 71, 614) := by decide +kernel
theorem f_184_614 : x_fe 184 614 = some (.aload 2, 615) := by decide +kernel
theorem f_184_615 : x_fe 184 615 = some (.aload 0, 616) := by decide +kernel
theorem f_184_616 : x_fe 184 616 = some (.iload 3, 617) := by decide +kernel
theorem f_184_617 : x_fe 184 617 = some (.iconst (1), 618) := by decide +kernel
theorem f_184_618 : x_fe 184 618 = some (.iadd, 619) := by decide +kernel
theorem f_184_619 : x_fe 184 619 = some (.iaload, 620) := by decide +kernel
theorem f_184_620 : x_fe 184 620 = some (.invokevirtual 139, 623) := by decide +kernel
theorem f_184_623 : x_fe 184 623 = some (.if_icmp .eq (Int.ofNat 997), 626) := by decide +kernel
theorem f_184_626 : x_fe 184 626 = some (.iconst (0), 627) := by decide +kernel
theorem f_184_627 : x_fe 184 627 = some (.ireturn, 628) := by decide +kernel
theorem f_184_628 : x_fe 184 628 = some (.aload 1, 629) := by decide +kernel
theorem f_184_629 : x_fe 184 629 = some (.aload 0, 630) := by decide +kernel
theorem f_184_630 : x_fe 184 630 = some (.iload 3, 631) := by decide +kernel
theorem f_184_631 : x_fe 184 631 = some (.iconst (1), 632) := by decide +kernel
theorem f_184_632 : x_fe 184 632 = some (.iadd, 633) := by decide +kernel
theorem f_184_633 : x_fe 184 633 = some (.iaload, 634) := by decide +kernel
theorem f_184_634 : x_fe 184 634 = some (.aload 0, 635) := by decide +kernel
theorem f_184_635 : x_fe 184 635 = some (.iload 3, 636) := by decide +kernel
theorem f_184_636 : x_fe 184 636 = some (.iconst (2), 637) := by decide +kernel
theorem f_184_637 : x_fe 184 637 = some (.iadd, 638) := by decide +kernel
theorem f_184_638 : x_fe 184 638 = some (.iaload, 639) := by decide +kernel
theorem f_184_639 : x_fe 184 639 = some (.aload 0, 640) := by decide +kernel
theorem f_184_640 : x_fe 184 640 = some (.iload 3, 641) := by decide +kernel
theorem f_184_641 : x_fe 184 641 = some (.iconst (3), 642) := by decide +kernel
theorem f_184_642 : x_fe 184 642 = some (.iadd, 643) := by decide +kernel
theorem f_184_643 : x_fe 184 643 = some (.iaload, 644) := by decide +kernel
theorem f_184_644 : x_fe 184 644 = some (.invokevirtual 73, 647) := by decide +kernel
theorem f_184_647 : x_fe 184 647 = some (.aload 2, 648) := by decide +kernel
theorem f_184_648 : x_fe 184 648 = some (.aload 0, 649) := by decide +kernel
theorem f_184_649 : x_fe 184 649 = some (.iload 3, 650) := by decide +kernel
theorem f_184_650 : x_fe 184 650 = some (.iconst (1), 651) := by decide +kernel
theorem f_184_651 : x_fe 184 651 = some (.iadd, 652) := by decide +kernel
theorem f_184_652 : x_fe 184 652 = some (.iaload, 653) := by decide +kernel
theorem f_184_653 : x_fe 184 653 = some (.aload 0, 654) := by decide +kernel
theorem f_184_654 : x_fe 184 654 = some (.iload 3, 655) := by decide +kernel
theorem f_184_655 : x_fe 184 655 = some (.iconst (2), 656) := by decide +kernel
theorem f_184_656 : x_fe 184 656 = some (.iadd, 657) := by decide +kernel
theorem f_184_657 : x_fe 184 657 = some (.iaload, 658) := by decide +kernel
theorem f_184_658 : x_fe 184 658 = some (.aload 0, 659) := by decide +kernel
theorem f_184_659 : x_fe 184 659 = some (.iload 3, 660) := by decide +kernel
theorem f_184_660 : x_fe 184 660 = some (.iconst (3), 661) := by decide +kernel
theorem f_184_661 : x_fe 184 661 = some (.iadd, 662) := by decide +kernel
theorem f_184_662 : x_fe 184 662 = some (.iaload, 663) := by decide +kernel
theorem f_184_663 : x_fe 184 663 = some (.invokevirtual 143, 666) := by decide +kernel
theorem f_184_666 : x_fe 184 666 = some (.if_icmp .eq (Int.ofNat 997), 669) := by decide +kernel
theorem f_184_669 : x_fe 184 669 = some (.iconst (0), 670) := by decide +kernel
theorem f_184_670 : x_fe 184 670 = some (.ireturn, 671) := by decide +kernel
theorem f_184_671 : x_fe 184 671 = some (.aload 1, 672) := by decide +kernel
theorem f_184_672 : x_fe 184 672 = some (.aload 0, 673) := by decide +kernel
theorem f_184_673 : x_fe 184 673 = some (.iload 3, 674) := by decide +kernel
theorem f_184_674 : x_fe 184 674 = some (.iconst (1), 675) := by decide +kernel
theorem f_184_675 : x_fe 184 675 = some (.iadd, 676) := by decide +kernel
theorem f_184_676 : x_fe 184 676 = some (.iaload, 677) := by decide +kernel
theorem f_184_677 : x_fe 184 677 = some (.aload 0, 678) := by decide +kernel
theorem f_184_678 : x_fe 184 678 = some (.iload 3, 679) := by decide +kernel
theorem f_184_679 : x_fe 184 679 = some (.iconst (2), 680) := by decide +kernel
theorem f_184_680 : x_fe 184 680 = some (.iadd, 681) := by decide +kernel
theorem f_184_681 : x_fe 184 681 = some (.iaload, 682) := by decide +kernel
theorem f_184_682 : x_fe 184 682 = some (.invokevirtual 76, 685) := by decide +kernel
theorem f_184_685 : x_fe 184 685 = some (.aload 2, 686) := by decide +kernel
theorem f_184_686 : x_fe 184 686 = some (.aload 0, 687) := by decide +kernel
theorem f_184_687 : x_fe 184 687 = some (.iload 3, 688) := by decide +kernel
theorem f_184_688 : x_fe 184 688 = some (.iconst (1), 689) := by decide +kernel
theorem f_184_689 : x_fe 184 689 = some (.iadd, 690) := by decide +kernel
theorem f_184_690 : x_fe 184 690 = some (.iaload, 691) := by decide +kernel
theorem f_184_691 : x_fe 184 691 = some (.aload 0, 692) := by decide +kernel
theorem f_184_692 : x_fe 184 692 = some (.iload 3, 693) := by decide +kernel
theorem f_184_693 : x_fe 184 693 = some (.iconst (2), 694) := by decide +kernel
theorem f_184_694 : x_fe 184 694 = some (.iadd, 695) := by decide +kernel
theorem f_184_695 : x_fe 184 695 = some (.iaload, 696) := by decide +kernel
theorem f_184_696 : x_fe 184 696 = some (.invokevirtual 145, 699) := by decide +kernel
theorem f_184_699 : x_fe 184 699 = some (.if_icmp .eq (Int.ofNat 997), 702) := by decide +kernel
theorem f_184_702 : x_fe 184 702 = some (.iconst (0), 703) := by decide +kernel
theorem f_184_703 : x_fe 184 703 = some (.ireturn, 704) := by decide +kernel
theorem f_184_704 : x_fe 184 704 = some (.aload 1, 705) := by decide +kernel
theorem f_184_705 : x_fe 184 705 = some (.aload 0, 706) := by decide +kernel
theorem f_184_706 : x_fe 184 706 = some (.iload 3, 707) := by decide +kernel
theorem f_184_707 : x_fe 184 707 = some (.iconst (1), 708) := by decide +kernel
theorem f_184_708 : x_fe 184 708 = some (.iadd, 709) := by decide +kernel
theorem f_184_709 : x_fe 184 709 = some (.iaload, 710) := by decide +kernel
theorem f_184_710 : x_fe 184 710 = some (.invokevirtual 78, 713) := by decide +kernel
theorem f_184_713 : x_fe 184 713 = some (.aload 2, 714) := by decide +kernel
theorem f_184_714 : x_fe 184 714 = some (.aload 0, 715) := by decide +kernel
theorem f_184_715 : x_fe 184 715 = some (.iload 3, 716) := by decide +kernel
theorem f_184_716 : x_fe 184 716 = some (.iconst (1), 717) := by decide +kernel
theorem f_184_717 : x_fe 184 717 = some (.iadd, 718) := by decide +kernel
theorem f_184_718 : x_fe 184 718 = some (.iaload, 719) := by decide +kernel
theorem f_184_719 : x_fe 184 719 = some (.invokevirtual 148, 722) := by decide +kernel
theorem f_184_722 : x_fe 184 722 = some (.if_icmp .eq (Int.ofNat 997), 725) := by decide +kernel
theorem f_184_725 : x_fe 184 725 = some (.iconst (0), 726) := by decide +kernel
theorem f_184_726 : x_fe 184 726 = some (.ireturn, 727) := by decide +kernel
theorem f_184_727 : x_fe 184 727 = some (.aload 1, 728) := by decide +kernel
theorem f_184_728 : x_fe 184 728 = some (.aload 0, 729) := by decide +kernel
theorem f_184_729 : x_fe 184 729 = some (.iload 3, 730) := by decide +kernel
theorem f_184_730 : x_fe 184 730 = some (.iconst (1), 731) := by decide +kernel
theorem f_184_731 : x_fe 184 731 = some (.iadd, 732) := by decide +kernel
theorem f_184_732 : x_fe 184 732 = some (.iaload, 733) := by decide +kernel
theorem f_184_733 : x_fe 184 733 = some (.aload 0, 734) := by decide +kernel
theorem f_184_734 : x_fe 184 734 = some (.iload 3, 735) := by decide +kernel
theorem f_184_735 : x_fe 184 735 = some (.iconst (2), 736) := by decide +kernel
theorem f_184_736 : x_fe 184 736 = some (.iadd, 737) := by decide +kernel
theorem f_184_737 : x_fe 184 737 = some (.iaload, 738) := by decide +kernel
theorem f_184_738 : x_fe 184 738 = some (.invokevirtual 80, 741) := by decide +kernel
theorem f_184_741 : x_fe 184 741 = some (.aload 2, 742) := by decide +kernel
theorem f_184_742 : x_fe 184 742 = some (.aload 0, 743) := by decide +kernel
theorem f_184_743 : x_fe 184 743 = some (.iload 3, 744) := by decide +kernel
theorem f_184_744 : x_fe 184 744 = some (.iconst (1), 745) := by decide +kernel
theorem f_184_745 : x_fe 184 745 = some (.iadd, 746) := by decide +kernel
theorem f_184_746 : x_fe 184 746 = some (.iaload, 747) := by decide +kernel
theorem f_184_747 : x_fe 184 747 = some (.aload 0, 748) := by decide +kernel
theorem f_184_748 : x_fe 184 748 = some (.iload 3, 749) := by decide +kernel
theorem f_184_749 : x_fe 184 749 = some (.iconst (2), 750) := by decide +kernel
theorem f_184_750 : x_fe 184 750 = some (.iadd, 751) := by decide +kernel
theorem f_184_751 : x_fe 184 751 = some (.iaload, 752) := by decide +kernel
theorem f_184_752 : x_fe 184 752 = some (.invokevirtual 150, 755) := by decide +kernel
theorem f_184_755 : x_fe 184 755 = some (.if_icmp .eq (Int.ofNat 997), 758) := by decide +kernel
theorem f_184_758 : x_fe 184 758 = some (.iconst (0), 759) := by decide +kernel
theorem f_184_759 : x_fe 184 759 = some (.ireturn, 760) := by decide +kernel
theorem f_184_760 : x_fe 184 760 = some (.aload 1, 761) := by decide +kernel
theorem f_184_761 : x_fe 184 761 = some (.aload 0, 762) := by decide +kernel
theorem f_184_762 : x_fe 184 762 = some (.iload 3, 763) := by decide +kernel
theorem f_184_763 : x_fe 184 763 = some (.iconst (1), 764) := by decide +kernel
theorem f_184_764 : x_fe 184 764 = some (.iadd, 765) := by decide +kernel
theorem f_184_765 : x_fe 184 765 = some (.iaload, 766) := by decide +kernel
theorem f_184_766 : x_fe 184 766 = some (.aload 0, 767) := by decide +kernel
theorem f_184_767 : x_fe 184 767 = some (.iload 3, 768) := by decide +kernel
theorem f_184_768 : x_fe 184 768 = some (.iconst (2), 769) := by decide +kernel
theorem f_184_769 : x_fe 184 769 = some (.iadd, 770) := by decide +kernel
theorem f_184_770 : x_fe 184 770 = some (.iaload, 771) := by decide +kernel
theorem f_184_771 : x_fe 184 771 = some (.aload 0, 772) := by decide +kernel
theorem f_184_772 : x_fe 184 772 = some (.iload 3, 773) := by decide +kernel
theorem f_184_773 : x_fe 184 773 = some (.iconst (3), 774) := by decide +kernel
theorem f_184_774 : x_fe 184 774 = some (.iadd, 775) := by decide +kernel
theorem f_184_775 : x_fe 184 775 = some (.iaload, 776) := by decide +kernel
theorem f_184_776 : x_fe 184 776 = some (.invokevirtual 83, 779) := by decide +kernel
theorem f_184_779 : x_fe 184 779 = some (.aload 2, 780) := by decide +kernel
theorem f_184_780 : x_fe 184 780 = some (.aload 0, 781) := by decide +kernel
theorem f_184_781 : x_fe 184 781 = some (.iload 3, 782) := by decide +kernel
theorem f_184_782 : x_fe 184 782 = some (.iconst (1), 783) := by decide +kernel
theorem f_184_783 : x_fe 184 783 = some (.iadd, 784) := by decide +kernel
theorem f_184_784 : x_fe 184 784 = some (.iaload, 785) := by decide +kernel
theorem f_184_785 : x_fe 184 785 = some (.aload 0, 786) := by decide +kernel
theorem f_184_786 : x_fe 184 786 = some (.iload 3, 787) := by decide +kernel
theorem f_184_787 : x_fe 184 787 = some (.iconst (2), 788) := by decide +kernel
theorem f_184_788 : x_fe 184 788 = some (.iadd, 789) := by decide +kernel
theorem f_184_789 : x_fe 184 789 = some (.iaload, 790) := by decide +kernel
theorem f_184_790 : x_fe 184 790 = some (.aload 0, 791) := by decide +kernel
theorem f_184_791 : x_fe 184 791 = some (.iload 3, 792) := by decide +kernel
theorem f_184_792 : x_fe 184 792 = some (.iconst (3), 793) := by decide +kernel
theorem f_184_793 : x_fe 184 793 = some (.iadd, 794) := by decide +kernel
theorem f_184_794 : x_fe 184 794 = some (.iaload, 795) := by decide +kernel
theorem f_184_795 : x_fe 184 795 = some (.invokevirtual 154, 798) := by decide +kernel
theorem f_184_798 : x_fe 184 798 = some (.if_icmp .eq (Int.ofNat 997), 801) := by decide +kernel
theorem f_184_801 : x_fe 184 801 = some (.iconst (0), 802) := by decide +kernel
theorem f_184_802 : x_fe 184 802 = some (.ireturn, 803) := by decide +kernel
theorem f_184_803 : x_fe 184 803 = some (.aload 1, 804) := by decide +kernel
theorem f_184_804 : x_fe 184 804 = some (.aload 0, 805) := by decide +kernel
theorem f_184_805 : x_fe 184 805 = some (.iload 3, 806) := by decide +kernel
theorem f_184_806 : x_fe 184 806 = some (.iconst (1), 807) := by decide +kernel
theorem f_184_807 : x_fe 184 807 = some (.iadd, 808) := by decide +kernel
theorem f_184_808 : x_fe 184 808 = some (.iaload, 809) := by decide +kernel
theorem f_184_809 : x_fe 184 809 = some (.invokevirtual 85, 812) := by decide +kernel
theorem f_184_812 : x_fe 184 812 = some (.aload 2, 813) := by decide +kernel
theorem f_184_813 : x_fe 184 813 = some (.aload 0, 814) := by decide +kernel
theorem f_184_814 : x_fe 184 814 = some (.iload 3, 815) := by decide +kernel
theorem f_184_815 : x_fe 184 815 = some (.iconst (1), 816) := by decide +kernel
theorem f_184_816 : x_fe 184 816 = some (.iadd, 817) := by decide +kernel
theorem f_184_817 : x_fe 184 817 = some (.iaload, 818) := by decide +kernel
theorem f_184_818 : x_fe 184 818 = some (.invokevirtual 156, 821) := by decide +kernel
theorem f_184_821 : x_fe 184 821 = some (.if_icmp .eq (Int.ofNat 997), 824) := by decide +kernel
theorem f_184_824 : x_fe 184 824 = some (.iconst (0), 825) := by decide +kernel
theorem f_184_825 : x_fe 184 825 = some (.ireturn, 826) := by decide +kernel
theorem f_184_826 : x_fe 184 826 = some (.aload 1, 827) := by decide +kernel
theorem f_184_827 : x_fe 184 827 = some (.aload 0, 828) := by decide +kernel
theorem f_184_828 : x_fe 184 828 = some (.iload 3, 829) := by decide +kernel
theorem f_184_829 : x_fe 184 829 = some (.iconst (1), 830) := by decide +kernel
theorem f_184_830 : x_fe 184 830 = some (.iadd, 831) := by decide +kernel
theorem f_184_831 : x_fe 184 831 = some (.iaload, 832) := by decide +kernel
theorem f_184_832 : x_fe 184 832 = some (.invokevirtual 86, 835) := by decide +kernel
theorem f_184_835 : x_fe 184 835 = some (.aload 2, 836) := by decide +kernel
theorem f_184_836 : x_fe 184 836 = some (.aload 0, 837) := by decide +kernel
theorem f_184_837 : x_fe 184 837 = some (.iload 3, 838) := by decide +kernel
theorem f_184_838 : x_fe 184 838 = some (.iconst (1), 839) := by decide +kernel
theorem f_184_839 : x_fe 184 839 = some (.iadd, 840) := by decide +kernel
theorem f_184_840 : x_fe 184 840 = some (.iaload, 841) := by decide +kernel
theorem f_184_841 : x_fe 184 841 = some (.invokevirtual 158, 844) := by decide +kernel
theorem f_184_844 : x_fe 184 844 = some (.if_icmp .eq (Int.ofNat 997), 847) := by decide +kernel
theorem f_184_847 : x_fe 184 847 = some (.iconst (0), 848) := by decide +kernel
theorem f_184_848 : x_fe 184 848 = some (.ireturn, 849) := by decide +kernel
theorem f_184_849 : x_fe 184 849 = some (.aload 1, 850) := by decide +kernel
theorem f_184_850 : x_fe 184 850 = some (.aload 0, 851) := by decide +kernel
theorem f_184_851 : x_fe 184 851 = some (.iload 3, 852) := by decide +kernel
theorem f_184_852 : x_fe 184 852 = some (.iconst (1), 853) := by decide +kernel
theorem f_184_853 : x_fe 184 853 = some (.iadd, 854) := by decide +kernel
theorem f_184_854 : x_fe 184 854 = some (.iaload, 855) := by decide +kernel
theorem f_184_855 : x_fe 184 855 = some (.invokevirtual 87, 858) := by decide +kernel
theorem f_184_858 : x_fe 184 858 = some (.aload 2, 859) := by decide +kernel
theorem f_184_859 : x_fe 184 859 = some (.aload 0, 860) := by decide +kernel
theorem f_184_860 : x_fe 184 860 = some (.iload 3, 861) := by decide +kernel
theorem f_184_861 : x_fe 184 861 = some (.iconst (1), 862) := by decide +kernel
theorem f_184_862 : x_fe 184 862 = some (.iadd, 863) := by decide +kernel
theorem f_184_863 : x_fe 184 863 = some (.iaload, 864) := by decide +kernel
theorem f_184_864 : x_fe 184 864 = some (.invokevirtual 159, 867) := by decide +kernel
theorem f_184_867 : x_fe 184 867 = some (.if_icmp .eq (Int.ofNat 997), 870) := by decide +kernel
theorem f_184_870 : x_fe 184 870 = some (.iconst (0), 871) := by decide +kernel
theorem f_184_871 : x_fe 184 871 = some (.ireturn, 872) := by decide +kernel
theorem f_184_872 : x_fe 184 872 = some (.aload 1, 873) := by decide +kernel
theorem f_184_873 : x_fe 184 873 = some (.aload 0, 874) := by decide +kernel
theorem f_184_874 : x_fe 184 874 = some (.iload 3, 875) := by decide +kernel
theorem f_184_875 : x_fe 184 875 = some (.iconst (1), 876) := by decide +kernel
theorem f_184_876 : x_fe 184 876 = some (.iadd, 877) := by decide +kernel
theorem f_184_877 : x_fe 184 877 = some (.iaload, 878) := by decide +kernel
theorem f_184_878 : x_fe 184 878 = some (.aload 0, 879) := by decide +kernel
theorem f_184_879 : x_fe 184 879 = some (.iload 3, 880) := by decide +kernel
theorem f_184_880 : x_fe 184 880 = some (.iconst (2), 881) := by decide +kernel
theorem f_184_881 : x_fe 184 881 = some (.iadd, 882) := by decide +kernel
theorem f_184_882 : x_fe 184 882 = some (.iaload, 883) := by decide +kernel
theorem f_184_883 : x_fe 184 883 = some (.invokevirtual 90, 886) := by decide +kernel
theorem f_184_886 : x_fe 184 886 = some (.aload 2, 887) := by decide +kernel
theorem f_184_887 : x_fe 184 887 = some (.aload 0, 888) := by decide +kernel
theorem f_184_888 : x_fe 184 888 = some (.iload 3, 889) := by decide +kernel
theorem f_184_889 : x_fe 184 889 = some (.iconst (1), 890) := by decide +kernel
theorem f_184_890 : x_fe 184 890 = some (.iadd, 891) := by decide +kernel
theorem f_184_891 : x_fe 184 891 = some (.iaload, 892) := by decide +kernel
theorem f_184_892 : x_fe 184 892 = some (.aload 0, 893) := by decide +kernel
theorem f_184_893 : x_fe 184 893 = some (.iload 3, 894) := by decide +kernel
theorem f_184_894 : x_fe 184 894 = some (.iconst (2), 895) := by decide +kernel
theorem f_184_895 : x_fe 184 895 = some (.iadd, 896) := by decide +kernel
theorem f_184_896 : x_fe 184 896 = some (.iaload, 897) := by decide +kernel
theorem f_184_897 : x_fe 184 897 = some (.invokevirtual 161, 900) := by decide +kernel
theorem f_184_900 : x_fe 184 900 = some (.if_icmp .eq (Int.ofNat 997), 903) := by decide +kernel
theorem f_184_903 : x_fe 184 903 = some (.iconst (0), 904) := by decide +kernel
theorem f_184_904 : x_fe 184 904 = some (.ireturn, 905) := by decide +kernel
theorem f_184_905 : x_fe 184 905 = some (.aload 1, 906) := by decide +kernel
theorem f_184_906 : x_fe 184 906 = some (.aload 0, 907) := by decide +kernel
theorem f_184_907 : x_fe 184 907 = some (.iload 3, 908) := by decide +kernel
theorem f_184_908 : x_fe 184 908 = some (.iconst (1), 909) := by decide +kernel
theorem f_184_909 : x_fe 184 909 = some (.iadd, 910) := by decide +kernel
theorem f_184_910 : x_fe 184 910 = some (.iaload, 911) := by decide +kernel
theorem f_184_911 : x_fe 184 911 = some (.aload 0, 912) := by decide +kernel
theorem f_184_912 : x_fe 184 912 = some (.iload 3, 913) := by decide +kernel
theorem f_184_913 : x_fe 184 913 = some (.iconst (2), 914) := by decide +kernel
theorem f_184_914 : x_fe 184 914 = some (.iadd, 915) := by decide +kernel
theorem f_184_915 : x_fe 184 915 = some (.iaload, 916) := by decide +kernel
theorem f_184_916 : x_fe 184 916 = some (.invokevirtual 91, 919) := by decide +kernel
theorem f_184_919 : x_fe 184 919 = some (.aload 2, 920) := by decide +kernel
theorem f_184_920 : x_fe 184 920 = some (.aload 0, 921) := by decide +kernel
theorem f_184_921 : x_fe 184 921 = some (.iload 3, 922) := by decide +kernel
theorem f_184_922 : x_fe 184 922 = some (.iconst (1), 923) := by decide +kernel
theorem f_184_923 : x_fe 184 923 = some (.iadd, 924) := by decide +kernel
theorem f_184_924 : x_fe 184 924 = some (.iaload, 925) := by decide +kernel
theorem f_184_925 : x_fe 184 925 = some (.aload 0, 926) := by decide +kernel
theorem f_184_926 : x_fe 184 926 = some (.iload 3, 927) := by decide +kernel
theorem f_184_927 : x_fe 184 927 = some (.iconst (2), 928) := by decide +kernel
theorem f_184_928 : x_fe 184 928 = some (.iadd, 929) := by decide +kernel
theorem f_184_929 : x_fe 184 929 = some (.iaload, 930) := by decide +kernel
theorem f_184_930 : x_fe 184 930 = some (.invokevirtual 162, 933) := by decide +kernel
theorem f_184_933 : x_fe 184 933 = some (.if_icmp .eq (Int.ofNat 997), 936) := by decide +kernel
theorem f_184_936 : x_fe 184 936 = some (.iconst (0), 937) := by decide +kernel
theorem f_184_937 : x_fe 184 937 = some (.ireturn, 938) := by decide +kernel
theorem f_184_938 : x_fe 184 938 = some (.aload 1, 939) := by decide +kernel
theorem f_184_939 : x_fe 184 939 = some (.aload 0, 940) := by decide +kernel
end
section
theorem f_184_940 : x_fe 184 940 = some (.iload 3, 941) := by decide +kernel
theorem f_184_941 : x_fe 184 941 = some (.iconst (1), 942) := by decide +kernel
theorem f_184_942 : x_fe 184 942 = some (.iadd, 943) := by decide +kernel
theorem f_184_943 : x_fe 184 943 = some (.iaload, 944) := by decide +kernel
theorem f_184_944 : x_fe 184 944 = some (.invokevirtual 94, 947) := by decide +kernel
theorem f_184_947 : x_fe 184 947 = some (.aload 2, 948) := by decide +kernel
theorem f_184_948 : x_fe 184 948 = some (.aload 0, 949) := by decide +kernel
theorem f_184_949 : x_fe 184 949 = some (.iload 3, 950) := by decide +kernel
theorem f_184_950 : x_fe 184 950 = some (.iconst (1), 951) := by decide +kernel
theorem f_184_951 : x_fe 184 951 = some (.iadd, 952) := by decide +kernel
theorem f_184_952 : x_fe 184 952 = some (.iaload, 953) := by decide +kernel
theorem f_184_953 : x_fe 184 953 = some (.invokevirtual 170, 956) := by decide +kernel
theorem f_184_956 : x_fe 184 956 = some (.if_icmp .eq (Int.ofNat 997), 959) := by decide +kernel
theorem f_184_959 : x_fe 184 959 = some (.iconst (0), 960) := by decide +kernel
theorem f_184_960 : x_fe 184 960 = some (.ireturn, 961) := by decide +kernel
theorem f_184_961 : x_fe 184 961 = some (.aload 1, 962) := by decide +kernel
theorem f_184_962 : x_fe 184 962 = some (.aload 0, 963) := by decide +kernel
theorem f_184_963 : x_fe 184 963 = some (.iload 3, 964) := by decide +kernel
theorem f_184_964 : x_fe 184 964 = some (.iconst (1), 965) := by decide +kernel
theorem f_184_965 : x_fe 184 965 = some (.iadd, 966) := by decide +kernel
theorem f_184_966 : x_fe 184 966 = some (.iaload, 967) := by decide +kernel
theorem f_184_967 : x_fe 184 967 = some (.invokevirtual 95, 970) := by decide +kernel
theorem f_184_970 : x_fe 184 970 = some (.aload 2, 971) := by decide +kernel
theorem f_184_971 : x_fe 184 971 = some (.aload 0, 972) := by decide +kernel
theorem f_184_972 : x_fe 184 972 = some (.iload 3, 973) := by decide +kernel
theorem f_184_973 : x_fe 184 973 = some (.iconst (1), 974) := by decide +kernel
theorem f_184_974 : x_fe 184 974 = some (.iadd, 975) := by decide +kernel
theorem f_184_975 : x_fe 184 975 = some (.iaload, 976) := by decide +kernel
theorem f_184_976 : x_fe 184 976 = some (.invokevirtual 171, 979) := by decide +kernel
theorem f_184_979 : x_fe 184 979 = some (.if_icmp .eq (Int.ofNat 997), 982) := by decide +kernel
theorem f_184_982 : x_fe 184 982 = some (.iconst (0), 983) := by decide +kernel
theorem f_184_983 : x_fe 184 983 = some (.ireturn, 984) := by decide +kernel
theorem f_184_984 : x_fe 184 984 = some (.aload 1, 985) := by decide +kernel
theorem f_184_985 : x_fe 184 985 = some (.invokevirtual 97, 988) := by decide +kernel
theorem f_184_988 : x_fe 184 988 = some (.aload 2, 989) := by decide +kernel
theorem f_184_989 : x_fe 184 989 = some (.invokevirtual 172, 992) := by decide +kernel
theorem f_184_992 : x_fe 184 992 = some (.if_icmp .eq (Int.ofNat 997), 995) := by decide +kernel
theorem f_184_995 : x_fe 184 995 = some (.iconst (0), 996) := by decide +kernel
theorem f_184_996 : x_fe 184 996 = some (.ireturn, 997) := by decide +kernel
theorem f_184_997 : x_fe 184 997 = some (.iinc 3 (6), 1000) := by decide +kernel
theorem f_184_1000 : x_fe 184 1000 = some (.goto (Int.ofNat 18), 1003) := by decide +kernel
theorem f_184_1003 : x_fe 184 1003 = some (.iconst (1), 1004) := by decide +kernel
theorem f_184_1004 : x_fe 184 1004 = some (.ireturn, 1005) := by decide +kernel
end
section
theorem zz_end : True := trivial
end
