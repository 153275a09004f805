section
-- ===== PART A: goes FIRST, ahead of the names: the tables' words, and 'selects' of the private methods out of them =====
/-- a private method of a class that the tables say can be made, by its rows of tables_1 -/
def lw_okq (q : MethodName × Nat) : Prop := (q.1.cls ≠ "java/lang/invoke/MethodHandle" ∧ q.1.cls ≠ "java/lang/invoke/VarHandle") ∧ Cond.instantiable q.1.cls q.2 ∈ tables_1 ∧ Cond.privateMethod q.1 ∈ tables_1 ∧ Cond.instanceMethod q.1 ∈ tables_1
theorem lw_p0 : lw_okq (⟨"WindowCards", "found", "(I)I"⟩, 10) := ⟨⟨by decide +kernel, by decide +kernel⟩, List.mem_of_getElem? (i := 17) (by decide +kernel), List.mem_of_getElem? (i := 209) (by decide +kernel), List.mem_of_getElem? (i := 210) (by decide +kernel)⟩
theorem lw_p1 : lw_okq (⟨"WindowCards", "passed", "(I)I"⟩, 10) := ⟨⟨by decide +kernel, by decide +kernel⟩, List.mem_of_getElem? (i := 17) (by decide +kernel), List.mem_of_getElem? (i := 221) (by decide +kernel), List.mem_of_getElem? (i := 222) (by decide +kernel)⟩
theorem lw_p2 : lw_okq (⟨"WindowCards$Tape", "byteAt", "(I)I"⟩, 6) := ⟨⟨by decide +kernel, by decide +kernel⟩, List.mem_of_getElem? (i := 27) (by decide +kernel), List.mem_of_getElem? (i := 276) (by decide +kernel), List.mem_of_getElem? (i := 277) (by decide +kernel)⟩
theorem lw_p3 : lw_okq (⟨"WindowCards$Tape", "takeName", "()V"⟩, 6) := ⟨⟨by decide +kernel, by decide +kernel⟩, List.mem_of_getElem? (i := 27) (by decide +kernel), List.mem_of_getElem? (i := 286) (by decide +kernel), List.mem_of_getElem? (i := 287) (by decide +kernel)⟩
theorem lw_p4 : lw_okq (⟨"WindowCards$Tape", "takeNumber", "()V"⟩, 6) := ⟨⟨by decide +kernel, by decide +kernel⟩, List.mem_of_getElem? (i := 27) (by decide +kernel), List.mem_of_getElem? (i := 293) (by decide +kernel), List.mem_of_getElem? (i := 294) (by decide +kernel)⟩
theorem lw_p5 : lw_okq (⟨"WindowCards$Game", "handAfter", "(I)I"⟩, 10) := ⟨⟨by decide +kernel, by decide +kernel⟩, List.mem_of_getElem? (i := 57) (by decide +kernel), List.mem_of_getElem? (i := 385) (by decide +kernel), List.mem_of_getElem? (i := 386) (by decide +kernel)⟩
theorem lw_p6 : lw_okq (⟨"WindowCards", "isPlay", "(II)Z"⟩, 10) := ⟨⟨by decide +kernel, by decide +kernel⟩, List.mem_of_getElem? (i := 17) (by decide +kernel), List.mem_of_getElem? (i := 404) (by decide +kernel), List.mem_of_getElem? (i := 405) (by decide +kernel)⟩
theorem lw_p7 : lw_okq (⟨"WindowCards", "isCard", "(I)Z"⟩, 10) := ⟨⟨by decide +kernel, by decide +kernel⟩, List.mem_of_getElem? (i := 17) (by decide +kernel), List.mem_of_getElem? (i := 408) (by decide +kernel), List.mem_of_getElem? (i := 409) (by decide +kernel)⟩
theorem lw_p8 : lw_okq (⟨"WindowCards", "arePlays", "(LWindowCards$Row;II)Z"⟩, 10) := ⟨⟨by decide +kernel, by decide +kernel⟩, List.mem_of_getElem? (i := 17) (by decide +kernel), List.mem_of_getElem? (i := 451) (by decide +kernel), List.mem_of_getElem? (i := 452) (by decide +kernel)⟩
theorem lw_p9 : lw_okq (⟨"WindowCards", "rowsThere", "()I"⟩, 10) := ⟨⟨by decide +kernel, by decide +kernel⟩, List.mem_of_getElem? (i := 17) (by decide +kernel), List.mem_of_getElem? (i := 629) (by decide +kernel), List.mem_of_getElem? (i := 630) (by decide +kernel)⟩
theorem lw_p10 : lw_okq (⟨"WindowCardsModel", "find", "(I)I"⟩, 27) := ⟨⟨by decide +kernel, by decide +kernel⟩, List.mem_of_getElem? (i := 637) (by decide +kernel), List.mem_of_getElem? (i := 739) (by decide +kernel), List.mem_of_getElem? (i := 740) (by decide +kernel)⟩
theorem lw_p11 : lw_okq (⟨"WindowCardsModel", "give", "(I)I"⟩, 27) := ⟨⟨by decide +kernel, by decide +kernel⟩, List.mem_of_getElem? (i := 637) (by decide +kernel), List.mem_of_getElem? (i := 744) (by decide +kernel), List.mem_of_getElem? (i := 745) (by decide +kernel)⟩
theorem lw_p12 : lw_okq (⟨"WindowCardsModel", "isSpan", "(III)Z"⟩, 27) := ⟨⟨by decide +kernel, by decide +kernel⟩, List.mem_of_getElem? (i := 637) (by decide +kernel), List.mem_of_getElem? (i := 756) (by decide +kernel), List.mem_of_getElem? (i := 757) (by decide +kernel)⟩
theorem lw_p13 : lw_okq (⟨"WindowCardsModel", "readsAll", "()Z"⟩, 27) := ⟨⟨by decide +kernel, by decide +kernel⟩, List.mem_of_getElem? (i := 637) (by decide +kernel), List.mem_of_getElem? (i := 775) (by decide +kernel), List.mem_of_getElem? (i := 776) (by decide +kernel)⟩
theorem lw_p14 : lw_okq (⟨"WindowCardsModel", "token", "()V"⟩, 27) := ⟨⟨by decide +kernel, by decide +kernel⟩, List.mem_of_getElem? (i := 637) (by decide +kernel), List.mem_of_getElem? (i := 779) (by decide +kernel), List.mem_of_getElem? (i := 780) (by decide +kernel)⟩
theorem lw_p15 : lw_okq (⟨"WindowCardsModel", "readsTable", "()Z"⟩, 27) := ⟨⟨by decide +kernel, by decide +kernel⟩, List.mem_of_getElem? (i := 637) (by decide +kernel), List.mem_of_getElem? (i := 786) (by decide +kernel), List.mem_of_getElem? (i := 787) (by decide +kernel)⟩
def lw_privs_1 : List (MethodName × Nat) := [(⟨"WindowCards", "found", "(I)I"⟩, 10), (⟨"WindowCards", "passed", "(I)I"⟩, 10), (⟨"WindowCards$Tape", "byteAt", "(I)I"⟩, 6), (⟨"WindowCards$Tape", "takeName", "()V"⟩, 6), (⟨"WindowCards$Tape", "takeNumber", "()V"⟩, 6), (⟨"WindowCards$Game", "handAfter", "(I)I"⟩, 10), (⟨"WindowCards", "isPlay", "(II)Z"⟩, 10), (⟨"WindowCards", "isCard", "(I)Z"⟩, 10), (⟨"WindowCards", "arePlays", "(LWindowCards$Row;II)Z"⟩, 10), (⟨"WindowCards", "rowsThere", "()I"⟩, 10), (⟨"WindowCardsModel", "find", "(I)I"⟩, 27), (⟨"WindowCardsModel", "give", "(I)I"⟩, 27), (⟨"WindowCardsModel", "isSpan", "(III)Z"⟩, 27), (⟨"WindowCardsModel", "readsAll", "()Z"⟩, 27), (⟨"WindowCardsModel", "token", "()V"⟩, 27), (⟨"WindowCardsModel", "readsTable", "()Z"⟩, 27)]
theorem lw_r1 : ∀ q ∈ lw_privs_1, lw_okq q := List.forall_mem_cons.mpr ⟨lw_p0, List.forall_mem_cons.mpr ⟨lw_p1, List.forall_mem_cons.mpr ⟨lw_p2, List.forall_mem_cons.mpr ⟨lw_p3, List.forall_mem_cons.mpr ⟨lw_p4, List.forall_mem_cons.mpr ⟨lw_p5, List.forall_mem_cons.mpr ⟨lw_p6, List.forall_mem_cons.mpr ⟨lw_p7, List.forall_mem_cons.mpr ⟨lw_p8, List.forall_mem_cons.mpr ⟨lw_p9, List.forall_mem_cons.mpr ⟨lw_p10, List.forall_mem_cons.mpr ⟨lw_p11, List.forall_mem_cons.mpr ⟨lw_p12, List.forall_mem_cons.mpr ⟨lw_p13, List.forall_mem_cons.mpr ⟨lw_p14, List.forall_mem_cons.mpr ⟨lw_p15, fun _ h => absurd h List.not_mem_nil⟩⟩⟩⟩⟩⟩⟩⟩⟩⟩⟩⟩⟩⟩⟩⟩
theorem lw_p16 : lw_okq (⟨"WindowCardsModel", "isWord", "(II)Z"⟩, 27) := ⟨⟨by decide +kernel, by decide +kernel⟩, List.mem_of_getElem? (i := 637) (by decide +kernel), List.mem_of_getElem? (i := 791) (by decide +kernel), List.mem_of_getElem? (i := 792) (by decide +kernel)⟩
theorem lw_p17 : lw_okq (⟨"WindowCardsModel", "number", "(I)I"⟩, 27) := ⟨⟨by decide +kernel, by decide +kernel⟩, List.mem_of_getElem? (i := 637) (by decide +kernel), List.mem_of_getElem? (i := 795) (by decide +kernel), List.mem_of_getElem? (i := 796) (by decide +kernel)⟩
theorem lw_p18 : lw_okq (⟨"WindowCardsModel", "readsSign", "()Z"⟩, 27) := ⟨⟨by decide +kernel, by decide +kernel⟩, List.mem_of_getElem? (i := 637) (by decide +kernel), List.mem_of_getElem? (i := 799) (by decide +kernel), List.mem_of_getElem? (i := 800) (by decide +kernel)⟩
theorem lw_p19 : lw_okq (⟨"WindowCardsModel", "isSign", "()Z"⟩, 27) := ⟨⟨by decide +kernel, by decide +kernel⟩, List.mem_of_getElem? (i := 637) (by decide +kernel), List.mem_of_getElem? (i := 803) (by decide +kernel), List.mem_of_getElem? (i := 804) (by decide +kernel)⟩
theorem lw_p20 : lw_okq (⟨"WindowCardsModel", "readsCard", "()Z"⟩, 27) := ⟨⟨by decide +kernel, by decide +kernel⟩, List.mem_of_getElem? (i := 637) (by decide +kernel), List.mem_of_getElem? (i := 807) (by decide +kernel), List.mem_of_getElem? (i := 808) (by decide +kernel)⟩
theorem lw_p21 : lw_okq (⟨"WindowCardsModel", "readsHoles", "()Z"⟩, 27) := ⟨⟨by decide +kernel, by decide +kernel⟩, List.mem_of_getElem? (i := 637) (by decide +kernel), List.mem_of_getElem? (i := 812) (by decide +kernel), List.mem_of_getElem? (i := 813) (by decide +kernel)⟩
theorem lw_p22 : lw_okq (⟨"WindowCardsModel", "layTurned", "()V"⟩, 27) := ⟨⟨by decide +kernel, by decide +kernel⟩, List.mem_of_getElem? (i := 637) (by decide +kernel), List.mem_of_getElem? (i := 817) (by decide +kernel), List.mem_of_getElem? (i := 818) (by decide +kernel)⟩
theorem lw_p23 : lw_okq (⟨"WindowCardsModel", "isCard", "(I)Z"⟩, 27) := ⟨⟨by decide +kernel, by decide +kernel⟩, List.mem_of_getElem? (i := 637) (by decide +kernel), List.mem_of_getElem? (i := 835) (by decide +kernel), List.mem_of_getElem? (i := 836) (by decide +kernel)⟩
theorem lw_p24 : lw_okq (⟨"WindowCardsModel", "worthOf", "(I)I"⟩, 27) := ⟨⟨by decide +kernel, by decide +kernel⟩, List.mem_of_getElem? (i := 637) (by decide +kernel), List.mem_of_getElem? (i := 851) (by decide +kernel), List.mem_of_getElem? (i := 852) (by decide +kernel)⟩
theorem lw_p25 : lw_okq (⟨"WindowCardsModel", "isInHand", "(I)Z"⟩, 27) := ⟨⟨by decide +kernel, by decide +kernel⟩, List.mem_of_getElem? (i := 637) (by decide +kernel), List.mem_of_getElem? (i := 859) (by decide +kernel), List.mem_of_getElem? (i := 860) (by decide +kernel)⟩
theorem lw_p26 : lw_okq (⟨"WindowCardsModel", "playOf", "(I)I"⟩, 27) := ⟨⟨by decide +kernel, by decide +kernel⟩, List.mem_of_getElem? (i := 637) (by decide +kernel), List.mem_of_getElem? (i := 863) (by decide +kernel), List.mem_of_getElem? (i := 864) (by decide +kernel)⟩
theorem lw_p27 : lw_okq (⟨"WindowCardsModel", "refuses", "(II)I"⟩, 27) := ⟨⟨by decide +kernel, by decide +kernel⟩, List.mem_of_getElem? (i := 637) (by decide +kernel), List.mem_of_getElem? (i := 872) (by decide +kernel), List.mem_of_getElem? (i := 873) (by decide +kernel)⟩
theorem lw_p28 : lw_okq (⟨"WindowCardsModel", "isOver", "()Z"⟩, 27) := ⟨⟨by decide +kernel, by decide +kernel⟩, List.mem_of_getElem? (i := 637) (by decide +kernel), List.mem_of_getElem? (i := 890) (by decide +kernel), List.mem_of_getElem? (i := 891) (by decide +kernel)⟩
theorem lw_p29 : lw_okq (⟨"WindowCardsModel", "layBest", "()V"⟩, 27) := ⟨⟨by decide +kernel, by decide +kernel⟩, List.mem_of_getElem? (i := 637) (by decide +kernel), List.mem_of_getElem? (i := 898) (by decide +kernel), List.mem_of_getElem? (i := 899) (by decide +kernel)⟩
theorem lw_p30 : lw_okq (⟨"WindowCardsModel", "openLevel", "(III)V"⟩, 27) := ⟨⟨by decide +kernel, by decide +kernel⟩, List.mem_of_getElem? (i := 637) (by decide +kernel), List.mem_of_getElem? (i := 902) (by decide +kernel), List.mem_of_getElem? (i := 903) (by decide +kernel)⟩
theorem lw_p31 : lw_okq (⟨"WindowCardsModel", "goDown", "(I)Z"⟩, 27) := ⟨⟨by decide +kernel, by decide +kernel⟩, List.mem_of_getElem? (i := 637) (by decide +kernel), List.mem_of_getElem? (i := 907) (by decide +kernel), List.mem_of_getElem? (i := 908) (by decide +kernel)⟩
def lw_privs_2 : List (MethodName × Nat) := [(⟨"WindowCardsModel", "isWord", "(II)Z"⟩, 27), (⟨"WindowCardsModel", "number", "(I)I"⟩, 27), (⟨"WindowCardsModel", "readsSign", "()Z"⟩, 27), (⟨"WindowCardsModel", "isSign", "()Z"⟩, 27), (⟨"WindowCardsModel", "readsCard", "()Z"⟩, 27), (⟨"WindowCardsModel", "readsHoles", "()Z"⟩, 27), (⟨"WindowCardsModel", "layTurned", "()V"⟩, 27), (⟨"WindowCardsModel", "isCard", "(I)Z"⟩, 27), (⟨"WindowCardsModel", "worthOf", "(I)I"⟩, 27), (⟨"WindowCardsModel", "isInHand", "(I)Z"⟩, 27), (⟨"WindowCardsModel", "playOf", "(I)I"⟩, 27), (⟨"WindowCardsModel", "refuses", "(II)I"⟩, 27), (⟨"WindowCardsModel", "isOver", "()Z"⟩, 27), (⟨"WindowCardsModel", "layBest", "()V"⟩, 27), (⟨"WindowCardsModel", "openLevel", "(III)V"⟩, 27), (⟨"WindowCardsModel", "goDown", "(I)Z"⟩, 27)]
theorem lw_r2 : ∀ q ∈ lw_privs_2, lw_okq q := List.forall_mem_cons.mpr ⟨lw_p16, List.forall_mem_cons.mpr ⟨lw_p17, List.forall_mem_cons.mpr ⟨lw_p18, List.forall_mem_cons.mpr ⟨lw_p19, List.forall_mem_cons.mpr ⟨lw_p20, List.forall_mem_cons.mpr ⟨lw_p21, List.forall_mem_cons.mpr ⟨lw_p22, List.forall_mem_cons.mpr ⟨lw_p23, List.forall_mem_cons.mpr ⟨lw_p24, List.forall_mem_cons.mpr ⟨lw_p25, List.forall_mem_cons.mpr ⟨lw_p26, List.forall_mem_cons.mpr ⟨lw_p27, List.forall_mem_cons.mpr ⟨lw_p28, List.forall_mem_cons.mpr ⟨lw_p29, List.forall_mem_cons.mpr ⟨lw_p30, List.forall_mem_cons.mpr ⟨lw_p31, fun _ h => absurd h List.not_mem_nil⟩⟩⟩⟩⟩⟩⟩⟩⟩⟩⟩⟩⟩⟩⟩⟩
theorem lw_p32 : lw_okq (⟨"WindowCardsModel", "layHeap", "(I)I"⟩, 27) := ⟨⟨by decide +kernel, by decide +kernel⟩, List.mem_of_getElem? (i := 637) (by decide +kernel), List.mem_of_getElem? (i := 922) (by decide +kernel), List.mem_of_getElem? (i := 923) (by decide +kernel)⟩
theorem lw_p33 : lw_okq (⟨"WindowCardsModel", "shuts", "(III)Z"⟩, 27) := ⟨⟨by decide +kernel, by decide +kernel⟩, List.mem_of_getElem? (i := 637) (by decide +kernel), List.mem_of_getElem? (i := 933) (by decide +kernel), List.mem_of_getElem? (i := 934) (by decide +kernel)⟩
theorem lw_p34 : lw_okq (⟨"WindowCardsModel", "waysOf", "(I)I"⟩, 27) := ⟨⟨by decide +kernel, by decide +kernel⟩, List.mem_of_getElem? (i := 637) (by decide +kernel), List.mem_of_getElem? (i := 941) (by decide +kernel), List.mem_of_getElem? (i := 942) (by decide +kernel)⟩
theorem lw_p35 : lw_okq (⟨"WindowCardsModel", "likeOf", "(I)I"⟩, 27) := ⟨⟨by decide +kernel, by decide +kernel⟩, List.mem_of_getElem? (i := 637) (by decide +kernel), List.mem_of_getElem? (i := 945) (by decide +kernel), List.mem_of_getElem? (i := 946) (by decide +kernel)⟩
theorem lw_p36 : lw_okq (⟨"WindowCardsModel", "areAlike", "(II)Z"⟩, 27) := ⟨⟨by decide +kernel, by decide +kernel⟩, List.mem_of_getElem? (i := 637) (by decide +kernel), List.mem_of_getElem? (i := 949) (by decide +kernel), List.mem_of_getElem? (i := 950) (by decide +kernel)⟩
theorem lw_p37 : lw_okq (⟨"WindowCardsModel", "fitOf", "(III)I"⟩, 27) := ⟨⟨by decide +kernel, by decide +kernel⟩, List.mem_of_getElem? (i := 637) (by decide +kernel), List.mem_of_getElem? (i := 957) (by decide +kernel), List.mem_of_getElem? (i := 958) (by decide +kernel)⟩
theorem lw_p38 : lw_okq (⟨"WindowCardsModel", "move", "(II)V"⟩, 27) := ⟨⟨by decide +kernel, by decide +kernel⟩, List.mem_of_getElem? (i := 637) (by decide +kernel), List.mem_of_getElem? (i := 965) (by decide +kernel), List.mem_of_getElem? (i := 966) (by decide +kernel)⟩
theorem lw_p39 : lw_okq (⟨"WindowCardsModel", "kindOf", "(I)I"⟩, 27) := ⟨⟨by decide +kernel, by decide +kernel⟩, List.mem_of_getElem? (i := 637) (by decide +kernel), List.mem_of_getElem? (i := 977) (by decide +kernel), List.mem_of_getElem? (i := 978) (by decide +kernel)⟩
theorem lw_p40 : lw_okq (⟨"WindowCardsModel", "sizeOf", "(I)I"⟩, 27) := ⟨⟨by decide +kernel, by decide +kernel⟩, List.mem_of_getElem? (i := 637) (by decide +kernel), List.mem_of_getElem? (i := 990) (by decide +kernel), List.mem_of_getElem? (i := 991) (by decide +kernel)⟩
theorem lw_p41 : lw_okq (⟨"WindowCardsModel", "leave", "(I)V"⟩, 27) := ⟨⟨by decide +kernel, by decide +kernel⟩, List.mem_of_getElem? (i := 637) (by decide +kernel), List.mem_of_getElem? (i := 994) (by decide +kernel), List.mem_of_getElem? (i := 995) (by decide +kernel)⟩
theorem lw_p42 : lw_okq (⟨"WindowCardsModel", "piercedSize", "(I)I"⟩, 27) := ⟨⟨by decide +kernel, by decide +kernel⟩, List.mem_of_getElem? (i := 637) (by decide +kernel), List.mem_of_getElem? (i := 998) (by decide +kernel), List.mem_of_getElem? (i := 999) (by decide +kernel)⟩
theorem lw_p43 : lw_okq (⟨"WindowCardsModel", "lentSize", "(I)I"⟩, 27) := ⟨⟨by decide +kernel, by decide +kernel⟩, List.mem_of_getElem? (i := 637) (by decide +kernel), List.mem_of_getElem? (i := 1002) (by decide +kernel), List.mem_of_getElem? (i := 1003) (by decide +kernel)⟩
theorem lw_p44 : lw_okq (⟨"WindowCardsModel", "markOf", "(I)I"⟩, 27) := ⟨⟨by decide +kernel, by decide +kernel⟩, List.mem_of_getElem? (i := 637) (by decide +kernel), List.mem_of_getElem? (i := 1006) (by decide +kernel), List.mem_of_getElem? (i := 1007) (by decide +kernel)⟩
theorem lw_p45 : lw_okq (⟨"WindowCardsModel", "piercedMark", "(I)I"⟩, 27) := ⟨⟨by decide +kernel, by decide +kernel⟩, List.mem_of_getElem? (i := 637) (by decide +kernel), List.mem_of_getElem? (i := 1010) (by decide +kernel), List.mem_of_getElem? (i := 1011) (by decide +kernel)⟩
theorem lw_p46 : lw_okq (⟨"WindowCardsModel", "lentMark", "(I)I"⟩, 27) := ⟨⟨by decide +kernel, by decide +kernel⟩, List.mem_of_getElem? (i := 637) (by decide +kernel), List.mem_of_getElem? (i := 1014) (by decide +kernel), List.mem_of_getElem? (i := 1015) (by decide +kernel)⟩
def lw_privs_3 : List (MethodName × Nat) := [(⟨"WindowCardsModel", "layHeap", "(I)I"⟩, 27), (⟨"WindowCardsModel", "shuts", "(III)Z"⟩, 27), (⟨"WindowCardsModel", "waysOf", "(I)I"⟩, 27), (⟨"WindowCardsModel", "likeOf", "(I)I"⟩, 27), (⟨"WindowCardsModel", "areAlike", "(II)Z"⟩, 27), (⟨"WindowCardsModel", "fitOf", "(III)I"⟩, 27), (⟨"WindowCardsModel", "move", "(II)V"⟩, 27), (⟨"WindowCardsModel", "kindOf", "(I)I"⟩, 27), (⟨"WindowCardsModel", "sizeOf", "(I)I"⟩, 27), (⟨"WindowCardsModel", "leave", "(I)V"⟩, 27), (⟨"WindowCardsModel", "piercedSize", "(I)I"⟩, 27), (⟨"WindowCardsModel", "lentSize", "(I)I"⟩, 27), (⟨"WindowCardsModel", "markOf", "(I)I"⟩, 27), (⟨"WindowCardsModel", "piercedMark", "(I)I"⟩, 27), (⟨"WindowCardsModel", "lentMark", "(I)I"⟩, 27)]
theorem lw_r3 : ∀ q ∈ lw_privs_3, lw_okq q := List.forall_mem_cons.mpr ⟨lw_p32, List.forall_mem_cons.mpr ⟨lw_p33, List.forall_mem_cons.mpr ⟨lw_p34, List.forall_mem_cons.mpr ⟨lw_p35, List.forall_mem_cons.mpr ⟨lw_p36, List.forall_mem_cons.mpr ⟨lw_p37, List.forall_mem_cons.mpr ⟨lw_p38, List.forall_mem_cons.mpr ⟨lw_p39, List.forall_mem_cons.mpr ⟨lw_p40, List.forall_mem_cons.mpr ⟨lw_p41, List.forall_mem_cons.mpr ⟨lw_p42, List.forall_mem_cons.mpr ⟨lw_p43, List.forall_mem_cons.mpr ⟨lw_p44, List.forall_mem_cons.mpr ⟨lw_p45, List.forall_mem_cons.mpr ⟨lw_p46, fun _ h => absurd h List.not_mem_nil⟩⟩⟩⟩⟩⟩⟩⟩⟩⟩⟩⟩⟩⟩⟩
def lw_privs : List (MethodName × Nat) := lw_privs_1 ++ (lw_privs_2 ++ (lw_privs_3))
def lw_tbl : List Cond := k2_sels lw_privs ++ tables_1
theorem lw_privs_ok : ∀ q ∈ lw_privs, lw_okq q := by
  show ∀ q ∈ lw_privs_1 ++ (lw_privs_2 ++ (lw_privs_3)), lw_okq q
  exact List.forall_mem_append.mpr ⟨lw_r1, List.forall_mem_append.mpr ⟨lw_r2, lw_r3⟩⟩
end
section
def RX0 : String := "WindowCards$Game"

def TX0 : u_T := fun k => match k with
  | 0 => ("WindowCards$Game", "table", "[I", true)
  | 1 => ("WindowCards$Game", "lies", "[I", true)
  | 2 => ("WindowCards$Game", "left", "[I", true)
  | 3 => ("WindowCards$Game", "got", "[I", true)
  | 4 => ("WindowCards$Game", "there", "Z", false)
  | 5 => ("WindowCards$Game", "cards", "I", false)
  | 6 => ("WindowCards$Game", "shows", "I", false)
  | 7 => ("WindowCards$Game", "lying", "I", false)
  | 8 => ("WindowCards$Game", "turn", "I", false)
  | _ => ("WindowCards$Game", "taken", "I", false)

def tyX0 : Nat → FieldType := fun k => match k with
  | 0 => .array .int
  | 1 => .array .int
  | 2 => .array .int
  | 3 => .array .int
  | 4 => .boolean
  | 5 => .int
  | 6 => .int
  | 7 => .int
  | 8 => .int
  | _ => .int

theorem nmX0 : ∀ a, a < 10 → ∀ b, b < 10 → a ≠ b → (TX0 a).2.1 ≠ (TX0 b).2.1 := by decide +kernel

theorem tyX0_ok : ∀ k, k < 10 → parseFieldDescriptor (TX0 k).2.2.1 = some (tyX0 k) := by decide +kernel

def RX1 : String := "WindowCards$OpenHands"

def TX1 : u_T := fun k => match k with
  | 0 => ("WindowCards$OpenHands", "cards", "[I", true)
  | 1 => ("WindowCards$OpenHands", "owned", "[I", true)
  | 2 => ("WindowCards$OpenHands", "leads", "[I", true)
  | 3 => ("WindowCards$OpenHands", "size", "I", false)
  | _ => ("WindowCards$OpenHands", "firstBest", "I", false)

def tyX1 : Nat → FieldType := fun k => match k with
  | 0 => .array .int
  | 1 => .array .int
  | 2 => .array .int
  | 3 => .int
  | _ => .int

theorem nmX1 : ∀ a, a < 5 → ∀ b, b < 5 → a ≠ b → (TX1 a).2.1 ≠ (TX1 b).2.1 := by decide +kernel

theorem tyX1_ok : ∀ k, k < 5 → parseFieldDescriptor (TX1 k).2.2.1 = some (tyX1 k) := by decide +kernel

def RX2 : String := "WindowCards$Row"

def TX2 : u_T := fun k => match k with
  | 0 => ("WindowCards$Row", "items", "[I", true)
  | 1 => ("WindowCards$Row", "there", "Z", false)
  | 2 => ("WindowCards$Row", "lane", "I", false)
  | _ => ("WindowCards$Row", "length", "I", false)

def tyX2 : Nat → FieldType := fun k => match k with
  | 0 => .array .int
  | 1 => .boolean
  | 2 => .int
  | _ => .int

theorem nmX2 : ∀ a, a < 4 → ∀ b, b < 4 → a ≠ b → (TX2 a).2.1 ≠ (TX2 b).2.1 := by decide +kernel

theorem tyX2_ok : ∀ k, k < 4 → parseFieldDescriptor (TX2 k).2.2.1 = some (tyX2 k) := by decide +kernel

def RX3 : String := "WindowCards$Tape"

def TX3 : u_T := fun k => match k with
  | 0 => ("WindowCards$Tape", "bytes", "[I", true)
  | 1 => ("WindowCards$Tape", "length", "I", false)
  | 2 => ("WindowCards$Tape", "token", "I", false)
  | 3 => ("WindowCards$Tape", "start", "I", false)
  | 4 => ("WindowCards$Tape", "end", "I", false)
  | _ => ("WindowCards$Tape", "value", "I", false)

def tyX3 : Nat → FieldType := fun k => match k with
  | 0 => .array .int
  | 1 => .int
  | 2 => .int
  | 3 => .int
  | 4 => .int
  | _ => .int

theorem nmX3 : ∀ a, a < 6 → ∀ b, b < 6 → a ≠ b → (TX3 a).2.1 ≠ (TX3 b).2.1 := by decide +kernel

theorem tyX3_ok : ∀ k, k < 6 → parseFieldDescriptor (TX3 k).2.2.1 = some (tyX3 k) := by decide +kernel

def RX4 : String := "WindowCards$Trace"

def TX4 : u_T := fun k => match k with
  | 0 => ("WindowCards$Trace", "numbers", "[I", true)
  | _ => ("WindowCards$Trace", "length", "I", false)

def tyX4 : Nat → FieldType := fun k => match k with
  | 0 => .array .int
  | _ => .int

theorem nmX4 : ∀ a, a < 2 → ∀ b, b < 2 → a ≠ b → (TX4 a).2.1 ≠ (TX4 b).2.1 := by decide +kernel

theorem tyX4_ok : ∀ k, k < 2 → parseFieldDescriptor (TX4 k).2.2.1 = some (tyX4 k) := by decide +kernel

def RX5 : String := "WindowCards"

def TX5 : u_T := fun k => match k with
  | 0 => ("WindowCards", "rows", "[LWindowCards$Row;", true)
  | 1 => ("WindowCards", "tape", "LWindowCards$Tape;", true)
  | 2 => ("WindowCards", "game", "LWindowCards$Game;", true)
  | 3 => ("WindowCards", "trial", "LWindowCards$Game;", true)
  | 4 => ("WindowCards", "images", "[LWindowCards$Game;", true)
  | 5 => ("WindowCards", "openHands", "LWindowCards$OpenHands;", true)
  | 6 => ("WindowCards", "heap", "[I", true)
  | 7 => ("WindowCards", "bodies", "LWindowCards$Trace;", true)
  | 8 => ("WindowCards", "latestFault", "I", false)
  | _ => ("WindowCards", "latestFinding", "I", false)

def tyX5 : Nat → FieldType := fun k => match k with
  | 0 => .array (.object "WindowCards$Row")
  | 1 => .object "WindowCards$Tape"
  | 2 => .object "WindowCards$Game"
  | 3 => .object "WindowCards$Game"
  | 4 => .array (.object "WindowCards$Game")
  | 5 => .object "WindowCards$OpenHands"
  | 6 => .array .int
  | 7 => .object "WindowCards$Trace"
  | 8 => .int
  | _ => .int

theorem nmX5 : ∀ a, a < 10 → ∀ b, b < 10 → a ≠ b → (TX5 a).2.1 ≠ (TX5 b).2.1 := by decide +kernel

theorem tyX5_ok : ∀ k, k < 10 → parseFieldDescriptor (TX5 k).2.2.1 = some (tyX5 k) := by decide +kernel

def RX6 : String := "WindowCardsModel"

def TX6 : u_T := fun k => match k with
  | 0 => ("WindowCardsModel", "row", "[I", true)
  | 1 => ("WindowCardsModel", "tape", "[I", true)
  | 2 => ("WindowCardsModel", "taped", "I", false)
  | 3 => ("WindowCardsModel", "fault", "I", false)
  | 4 => ("WindowCardsModel", "status", "I", false)
  | 5 => ("WindowCardsModel", "lanes", "[I", true)
  | 6 => ("WindowCardsModel", "sizes", "[I", true)
  | 7 => ("WindowCardsModel", "items", "[I", true)
  | 8 => ("WindowCardsModel", "traces", "[I", true)
  | 9 => ("WindowCardsModel", "traceMany", "I", false)
  | 10 => ("WindowCardsModel", "at", "I", false)
  | 11 => ("WindowCardsModel", "place", "I", false)
  | 12 => ("WindowCardsModel", "end", "I", false)
  | 13 => ("WindowCardsModel", "readTable", "[I", true)
  | 14 => ("WindowCardsModel", "readCards", "[I", true)
  | 15 => ("WindowCardsModel", "readHands", "[I", true)
  | 16 => ("WindowCardsModel", "readMany", "I", false)
  | 17 => ("WindowCardsModel", "turned", "[I", true)
  | 18 => ("WindowCardsModel", "tried", "[I", true)
  | 19 => ("WindowCardsModel", "levelShows", "[I", true)
  | 20 => ("WindowCardsModel", "levelHand", "[I", true)
  | 21 => ("WindowCardsModel", "levelLeft", "[I", true)
  | 22 => ("WindowCardsModel", "levelPlay", "[I", true)
  | 23 => ("WindowCardsModel", "levelGot", "[I", true)
  | 24 => ("WindowCardsModel", "levelBest", "[I", true)
  | 25 => ("WindowCardsModel", "bestPlay", "I", false)
  | _ => ("WindowCardsModel", "heap", "[I", true)

def tyX6 : Nat → FieldType := fun k => match k with
  | 0 => .array .int
  | 1 => .array .int
  | 2 => .int
  | 3 => .int
  | 4 => .int
  | 5 => .array .int
  | 6 => .array .int
  | 7 => .array .int
  | 8 => .array .int
  | 9 => .int
  | 10 => .int
  | 11 => .int
  | 12 => .int
  | 13 => .array .int
  | 14 => .array .int
  | 15 => .array .int
  | 16 => .int
  | 17 => .array .int
  | 18 => .array .int
  | 19 => .array .int
  | 20 => .array .int
  | 21 => .array .int
  | 22 => .array .int
  | 23 => .array .int
  | 24 => .array .int
  | 25 => .int
  | _ => .array .int

theorem nmX6 : ∀ a, a < 27 → ∀ b, b < 27 → a ≠ b → (TX6 a).2.1 ≠ (TX6 b).2.1 := by decide +kernel

theorem tyX6_ok : ∀ k, k < 27 → parseFieldDescriptor (TX6 k).2.2.1 = some (tyX6 k) := by decide +kernel

abbrev vwCl : List vw_C := [(RX0, TX0, 10), (RX1, TX1, 5), (RX2, TX2, 4), (RX3, TX3, 6), (RX4, TX4, 2), (RX5, TX5, 10), (RX6, TX6, 27)]

/-! the small machine's tables: classes by number, methods by number, what the constant pools link, each with its place among the words -/
def x_cns : List String := ["WindowCards$Game", "WindowCards$OpenHands", "WindowCards$Row", "WindowCards$Tape", "WindowCards$Trace", "WindowCards", "WindowCardsModel", "WindowCardsLaw", "java/lang/String", "java/lang/StringLatin1", "java/lang/Integer", "java/lang/Math", "java/util/Arrays", "jdk/internal/util/Preconditions"]
def x_cn (c : Nat) : String := x_cns.getD c ""
def x_T : Nat → u_T := fun c => match c with
  | 0 => TX0
  | 1 => TX1
  | 2 => TX2
  | 3 => TX3
  | 4 => TX4
  | 5 => TX5
  | _ => TX6
def x_ty : Nat → Nat → FieldType := fun c => match c with
  | 0 => tyX0
  | 1 => tyX1
  | 2 => tyX2
  | 3 => tyX3
  | 4 => tyX4
  | 5 => tyX5
  | _ => tyX6
def x_N (c : Nat) : Nat := [10, 5, 4, 6, 2, 10, 27].getD c 0
/-- a field, 32 times its class and its place: class, name, type -/
def x_fd (e : Nat) : String × String × String := if e / 32 = 8 then (if e % 32 = 0 then ("java/lang/String", "value", "[B") else ("java/lang/String", "coder", "B")) else ((x_T (e / 32) (e % 32)).1, (x_T (e / 32) (e % 32)).2.1, (x_T (e / 32) (e % 32)).2.2.1)
def x_ff (e : Nat) : Bool := (x_T (e / 32) (e % 32)).2.2.2
def x_mt_0 : List (Nat × MethodName × ByteArray × Nat × Option FieldType) := [(0, ⟨"WindowCards$Game", "<init>", "()V"⟩, prog_2_method_1_code, 1, none), (0, ⟨"WindowCards$Game", "clear", "()V"⟩, prog_2_method_2_code, 1, none), (0, ⟨"WindowCards$Game", "addCard", "(II)V"⟩, prog_2_method_3_code, 5, none), (0, ⟨"WindowCards$Game", "mirrored", "(I)I"⟩, prog_2_method_16_code, 6, (some .int)), (0, ⟨"WindowCards$Game", "turned", "(I)I"⟩, prog_2_method_15_code, 6, (some .int)), (0, ⟨"WindowCards$Game", "deal", "()V"⟩, prog_2_method_4_code, 1, none), (0, ⟨"WindowCards$Game", "handAfter", "(I)I"⟩, prog_2_method_14_code, 2, (some .int)), (0, ⟨"WindowCards$Game", "become", "(LWindowCards$Game;)V"⟩, prog_2_method_5_code, 2, none), (0, ⟨"WindowCards$Game", "lie", "(II)I"⟩, prog_2_method_6_code, 4, (some .int)), (0, ⟨"WindowCards$Game", "worthOf", "(I)I"⟩, prog_2_method_8_code, 4, (some .int)), (0, ⟨"WindowCards$Game", "mayLay", "(I)Z"⟩, prog_2_method_12_code, 2, (some .boolean)), (0, ⟨"WindowCards$Game", "playable", "()I"⟩, prog_2_method_10_code, 1, (some .int)), (0, ⟨"WindowCards$Game", "lay", "(II)I"⟩, prog_2_method_13_code, 4, (some .int)), (0, ⟨"WindowCards$Game", "cardsLeft", "()I"⟩, prog_2_method_9_code, 1, (some .int)), (0, ⟨"WindowCards$Game", "waiting", "()I"⟩, prog_2_method_11_code, 1, (some .int)), (0, ⟨"WindowCards$Game", "unlikeWays", "(I)I"⟩, prog_2_method_7_code, 5, (some .int)), (1, ⟨"WindowCards$OpenHands", "<init>", "()V"⟩, prog_3_method_1_code, 1, none), (1, ⟨"WindowCards$OpenHands", "begin", "(LWindowCards$Game;)V"⟩, prog_3_method_2_code, 4, none), (1, ⟨"WindowCards$OpenHands", "firstState", "(LWindowCards$Game;)I"⟩, prog_3_method_3_code, 2, (some .int)), (1, ⟨"WindowCards$OpenHands", "stateOf", "(III)I"⟩, prog_3_method_7_code, 3, (some .int)), (1, ⟨"WindowCards$OpenHands", "handOf", "(I)I"⟩, prog_3_method_6_code, 2, (some .int)), (1, ⟨"WindowCards$OpenHands", "holds", "(III)Z"⟩, prog_3_method_5_code, 4, (some .boolean)), (1, ⟨"WindowCards$OpenHands", "stateAfter", "(III)I"⟩, prog_3_method_4_code, 7, (some .int)), (2, ⟨"WindowCards$Row", "<init>", "()V"⟩, prog_4_method_1_code, 1, none)]
def x_mt_1 : List (Nat × MethodName × ByteArray × Nat × Option FieldType) := [(2, ⟨"WindowCards$Row", "begin", "(II)V"⟩, prog_4_method_2_code, 3, none), (2, ⟨"WindowCards$Row", "holdsRun", "(II)Z"⟩, prog_4_method_3_code, 3, (some .boolean)), (2, ⟨"WindowCards$Row", "narrowed", "(I)I"⟩, prog_4_method_5_code, 2, (some .int)), (2, ⟨"WindowCards$Row", "item", "(I)I"⟩, prog_4_method_4_code, 2, (some .int)), (3, ⟨"WindowCards$Tape", "<init>", "()V"⟩, prog_5_method_1_code, 1, none), (3, ⟨"WindowCards$Tape", "append", "(I)V"⟩, prog_5_method_2_code, 2, none), (3, ⟨"WindowCards$Tape", "rewind", "()V"⟩, prog_5_method_3_code, 1, none), (3, ⟨"WindowCards$Tape", "advance", "()V"⟩, prog_5_method_4_code, 1, none), (3, ⟨"WindowCards$Tape", "byteAt", "(I)I"⟩, prog_5_method_9_code, 2, (some .int)), (3, ⟨"WindowCards$Tape", "isBlank", "(I)Z"⟩, prog_5_method_10_code, 1, (some .boolean)), (3, ⟨"WindowCards$Tape", "isLetter", "(I)Z"⟩, prog_5_method_11_code, 1, (some .boolean)), (3, ⟨"WindowCards$Tape", "takeName", "()V"⟩, prog_5_method_7_code, 1, none), (3, ⟨"WindowCards$Tape", "isFigure", "(I)Z"⟩, prog_5_method_12_code, 1, (some .boolean)), (3, ⟨"WindowCards$Tape", "takeNumber", "()V"⟩, prog_5_method_8_code, 1, none), (3, ⟨"WindowCards$Tape", "isWord", "(Ljava/lang/String;)Z"⟩, prog_5_method_5_code, 3, (some .boolean)), (3, ⟨"WindowCards$Tape", "windows", "()I"⟩, prog_5_method_6_code, 4, (some .int)), (4, ⟨"WindowCards$Trace", "<init>", "()V"⟩, prog_6_method_1_code, 1, none), (4, ⟨"WindowCards$Trace", "leave", "(I)V"⟩, prog_6_method_2_code, 2, none), (5, ⟨"WindowCards", "<init>", "()V"⟩, prog_1_method_1_code, 2, none), (5, ⟨"WindowCards", "row", "(III)I"⟩, prog_1_method_2_code, 4, (some .int)), (5, ⟨"WindowCards", "isRow", "(I)Z"⟩, prog_1_method_31_code, 1, (some .boolean)), (5, ⟨"WindowCards", "found", "(I)I"⟩, prog_1_method_29_code, 2, (some .int)), (5, ⟨"WindowCards", "passed", "(I)I"⟩, prog_1_method_30_code, 2, (some .int)), (5, ⟨"WindowCards", "set", "(III)I"⟩, prog_1_method_3_code, 5, (some .int))]
def x_mt_2 : List (Nat × MethodName × ByteArray × Nat × Option FieldType) := [(5, ⟨"WindowCards", "copy", "(IIIII)I"⟩, prog_1_method_4_code, 8, (some .int)), (5, ⟨"WindowCards", "drop", "(I)I"⟩, prog_1_method_5_code, 3, (some .int)), (5, ⟨"WindowCards", "feed", "(JI)I"⟩, prog_1_method_6_code, 5, (some .int)), (5, ⟨"WindowCards", "game", "()I"⟩, prog_1_method_7_code, 3, (some .int)), (5, ⟨"WindowCards", "readGame", "(LWindowCards$Tape;LWindowCards$Game;)I"⟩, prog_1_method_37_code, 4, (some .int)), (5, ⟨"WindowCards", "readTable", "(LWindowCards$Tape;LWindowCards$Game;)I"⟩, prog_1_method_38_code, 4, (some .int)), (5, ⟨"WindowCards", "numberFault", "(LWindowCards$Tape;I)I"⟩, prog_1_method_41_code, 2, (some .int)), (5, ⟨"WindowCards", "readSign", "(LWindowCards$Tape;)I"⟩, prog_1_method_40_code, 1, (some .int)), (5, ⟨"WindowCards", "readCard", "(LWindowCards$Tape;LWindowCards$Game;)I"⟩, prog_1_method_39_code, 4, (some .int)), (5, ⟨"WindowCards", "fault", "()I"⟩, prog_1_method_8_code, 1, (some .int)), (5, ⟨"WindowCards", "holes", "(II)I"⟩, prog_1_method_9_code, 3, (some .int)), (5, ⟨"WindowCards", "isPlay", "(II)Z"⟩, prog_1_method_33_code, 3, (some .boolean)), (5, ⟨"WindowCards", "isCard", "(I)Z"⟩, prog_1_method_32_code, 2, (some .boolean)), (5, ⟨"WindowCards", "worth", "(I)I"⟩, prog_1_method_10_code, 2, (some .int)), (5, ⟨"WindowCards", "arePlaces", "(I)Z"⟩, prog_1_method_34_code, 1, (some .boolean)), (5, ⟨"WindowCards", "play", "(II)I"⟩, prog_1_method_11_code, 3, (some .int)), (5, ⟨"WindowCards", "plays", "(III)I"⟩, prog_1_method_12_code, 6, (some .int)), (5, ⟨"WindowCards", "arePlays", "(LWindowCards$Row;II)Z"⟩, prog_1_method_35_code, 6, (some .boolean)), (5, ⟨"WindowCards", "layAll", "(LWindowCards$Game;LWindowCards$Row;II)Z"⟩, prog_1_method_42_code, 6, (some .boolean)), (5, ⟨"WindowCards", "lots", "(II)I"⟩, prog_1_method_13_code, 6, (some .int)), (5, ⟨"WindowCards", "layByLot", "(LWindowCards$Game;J)V"⟩, prog_1_method_43_code, 5, none), (5, ⟨"WindowCards", "bitAt", "(II)I"⟩, prog_1_method_44_code, 4, (some .int)), (5, ⟨"WindowCards", "now", "(I)I"⟩, prog_1_method_14_code, 2, (some .int)), (5, ⟨"WindowCards", "best", "(I)I"⟩, prog_1_method_15_code, 4, (some .int))]
def x_mt_3 : List (Nat × MethodName × ByteArray × Nat × Option FieldType) := [(5, ⟨"WindowCards", "leadFrom", "(LWindowCards$Game;LWindowCards$OpenHands;II)I"⟩, prog_1_method_45_code, 13, (some .int)), (5, ⟨"WindowCards", "mean", "(III)I"⟩, prog_1_method_16_code, 10, (some .int)), (5, ⟨"WindowCards", "worthOfAll", "(LWindowCards$Game;II)I"⟩, prog_1_method_46_code, 6, (some .int)), (5, ⟨"WindowCards", "sharedDivisor", "(II)I"⟩, prog_1_method_47_code, 6, (some .int)), (5, ⟨"WindowCards", "fewest", "(II)I"⟩, prog_1_method_17_code, 4, (some .int)), (5, ⟨"WindowCards", "findHeap", "(LWindowCards$Game;[IIIIII)Z"⟩, prog_1_method_48_code, 10, (some .boolean)), (5, ⟨"WindowCards", "triples", "(I)I"⟩, prog_1_method_18_code, 6, (some .int)), (5, ⟨"WindowCards", "canShut", "(LWindowCards$Game;III)Z"⟩, prog_1_method_49_code, 7, (some .boolean)), (5, ⟨"WindowCards", "alike", "(II)I"⟩, prog_1_method_19_code, 3, (some .int)), (5, ⟨"WindowCards", "classOf", "(LWindowCards$Game;I)I"⟩, prog_1_method_50_code, 5, (some .int)), (5, ⟨"WindowCards", "leastAlike", "(LWindowCards$Game;I)I"⟩, prog_1_method_51_code, 4, (some .int)), (5, ⟨"WindowCards", "fit", "(III)I"⟩, prog_1_method_20_code, 6, (some .int)), (5, ⟨"WindowCards", "fittingWay", "(LWindowCards$Game;III)I"⟩, prog_1_method_52_code, 5, (some .int)), (5, ⟨"WindowCards", "image", "(I)I"⟩, prog_1_method_21_code, 2, (some .int)), (5, ⟨"WindowCards", "restore", "(I)I"⟩, prog_1_method_22_code, 2, (some .int)), (5, ⟨"WindowCards", "kind", "(I)I"⟩, prog_1_method_23_code, 2, (some .int)), (5, ⟨"WindowCards", "kindOf", "(LWindowCards$Game;I)I"⟩, prog_1_method_53_code, 2, (some .int)), (5, ⟨"WindowCards", "isOfKind", "(LWindowCards$Game;II)Z"⟩, prog_1_method_54_code, 5, (some .boolean)), (5, ⟨"WindowCards", "as", "(II)I"⟩, prog_1_method_24_code, 3, (some .int)), (5, ⟨"WindowCards", "ask", "(II)I"⟩, prog_1_method_25_code, 3, (some .int)), (5, ⟨"WindowCards", "bodyFor", "(LWindowCards$Game;II)I"⟩, prog_1_method_55_code, 5, (some .int)), (5, ⟨"WindowCards", "body", "(ILWindowCards$Game;ILWindowCards$Trace;I)I"⟩, prog_1_method_56_code, 7, (some .int)), (5, ⟨"WindowCards", "trace", "(I)I"⟩, prog_1_method_26_code, 2, (some .int)), (5, ⟨"WindowCards", "count", "(I)I"⟩, prog_1_method_27_code, 2, (some .int))]
def x_mt_4 : List (Nat × MethodName × ByteArray × Nat × Option FieldType) := [(5, ⟨"WindowCards", "rowsThere", "()I"⟩, prog_1_method_36_code, 3, (some .int)), (5, ⟨"WindowCards", "status", "()I"⟩, prog_1_method_28_code, 1, (some .int)), (6, ⟨"WindowCardsModel", "<init>", "()V"⟩, prog_8_method_1_code, 1, none), (6, ⟨"WindowCardsModel", "row", "(III)I"⟩, prog_8_method_8_code, 5, (some .int)), (6, ⟨"WindowCardsModel", "isRow", "(I)Z"⟩, prog_8_method_7_code, 1, (some .boolean)), (6, ⟨"WindowCardsModel", "in", "(JJJ)Z"⟩, prog_8_method_2_code, 6, (some .boolean)), (6, ⟨"WindowCardsModel", "find", "(I)I"⟩, prog_8_method_5_code, 2, (some .int)), (6, ⟨"WindowCardsModel", "give", "(I)I"⟩, prog_8_method_6_code, 2, (some .int)), (6, ⟨"WindowCardsModel", "set", "(III)I"⟩, prog_8_method_9_code, 4, (some .int)), (6, ⟨"WindowCardsModel", "copy", "(IIIII)I"⟩, prog_8_method_11_code, 8, (some .int)), (6, ⟨"WindowCardsModel", "isSpan", "(III)Z"⟩, prog_8_method_10_code, 4, (some .boolean)), (6, ⟨"WindowCardsModel", "drop", "(I)I"⟩, prog_8_method_12_code, 2, (some .int)), (6, ⟨"WindowCardsModel", "feed", "(JI)I"⟩, prog_8_method_13_code, 5, (some .int)), (6, ⟨"WindowCardsModel", "game", "()I"⟩, prog_8_method_26_code, 4, (some .int)), (6, ⟨"WindowCardsModel", "readsAll", "()Z"⟩, prog_8_method_23_code, 1, (some .boolean)), (6, ⟨"WindowCardsModel", "token", "()V"⟩, prog_8_method_15_code, 1, none), (6, ⟨"WindowCardsModel", "sort", "(I)I"⟩, prog_8_method_14_code, 1, (some .int)), (6, ⟨"WindowCardsModel", "readsTable", "()Z"⟩, prog_8_method_19_code, 3, (some .boolean)), (6, ⟨"WindowCardsModel", "isWord", "(II)Z"⟩, prog_8_method_16_code, 5, (some .boolean)), (6, ⟨"WindowCardsModel", "number", "(I)I"⟩, prog_8_method_18_code, 4, (some .int)), (6, ⟨"WindowCardsModel", "readsSign", "()Z"⟩, prog_8_method_20_code, 1, (some .boolean)), (6, ⟨"WindowCardsModel", "isSign", "()Z"⟩, prog_8_method_17_code, 1, (some .boolean)), (6, ⟨"WindowCardsModel", "readsCard", "()Z"⟩, prog_8_method_22_code, 2, (some .boolean)), (6, ⟨"WindowCardsModel", "readsHoles", "()Z"⟩, prog_8_method_21_code, 4, (some .boolean))]
def x_mt_5 : List (Nat × MethodName × ByteArray × Nat × Option FieldType) := [(6, ⟨"WindowCardsModel", "layTurned", "()V"⟩, prog_8_method_25_code, 2, none), (6, ⟨"WindowCardsModel", "holesOf", "(II)I"⟩, prog_8_method_24_code, 8, (some .int)), (6, ⟨"WindowCardsModel", "has", "(II)Z"⟩, prog_8_method_3_code, 2, (some .boolean)), (6, ⟨"WindowCardsModel", "fault", "()I"⟩, prog_8_method_27_code, 1, (some .int)), (6, ⟨"WindowCardsModel", "holes", "(II)I"⟩, prog_8_method_31_code, 3, (some .int)), (6, ⟨"WindowCardsModel", "isCard", "(I)Z"⟩, prog_8_method_28_code, 2, (some .boolean)), (6, ⟨"WindowCardsModel", "isWay", "(I)Z"⟩, prog_8_method_29_code, 1, (some .boolean)), (6, ⟨"WindowCardsModel", "worth", "(I)I"⟩, prog_8_method_33_code, 2, (some .int)), (6, ⟨"WindowCardsModel", "isPlaces", "(I)Z"⟩, prog_8_method_30_code, 1, (some .boolean)), (6, ⟨"WindowCardsModel", "worthOf", "(I)I"⟩, prog_8_method_32_code, 4, (some .int)), (6, ⟨"WindowCardsModel", "play", "(II)I"⟩, prog_8_method_36_code, 3, (some .int)), (6, ⟨"WindowCardsModel", "isInHand", "(I)Z"⟩, prog_8_method_34_code, 2, (some .boolean)), (6, ⟨"WindowCardsModel", "playOf", "(I)I"⟩, prog_8_method_35_code, 5, (some .int)), (6, ⟨"WindowCardsModel", "plays", "(III)I"⟩, prog_8_method_38_code, 9, (some .int)), (6, ⟨"WindowCardsModel", "refuses", "(II)I"⟩, prog_8_method_37_code, 5, (some .int)), (6, ⟨"WindowCardsModel", "lots", "(II)I"⟩, prog_8_method_39_code, 10, (some .int)), (6, ⟨"WindowCardsModel", "bits", "(I)I"⟩, prog_8_method_4_code, 3, (some .int)), (6, ⟨"WindowCardsModel", "now", "(I)I"⟩, prog_8_method_41_code, 2, (some .int)), (6, ⟨"WindowCardsModel", "isOver", "()Z"⟩, prog_8_method_40_code, 1, (some .boolean)), (6, ⟨"WindowCardsModel", "best", "(I)I"⟩, prog_8_method_45_code, 2, (some .int)), (6, ⟨"WindowCardsModel", "layBest", "()V"⟩, prog_8_method_44_code, 4, none), (6, ⟨"WindowCardsModel", "openLevel", "(III)V"⟩, prog_8_method_42_code, 4, none), (6, ⟨"WindowCardsModel", "goDown", "(I)Z"⟩, prog_8_method_43_code, 5, (some .boolean)), (6, ⟨"WindowCardsModel", "mean", "(III)I"⟩, prog_8_method_47_code, 12, (some .int))]
def x_mt_6 : List (Nat × MethodName × ByteArray × Nat × Option FieldType) := [(6, ⟨"WindowCardsModel", "divisor", "(II)I"⟩, prog_8_method_46_code, 5, (some .int)), (6, ⟨"WindowCardsModel", "fewest", "(II)I"⟩, prog_8_method_50_code, 4, (some .int)), (6, ⟨"WindowCardsModel", "layHeap", "(I)I"⟩, prog_8_method_49_code, 7, (some .int)), (6, ⟨"WindowCardsModel", "least", "(I)I"⟩, prog_8_method_48_code, 1, (some .int)), (6, ⟨"WindowCardsModel", "triples", "(I)I"⟩, prog_8_method_52_code, 6, (some .int)), (6, ⟨"WindowCardsModel", "shuts", "(III)Z"⟩, prog_8_method_51_code, 6, (some .boolean)), (6, ⟨"WindowCardsModel", "alike", "(II)I"⟩, prog_8_method_56_code, 6, (some .int)), (6, ⟨"WindowCardsModel", "waysOf", "(I)I"⟩, prog_8_method_55_code, 6, (some .int)), (6, ⟨"WindowCardsModel", "likeOf", "(I)I"⟩, prog_8_method_54_code, 3, (some .int)), (6, ⟨"WindowCardsModel", "areAlike", "(II)Z"⟩, prog_8_method_53_code, 5, (some .boolean)), (6, ⟨"WindowCardsModel", "fit", "(III)I"⟩, prog_8_method_58_code, 6, (some .int)), (6, ⟨"WindowCardsModel", "fitOf", "(III)I"⟩, prog_8_method_57_code, 5, (some .int)), (6, ⟨"WindowCardsModel", "image", "(I)I"⟩, prog_8_method_60_code, 2, (some .int)), (6, ⟨"WindowCardsModel", "move", "(II)V"⟩, prog_8_method_59_code, 4, none), (6, ⟨"WindowCardsModel", "restore", "(I)I"⟩, prog_8_method_61_code, 2, (some .int)), (6, ⟨"WindowCardsModel", "kind", "(I)I"⟩, prog_8_method_63_code, 2, (some .int)), (6, ⟨"WindowCardsModel", "kindOf", "(I)I"⟩, prog_8_method_62_code, 4, (some .int)), (6, ⟨"WindowCardsModel", "as", "(II)I"⟩, prog_8_method_64_code, 5, (some .int)), (6, ⟨"WindowCardsModel", "ask", "(II)I"⟩, prog_8_method_72_code, 3, (some .int)), (6, ⟨"WindowCardsModel", "sizeOf", "(I)I"⟩, prog_8_method_71_code, 3, (some .int)), (6, ⟨"WindowCardsModel", "leave", "(I)V"⟩, prog_8_method_65_code, 2, none), (6, ⟨"WindowCardsModel", "piercedSize", "(I)I"⟩, prog_8_method_70_code, 3, (some .int)), (6, ⟨"WindowCardsModel", "lentSize", "(I)I"⟩, prog_8_method_66_code, 2, (some .int)), (6, ⟨"WindowCardsModel", "markOf", "(I)I"⟩, prog_8_method_69_code, 4, (some .int))]
def x_mt_7 : List (Nat × MethodName × ByteArray × Nat × Option FieldType) := [(6, ⟨"WindowCardsModel", "piercedMark", "(I)I"⟩, prog_8_method_68_code, 3, (some .int)), (6, ⟨"WindowCardsModel", "lentMark", "(I)I"⟩, prog_8_method_67_code, 2, (some .int)), (6, ⟨"WindowCardsModel", "trace", "(I)I"⟩, prog_8_method_73_code, 2, (some .int)), (6, ⟨"WindowCardsModel", "count", "(I)I"⟩, prog_8_method_74_code, 4, (some .int)), (6, ⟨"WindowCardsModel", "status", "()I"⟩, prog_8_method_75_code, 1, (some .int)), (8, ⟨"java/lang/String", "length", "()I"⟩, prog_11_method_54_code, 1, (some .int)), (8, ⟨"java/lang/String", "coder", "()B"⟩, prog_11_method_152_code, 1, (some .byte)), (8, ⟨"java/lang/String", "charAt", "(I)C"⟩, prog_11_method_56_code, 2, (some .char)), (8, ⟨"java/lang/String", "isLatin1", "()Z"⟩, prog_11_method_154_code, 1, (some .boolean)), (8, ⟨"java/lang/String", "checkIndex", "(II)V"⟩, prog_11_method_155_code, 2, none), (9, ⟨"java/lang/StringLatin1", "charAt", "([BI)C"⟩, prog_12_method_2_code, 2, (some .char)), (10, ⟨"java/lang/Integer", "bitCount", "(I)I"⟩, prog_9_method_49_code, 1, (some .int)), (11, ⟨"java/lang/Math", "abs", "(I)I"⟩, prog_10_method_59_code, 1, (some .int)), (11, ⟨"java/lang/Math", "max", "(II)I"⟩, prog_10_method_65_code, 2, (some .int)), (12, ⟨"java/util/Arrays", "fill", "([II)V"⟩, prog_15_method_103_code, 4, none), (13, ⟨"jdk/internal/util/Preconditions", "checkIndex", "(IILjava/util/function/BiFunction;)I"⟩, prog_16_method_11_code, 3, (some .int)), (7, x, code, 4, ret)]
def x_mt : List (Nat × MethodName × ByteArray × Nat × Option FieldType) := x_mt_0 ++ (x_mt_1 ++ (x_mt_2 ++ (x_mt_3 ++ (x_mt_4 ++ (x_mt_5 ++ (x_mt_6 ++ (x_mt_7)))))))
def x_mw_0 : List (Nat × Nat × Nat × Nat × Nat × Nat) := [(1, 2, 107, 106, 0, 50), (1, 1, 313, 311, 312, 50), (3, 1, 419, 417, 418, 50), (1, 0, 422, 421, 0, 50), (1, 0, 425, 424, 0, 50), (1, 1, 430, 428, 429, 50), (2, 1, 434, 433, 5, 50), (2, 1, 439, 437, 438, 50), (3, 1, 461, 459, 460, 50), (2, 1, 473, 471, 472, 50), (2, 1, 481, 479, 480, 50), (1, 1, 485, 483, 484, 50), (3, 1, 489, 487, 488, 50), (1, 1, 540, 538, 539, 50), (1, 1, 579, 577, 578, 50), (2, 1, 619, 617, 618, 50), (1, 2, 158, 157, 0, 51), (2, 1, 545, 543, 544, 51), (2, 1, 551, 549, 550, 51), (3, 0, 554, 553, 0, 51), (2, 1, 562, 560, 561, 51), (4, 1, 566, 564, 565, 51), (4, 1, 570, 568, 569, 51), (1, 2, 197, 196, 0, 53)]
def x_mw_1 : List (Nat × Nat × Nat × Nat × Nat × Nat) := [(3, 1, 263, 261, 262, 53), (3, 1, 278, 276, 277, 53), (2, 1, 282, 280, 281, 53), (2, 1, 504, 502, 503, 53), (1, 2, 77, 76, 0, 49), (2, 1, 302, 300, 301, 49), (1, 1, 317, 315, 316, 49), (1, 1, 321, 319, 320, 49), (2, 1, 325, 324, 2, 49), (1, 0, 328, 327, 0, 49), (1, 0, 331, 330, 0, 49), (1, 1, 335, 334, 3, 49), (1, 0, 338, 337, 0, 49), (1, 1, 342, 341, 4, 49), (2, 1, 350, 348, 349, 49), (1, 1, 413, 411, 412, 49), (1, 2, 183, 182, 0, 52), (2, 1, 666, 664, 665, 52), (1, 2, 67, 66, 0, 48), (4, 1, 250, 248, 249, 48), (1, 0, 253, 252, 0, 48), (2, 1, 258, 257, 0, 48), (2, 1, 270, 269, 1, 48), (4, 1, 274, 272, 273, 48)]
def x_mw_2 : List (Nat × Nat × Nat × Nat × Nat × Nat) := [(6, 1, 286, 284, 285, 48), (2, 1, 293, 291, 292, 48), (3, 1, 297, 295, 296, 48), (1, 1, 306, 304, 305, 48), (2, 0, 309, 308, 0, 48), (2, 0, 345, 344, 0, 48), (2, 0, 402, 401, 0, 48), (1, 0, 405, 404, 0, 48), (2, 0, 408, 407, 0, 48), (1, 1, 445, 443, 444, 48), (3, 1, 449, 447, 448, 48), (3, 1, 453, 452, 6, 48), (2, 1, 457, 456, 7, 48), (2, 1, 465, 463, 464, 48), (1, 0, 469, 468, 0, 48), (3, 1, 477, 475, 476, 48), (4, 1, 496, 494, 495, 48), (4, 1, 500, 499, 8, 48), (4, 0, 508, 507, 0, 48), (3, 1, 512, 510, 511, 48), (2, 0, 519, 518, 0, 48), (2, 0, 528, 527, 0, 48), (2, 1, 532, 530, 531, 48), (2, 1, 536, 534, 535, 48)]
def x_mw_3 : List (Nat × Nat × Nat × Nat × Nat × Nat) := [(4, 0, 557, 556, 0, 48), (4, 1, 575, 573, 574, 48), (3, 0, 582, 581, 0, 48), (2, 0, 588, 587, 0, 48), (3, 1, 595, 593, 594, 48), (7, 0, 598, 597, 0, 48), (2, 1, 602, 600, 601, 48), (4, 0, 605, 604, 0, 48), (3, 1, 609, 607, 608, 48), (2, 0, 612, 611, 0, 48), (2, 0, 615, 614, 0, 48), (4, 1, 623, 621, 622, 48), (4, 0, 626, 625, 0, 48), (2, 1, 630, 628, 629, 48), (2, 1, 634, 632, 633, 48), (2, 1, 638, 636, 637, 48), (2, 0, 641, 640, 0, 48), (3, 0, 644, 643, 0, 48), (3, 1, 648, 646, 647, 48), (3, 1, 652, 650, 651, 48), (3, 0, 655, 654, 0, 48), (5, 0, 662, 661, 0, 48), (2, 1, 670, 668, 669, 48), (2, 1, 674, 672, 673, 48)]
def x_mw_4 : List (Nat × Nat × Nat × Nat × Nat × Nat) := [(1, 1, 678, 677, 9, 48), (1, 1, 682, 680, 681, 48), (1, 2, 687, 686, 0, 54), (4, 1, 775, 773, 774, 54), (1, 0, 778, 777, 0, 54), (3, 0, 782, 781, 0, 54), (2, 1, 788, 787, 10, 54), (2, 1, 793, 792, 11, 54), (4, 1, 797, 795, 796, 54), (6, 1, 801, 799, 800, 54), (4, 1, 805, 804, 12, 54), (2, 1, 809, 807, 808, 54), (3, 1, 813, 811, 812, 54), (1, 1, 820, 818, 819, 54), (1, 1, 824, 823, 13, 54), (1, 1, 828, 827, 14, 54), (1, 0, 831, 830, 0, 54), (1, 1, 835, 834, 15, 54), (3, 1, 840, 839, 16, 54), (2, 1, 844, 843, 17, 54), (1, 1, 848, 847, 18, 54), (1, 1, 852, 851, 19, 54), (1, 1, 856, 855, 20, 54), (1, 1, 861, 860, 21, 54)]
def x_mw_5 : List (Nat × Nat × Nat × Nat × Nat × Nat) := [(1, 1, 866, 865, 22, 54), (2, 0, 869, 868, 0, 54), (2, 0, 872, 871, 0, 54), (1, 1, 876, 874, 875, 54), (3, 1, 880, 878, 879, 54), (2, 1, 884, 883, 23, 54), (1, 0, 887, 886, 0, 54), (2, 1, 891, 889, 890, 54), (1, 0, 895, 894, 0, 54), (2, 1, 900, 899, 24, 54), (3, 1, 904, 902, 903, 54), (2, 1, 908, 907, 25, 54), (2, 1, 912, 911, 26, 54), (4, 1, 916, 914, 915, 54), (3, 1, 921, 920, 27, 54), (3, 1, 925, 923, 924, 54), (1, 0, 931, 930, 0, 54), (2, 1, 935, 933, 934, 54), (1, 1, 939, 938, 28, 54), (2, 1, 943, 941, 942, 54), (1, 1, 947, 946, 29, 54), (4, 1, 951, 950, 30, 54), (2, 1, 956, 955, 31, 54), (4, 1, 960, 958, 959, 54)]
def x_mw_6 : List (Nat × Nat × Nat × Nat × Nat × Nat) := [(2, 0, 963, 962, 0, 54), (3, 1, 967, 965, 966, 54), (2, 1, 971, 970, 32, 54), (1, 0, 974, 973, 0, 54), (2, 1, 978, 976, 977, 54), (4, 1, 982, 981, 33, 54), (3, 1, 986, 984, 985, 54), (2, 1, 990, 989, 34, 54), (2, 1, 994, 993, 35, 54), (3, 1, 998, 997, 36, 54), (4, 1, 1002, 1000, 1001, 54), (4, 1, 1006, 1005, 37, 54), (2, 1, 1010, 1008, 1009, 54), (3, 1, 1014, 1013, 38, 54), (2, 1, 1018, 1016, 1017, 54), (2, 1, 1022, 1020, 1021, 54), (2, 1, 1026, 1025, 39, 54), (3, 1, 1030, 1028, 1029, 54), (3, 1, 1035, 1033, 1034, 54), (2, 1, 1039, 1038, 40, 54), (2, 1, 1043, 1042, 41, 54), (2, 1, 1047, 1046, 42, 54), (2, 1, 1051, 1050, 43, 54), (2, 1, 1055, 1054, 44, 54)]
def x_mw_7 : List (Nat × Nat × Nat × Nat × Nat × Nat) := [(2, 1, 1059, 1058, 45, 54), (2, 1, 1063, 1062, 46, 54), (2, 1, 1067, 1065, 1066, 54), (2, 1, 1071, 1069, 1070, 54), (1, 1, 1075, 1073, 1074, 54), (1, 1, 354, 352, 353, 57), (1, 1, 358, 356, 357, 57), (2, 1, 364, 362, 363, 57), (1, 1, 368, 366, 367, 57), (2, 0, 374, 373, 0, 57), (2, 0, 371, 370, 0, 58), (1, 0, 522, 521, 0, 61), (1, 0, 585, 584, 0, 62), (2, 0, 591, 590, 0, 62), (2, 0, 266, 265, 0, 55), (3, 0, 379, 378, 0, 59), (1, 0, 0, 0, 0, 0)]
def x_mw : List (Nat × Nat × Nat × Nat × Nat × Nat) := x_mw_0 ++ (x_mw_1 ++ (x_mw_2 ++ (x_mw_3 ++ (x_mw_4 ++ (x_mw_5 ++ (x_mw_6 ++ (x_mw_7)))))))
def x_m0 : Nat × MethodName × ByteArray × Nat × Option FieldType := (0, x, code, 0, none)
def x_me (y : Nat) : Nat × MethodName × ByteArray × Nat × Option FieldType := x_mt.getD y x_m0
def x_cy (y : Nat) : Nat := (x_me y).1
def x_nm (y : Nat) : MethodName := (x_me y).2.1
def x_by (y : Nat) : ByteArray := (x_me y).2.2.1
def x_ml (y : Nat) : Nat := (x_me y).2.2.2.1
def x_rt (y : Nat) : Option FieldType := (x_me y).2.2.2.2
def x_wo (y : Nat) : Nat × Nat × Nat × Nat × Nat × Nat := x_mw.getD y (0, 0, 0, 0, 0, 0)
def x_na (y : Nat) : Nat := (x_wo y).1
/-- 0 static, 1 virtual, 2 a constructor -/
def x_kd (y : Nat) : Nat := (x_wo y).2.1
def x_ft : List (Nat × Nat × Nat × Nat) := [(3, 9, 96, 79), (3, 15, 97, 80), (5, 98, 97, 81), (3, 36, 98, 82), (5, 281, 98, 83), (3, 25, 99, 84), (5, 108, 99, 85), (3, 19, 100, 86), (3, 61, 101, 87), (5, 302, 101, 88), (0, 9, 0, 109), (5, 300, 0, 110), (0, 15, 1, 111), (0, 18, 2, 112), (1, 29, 2, 113), (5, 179, 2, 114), (0, 21, 3, 115), (5, 154, 3, 116), (0, 35, 4, 117), (5, 132, 4, 118), (0, 24, 5, 119), (1, 25, 5, 120), (5, 122, 5, 121), (1, 42, 6, 122), (0, 39, 6, 123), (5, 170, 6, 124), (0, 42, 7, 125), (5, 173, 7, 126), (1, 39, 8, 127), (0, 51, 8, 128), (5, 176, 8, 129), (0, 45, 9, 130), (5, 182, 9, 131), (1, 9, 32, 160), (5, 334, 32, 161), (1, 15, 33, 162), (1, 18, 34, 163), (5, 320, 34, 164), (1, 21, 35, 165), (5, 327, 35, 166), (5, 199, 36, 167), (4, 9, 128, 185), (5, 259, 128, 186), (4, 15, 129, 187), (5, 251, 129, 188), (2, 9, 64, 199), (5, 79, 64, 200), (2, 15, 65, 201), (5, 71, 65, 202), (2, 19, 66, 203), (5, 85, 66, 204), (2, 23, 67, 205), (5, 95, 67, 206), (5, 11, 160, 216), (5, 18, 161, 217), (5, 25, 162, 218), (5, 29, 163, 219), (5, 32, 164, 220), (5, 39, 165, 221), (5, 43, 166, 222), (5, 50, 167, 223), (5, 111, 168, 224), (5, 265, 169, 225), (6, 7, 192, 690), (6, 13, 193, 691), (6, 96, 194, 692), (6, 114, 195, 693), (6, 65, 196, 694), (6, 17, 197, 695), (6, 20, 198, 696), (6, 23, 199, 697), (6, 26, 200, 698), (6, 248, 201, 699), (6, 102, 202, 700), (6, 105, 203, 701), (6, 111, 204, 702), (6, 29, 205, 703), (6, 32, 206, 704), (6, 35, 207, 705), (6, 135, 208, 706), (6, 38, 209, 707), (6, 41, 210, 708), (6, 44, 211, 709), (6, 47, 212, 710), (6, 50, 213, 711), (6, 53, 214, 712), (6, 56, 215, 713), (6, 59, 216, 714), (6, 205, 217, 715), (6, 62, 218, 716), (8, 9, 256, 1077), (8, 15, 257, 1078)]
def x_sf : List (Nat × Nat × Nat × Nat) := [(8, 38, 2, 359), (8, 1053, 3, 375), (5, 346, 0, 656), (5, 349, 1, 658)]
def x_ct : List (Nat × Nat × Nat × Nat × Nat) := [(7, 9, 42, 2, 65), (5, 17, 28, 3, 75), (5, 24, 0, 3, 105), (5, 38, 16, 3, 156), (5, 49, 40, 3, 181), (5, 54, 23, 3, 195), (7, 13, 43, 1, 247), (5, 55, 44, 0, 251), (5, 60, 45, 1, 255), (5, 64, 24, 1, 260), (2, 26, 182, 0, 264), (5, 68, 46, 1, 267), (7, 18, 47, 1, 271), (5, 75, 25, 1, 275), (5, 82, 26, 1, 279), (7, 22, 48, 1, 283), (7, 27, 49, 1, 290), (7, 34, 50, 1, 294), (5, 100, 29, 1, 299), (7, 39, 51, 1, 303), (5, 104, 52, 0, 307), (5, 272, 1, 1, 310), (5, 275, 30, 1, 314), (3, 22, 31, 1, 318), (3, 28, 32, 1, 322), (3, 32, 33, 0, 326), (3, 39, 34, 0, 329), (3, 42, 35, 1, 332), (3, 45, 36, 0, 336), (3, 48, 37, 1, 339), (5, 278, 53, 0, 343), (5, 289, 38, 1, 347), (3, 51, 173, 1, 351), (8, 335, 174, 1, 355), (3, 56, 175, 1, 361), (8, 492, 176, 1, 365), (8, 495, 178, 0, 369), (9, 9, 177, 0, 372), (8, 1059, 183, 0, 377), (5, 293, 31, 1, 399), (5, 296, 54, 0, 400), (5, 305, 55, 0, 403), (5, 284, 56, 0, 406), (5, 311, 39, 1, 410), (5, 314, 2, 1, 416), (0, 28, 3, 0, 420), (0, 32, 4, 0, 423), (5, 115, 5, 1, 427), (0, 48, 6, 1, 431), (5, 118, 7, 1, 436), (7, 44, 57, 1, 442), (7, 48, 58, 1, 446), (5, 125, 59, 1, 450), (5, 230, 60, 1, 454), (5, 128, 8, 1, 458), (7, 53, 61, 1, 462), (5, 134, 62, 0, 467), (5, 137, 9, 1, 470), (7, 57, 63, 1, 474), (5, 140, 10, 1, 478), (0, 69, 11, 1, 482), (5, 143, 12, 1, 486), (0, 73, 10, 1, 490), (0, 60, 8, 1, 491), (0, 77, 9, 1, 492), (7, 61, 64, 1, 493), (5, 146, 65, 1, 497), (5, 269, 27, 1, 501), (5, 150, 66, 0, 506), (7, 65, 67, 1, 509), (5, 158, 11, 1, 514), (5, 166, 68, 0, 517), (5, 205, 179, 0, 520), (5, 317, 69, 0, 526), (7, 69, 70, 1, 529), (7, 73, 71, 1, 533), (5, 185, 13, 1, 537), (0, 64, 179, 0, 541), (5, 189, 17, 1, 542), (1, 33, 182, 0, 547), (5, 191, 18, 1, 548), (1, 45, 19, 0, 552), (5, 195, 72, 0, 555), (5, 324, 20, 1, 559), (5, 330, 21, 1, 563), (5, 336, 22, 1, 567), (1, 49, 20, 1, 571), (7, 77, 73, 1, 572), (5, 202, 14, 1, 576), (5, 210, 74, 0, 580), (5, 214, 180, 0, 583), (5, 219, 75, 0, 586), (5, 340, 181, 0, 589), (7, 81, 76, 1, 592), (5, 222, 77, 0, 596), (7, 85, 78, 1, 599), (5, 226, 79, 0, 603), (7, 89, 80, 1, 606), (5, 233, 81, 0, 610), (5, 343, 82, 0, 613), (5, 237, 15, 1, 616), (7, 93, 83, 1, 620), (5, 240, 84, 0, 624), (7, 97, 85, 1, 627), (7, 101, 86, 1, 631), (7, 105, 87, 1, 635), (5, 244, 88, 0, 639), (5, 247, 89, 0, 642), (7, 109, 90, 1, 645), (7, 113, 91, 1, 649), (5, 252, 92, 0, 653), (5, 255, 93, 0, 660), (5, 352, 41, 1, 663), (7, 117, 94, 1, 667), (7, 121, 95, 1, 671), (5, 262, 96, 1, 675), (7, 125, 97, 1, 679), (7, 12, 98, 2, 685), (7, 17, 99, 1, 772), (6, 76, 100, 0, 776), (6, 72, 101, 0, 780), (6, 83, 102, 1, 785), (6, 87, 103, 1, 790), (7, 21, 104, 1, 794), (7, 26, 105, 1, 798), (6, 90, 106, 1, 802), (7, 31, 107, 1, 806), (7, 38, 108, 1, 810), (7, 43, 109, 1, 817), (6, 155, 110, 1, 821), (6, 117, 111, 1, 825), (6, 108, 112, 0, 829), (6, 142, 113, 1, 832), (6, 121, 114, 1, 837), (6, 125, 115, 1, 841), (6, 128, 116, 1, 845), (6, 132, 117, 1, 849), (6, 145, 118, 1, 853), (6, 139, 119, 1, 858), (6, 159, 120, 1, 863), (6, 151, 121, 0, 867), (6, 148, 122, 0, 870), (7, 47, 123, 1, 873), (7, 52, 124, 1, 877), (6, 164, 125, 1, 881), (6, 167, 126, 0, 885), (7, 56, 127, 1, 888), (6, 171, 128, 0, 893), (6, 174, 129, 1, 897), (7, 60, 130, 1, 901), (6, 177, 131, 1, 905), (6, 180, 132, 1, 909), (7, 64, 133, 1, 913), (6, 185, 134, 1, 918), (7, 68, 135, 1, 922), (6, 194, 136, 0, 929), (7, 72, 137, 1, 932), (6, 197, 138, 1, 936), (7, 76, 139, 1, 940), (6, 211, 140, 1, 944), (6, 201, 141, 1, 948), (6, 208, 142, 1, 953), (7, 80, 143, 1, 957), (6, 214, 144, 0, 961), (7, 84, 145, 1, 964), (6, 220, 146, 1, 968), (6, 217, 147, 0, 972), (7, 88, 148, 1, 975), (6, 223, 149, 1, 979), (7, 92, 150, 1, 983), (6, 229, 151, 1, 987), (6, 232, 152, 1, 991), (6, 226, 153, 1, 995), (7, 96, 154, 1, 999), (6, 235, 155, 1, 1003), (7, 100, 156, 1, 1007), (6, 239, 157, 1, 1011), (7, 104, 158, 1, 1015), (7, 108, 159, 1, 1019), (6, 243, 160, 1, 1023), (7, 112, 161, 1, 1027), (7, 116, 162, 1, 1032), (6, 270, 163, 1, 1036), (6, 251, 164, 1, 1040), (6, 267, 165, 1, 1044), (6, 261, 166, 1, 1048), (6, 264, 167, 1, 1052), (6, 258, 168, 1, 1056), (6, 255, 169, 1, 1060), (7, 120, 170, 1, 1064), (7, 124, 171, 1, 1068), (7, 128, 172, 1, 1072)]
def x_oi : List (Nat × Nat × Nat) := [(5, 1, 68), (3, 3, 78), (0, 3, 108), (1, 3, 159), (4, 3, 184), (2, 3, 198), (6, 1, 688)]
def x_ac : List (Nat × Nat × Nat) := [(5, 89, 287), (0, 54, 440)]
def x_kl : List (Nat × Nat × Nat × Nat) := [(5, 162, 16807, 515), (5, 164, 2147483647, 516), (6, 70, 7, 779), (6, 80, 2, 783), (6, 94, 8, 814), (6, 100, 255, 816), (6, 162, 511, 896), (6, 183, 14, 917), (6, 188, 999999, 926), (6, 190, 16807, 927), (6, 192, 2147483647, 928), (6, 246, 5, 1031), (7, 32, 4294967295, 1076)]
def x_nt : List (Nat × Nat × Nat × Nat × Nat × Nat) := [(7, 7, 5, 63, 64, 48), (5, 9, 2, 71, 194, 53), (5, 15, 3, 73, 74, 49), (5, 22, 0, 103, 104, 50), (5, 36, 1, 154, 155, 51), (5, 47, 4, 179, 180, 52), (7, 10, 6, 683, 684, 54)]
def x_kt : List (Nat × Nat × Int32 × Nat) := [(5, 59, (-1000001), 254), (5, 268, (-1000010), 259), (5, 99, (-1000003), 298), (3, 60, (-1000000), 414), (5, 188, (-1000000), 415), (5, 114, (-1000100), 426), (0, 80, (-1000000), 435), (5, 133, (-1000002), 466), (2, 32, (-1000000), 505), (5, 157, 999999, 513), (10, 265, 1431655765, 523), (10, 266, 858993459, 524), (10, 267, 252645135, 525), (1, 32, (-1000000000), 546), (5, 323, (-1000000000), 558), (6, 16, (-1000000), 689), (6, 82, (-1000001), 784), (6, 69, (-1000010), 789), (6, 99, (-1000003), 815), (6, 120, 5638196, 836), (6, 138, 149539, 857), (6, 158, (-1000100), 862), (6, 170, (-1000002), 892), (6, 200, (-268435456), 952)]
def x_sd (j : Nat) : String × String × String := [("WindowCards", "SIZE_BODIES", "[I"), ("WindowCards", "MARK_BODIES", "[I"), ("java/lang/String", "COMPACT_STRINGS", "Z"), ("jdk/internal/util/Preconditions", "SIOOBE_FORMATTER", "Ljava/util/function/BiFunction;")].getD j ("", "", "")
def x_aoR : Nat := 72
def x_aoG : Nat := 153
def x_aci : Nat := 102
def x_oiI : Nat := 69
def x_oiC : Nat := 70
def x_acN : Nat := 289
def x_acS : Nat := 288
def x_acI : Nat := 56
def x_nm_all : Nat := 185
def x_abs : Nat := 180
def x_max : Nat := 181
/-- a word stands at a place, and may be handed on to a callee -/
def x_at (i : Nat) (w : Jvm.Cond) : Bool := decide (lw_tbl[i]? = some w) && goodWord w
def x_TB : List Jvm.Cond := lw_tbl.filter goodWord
theorem x_at_in {i : Nat} {w : Jvm.Cond} (h : x_at i w = true) : w ∈ x_TB := by
  simp only [x_at, Bool.and_eq_true, decide_eq_true_eq] at h
  exact List.mem_filter.mpr ⟨List.mem_of_getElem? h.1, h.2⟩
theorem x_TB_good : GoodIn x_TB x_TB := fun w hw => ⟨hw, good_of_word (List.mem_filter.mp hw).2⟩
end
section
theorem x_ft_ok : x_ft.all (fun r => x_at r.2.2.2 (.fieldLink (x_cn r.1) r.2.1 (x_fd r.2.2.1).1 (x_fd r.2.2.1).2.1 (x_fd r.2.2.1).2.2)) = true := by decide +kernel
theorem x_sf_ok : x_sf.all (fun r => x_at r.2.2.2 (.fieldLink (x_cn r.1) r.2.1 (x_sd r.2.2.1).1 (x_sd r.2.2.1).2.1 (x_sd r.2.2.1).2.2)) = true := by decide +kernel
/-- words that hold from the start but are handed on by hand -/
def x_ne : List (Nat × Nat × Nat) := (x_ct.filter fun r => r.2.2.2.1 == 3).map fun r => (r.2.1, r.2.2.1, r.2.2.2.2)
theorem x_ne_ok : x_ne.all (fun r => decide (lw_tbl[r.2.2]? = some (.methodLinkNest "WindowCards" r.1 (x_nm r.2.1) "WindowCards"))) = true := by decide +kernel
theorem x_ct_ok : x_ct.all (fun r => decide (r.2.2.1 < x_nm_all) && (if r.2.2.2.1 = 3 then decide (x_kd r.2.2.1 = 2) && decide (r.1 = 5) else decide (x_kd r.2.2.1 = r.2.2.2.1) && x_at r.2.2.2.2 (.methodLink (x_cn r.1) r.2.1 (x_nm r.2.2.1)))) = true := by decide +kernel
theorem x_oi_ok : x_oi.all (fun r => x_at r.2.2 (.methodLink (x_cn r.1) r.2.1 Lib.objectInit)) = true := by decide +kernel
theorem x_ac_ok : x_ac.all (fun r => x_at r.2.2 (.methodLink (x_cn r.1) r.2.1 arraycopyName)) = true := by decide +kernel
theorem x_kt_ok : x_kt.all (fun r => x_at r.2.2.2 (.constant (x_cn r.1) r.2.1 r.2.2.1)) = true := by decide +kernel
theorem x_kl_ok : x_kl.all (fun r => x_at r.2.2.2 (.constantLong (x_cn r.1) r.2.1 (Int64.ofNat r.2.2.1))) = true := by decide +kernel
theorem x_nt_ok : x_nt.all (fun r => decide (r.2.2.1 < 7) && x_at r.2.2.2.1 (.classLink (x_cn r.1) r.2.1 (x_cn r.2.2.1)) && x_at r.2.2.2.2.1 (.instantiable (x_cn r.2.2.1) (x_N r.2.2.1)) && x_at r.2.2.2.2.2 (.initialized (x_cn r.2.2.1))) = true := by decide +kernel
theorem x_ao_ok : (decide (lw_tbl[x_aoR]? = some (.arrayOver (.object RX2))) && decide (lw_tbl[x_aoG]? = some (.arrayOver (.object RX0))) && x_at x_aci (.arrayClass .int)) = true := by decide +kernel
theorem x_oj_ok : (x_at x_oiI (.instanceMethod Lib.objectInit) && x_at x_oiC (.code Lib.objectInit ⟨#[0xb1]⟩ 1 none)) = true := by decide +kernel
theorem x_an_ok : (x_at x_acN (.native arraycopyName) && x_at x_acS (.static arraycopyName) && x_at x_acI (.initialized "java/lang/System")) = true := by decide +kernel
end
section
/-- what is said of the y-th method -/
def x_mok (y : Nat) : Bool := x_at (x_wo y).2.2.1 (.code (x_nm y) (x_by y) (x_ml y) (x_rt y)) && x_at (x_wo y).2.2.2.1 (if x_kd y = 0 then .static (x_nm y) else .instanceMethod (x_nm y)) && (decide (x_kd y ≠ 1) || x_at (x_wo y).2.2.2.2.1 (.selects (x_cn (x_cy y)) (x_nm y) (x_nm y))) && x_at (x_wo y).2.2.2.2.2 (.initialized (x_nm y).cls) && plainName (x_nm y).cls && decide ((x_nm y).cls ≠ "java/lang/invoke/MethodHandle") && decide ((x_nm y).cls ≠ "java/lang/invoke/VarHandle") && decide ((parseMethodDescriptor (x_nm y).desc).map (fun d => d.parameters.length + (if x_kd y = 0 then 0 else 1)) = some (x_na y)) && decide ((x_nm y).cls = x_cn (x_cy y)) && decide (x_ml y ≤ 41) && (decide (x_kd y ≠ 2) || (decide ((x_nm y).name = "<init>") && decide (x_rt y = none)))
theorem x_ma_ok : (decide (x_nm x_abs = Lib.Math.abs.name) && decide (x_nm x_max = Lib.Math.max.name) && x_at (x_wo x_abs).2.2.1 (.code Lib.Math.abs.name Lib.Math.abs.code 1 (some .int)) && x_at (x_wo x_max).2.2.1 (.code Lib.Math.max.name Lib.Math.max.code 2 (some .int)) && x_at (x_wo x_abs).2.2.2.1 (.static Lib.Math.abs.name) && x_at (x_wo x_max).2.2.2.1 (.static Lib.Math.max.name) && x_at (x_wo x_abs).2.2.2.2.2 (.initialized "java/lang/Math")) = true := by decide +kernel
theorem x_mok_0 : ((List.range 6).map (· + 0)).all x_mok = true := by decide +kernel
theorem x_mok_6 : ((List.range 6).map (· + 6)).all x_mok = true := by decide +kernel
theorem x_mok_12 : ((List.range 6).map (· + 12)).all x_mok = true := by decide +kernel
theorem x_mok_18 : ((List.range 6).map (· + 18)).all x_mok = true := by decide +kernel
theorem x_mok_24 : ((List.range 6).map (· + 24)).all x_mok = true := by decide +kernel
theorem x_mok_30 : ((List.range 6).map (· + 30)).all x_mok = true := by decide +kernel
theorem x_mok_36 : ((List.range 6).map (· + 36)).all x_mok = true := by decide +kernel
theorem x_mok_42 : ((List.range 6).map (· + 42)).all x_mok = true := by decide +kernel
theorem x_mok_48 : ((List.range 6).map (· + 48)).all x_mok = true := by decide +kernel
theorem x_mok_54 : ((List.range 6).map (· + 54)).all x_mok = true := by decide +kernel
theorem x_mok_60 : ((List.range 6).map (· + 60)).all x_mok = true := by decide +kernel
theorem x_mok_66 : ((List.range 6).map (· + 66)).all x_mok = true := by decide +kernel
theorem x_mok_72 : ((List.range 6).map (· + 72)).all x_mok = true := by decide +kernel
theorem x_mok_78 : ((List.range 6).map (· + 78)).all x_mok = true := by decide +kernel
theorem x_mok_84 : ((List.range 6).map (· + 84)).all x_mok = true := by decide +kernel
theorem x_mok_90 : ((List.range 6).map (· + 90)).all x_mok = true := by decide +kernel
theorem x_mok_96 : ((List.range 6).map (· + 96)).all x_mok = true := by decide +kernel
theorem x_mok_102 : ((List.range 6).map (· + 102)).all x_mok = true := by decide +kernel
theorem x_mok_108 : ((List.range 6).map (· + 108)).all x_mok = true := by decide +kernel
theorem x_mok_114 : ((List.range 6).map (· + 114)).all x_mok = true := by decide +kernel
theorem x_mok_120 : ((List.range 6).map (· + 120)).all x_mok = true := by decide +kernel
theorem x_mok_126 : ((List.range 6).map (· + 126)).all x_mok = true := by decide +kernel
theorem x_mok_132 : ((List.range 6).map (· + 132)).all x_mok = true := by decide +kernel
theorem x_mok_138 : ((List.range 6).map (· + 138)).all x_mok = true := by decide +kernel
theorem x_mok_144 : ((List.range 6).map (· + 144)).all x_mok = true := by decide +kernel
theorem x_mok_150 : ((List.range 6).map (· + 150)).all x_mok = true := by decide +kernel
theorem x_mok_156 : ((List.range 6).map (· + 156)).all x_mok = true := by decide +kernel
theorem x_mok_162 : ((List.range 6).map (· + 162)).all x_mok = true := by decide +kernel
theorem x_mok_168 : ((List.range 1).map (· + 168)).all x_mok = true := by decide +kernel
theorem x_mok_169 : ((List.range 1).map (· + 169)).all x_mok = true := by decide +kernel
theorem x_mok_170 : ((List.range 1).map (· + 170)).all x_mok = true := by decide +kernel
theorem x_mok_171 : ((List.range 1).map (· + 171)).all x_mok = true := by decide +kernel
theorem x_mok_172 : ((List.range 1).map (· + 172)).all x_mok = true := by decide +kernel
theorem x_mok_173 : ((List.range 1).map (· + 173)).all x_mok = true := by decide +kernel
theorem x_mok_174 : ((List.range 1).map (· + 174)).all x_mok = true := by decide +kernel
theorem x_mok_175 : ((List.range 1).map (· + 175)).all x_mok = true := by decide +kernel
theorem x_mok_176 : ((List.range 1).map (· + 176)).all x_mok = true := by decide +kernel
theorem x_mok_177 : ((List.range 1).map (· + 177)).all x_mok = true := by decide +kernel
theorem x_mok_178 : ((List.range 1).map (· + 178)).all x_mok = true := by decide +kernel
theorem x_mok_179 : ((List.range 1).map (· + 179)).all x_mok = true := by decide +kernel
theorem x_mok_182 : ((List.range 1).map (· + 182)).all x_mok = true := by decide +kernel
theorem x_mok_183 : ((List.range 1).map (· + 183)).all x_mok = true := by decide +kernel
theorem x_mok_at {z : Nat} (hz : z < 184) (h1 : z ≠ x_abs) (h2 : z ≠ x_max) : x_mok z = true := by
  have h1 : z ≠ 180 := h1
  have h2 : z ≠ 181 := h2
  by_cases g0 : 0 ≤ z ∧ z < 6
  · exact List.all_eq_true.mp x_mok_0 z (List.mem_map.mpr ⟨z - 0, List.mem_range.mpr (by omega), by omega⟩)
  by_cases g6 : 6 ≤ z ∧ z < 12
  · exact List.all_eq_true.mp x_mok_6 z (List.mem_map.mpr ⟨z - 6, List.mem_range.mpr (by omega), by omega⟩)
  by_cases g12 : 12 ≤ z ∧ z < 18
  · exact List.all_eq_true.mp x_mok_12 z (List.mem_map.mpr ⟨z - 12, List.mem_range.mpr (by omega), by omega⟩)
  by_cases g18 : 18 ≤ z ∧ z < 24
  · exact List.all_eq_true.mp x_mok_18 z (List.mem_map.mpr ⟨z - 18, List.mem_range.mpr (by omega), by omega⟩)
  by_cases g24 : 24 ≤ z ∧ z < 30
  · exact List.all_eq_true.mp x_mok_24 z (List.mem_map.mpr ⟨z - 24, List.mem_range.mpr (by omega), by omega⟩)
  by_cases g30 : 30 ≤ z ∧ z < 36
  · exact List.all_eq_true.mp x_mok_30 z (List.mem_map.mpr ⟨z - 30, List.mem_range.mpr (by omega), by omega⟩)
  by_cases g36 : 36 ≤ z ∧ z < 42
  · exact List.all_eq_true.mp x_mok_36 z (List.mem_map.mpr ⟨z - 36, List.mem_range.mpr (by omega), by omega⟩)
  by_cases g42 : 42 ≤ z ∧ z < 48
  · exact List.all_eq_true.mp x_mok_42 z (List.mem_map.mpr ⟨z - 42, List.mem_range.mpr (by omega), by omega⟩)
  by_cases g48 : 48 ≤ z ∧ z < 54
  · exact List.all_eq_true.mp x_mok_48 z (List.mem_map.mpr ⟨z - 48, List.mem_range.mpr (by omega), by omega⟩)
  by_cases g54 : 54 ≤ z ∧ z < 60
  · exact List.all_eq_true.mp x_mok_54 z (List.mem_map.mpr ⟨z - 54, List.mem_range.mpr (by omega), by omega⟩)
  by_cases g60 : 60 ≤ z ∧ z < 66
  · exact List.all_eq_true.mp x_mok_60 z (List.mem_map.mpr ⟨z - 60, List.mem_range.mpr (by omega), by omega⟩)
  by_cases g66 : 66 ≤ z ∧ z < 72
  · exact List.all_eq_true.mp x_mok_66 z (List.mem_map.mpr ⟨z - 66, List.mem_range.mpr (by omega), by omega⟩)
  by_cases g72 : 72 ≤ z ∧ z < 78
  · exact List.all_eq_true.mp x_mok_72 z (List.mem_map.mpr ⟨z - 72, List.mem_range.mpr (by omega), by omega⟩)
  by_cases g78 : 78 ≤ z ∧ z < 84
  · exact List.all_eq_true.mp x_mok_78 z (List.mem_map.mpr ⟨z - 78, List.mem_range.mpr (by omega), by omega⟩)
  by_cases g84 : 84 ≤ z ∧ z < 90
  · exact List.all_eq_true.mp x_mok_84 z (List.mem_map.mpr ⟨z - 84, List.mem_range.mpr (by omega), by omega⟩)
  by_cases g90 : 90 ≤ z ∧ z < 96
  · exact List.all_eq_true.mp x_mok_90 z (List.mem_map.mpr ⟨z - 90, List.mem_range.mpr (by omega), by omega⟩)
  by_cases g96 : 96 ≤ z ∧ z < 102
  · exact List.all_eq_true.mp x_mok_96 z (List.mem_map.mpr ⟨z - 96, List.mem_range.mpr (by omega), by omega⟩)
  by_cases g102 : 102 ≤ z ∧ z < 108
  · exact List.all_eq_true.mp x_mok_102 z (List.mem_map.mpr ⟨z - 102, List.mem_range.mpr (by omega), by omega⟩)
  by_cases g108 : 108 ≤ z ∧ z < 114
  · exact List.all_eq_true.mp x_mok_108 z (List.mem_map.mpr ⟨z - 108, List.mem_range.mpr (by omega), by omega⟩)
  by_cases g114 : 114 ≤ z ∧ z < 120
  · exact List.all_eq_true.mp x_mok_114 z (List.mem_map.mpr ⟨z - 114, List.mem_range.mpr (by omega), by omega⟩)
  by_cases g120 : 120 ≤ z ∧ z < 126
  · exact List.all_eq_true.mp x_mok_120 z (List.mem_map.mpr ⟨z - 120, List.mem_range.mpr (by omega), by omega⟩)
  by_cases g126 : 126 ≤ z ∧ z < 132
  · exact List.all_eq_true.mp x_mok_126 z (List.mem_map.mpr ⟨z - 126, List.mem_range.mpr (by omega), by omega⟩)
  by_cases g132 : 132 ≤ z ∧ z < 138
  · exact List.all_eq_true.mp x_mok_132 z (List.mem_map.mpr ⟨z - 132, List.mem_range.mpr (by omega), by omega⟩)
  by_cases g138 : 138 ≤ z ∧ z < 144
  · exact List.all_eq_true.mp x_mok_138 z (List.mem_map.mpr ⟨z - 138, List.mem_range.mpr (by omega), by omega⟩)
  by_cases g144 : 144 ≤ z ∧ z < 150
  · exact List.all_eq_true.mp x_mok_144 z (List.mem_map.mpr ⟨z - 144, List.mem_range.mpr (by omega), by omega⟩)
  by_cases g150 : 150 ≤ z ∧ z < 156
  · exact List.all_eq_true.mp x_mok_150 z (List.mem_map.mpr ⟨z - 150, List.mem_range.mpr (by omega), by omega⟩)
  by_cases g156 : 156 ≤ z ∧ z < 162
  · exact List.all_eq_true.mp x_mok_156 z (List.mem_map.mpr ⟨z - 156, List.mem_range.mpr (by omega), by omega⟩)
  by_cases g162 : 162 ≤ z ∧ z < 168
  · exact List.all_eq_true.mp x_mok_162 z (List.mem_map.mpr ⟨z - 162, List.mem_range.mpr (by omega), by omega⟩)
  by_cases g168 : 168 ≤ z ∧ z < 169
  · exact List.all_eq_true.mp x_mok_168 z (List.mem_map.mpr ⟨z - 168, List.mem_range.mpr (by omega), by omega⟩)
  by_cases g169 : 169 ≤ z ∧ z < 170
  · exact List.all_eq_true.mp x_mok_169 z (List.mem_map.mpr ⟨z - 169, List.mem_range.mpr (by omega), by omega⟩)
  by_cases g170 : 170 ≤ z ∧ z < 171
  · exact List.all_eq_true.mp x_mok_170 z (List.mem_map.mpr ⟨z - 170, List.mem_range.mpr (by omega), by omega⟩)
  by_cases g171 : 171 ≤ z ∧ z < 172
  · exact List.all_eq_true.mp x_mok_171 z (List.mem_map.mpr ⟨z - 171, List.mem_range.mpr (by omega), by omega⟩)
  by_cases g172 : 172 ≤ z ∧ z < 173
  · exact List.all_eq_true.mp x_mok_172 z (List.mem_map.mpr ⟨z - 172, List.mem_range.mpr (by omega), by omega⟩)
  by_cases g173 : 173 ≤ z ∧ z < 174
  · exact List.all_eq_true.mp x_mok_173 z (List.mem_map.mpr ⟨z - 173, List.mem_range.mpr (by omega), by omega⟩)
  by_cases g174 : 174 ≤ z ∧ z < 175
  · exact List.all_eq_true.mp x_mok_174 z (List.mem_map.mpr ⟨z - 174, List.mem_range.mpr (by omega), by omega⟩)
  by_cases g175 : 175 ≤ z ∧ z < 176
  · exact List.all_eq_true.mp x_mok_175 z (List.mem_map.mpr ⟨z - 175, List.mem_range.mpr (by omega), by omega⟩)
  by_cases g176 : 176 ≤ z ∧ z < 177
  · exact List.all_eq_true.mp x_mok_176 z (List.mem_map.mpr ⟨z - 176, List.mem_range.mpr (by omega), by omega⟩)
  by_cases g177 : 177 ≤ z ∧ z < 178
  · exact List.all_eq_true.mp x_mok_177 z (List.mem_map.mpr ⟨z - 177, List.mem_range.mpr (by omega), by omega⟩)
  by_cases g178 : 178 ≤ z ∧ z < 179
  · exact List.all_eq_true.mp x_mok_178 z (List.mem_map.mpr ⟨z - 178, List.mem_range.mpr (by omega), by omega⟩)
  by_cases g179 : 179 ≤ z ∧ z < 180
  · exact List.all_eq_true.mp x_mok_179 z (List.mem_map.mpr ⟨z - 179, List.mem_range.mpr (by omega), by omega⟩)
  by_cases g182 : 182 ≤ z ∧ z < 183
  · exact List.all_eq_true.mp x_mok_182 z (List.mem_map.mpr ⟨z - 182, List.mem_range.mpr (by omega), by omega⟩)
  by_cases g183 : 183 ≤ z ∧ z < 184
  · exact List.all_eq_true.mp x_mok_183 z (List.mem_map.mpr ⟨z - 183, List.mem_range.mpr (by omega), by omega⟩)
  exact absurd rfl (by omega : ¬ z = z)
theorem x_ct_z : x_ct.all (fun r => decide (r.2.2.1 < 184)) = true := by decide +kernel
theorem x_kd_1 : ((List.range 184).all fun z => decide (x_kd z ≠ 1) || decide (x_cy z < 7) || decide (x_cy z = 8)) = true := by decide +kernel
theorem x_kd_am : x_kd x_abs = 0 ∧ x_kd x_max = 0 := by decide +kernel
theorem x_in_u : ((List.range 7).all fun c => (u_ws (x_cn c) (x_T c) (x_N c)).all fun w => decide (w ∈ lw_tbl) && goodWord w) = true := by decide +kernel
end
section
/-! THE SMALL MACHINE: numbers of places instead of addresses, a list of cells, instructions whose links are resolved by the tables of part 01 -/
abbrev x_C : Type := Nat × List Value
abbrev x_H : Type := List x_C
def x_cat (l : List Value) : Nat := (l.map fun v => v.category).sum
def x_sz (h : x_H) : Nat := (h.map fun c => c.2.length).sum
def x_clr (L : List Value) : Nat → List Value
  | 0 => L
  | j + 1 => match L[j]? with
    | some v => if v.category = 2 then L.set j .null else L
    | none => L
def x_st1 (L : List Value) (i : Nat) (v : Value) : List Value := (x_clr L i).set i v
def x_st2 (L : List Value) (i : Nat) (v : Value) : List Value := (x_st1 L i v).set (i + 1) .null
def x_ent : List Value → List Value
  | [] => []
  | v :: vs => if v.category = 2 then v :: .null :: x_ent vs else v :: x_ent vs
def x_loc (n : Nat) (vs : List Value) : List Value := x_ent vs ++ List.replicate (n - (x_ent vs).length) .null
def x_lk (T : List (Nat × Nat × Nat × Nat)) (c i : Nat) : Option Nat := (T.find? fun r => r.1 == c && r.2.1 == i).map fun r => r.2.2.1
def x_k (c i : Nat) : Option Int32 := (x_kt.find? fun r => r.1 == c && r.2.1 == i).map fun r => r.2.2.1
def x_call (c i : Nat) : Option (Nat × Nat) := (x_ct.find? fun r => r.1 == c && r.2.1 == i).map fun r => (r.2.2.1, r.2.2.2.1)
def x_new (c i : Nat) : Option Nat := (x_nt.find? fun r => r.1 == c && r.2.1 == i).map fun r => r.2.2.1
def x_is (T : List (Nat × Nat × Nat)) (c i : Nat) : Bool := T.any fun r => r.1 == c && r.2.1 == i
def x_to (pc : Nat) (off : Int) : Option Nat := if 0 ≤ (pc : Int) + off then some ((pc : Int) + off).toNat else none
def x_sw : Instr → Bool
  | .tableswitch .. | .lookupswitch .. => true
  | _ => false
def x_len : Instr → Nat
  | .iload _ | .istore _ | .aload _ | .astore _ | .lload _ | .lstore _ | .bipush _ | .ldc _ | .newarray _ => 2
  | .sipush _ | .ldc_w _ | .ldc2_w _ | .iinc _ _ | .ifCond _ _ | .if_icmp _ _ | .goto _ | .getfield _ | .putfield _ | .getstatic _ | .invokevirtual _ | .invokestatic _ | .invokespecial _ | .new _ | .anewarray _ => 3
  | _ => 1
/-- an instruction of class c at pc, its links resolved; '.d2f' is Object.<init>, '.d2i' is arraycopy, '.f2d' Math.abs, '.f2i' Math.max, '.putstatic' a final field's first write -/
def x_res (c pc : Nat) (r : Instr) : Option Instr := match r with
  | .iconst v => some (.iconst v)
  | .bipush v => some (.iconst (Int8.ofInt v).toInt32.toInt)
  | .sipush v => some (.iconst (Int16.ofInt v).toInt32.toInt)
  | .ldc k => match x_k c k with
    | some v => some (.iconst v.toInt)
    | none => if c = 5 ∧ k = 287 then some (.ldc 3) else if c = 5 ∧ k = 309 then some (.ldc 4) else none
  | .ldc_w k => match x_k c k with
    | some v => some (.iconst v.toInt)
    | none => none
  | .lconst l => some (.ldc2_w l)
  | .ldc2_w k => match x_lk x_kl c k with
    | some n => some (.ldc2_w n)
    | none => none
  | .iload_n n => some (.iload n)
  | .iload n => some (.iload n)
  | .lload_n n => some (.lload n)
  | .lload n => some (.lload n)
  | .aload_n n => some (.aload n)
  | .aload n => some (.aload n)
  | .istore_n n => some (.istore n)
  | .istore n => some (.istore n)
  | .lstore_n n => some (.lstore n)
  | .lstore n => some (.lstore n)
  | .astore_n n => some (.astore n)
  | .astore n => some (.astore n)
  | .iinc k v => some (.iinc k v)
  | .ifCond q off => match x_to pc off with
    | some t => some (.ifCond q (Int.ofNat t))
    | none => none
  | .if_icmp q off => match x_to pc off with
    | some t => some (.if_icmp q (Int.ofNat t))
    | none => none
  | .goto off => match x_to pc off with
    | some t => some (.goto (Int.ofNat t))
    | none => none
  | .tableswitch d lo hi offs => some (.tableswitch d lo hi offs)
  | .lookupswitch d ps => some (.lookupswitch d ps)
  | .getfield k => match x_lk x_ft c k with
    | some e => some (.getfield e)
    | none => none
  | .putfield k => match x_lk x_ft c k with
    | some e => if e / 32 < 7 then (if x_ff e = true then (if (x_fd e).1 = x_cn c then some (.putstatic e) else none) else some (.putfield e)) else none
    | none => none
  | .getstatic k => match x_lk x_sf c k with
    | some j => some (.getstatic j)
    | none => none
  | .invokevirtual k => match x_call c k with
    | some (z, 1) => some (.invokevirtual z)
    | _ => none
  | .invokestatic k => if x_is x_ac c k = true then some .d2i else match x_call c k with
    | some (z, 0) => if z = x_abs then some .f2d else if z = x_max then some .f2i else some (.invokestatic z)
    | _ => none
  | .invokespecial k => if x_is x_oi c k = true then some .d2f else match x_call c k with
    | some (z, 2) => some (.invokespecial z)
    | some (z, 3) => some (.invokespecial z)
    | _ => none
  | .new k => match x_new c k with
    | some ci => some (.new ci)
    | none => none
  | .newarray .int => some (.newarray .int)
  | .anewarray k => match x_new c k with
    | some 2 => some (.anewarray 2)
    | some 0 => some (.anewarray 0)
    | _ => none
  | .iadd => some .iadd
  | .isub => some .isub
  | .imul => some .imul
  | .idiv => some .idiv
  | .irem => some .irem
  | .ineg => some .ineg
  | .iand => some .iand
  | .ior => some .ior
  | .ixor => some .ixor
  | .ishl => some .ishl
  | .ishr => some .ishr
  | .iushr => some .iushr
  | .ladd => some .ladd
  | .lmul => some .lmul
  | .lrem => some .lrem
  | .land => some .land
  | .lor => some .lor
  | .lshl => some .lshl
  | .lshr => some .lshr
  | .lcmp => some .lcmp
  | .i2l => some .i2l
  | .l2i => some .l2i
  | .i2b => some .i2b
  | .i2s => some .i2s
  | .i2c => some .i2c
  | .dup => some .dup
  | .dup2 => some .dup2
  | .pop => some .pop
  | .iaload => some .iaload
  | .baload => some .baload
  | .aaload => some .aaload
  | .iastore => some .iastore
  | .aastore => some .aastore
  | .arraylength => some .arraylength
  | .ireturn => some .ireturn
  | .return_ => some .return_
  | _ => none
/-- the instruction at pc of method y, and the pc behind it -/
def x_fe (y pc : Nat) : Option (Instr × Nat) := match decode (x_by y) pc with
  | .ok (r, n) => if x_sw r || n == x_len r then (match x_res (x_cy y) pc r with
    | some i => some (i, pc + n)
    | none => none) else none
  | _ => none
abbrev x_Z : Type := Option (Nat × List Value × List Value × x_H)
def x_bi (S : List Value) (f : Int32 → Int32 → Option Int32) (nx : Nat) (L : List Value) (h : x_H) : x_Z := match S with
  | .int y :: .int x :: st => match f x y with
    | some v => some (nx, L, .int v :: st, h)
    | none => none
  | _ => none
def x_un (S : List Value) (f : Int32 → Int32) (nx : Nat) (L : List Value) (h : x_H) : x_Z := match S with
  | .int x :: st => some (nx, L, .int (f x) :: st, h)
  | _ => none
def x_bl (S : List Value) (f : Int64 → Int64 → Option Int64) (nx : Nat) (L : List Value) (h : x_H) : x_Z := match S with
  | .long y :: .long x :: st => match f x y with
    | some v => some (nx, L, .long v :: st, h)
    | none => none
  | _ => none
def x_cc (q : ClassFile.Cond) (x y : Int32) : Bool := match q with
  | .eq => decide (x = y)
  | .ne => decide (¬ x = y)
  | .lt => decide (x < y)
  | .ge => decide (y ≤ x)
  | .gt => decide (y < x)
  | .le => decide (x ≤ y)
def x_fit (e : Nat) (v : Value) : Bool := decide (v ≠ .ref 7) && decide (narrow (x_ty (e / 32) (e % 32)) v = v) && fits (x_ty (e / 32) (e % 32)) v
def x_def (c : Nat) : List Value := (List.range (x_N c)).map fun k => defaultValue (x_ty c k)
def x_cpy (f g : List Value) (sp dp n : Nat) : List Value := (List.range g.length).map fun k => if dp ≤ k ∧ k < dp + n then f.getD (sp + (k - dp)) .null else g.getD k .null
/-- one step of no call and no return; ini: in a constructor -/
def x_step (ini : Bool) (i : Instr) (pc nx : Nat) (L S : List Value) (h : x_H) : x_Z := match i with
  | .iconst v => some (nx, L, .int (Int32.ofInt v) :: S, h)
  | .ldc2_w n => some (nx, L, .long (Int64.ofNat n) :: S, h)
  | .ldc p => some (nx, L, .ref p :: S, h)
  | .iload k => match L[k]? with
    | some (.int x) => some (nx, L, .int x :: S, h)
    | _ => none
  | .lload k => match L[k]? with
    | some (.long x) => some (nx, L, .long x :: S, h)
    | _ => none
  | .aload k => match L[k]? with
    | some (.ref p) => if p = 7 then none else some (nx, L, .ref p :: S, h)
    | _ => none
  | .istore k => match S with
    | .int x :: st => if k < L.length then some (nx, x_st1 L k (.int x), st, h) else none
    | _ => none
  | .astore k => match S with
    | .ref p :: st => if k < L.length ∧ p ≠ 7 then some (nx, x_st1 L k (.ref p), st, h) else none
    | _ => none
  | .lstore k => match S with
    | .long x :: st => if k + 1 < L.length then some (nx, x_st2 L k (.long x), st, h) else none
    | _ => none
  | .iinc k v => match L[k]? with
    | some (.int x) => some (nx, x_st1 L k (.int (x + Int32.ofInt v)), S, h)
    | _ => none
  | .iadd => x_bi S (fun x y => some (x + y)) nx L h
  | .isub => x_bi S (fun x y => some (x - y)) nx L h
  | .imul => x_bi S (fun x y => some (x * y)) nx L h
  | .idiv => x_bi S (fun x y => if y = 0 then none else some (x / y)) nx L h
  | .irem => x_bi S (fun x y => if y = 0 then none else some (x - x / y * y)) nx L h
  | .iand => x_bi S (fun x y => some (x &&& y)) nx L h
  | .ior => x_bi S (fun x y => some (x ||| y)) nx L h
  | .ixor => x_bi S (fun x y => some (x ^^^ y)) nx L h
  | .ishl => x_bi S (fun x y => some (x <<< (y &&& 31))) nx L h
  | .ishr => x_bi S (fun x y => some (x >>> (y &&& 31))) nx L h
  | .iushr => x_bi S (fun x y => some (x.toUInt32 >>> (y.toUInt32 &&& Int32.toUInt32 31)).toInt32) nx L h
  | .ineg => x_un S (fun x => -x) nx L h
  | .i2b => x_un S (fun x => x.toInt8.toInt32) nx L h
  | .i2s => x_un S (fun x => x.toInt16.toInt32) nx L h
  | .i2c => x_un S (fun x => (x.toUInt32 % 65536).toInt32) nx L h
  | .ladd => x_bl S (fun x y => some (x + y)) nx L h
  | .lmul => x_bl S (fun x y => some (x * y)) nx L h
  | .land => x_bl S (fun x y => some (x &&& y)) nx L h
  | .lor => x_bl S (fun x y => some (x ||| y)) nx L h
  | .lrem => x_bl S (fun x y => if y = 0 then none else some (x - x / y * y)) nx L h
  | .lcmp => match S with
    | .long y :: .long x :: st => some (nx, L, .int (lg_cmp x y) :: st, h)
    | _ => none
  | .lshl => match S with
    | .int y :: .long x :: st => some (nx, L, .long (x <<< (y.toInt64 &&& 63)) :: st, h)
    | _ => none
  | .lshr => match S with
    | .int y :: .long x :: st => some (nx, L, .long (x >>> (y.toInt64 &&& 63)) :: st, h)
    | _ => none
  | .i2l => match S with
    | .int x :: st => some (nx, L, .long x.toInt64 :: st, h)
    | _ => none
  | .l2i => match S with
    | .long x :: st => some (nx, L, .int x.toInt32 :: st, h)
    | _ => none
  | .dup => match S with
    | v :: st => if v.category = 1 then some (nx, L, v :: v :: st, h) else none
    | _ => none
  | .pop => match S with
    | v :: st => if v.category = 1 then some (nx, L, st, h) else none
    | _ => none
  | .dup2 => match S with
    | a :: b :: st => if a.category = 1 ∧ b.category = 1 then some (nx, L, a :: b :: a :: b :: st, h) else none
    | _ => none
  | .goto t => some (t.toNat, L, S, h)
  | .ifCond q t => match S with
    | .int x :: st => some (if x_cc q x 0 = true then t.toNat else nx, L, st, h)
    | _ => none
  | .if_icmp q t => match S with
    | .int y :: .int x :: st => some (if x_cc q x y = true then t.toNat else nx, L, st, h)
    | _ => none
  | .tableswitch d lo hi offs => match S with
    | .int x :: st => if x.toInt < lo ∨ hi < x.toInt then (match x_to pc d with
        | some t => some (t, L, st, h)
        | none => none) else (match offs[(x.toInt - lo).toNat]? with
        | some o => (match x_to pc o with
          | some t => some (t, L, st, h)
          | none => none)
        | none => none)
    | _ => none
  | .lookupswitch d ps => match S with
    | .int x :: st => if (ps.toList.zip (ps.toList.drop 1)).all (fun (a, next) => a.1 < next.1) = true then (match x_to pc (Op.lookupswitch.offset ps.toList d x.toInt) with
        | some t => some (t, L, st, h)
        | none => none) else none
    | _ => none
  | .getfield e => match S with
    | .ref p :: st => match h[p]? with
      | some (c, fs) => if c = e / 32 then (match fs[e % 32]? with
        | some v => some (nx, L, v :: st, h)
        | none => none) else none
      | none => none
    | _ => none
  | .putfield e => match S with
    | v :: .ref p :: st => match h[p]? with
      | some (c, fs) => if c = e / 32 ∧ 8 ≤ p ∧ e % 32 < fs.length ∧ x_fit e v = true then some (nx, L, st, h.set p (c, fs.set (e % 32) v)) else none
      | none => none
    | _ => none
  | .putstatic e => match S with
    | v :: .ref p :: st => match h[p]? with
      | some (c, fs) => if ini = true ∧ c = e / 32 ∧ 8 ≤ p ∧ e % 32 < fs.length ∧ x_fit e v = true then some (nx, L, st, h.set p (c, fs.set (e % 32) v)) else none
      | none => none
    | _ => none
  | .getstatic j => match j with
    | 0 => some (nx, L, .ref 1 :: S, h)
    | 1 => some (nx, L, .ref 2 :: S, h)
    | 2 => some (nx, L, .int 1 :: S, h)
    | 3 => some (nx, L, .ref 7 :: S, h)
    | _ => none
  | .iaload => match S with
    | .int i :: .ref p :: st => match h[p]? with
      | some (c, vs) => if c = 10 ∧ ¬ i < 0 then (match vs[i.toNatClampNeg]? with
        | some (.int v) => some (nx, L, .int v :: st, h)
        | _ => none) else none
      | none => none
    | _ => none
  | .baload => match S with
    | .int i :: .ref p :: st => match h[p]? with
      | some (c, vs) => if c = 14 ∧ ¬ i < 0 then (match vs[i.toNatClampNeg]? with
        | some (.int v) => some (nx, L, .int v :: st, h)
        | _ => none) else none
      | none => none
    | _ => none
  | .aaload => match S with
    | .int i :: .ref p :: st => match h[p]? with
      | some (c, vs) => if (c = 11 ∨ c = 12) ∧ ¬ i < 0 then (match vs[i.toNatClampNeg]? with
        | some (.ref q) => if q = 7 then none else some (nx, L, .ref q :: st, h)
        | _ => none) else none
      | none => none
    | _ => none
  | .iastore => match S with
    | .int v :: .int i :: .ref p :: st => match h[p]? with
      | some (c, vs) => if c = 10 ∧ 8 ≤ p ∧ ¬ i < 0 ∧ i.toNatClampNeg < vs.length then some (nx, L, st, h.set p (c, vs.set i.toNatClampNeg (.int v))) else none
      | none => none
    | _ => none
  | .aastore => match S with
    | .ref q :: .int i :: .ref p :: st => match h[p]? with
      | some (c, vs) => match h[q]? with
        | some (d, _) => if ((c = 11 ∧ d = 2) ∨ (c = 12 ∧ d = 0)) ∧ 8 ≤ p ∧ 8 ≤ q ∧ ¬ i < 0 ∧ i.toNatClampNeg < vs.length then some (nx, L, st, h.set p (c, vs.set i.toNatClampNeg (.ref q))) else none
        | none => none
      | none => none
    | _ => none
  | .arraylength => match S with
    | .ref p :: st => match h[p]? with
      | some (c, vs) => if 10 ≤ c ∧ c ≤ 14 then some (nx, L, .int (Int32.ofNat vs.length) :: st, h) else none
      | none => none
    | _ => none
  | .new c => if c < 7 then some (nx, L, .ref h.length :: S, h ++ [(c, x_def c)]) else none
  | .newarray _ => match S with
    | .int n :: st => if ¬ n < 0 ∧ n.toNatClampNeg ≤ 100000 then some (nx, L, .ref h.length :: st, h ++ [(10, List.replicate n.toNatClampNeg (.int 0))]) else none
    | _ => none
  | .anewarray c => match S with
    | .int n :: st => if ¬ n < 0 ∧ n.toNatClampNeg ≤ 100000 ∧ (c = 0 ∨ c = 2) then some (nx, L, .ref h.length :: st, h ++ [(if c = 2 then 11 else 12, List.replicate n.toNatClampNeg .null)]) else none
    | _ => none
  | .d2f => match S with
    | .ref p :: st => if p ≠ 7 ∧ x_cat st ≤ 8 then some (nx, L, st, h) else none
    | _ => none
  | .f2d => match S with
    | .int x :: st => if x_cat st ≤ 8 then some (nx, L, .int (if 0 ≤ x then x else 0 - x) :: st, h) else none
    | _ => none
  | .f2i => match S with
    | .int y :: .int x :: st => if x_cat st ≤ 8 then some (nx, L, .int (if x < y then y else x) :: st, h) else none
    | _ => none
  | .d2i => match S with
    | .int n :: .int dp :: .ref q :: .int sp :: .ref p :: st => match h[p]? with
      | some (c, f) => match h[q]? with
        | some (d, g) => if c = 10 ∧ d = 10 ∧ 8 ≤ p ∧ 8 ≤ q ∧ ¬ sp < 0 ∧ ¬ dp < 0 ∧ ¬ n < 0 ∧ sp.toNatClampNeg + n.toNatClampNeg ≤ f.length ∧ dp.toNatClampNeg + n.toNatClampNeg ≤ g.length ∧ x_cat st ≤ 8 then some (nx, L, st, h.set q (10, x_cpy f g sp.toNatClampNeg dp.toNatClampNeg n.toNatClampNeg)) else none
        | none => none
      | none => none
    | _ => none
  | _ => none
def x_cal : Instr → Option Nat
  | .invokestatic z | .invokevirtual z | .invokespecial z => some z
  | _ => none
/-- what a call asks of the stack -/
def x_okc (i : Instr) (z : Nat) (S : List Value) (h : x_H) : Bool :=
  decide (x_na z ≤ S.length) && decide (x_cat (S.drop (x_na z)) ≤ 8) && decide ((x_ent (S.take (x_na z)).reverse).length ≤ x_ml z) && (match i with
    | .invokevirtual _ => (match S[x_na z - 1]? with
      | some (.ref p) => (match h[p]? with
        | some (c, _) => decide (c = x_cy z) && decide (p ≠ 7)
        | none => false)
      | _ => false)
    | .invokespecial _ => (match S[x_na z - 1]? with
      | some (.ref p) => decide (p ≠ 7)
      | _ => false)
    | _ => true)
/-- a run of method y, by fuel and by depth of calls -/
def x_run : Nat → Nat → Nat → Nat → List Value → List Value → x_H → Option (Option Value × x_H)
  | 0, _, _, _, _, _, _ => none
  | n + 1, d, y, pc, L, S, h => match x_fe y pc with
    | none => none
    | some (i, nx) => match x_cal i with
      | some z => match d with
        | 0 => none
        | d' + 1 => if x_okc i z S h = true then (match x_run n d' z 0 (x_loc (x_ml z) (S.take (x_na z)).reverse) [] h with
          | some (r, h') => x_run n (d' + 1) y nx L (r.toList ++ S.drop (x_na z)) h'
          | none => none) else none
      | none => match i, S with
        | .ireturn, [.int v] => (match x_rt y with
          | some ty => if narrow ty (.int v) = .int v then some (some (.int v), h) else none
          | none => none)
        | .return_, [] => (match x_rt y with
          | some _ => none
          | none => some (none, h))
        | i, S => match x_step (x_kd y == 2) i pc nx L S h with
          | some (pc', L', S', h') => x_run n d y pc' L' S' h'
          | none => none
end
section
/-! THE SMALL MACHINE AND THE GREAT ONE: worlds -/
def x_sizeB : List Int32 := [10, 11, 14, 12, 13, 12]
def x_markB : List Int32 := [20, 21, 23, 21, 24, 22]
def x_str0 : List Int32 := [116, 97, 98, 108, 101]
def x_str1 : List Int32 := [99, 97, 114, 100]
def x_old (xs : List Int32) : x_H := [(10, xs.map .int), (10, x_sizeB.map .int), (10, x_markB.map .int), (8, [.ref 5, .int 0]), (8, [.ref 6, .int 0]), (14, x_str0.map .int), (14, x_str1.map .int), (99, [])]
def x_A (sz : Nat) : Nat → Prop := fun q => sz ≤ q
def x_ad (o : Nat → Nat) (sz k : Nat) : Nat := if k < 8 then o k else sz + (k - 8)
def x_tr (o : Nat → Nat) (sio : Value) (sz : Nat) (v : Value) : Value := match v with
  | .ref k => if k = 7 then sio else .ref (x_ad o sz k)
  | v => v
theorem x_tr_ref {o : Nat → Nat} {sio : Value} {sz k : Nat} (h : k ≠ 7) : x_tr o sio sz (.ref k) = .ref (x_ad o sz k) := by
  show (if k = 7 then sio else .ref (x_ad o sz k)) = _
  rw [if_neg h]
theorem x_tr_cat {o : Nat → Nat} {sio : Value} {sz : Nat} (hsio : sio = .null ∨ ∃ t, sio = .ref t) (v : Value) : (x_tr o sio sz v).category = v.category := by
  cases v with
  | ref k =>
    show (if k = 7 then sio else .ref (x_ad o sz k)).category = 1
    split
    · rcases hsio with rfl | ⟨t, rfl⟩ <;> rfl
    · rfl
  | _ => rfl
theorem x_cat_tr {o : Nat → Nat} {sio : Value} {sz : Nat} (hsio : sio = .null ∨ ∃ t, sio = .ref t) (l : List Value) : ((l.map (x_tr o sio sz)).map fun v => v.category).sum = x_cat l := by
  unfold x_cat
  rw [List.map_map]
  congr 1
  exact List.map_congr_left fun v _ => x_tr_cat hsio v
def x_Old (o : Nat → Nat) (sio : Value) (sz : Nat) (xs : List Int32) (U : State) (H : Heap) : Prop :=
  (va_T .int (o 0) xs.length (fun j => .int (xs.getD j 0)) (x_A sz) U H ∧ va_T .int (o 1) 6 (fun j => .int (x_sizeB.getD j 0)) (x_A sz) U H ∧ va_T .int (o 2) 6 (fun j => .int (x_markB.getD j 0)) (x_A sz) U H) ∧
  (va_Z "WindowCards" "SIZE_BODIES" "[I" (.ref (o 1)) (x_A sz) U H ∧ va_Z "WindowCards" "MARK_BODIES" "[I" (.ref (o 2)) (x_A sz) U H ∧ va_Z "java/lang/String" "COMPACT_STRINGS" "Z" (.int 1) (x_A sz) U H ∧ va_Z "jdk/internal/util/Preconditions" "SIOOBE_FORMATTER" "Ljava/util/function/BiFunction;" sio (x_A sz) U H) ∧
  vk_S 2 [5, 4] [x_str0, x_str1] (fun i => o (3 + i)) (fun i => o (5 + i)) (x_A sz) U H ∧
  (vk_R "WindowCards" 287 "table" (o 3) U ∧ vk_R "WindowCards" 309 "card" (o 4) U) ∧
  (va_AO RX2 U ∧ va_AO RX0 U ∧ ∀ r ∈ x_ne, va_Nw (.methodLinkNest "WindowCards" r.1 (x_nm r.2.1) "WindowCards") U)
theorem x_Old.kept {o : Nat → Nat} {sio : Value} {sz : Nat} {xs : List Int32} {U : State} {H H1 : Heap} (h : x_Old o sio sz xs U H) (hq : ∀ a : Nat, a < H.size → ¬ x_A sz a → H1[a]? = H[a]?) : x_Old o sio sz xs U H1 := by
  obtain ⟨⟨a1, a2, a3⟩, ⟨b1, b2, b3, b4⟩, c1, d1⟩ := h
  exact ⟨⟨a1.kept hq, a2.kept hq, a3.kept hq⟩, ⟨b1.kept hq, b2.kept hq, b3.kept hq, b4.kept hq⟩, c1.kept hq, d1⟩
theorem x_Old.warm {o : Nat → Nat} {sio : Value} {sz : Nat} {xs : List Int32} {s U : State} {H : Heap} (h : x_Old o sio sz xs s H) (hW : s.WarmedH U.vm) : x_Old o sio sz xs U H := by
  obtain ⟨⟨a1, a2, a3⟩, ⟨b1, b2, b3, b4⟩, c1, ⟨d1, d2⟩, e1, e2, e3⟩ := h
  have hv := hW.alike
  exact ⟨⟨va_T.moved hv a1, va_T.moved hv a2, va_T.moved hv a3⟩, ⟨va_Z.moved hv b1, va_Z.moved hv b2, va_Z.moved hv b3, va_Z.moved hv b4⟩, vk_S.moved hv c1, ⟨vk_R.warm hW d1, vk_R.warm hW d2⟩, va_AO.moved hv e1, va_AO.moved hv e2, fun r hr => va_Nw.warmM hW (e3 r hr)⟩
theorem x_Old.same {o : Nat → Nat} {sio : Value} {sz : Nat} {xs : List Int32} {u U : State} {H : Heap} (h : x_Old o sio sz xs u H) (hv : U.vm = u.vm) : x_Old o sio sz xs U H := by
  obtain ⟨⟨a1, a2, a3⟩, ⟨b1, b2, b3, b4⟩, c1, ⟨d1, d2⟩, e1, e2, e3⟩ := h
  have ha : u.vm.Alike U.vm := by rw [hv]; exact Vm.Alike.refl u.vm
  exact ⟨⟨va_T.moved ha a1, va_T.moved ha a2, va_T.moved ha a3⟩, ⟨va_Z.moved ha b1, va_Z.moved ha b2, va_Z.moved ha b3, va_Z.moved ha b4⟩, vk_S.moved ha c1, ⟨vk_R.same hv d1, vk_R.same hv d2⟩, va_AO.moved ha e1, va_AO.moved ha e2, fun r hr => va_Nw.same rfl hv.symm (e3 r hr)⟩
/-- a cell of the small machine, and what the great one holds there -/
def x_R (o : Nat → Nat) (sio : Value) (sz : Nat) (tys : List (ClassId × FieldType)) (c : x_C) (e : va_E) : Prop := match e with
  | .inr q => c.1 = q.1 ∧ q.1 < 7 ∧ q.2 = c.2.map (x_tr o sio sz)
  | .inl (cA, n, .inl f) => c.1 = 10 ∧ (∃ t0 : Nat, tys[t0]? = some (cA, FieldType.int)) ∧ n = c.2.length ∧ ∀ (j : Nat) (v : Value), c.2[j]? = some v → v = .int (f j)
  | .inl (cA, n, .inr (.inr (.inr (.inr f)))) => ((c.1 = 11 ∧ ∃ t0 : Nat, tys[t0]? = some (cA, FieldType.object RX2)) ∨ (c.1 = 12 ∧ ∃ t0 : Nat, tys[t0]? = some (cA, FieldType.object RX0))) ∧ n = c.2.length ∧ ∀ (j : Nat) (v : Value), c.2[j]? = some v → x_tr o sio sz v = va_rf (f j)
  | _ => False
def x_Q (o : Nat → Nat) (sio : Value) (sz : Nat) (xs : List Int32) (h : x_H) (ws : va_W) (tys : List (ClassId × FieldType)) : Prop := ws.length + 8 = h.length ∧ h.take 8 = x_old xs ∧ ∀ (i : Nat) (q : Nat × va_E), ws[i]? = some q → q.1 = sz + i ∧ ∃ c, h[8 + i]? = some c ∧ x_R o sio sz tys c q.2
def x_W (o : Nat → Nat) (sio : Value) (sz : Nat) (xs : List Int32) (D : va_G) (h : x_H) (H : Heap) (U : State) : Prop := ∃ (ws : va_W) (tys : List (ClassId × FieldType)), va_P D vwCl ws H ∧ va_D (x_A sz) ws ∧ va_K D vwCl tys U ∧ x_Q o sio sz xs h ws tys
theorem x_W.moved {o : Nat → Nat} {sio : Value} {sz : Nat} {xs : List Int32} {D : va_G} {h : x_H} {H : Heap} {u U : State} (hw : x_W o sio sz xs D h H u) (hv : u.vm.Alike U.vm) : x_W o sio sz xs D h H U := by
  obtain ⟨ws, tys, h1, h2, h3, h4⟩ := hw
  exact ⟨ws, tys, h1, h2, va_K.moved hv h3, h4⟩
theorem x_R.more {o : Nat → Nat} {sio : Value} {sz : Nat} {tys t2 : List (ClassId × FieldType)} {c : x_C} {e : va_E} (h : x_R o sio sz tys c e) : x_R o sio sz (tys ++ t2) c e := by
  have key : ∀ {q : ClassId × FieldType}, (∃ t0 : Nat, tys[t0]? = some q) → ∃ t0 : Nat, (tys ++ t2)[t0]? = some q := by
    rintro q ⟨t0, h0⟩
    exact ⟨t0, by rw [List.getElem?_append_left (List.getElem?_eq_some_iff.mp h0).1]; exact h0⟩
  match e, h with
  | .inr q, h => exact h
  | .inl (cA, n, .inl f), ⟨h1, h2, h3⟩ => exact ⟨h1, key h2, h3⟩
  | .inl (cA, n, .inr (.inr (.inr (.inr f)))), ⟨h1, h3⟩ =>
    refine ⟨?_, h3⟩
    rcases h1 with ⟨a, b⟩ | ⟨a, b⟩
    · exact Or.inl ⟨a, key b⟩
    · exact Or.inr ⟨a, key b⟩
theorem x_Q.new {o : Nat → Nat} {sio : Value} {sz : Nat} {xs : List Int32} {h : x_H} {ws : va_W} {tys : List (ClassId × FieldType)} (hq : x_Q o sio sz xs h ws tys) {p : Nat} {c : x_C} (hp : 8 ≤ p) (hc : h[p]? = some c) : ∃ e, ws[p - 8]? = some (x_ad o sz p, e) ∧ x_R o sio sz tys c e := by
  obtain ⟨h1, h2, h3⟩ := hq
  have hl : p < h.length := (List.getElem?_eq_some_iff.mp hc).1
  have hl2 : p - 8 < ws.length := by omega
  obtain ⟨h4, c', h5, h6⟩ := h3 (p - 8) ws[p - 8] (List.getElem?_eq_getElem hl2)
  rw [show 8 + (p - 8) = p by omega, hc] at h5
  cases h5
  refine ⟨ws[p - 8].2, ?_, h6⟩
  have ha : x_ad o sz p = sz + (p - 8) := by unfold x_ad; rw [if_neg (by omega)]
  rw [List.getElem?_eq_getElem hl2, ha, ← h4]
theorem x_Q.old {o : Nat → Nat} {sio : Value} {sz : Nat} {xs : List Int32} {h : x_H} {ws : va_W} {tys : List (ClassId × FieldType)} (hq : x_Q o sio sz xs h ws tys) {p : Nat} {c : x_C} (hp : p < 8) (hc : h[p]? = some c) : (x_old xs)[p]? = some c := by
  rw [← hq.2.1, List.getElem?_take, if_pos hp]
  exact hc
theorem x_Q.set {o : Nat → Nat} {sio : Value} {sz : Nat} {xs : List Int32} {h : x_H} {ws : va_W} {tys : List (ClassId × FieldType)} (hq : x_Q o sio sz xs h ws tys) {p : Nat} {c : x_C} {e : va_E} (hp : 8 ≤ p) (hl : p < h.length) (hr : x_R o sio sz tys c e) : x_Q o sio sz xs (h.set p c) (ws.set (p - 8) (x_ad o sz p, e)) tys := by
  obtain ⟨h1, h2, h3⟩ := hq
  have ha : x_ad o sz p = sz + (p - 8) := by unfold x_ad; rw [if_neg (by omega)]
  refine ⟨by rw [List.length_set, List.length_set]; exact h1, ?_, fun i q hi => ?_⟩
  · rw [← h2, List.take_set_of_le hp]
  · by_cases hip : i = p - 8
    · subst hip
      rw [List.getElem?_set_self (by omega)] at hi
      cases hi
      refine ⟨ha, c, ?_, hr⟩
      rw [show 8 + (p - 8) = p by omega, List.getElem?_set_self hl]
    · rw [List.getElem?_set_ne (Ne.symm hip)] at hi
      obtain ⟨g1, c', g2, g3⟩ := h3 i q hi
      exact ⟨g1, c', by rw [List.getElem?_set_ne (by omega)]; exact g2, g3⟩
theorem x_Q.push {o : Nat → Nat} {sio : Value} {sz : Nat} {xs : List Int32} {h : x_H} {ws : va_W} {tys t2 : List (ClassId × FieldType)} (hq : x_Q o sio sz xs h ws tys) {c : x_C} {e : va_E} (hr : x_R o sio sz (tys ++ t2) c e) : x_Q o sio sz xs (h ++ [c]) (ws ++ [(x_ad o sz h.length, e)]) (tys ++ t2) := by
  obtain ⟨h1, h2, h3⟩ := hq
  have ha : x_ad o sz h.length = sz + ws.length := by unfold x_ad; rw [if_neg (by omega)]; omega
  refine ⟨by simp; omega, by rw [List.take_append_of_le_length (by omega)]; exact h2, fun i q hi => ?_⟩
  by_cases hil : i < ws.length
  · rw [List.getElem?_append_left hil] at hi
    obtain ⟨g1, c', g2, g3⟩ := h3 i q hi
    exact ⟨g1, c', by rw [List.getElem?_append_left (by omega)]; exact g2, g3.more⟩
  · rw [List.getElem?_append_right (by omega)] at hi
    have hz : i - ws.length < 1 := (List.getElem?_eq_some_iff.mp hi).1
    have hi0 : i = ws.length := by omega
    subst hi0
    rw [Nat.sub_self] at hi
    cases hi
    exact ⟨ha, c, by rw [List.getElem?_append_right (by omega), show 8 + ws.length - h.length = 0 by omega]; rfl, hr⟩
/-! locals -/
def x_L (o : Nat → Nat) (sio : Value) (sz : Nat) (ls : Array Slot) (L : List Value) : Prop := ls.size = L.length ∧ lv_wf ls ∧ ∀ (i : Nat) (v : Value), L[i]? = some v → v ≠ .null → ls[i]? = some (.val (x_tr o sio sz v))
def x_ll (o : Nat → Nat) (sio : Value) (sz : Nat) (L : List Value) : List (Nat × Value) := (L.zipIdx.filter (fun q => decide (q.1 ≠ Value.null))).map (fun q => (q.2, x_tr o sio sz q.1))
theorem x_mem_ll {o : Nat → Nat} {sio : Value} {sz : Nat} {L : List Value} {q : Nat × Value} : q ∈ x_ll o sio sz L ↔ ∃ v, L[q.1]? = some v ∧ v ≠ .null ∧ q.2 = x_tr o sio sz v := by
  unfold x_ll
  simp only [List.mem_map, List.mem_filter, decide_eq_true_eq, Prod.exists]
  constructor
  · rintro ⟨v, i, ⟨h1, h2⟩, rfl⟩
    exact ⟨v, List.mem_zipIdx_iff_getElem?.mp h1, h2, rfl⟩
  · rintro ⟨v, h1, h2, h3⟩
    exact ⟨v, q.1, ⟨List.mem_zipIdx_iff_getElem?.mpr h1, h2⟩, by rw [← h3]⟩
theorem x_L.has {o : Nat → Nat} {sio : Value} {sz : Nat} {ls : Array Slot} {L : List Value} (h : x_L o sio sz ls L) : lv_has ls L.length (x_ll o sio sz L) := by
  refine ⟨h.1, h.2.1, fun q hq => ?_⟩
  obtain ⟨v, h1, h2, h3⟩ := x_mem_ll.mp hq
  rw [h3]
  exact h.2.2 q.1 v h1 h2
theorem x_clr_succ (L : List Value) (j : Nat) : x_clr L (j + 1) = (match L[j]? with
    | some v => if v.category = 2 then L.set j .null else L
    | none => L) := rfl
theorem x_clr_len (L : List Value) (i : Nat) : (x_clr L i).length = L.length := by
  cases i with
  | zero => rfl
  | succ j =>
    rw [x_clr_succ]
    split
    · split
      · exact List.length_set
      · rfl
    · rfl
theorem x_st1_len (L : List Value) (i : Nat) (v : Value) : (x_st1 L i v).length = L.length := by unfold x_st1; rw [List.length_set, x_clr_len]
theorem x_st2_len (L : List Value) (i : Nat) (v : Value) : (x_st2 L i v).length = L.length := by unfold x_st2; rw [List.length_set, x_st1_len]
theorem x_clr_at {L : List Value} {i j : Nat} {v : Value} (h : (x_clr L i)[j]? = some v) (hv : v ≠ .null) : L[j]? = some v ∧ ¬ (j + 1 = i ∧ v.category = 2) := by
  cases i with
  | zero => exact ⟨h, fun z => by omega⟩
  | succ k =>
    rw [x_clr_succ] at h
    split at h
    next w hw =>
      split at h
      next hc =>
        by_cases hj : j = k
        · subst hj
          rw [List.getElem?_set_self (List.getElem?_eq_some_iff.mp hw).1] at h
          cases h
          exact absurd rfl hv
        · rw [List.getElem?_set_ne (Ne.symm hj)] at h
          exact ⟨h, fun z => hj (by omega)⟩
      next hc =>
        refine ⟨h, fun z => ?_⟩
        have hj : j = k := by omega
        subst hj
        rw [hw] at h
        cases h
        exact hc z.2
    next hw =>
      refine ⟨h, fun z => ?_⟩
      have hj : j = k := by omega
      subst hj
      rw [hw] at h
      cases h
theorem x_L.st1 {o : Nat → Nat} {sio : Value} {sz : Nat} (hsio : sio = .null ∨ ∃ t, sio = .ref t) {ls' : Array Slot} {L : List Value} {i : Nat} {v : Value} (h : lv_has ls' L.length ((i, x_tr o sio sz v) :: (x_ll o sio sz L).filter (fun q => !(q.1 == i) && !(q.1 + 1 == i && q.2.category == 2)))) (hi : i < L.length) : x_L o sio sz ls' (x_st1 L i v) := by
  refine ⟨by rw [x_st1_len]; exact h.1, h.2.1, fun j w hj hw => ?_⟩
  by_cases hji : j = i
  · subst hji
    unfold x_st1 at hj
    rw [List.getElem?_set_self (by rw [x_clr_len]; exact hi)] at hj
    cases hj
    exact h.2.2 (j, _) List.mem_cons_self
  · unfold x_st1 at hj
    rw [List.getElem?_set_ne (Ne.symm hji)] at hj
    obtain ⟨h1, h2⟩ := x_clr_at hj hw
    refine h.2.2 (j, x_tr o sio sz w) (List.mem_cons_of_mem _ (List.mem_filter.mpr ⟨x_mem_ll.mpr ⟨w, h1, hw, rfl⟩, ?_⟩))
    simp only [x_tr_cat hsio, Bool.and_eq_true, Bool.not_eq_true', beq_eq_false_iff_ne, ne_eq, Bool.and_eq_false_iff]
    refine ⟨hji, ?_⟩
    by_cases hz : j + 1 = i
    · exact Or.inr fun z => h2 ⟨hz, z⟩
    · exact Or.inl hz
theorem x_L.st2 {o : Nat → Nat} {sio : Value} {sz : Nat} (hsio : sio = .null ∨ ∃ t, sio = .ref t) {ls' : Array Slot} {L : List Value} {i : Nat} {v : Value} (h : lv_has ls' L.length ((i, x_tr o sio sz v) :: (x_ll o sio sz L).filter (fun q => !(q.1 == i) && (!(q.1 == i + 1) && !(q.1 + 1 == i && q.2.category == 2))))) (hi : i + 1 < L.length) : x_L o sio sz ls' (x_st2 L i v) := by
  refine ⟨by rw [x_st2_len]; exact h.1, h.2.1, fun j w hj hw => ?_⟩
  unfold x_st2 at hj
  by_cases hj2 : j = i + 1
  · subst hj2
    rw [List.getElem?_set_self (by rw [x_st1_len]; exact hi)] at hj
    cases hj
    exact absurd rfl hw
  · rw [List.getElem?_set_ne (Ne.symm hj2)] at hj
    by_cases hji : j = i
    · subst hji
      unfold x_st1 at hj
      rw [List.getElem?_set_self (by rw [x_clr_len]; omega)] at hj
      cases hj
      exact h.2.2 (j, _) List.mem_cons_self
    · unfold x_st1 at hj
      rw [List.getElem?_set_ne (Ne.symm hji)] at hj
      obtain ⟨h1, h2⟩ := x_clr_at hj hw
      refine h.2.2 (j, x_tr o sio sz w) (List.mem_cons_of_mem _ (List.mem_filter.mpr ⟨x_mem_ll.mpr ⟨w, h1, hw, rfl⟩, ?_⟩))
      simp only [x_tr_cat hsio, Bool.and_eq_true, Bool.not_eq_true', beq_eq_false_iff_ne, ne_eq, Bool.and_eq_false_iff]
      refine ⟨hji, hj2, ?_⟩
      by_cases hz : j + 1 = i
      · exact Or.inr fun z => h2 ⟨hz, z⟩
      · exact Or.inl hz
/-- the locals with which a method begins -/
theorem x_ent_args {o : Nat → Nat} {sio : Value} {sz : Nat} (hsio : sio = .null ∨ ∃ t, sio = .ref t) (vs : List Value) : ∀ (b i : Nat) (v : Value), (x_ent vs)[i]? = some v → v ≠ .null → (b + i, x_tr o sio sz v) ∈ lv_args b (vs.map (x_tr o sio sz)) := by
  induction vs with
  | nil => intro b i v h; simp [x_ent] at h
  | cons w vs ih =>
    intro b i v h hv
    show _ ∈ (b, x_tr o sio sz w) :: lv_args (if (x_tr o sio sz w).category = 2 then b + 2 else b + 1) (vs.map (x_tr o sio sz))
    rw [x_tr_cat hsio]
    unfold x_ent at h
    split at h
    next hc =>
      rw [if_pos hc]
      match i, h with
      | 0, h => cases h; exact List.mem_cons_self
      | 1, h => cases h; exact absurd rfl hv
      | i + 2, h =>
        have h2 := ih (b + 2) i v (by simpa using h) hv
        rw [show b + (i + 2) = b + 2 + i by omega]
        exact List.mem_cons_of_mem _ h2
    next hc =>
      rw [if_neg hc]
      match i, h with
      | 0, h => cases h; exact List.mem_cons_self
      | i + 1, h =>
        have h2 := ih (b + 1) i v (by simpa using h) hv
        rw [show b + (i + 1) = b + 1 + i by omega]
        exact List.mem_cons_of_mem _ h2
theorem x_ent_len {o : Nat → Nat} {sio : Value} {sz : Nat} (hsio : sio = .null ∨ ∃ t, sio = .ref t) (vs : List Value) : (lg_sl (vs.map (x_tr o sio sz))).length = (x_ent vs).length := by
  induction vs with
  | nil => rfl
  | cons w vs ih =>
    show (List.flatMap _ (x_tr o sio sz w :: vs.map (x_tr o sio sz))).length = _
    rw [List.flatMap_cons, x_tr_cat hsio, List.length_append]
    unfold x_ent
    have ih' : (List.flatMap (fun v => if Value.category v = 2 then [Slot.val v, Slot.second] else [Slot.val v]) (vs.map (x_tr o sio sz))).length = (x_ent vs).length := ih
    rw [ih']
    split <;> simp <;> omega
theorem x_L.entry {o : Nat → Nat} {sio : Value} {sz : Nat} (hsio : sio = .null ∨ ∃ t, sio = .ref t) {vs : List Value} {n : Nat} (hn : (x_ent vs).length ≤ n) : x_L o sio sz ((lg_sl (vs.map (x_tr o sio sz)) ++ List.replicate (n - (lg_sl (vs.map (x_tr o sio sz))).length) Slot.unset).toArray) (x_loc n vs) := by
  have h := lv_entry (vs.map (x_tr o sio sz)) (n := n) (by rw [x_ent_len hsio]; exact hn)
  have hlen : (x_loc n vs).length = n := by unfold x_loc; simp; omega
  refine ⟨by rw [hlen]; exact h.1, h.2.1, fun i v hi hv => ?_⟩
  unfold x_loc at hi
  by_cases hil : i < (x_ent vs).length
  · rw [List.getElem?_append_left hil] at hi
    have h2 := h.2.2 _ (x_ent_args hsio vs 0 i v hi hv)
    simpa using h2
  · rw [List.getElem?_append_right (by omega)] at hi
    exact absurd (List.eq_of_mem_replicate (List.mem_of_getElem? hi)) hv
end
section
/-! ONE STEP -/
theorem x_lk_in {T : List (Nat × Nat × Nat × Nat)} {c i e : Nat} (h : x_lk T c i = some e) : ∃ r ∈ T, r.1 = c ∧ r.2.1 = i ∧ r.2.2.1 = e := by
  unfold x_lk at h
  rw [Option.map_eq_some_iff] at h
  obtain ⟨r, h1, h2⟩ := h
  have h3 := List.find?_some h1
  simp only [Bool.and_eq_true, beq_iff_eq] at h3
  exact ⟨r, List.mem_of_find?_eq_some h1, h3.1, h3.2, h2⟩
theorem x_ft_w {c i e : Nat} (h : x_lk x_ft c i = some e) : Jvm.Cond.fieldLink (x_cn c) i (x_fd e).1 (x_fd e).2.1 (x_fd e).2.2 ∈ x_TB := by
  obtain ⟨r, h1, h2, h3, h4⟩ := x_lk_in h
  have := List.all_eq_true.mp x_ft_ok r h1
  rw [h2, h3, h4] at this
  exact x_at_in this
theorem x_ft_e : x_ft.all (fun r => (r.2.2.1 / 32 == 8 && decide (r.2.2.1 % 32 < 2)) || (decide (r.2.2.1 / 32 < 7) && decide (r.2.2.1 % 32 < x_N (r.2.2.1 / 32)))) = true := by decide +kernel
theorem x_ft_b {c i e : Nat} (h : x_lk x_ft c i = some e) : (e / 32 = 8 ∧ e % 32 < 2) ∨ (e / 32 < 7 ∧ e % 32 < x_N (e / 32)) := by
  obtain ⟨r, h1, h2, h3, h4⟩ := x_lk_in h
  have := List.all_eq_true.mp x_ft_e r h1
  rw [h4] at this
  simpa only [Bool.or_eq_true, Bool.and_eq_true, beq_iff_eq, decide_eq_true_eq] using this
theorem x_sf_w {c i j : Nat} (h : x_lk x_sf c i = some j) : Jvm.Cond.fieldLink (x_cn c) i (x_sd j).1 (x_sd j).2.1 (x_sd j).2.2 ∈ x_TB := by
  obtain ⟨r, h1, h2, h3, h4⟩ := x_lk_in h
  have := List.all_eq_true.mp x_sf_ok r h1
  rw [h2, h3, h4] at this
  exact x_at_in this
theorem x_kl_w {c i n : Nat} (h : x_lk x_kl c i = some n) : Jvm.Cond.constantLong (x_cn c) i (Int64.ofNat n) ∈ x_TB := by
  obtain ⟨r, h1, h2, h3, h4⟩ := x_lk_in h
  have := List.all_eq_true.mp x_kl_ok r h1
  rw [h2, h3, h4] at this
  exact x_at_in this
theorem x_kt_w {c i : Nat} {v : Int32} (h : x_k c i = some v) : Jvm.Cond.constant (x_cn c) i v ∈ x_TB := by
  unfold x_k at h
  rw [Option.map_eq_some_iff] at h
  obtain ⟨r, h1, h2⟩ := h
  have h3 := List.find?_some h1
  simp only [Bool.and_eq_true, beq_iff_eq] at h3
  have := List.all_eq_true.mp x_kt_ok r (List.mem_of_find?_eq_some h1)
  rw [h3.1, h3.2, h2] at this
  exact x_at_in this
theorem x_nt_w {c i ci : Nat} (h : x_new c i = some ci) : ci < 7 ∧ Jvm.Cond.classLink (x_cn c) i (x_cn ci) ∈ x_TB ∧ Jvm.Cond.instantiable (x_cn ci) (x_N ci) ∈ x_TB ∧ Jvm.Cond.initialized (x_cn ci) ∈ x_TB := by
  unfold x_new at h
  rw [Option.map_eq_some_iff] at h
  obtain ⟨r, h1, h2⟩ := h
  have h3 := List.find?_some h1
  simp only [Bool.and_eq_true, beq_iff_eq] at h3
  have := List.all_eq_true.mp x_nt_ok r (List.mem_of_find?_eq_some h1)
  rw [h3.1, h3.2, h2] at this
  simp only [Bool.and_eq_true, decide_eq_true_eq] at this
  exact ⟨this.1.1.1, x_at_in this.1.1.2, x_at_in this.1.2, x_at_in this.2⟩
theorem x_oi_w {c i : Nat} (h : x_is x_oi c i = true) : Jvm.Cond.methodLink (x_cn c) i Lib.objectInit ∈ x_TB := by
  unfold x_is at h
  obtain ⟨r, h1, h2⟩ := List.any_eq_true.mp h
  simp only [Bool.and_eq_true, beq_iff_eq] at h2
  have := List.all_eq_true.mp x_oi_ok r h1
  rw [h2.1, h2.2] at this
  exact x_at_in this
theorem x_ac_w {c i : Nat} (h : x_is x_ac c i = true) : Jvm.Cond.methodLink (x_cn c) i arraycopyName ∈ x_TB := by
  unfold x_is at h
  obtain ⟨r, h1, h2⟩ := List.any_eq_true.mp h
  simp only [Bool.and_eq_true, beq_iff_eq] at h2
  have := List.all_eq_true.mp x_ac_ok r h1
  rw [h2.1, h2.2] at this
  exact x_at_in this
theorem x_cl7 {ci : Nat} (h : ci < 7) : vwCl[ci]? = some (x_cn ci, x_T ci, x_N ci) := by
  rcases (by omega : ci = 0 ∨ ci = 1 ∨ ci = 2 ∨ ci = 3 ∨ ci = 4 ∨ ci = 5 ∨ ci = 6) with rfl | rfl | rfl | rfl | rfl | rfl | rfl <;> rfl
theorem x_hin {ci : Nat} (h : ci < 7) : ∀ w ∈ u_ws (x_cn ci) (x_T ci) (x_N ci), w ∈ x_TB := by
  intro w hw
  have h1 := List.all_eq_true.mp x_in_u ci (List.mem_range.mpr h)
  have h2 := List.all_eq_true.mp h1 w hw
  simp only [Bool.and_eq_true, decide_eq_true_eq] at h2
  exact List.mem_filter.mpr h2
theorem x_hty {ci : Nat} (h : ci < 7) : ∀ k, k < x_N ci → parseFieldDescriptor (x_T ci k).2.2.1 = some (x_ty ci k) := by
  rcases (by omega : ci = 0 ∨ ci = 1 ∨ ci = 2 ∨ ci = 3 ∨ ci = 4 ∨ ci = 5 ∨ ci = 6) with rfl | rfl | rfl | rfl | rfl | rfl | rfl
  · exact tyX0_ok
  · exact tyX1_ok
  · exact tyX2_ok
  · exact tyX3_ok
  · exact tyX4_ok
  · exact tyX5_ok
  · exact tyX6_ok
theorem x_hnm {ci : Nat} (h : ci < 7) : ∀ a, a < x_N ci → ∀ b, b < x_N ci → a ≠ b → (x_T ci a).2.1 ≠ (x_T ci b).2.1 := by
  rcases (by omega : ci = 0 ∨ ci = 1 ∨ ci = 2 ∨ ci = 3 ∨ ci = 4 ∨ ci = 5 ∨ ci = 6) with rfl | rfl | rfl | rfl | rfl | rfl | rfl
  · exact nmX0
  · exact nmX1
  · exact nmX2
  · exact nmX3
  · exact nmX4
  · exact nmX5
  · exact nmX6
theorem x_fd7 {e : Nat} (h : e / 32 < 7) : x_fd e = ((x_T (e / 32) (e % 32)).1, (x_T (e / 32) (e % 32)).2.1, (x_T (e / 32) (e % 32)).2.2.1) := by
  unfold x_fd
  rw [if_neg (by omega)]
theorem x_fit_tr {o : Nat → Nat} {sio : Value} {sz e : Nat} {v : Value} (h : x_fit e v = true) : narrow (x_ty (e / 32) (e % 32)) (x_tr o sio sz v) = x_tr o sio sz v ∧ fits (x_ty (e / 32) (e % 32)) (x_tr o sio sz v) = true := by
  unfold x_fit at h
  simp only [Bool.and_eq_true, decide_eq_true_eq] at h
  obtain ⟨⟨h1, h2⟩, h3⟩ := h
  cases v with
  | ref k =>
    have hk : k ≠ 7 := fun z => h1 (by rw [z])
    rw [x_tr_ref hk]
    revert h3
    cases x_ty (e / 32) (e % 32) <;> simp [narrow, fits]
  | _ => exact ⟨h2, h3⟩
theorem x_to_w {pc t : Nat} {off : Int} (h : x_to pc off = some t) : (pc : Int) + off = (t : Int) := by
  unfold x_to at h
  split at h
  next hp =>
    cases h
    exact (Int.toNat_of_nonneg hp).symm
  next => cases h
theorem x_bi_w {S : List Value} {f : Int32 → Int32 → Option Int32} {nx pc' : Nat} {L L' S' : List Value} {h h' : x_H} (hs : x_bi S f nx L h = some (pc', L', S', h')) : ∃ x y st v, S = .int y :: .int x :: st ∧ f x y = some v ∧ pc' = nx ∧ L' = L ∧ S' = .int v :: st ∧ h' = h := by
  unfold x_bi at hs
  split at hs
  next y x st =>
    split at hs
    next v hv =>
      cases hs
      exact ⟨x, y, st, v, rfl, hv, rfl, rfl, rfl, rfl⟩
    next => cases hs
  next => cases hs
theorem x_un_w {S : List Value} {f : Int32 → Int32} {nx pc' : Nat} {L L' S' : List Value} {h h' : x_H} (hs : x_un S f nx L h = some (pc', L', S', h')) : ∃ x st, S = .int x :: st ∧ pc' = nx ∧ L' = L ∧ S' = .int (f x) :: st ∧ h' = h := by
  unfold x_un at hs
  split at hs
  next x st =>
    cases hs
    exact ⟨x, st, rfl, rfl, rfl, rfl, rfl⟩
  next => cases hs
theorem x_bl_w {S : List Value} {f : Int64 → Int64 → Option Int64} {nx pc' : Nat} {L L' S' : List Value} {h h' : x_H} (hs : x_bl S f nx L h = some (pc', L', S', h')) : ∃ x y st v, S = .long y :: .long x :: st ∧ f x y = some v ∧ pc' = nx ∧ L' = L ∧ S' = .long v :: st ∧ h' = h := by
  unfold x_bl at hs
  split at hs
  next y x st =>
    split at hs
    next v hv =>
      cases hs
      exact ⟨x, y, st, v, rfl, hv, rfl, rfl, rfl, rfl⟩
    next => cases hs
  next => cases hs
theorem x_sz_set {h : x_H} {p : Nat} {c c' : x_C} (hc : h[p]? = some c) (hl : c'.2.length = c.2.length) : x_sz (h.set p c') = x_sz h := by
  unfold x_sz
  induction h generalizing p with
  | nil => simp at hc
  | cons a h ih =>
    cases p with
    | zero =>
      rw [List.getElem?_cons_zero] at hc
      cases hc
      simp [hl]
    | succ p =>
      rw [List.getElem?_cons_succ] at hc
      simp only [List.set_cons_succ, List.map_cons, List.sum_cons]
      rw [ih hc]
theorem x_sz_push (h : x_H) (c : x_C) : x_sz (h ++ [c]) = x_sz h + c.2.length := by
  unfold x_sz
  simp
theorem x_cpy_len (f g : List Value) (sp dp n : Nat) : (x_cpy f g sp dp n).length = g.length := by unfold x_cpy; simp
set_option maxHeartbeats 4000000 in
theorem x_step_mono {ini : Bool} {i : Instr} {pc nx pc' : Nat} {L S L' S' : List Value} {h h' : x_H} (hs : x_step ini i pc nx L S h = some (pc', L', S', h')) : (h.length ≤ h'.length ∧ x_sz h ≤ x_sz h') ∧ (L'.length = L.length) := by
  have same : ∀ {A B : x_H}, A = B → A.length ≤ B.length ∧ x_sz A ≤ x_sz B := fun e => by rw [e]; exact ⟨Nat.le_refl _, Nat.le_refl _⟩
  have bi : ∀ {f : Int32 → Int32 → Option Int32}, x_bi S f nx L h = some (pc', L', S', h') → (h.length ≤ h'.length ∧ x_sz h ≤ x_sz h') ∧ L'.length = L.length := by
    intro f q
    obtain ⟨x, y, st, v, -, -, -, rfl, -, rfl⟩ := x_bi_w q
    exact ⟨same rfl, rfl⟩
  have un : ∀ {f : Int32 → Int32}, x_un S f nx L h = some (pc', L', S', h') → (h.length ≤ h'.length ∧ x_sz h ≤ x_sz h') ∧ L'.length = L.length := by
    intro f q
    obtain ⟨x, st, -, -, rfl, -, rfl⟩ := x_un_w q
    exact ⟨same rfl, rfl⟩
  have bl : ∀ {f : Int64 → Int64 → Option Int64}, x_bl S f nx L h = some (pc', L', S', h') → (h.length ≤ h'.length ∧ x_sz h ≤ x_sz h') ∧ L'.length = L.length := by
    intro f q
    obtain ⟨x, y, st, v, -, -, -, rfl, -, rfl⟩ := x_bl_w q
    exact ⟨same rfl, rfl⟩
  unfold x_step at hs
  split at hs <;> first | exact bi hs | exact un hs | exact bl hs | skip
  all_goals repeat' (split at hs)
  all_goals first
    | (cases hs; done)
    | (cases hs; exact ⟨same rfl, rfl⟩)
    | (cases hs; exact ⟨same rfl, x_st1_len _ _ _⟩)
    | (cases hs; exact ⟨same rfl, x_st2_len _ _ _⟩)
    | (cases hs; exact ⟨⟨by simp, by rw [x_sz_push]; omega⟩, rfl⟩)
    | (cases hs; refine ⟨⟨by rw [List.length_set]; exact Nat.le_refl _, Nat.le_of_eq (x_sz_set (by assumption) (by first | exact List.length_set | exact x_cpy_len _ _ _ _ _)).symm⟩, rfl⟩)
    | (cases hs; exact ⟨⟨by rw [List.length_set]; exact Nat.le_refl _, Nat.le_of_eq (x_sz_set (by assumption) (List.length_set)).symm⟩, rfl⟩)
theorem x_call_w {c i z k : Nat} (h : x_call c i = some (z, k)) : z < x_nm_all ∧ ((k = 3 ∧ c = 5 ∧ x_kd z = 2 ∧ ∃ w, (i, z, w) ∈ x_ne) ∨ (k ≠ 3 ∧ x_kd z = k ∧ Jvm.Cond.methodLink (x_cn c) i (x_nm z) ∈ x_TB)) := by
  unfold x_call at h
  rw [Option.map_eq_some_iff] at h
  obtain ⟨r, h1, h2⟩ := h
  have h3 := List.find?_some h1
  simp only [Bool.and_eq_true, beq_iff_eq] at h3
  have hm := List.mem_of_find?_eq_some h1
  have h4 := List.all_eq_true.mp x_ct_ok r hm
  simp only [Bool.and_eq_true, decide_eq_true_eq] at h4
  cases h2
  refine ⟨h4.1, ?_⟩
  by_cases hk : r.2.2.2.1 = 3
  · rw [if_pos hk] at h4
    simp only [Bool.and_eq_true, decide_eq_true_eq] at h4
    refine Or.inl ⟨hk, by rw [← h3.1]; exact h4.2.2, h4.2.1, r.2.2.2.2, ?_⟩
    unfold x_ne
    refine List.mem_map.mpr ⟨r, List.mem_filter.mpr ⟨hm, by simpa using hk⟩, by rw [h3.2]⟩
  · rw [if_neg hk] at h4
    simp only [Bool.and_eq_true, decide_eq_true_eq] at h4
    refine Or.inr ⟨hk, h4.2.1, ?_⟩
    have h5 := x_at_in h4.2.2
    rw [h3.1, h3.2] at h5
    exact h5
end
section
/-! ONE STEP IS SOUND -/
def x_Ctx (o : Nat → Nat) (sio : Value) (sz : Nat) (xs : List Int32) (y dR n0 : Nat) (p : Program) (R : Room) (s : State) (m : MethodId) (args : Array Value) (meth : Method) (c : Code) : Prop :=
  p.tables.exec = Jvm.exec ∧ c.code = x_by y ∧ c.maxLocals = x_ml y ∧ s.vm.findClass (x_cn (x_cy y)) = some m.cls ∧ (∀ w ∈ x_TB, w.before args s = true) ∧ x_Old o sio sz xs s s.heap ∧ s.heap.size + 8 = sz + n0 ∧ 8 ≤ n0 ∧ (x_kd y = 2 → meth.name = "<init>") ∧ dR + 1 ≤ R.frames ∧ 60 * dR + 60 ≤ R.locals ∧ meth.locks = false ∧ (sio = .null ∨ ∃ t, sio = .ref t)
section XST
variable {o : Nat → Nat} {sio : Value} {sz : Nat} {xs : List Int32} {D : va_G} {y dR n0 s0 : Nat}
variable {p : Program} {l : Launch} {e : Env} {R : Room} {s : State} {m : MethodId} {args : Array Value} {below : List Frame} {meth : Method} {c : Code} {H : Heap} {locs : List Loc} {cells slots : Nat} {Q : State → Prop}
theorem x_size (g : JFrame) (k : H.size ≤ s.heap.size + cells → W p l e R s m args below meth c H locs cells slots Q g) : W p l e R s m args below meth c H locs cells slots Q g := by
  intro T hT X
  have h1 := X.heapSize
  rw [hT] at h1
  exact k h1 T hT X
theorem x_fresh {ws : va_W} {q : Nat} {ev : va_E} {H1 : Heap} (hP : va_P D vwCl (ws ++ [(q, ev)]) H1) (hD : va_D (x_A sz) (ws ++ [(q, ev)])) (hw : ∀ (i : Nat) (r : Nat × va_E), ws[i]? = some r → r.1 = sz + i) (hz : H1.size ≤ sz + ws.length + 1) : q = sz + ws.length := by
  have hq : (ws ++ [(q, ev)])[ws.length]? = some (q, ev) := by rw [List.getElem?_append_right (Nat.le_refl _), Nat.sub_self]; rfl
  have h1 := (hP _ _ hq).lt
  have h2 : sz ≤ q := hD.2 _ _ hq
  have h1' : q < H1.size := h1
  by_cases hlt : q < sz + ws.length
  · exfalso
    have hi : q - sz < ws.length := by omega
    have h3 := hw (q - sz) ws[q - sz] (List.getElem?_eq_getElem hi)
    have h4 : (ws ++ [(q, ev)])[q - sz]? = some ws[q - sz] := by rw [List.getElem?_append_left hi, List.getElem?_eq_getElem hi]
    have h5 := hD.1 (q - sz) ws.length _ _ h4 hq (by rw [h3]; show sz + (q - sz) = q; omega)
    omega
  · omega
theorem x_arr {tys : List (ClassId × FieldType)} {vs : List Value} {ev : va_E} (h : x_R o sio sz tys (10, vs) ev) : ∃ (cA : ClassId) (f : Nat → Int32) (t0 : Nat), ev = .inl (cA, vs.length, .inl f) ∧ tys[t0]? = some (cA, FieldType.int) ∧ ∀ (j : Nat) (v : Value), vs[j]? = some v → v = .int (f j) := by
  match ev, h with
  | .inr q, ⟨h1, h2, _⟩ => exact absurd (h1 ▸ h2) (by omega)
  | .inl (cA, n, .inl f), ⟨_, ⟨t0, h2⟩, h3, h4⟩ => exact ⟨cA, f, t0, by rw [h3], h2, h4⟩
  | .inl (cA, n, .inr (.inr (.inr (.inr f)))), ⟨h1, _⟩ => rcases h1 with ⟨h1, -⟩ | ⟨h1, -⟩ <;> exact absurd h1 (by simp)
theorem x_obj {tys : List (ClassId × FieldType)} {ci : Nat} {fs : List Value} {ev : va_E} (h : x_R o sio sz tys (ci, fs) ev) (hc : ci < 10) : ci < 7 ∧ ev = .inr (ci, fs.map (x_tr o sio sz)) := by
  match ev, h with
  | .inr q, ⟨h1, h2, h3⟩ =>
    obtain ⟨q1, q2⟩ := q
    cases h1
    cases h3
    exact ⟨h2, rfl⟩
  | .inl (cA, n, .inl f), ⟨h1, _⟩ => exact absurd h1 (by show ¬ ci = 10; omega)
  | .inl (cA, n, .inr (.inr (.inr (.inr f)))), ⟨h1, _⟩ => rcases h1 with ⟨h1, -⟩ | ⟨h1, -⟩ <;> exact absurd h1 (by show ¬ ci = _; omega)
theorem x_arq {tys : List (ClassId × FieldType)} {ct : Nat} {vs : List Value} {ev : va_E} (h : x_R o sio sz tys (ct, vs) ev) (hc : ct = 11 ∨ ct = 12) : ∃ (cA : ClassId) (f : Nat → Option Nat) (t0 : Nat), ev = .inl (cA, vs.length, .inr (.inr (.inr (.inr f)))) ∧ ((ct = 11 ∧ tys[t0]? = some (cA, FieldType.object RX2)) ∨ (ct = 12 ∧ tys[t0]? = some (cA, FieldType.object RX0))) ∧ ∀ (j : Nat) (v : Value), vs[j]? = some v → x_tr o sio sz v = va_rf (f j) := by
  match ev, h with
  | .inr q, ⟨h1, h2, _⟩ =>
    have h1' : ct = q.1 := h1
    exact absurd h2 (by omega)
  | .inl (cA, n, .inl f), ⟨h1, _⟩ =>
    have h1' : ct = 10 := h1
    exact absurd h1' (by omega)
  | .inl (cA, n, .inr (.inr (.inr (.inr f)))), ⟨h1, h2, h3⟩ =>
    rcases h1 with ⟨h1, t0, ht⟩ | ⟨h1, t0, ht⟩
    · exact ⟨cA, f, t0, by rw [h2], Or.inl ⟨h1, ht⟩, h3⟩
    · exact ⟨cA, f, t0, by rw [h2], Or.inr ⟨h1, ht⟩, h3⟩
theorem x_tr8 {k : Nat} (h : 8 ≤ k) : x_tr o sio sz (.ref k) = .ref (x_ad o sz k) := x_tr_ref (by omega)
theorem x_lt8 {q : Nat} (h : ¬ 8 ≤ q) : q = 0 ∨ q = 1 ∨ q = 2 ∨ q = 3 ∨ q = 4 ∨ q = 5 ∨ q = 6 ∨ q = 7 := by omega
theorem x_in_of {i : Int32} {n : Nat} (h0 : ¬ i < 0) (h : i.toNatClampNeg < n) : vp_in i n := fun z => z.elim h0 (fun z => by omega)
theorem x_gD {xs : List Int32} {k : Nat} {v : Int32} (h : (xs.map Value.int)[k]? = some (.int v)) : xs.getD k 0 = v := by
  rw [List.getElem?_map, Option.map_eq_some_iff] at h
  obtain ⟨w, h1, h2⟩ := h
  cases h2
  rw [List.getD_eq_getElem?_getD, h1]
  rfl
set_option maxHeartbeats 16000000 in
set_option maxRecDepth 20000 in
theorem x_sound1 {r i : Instr} {n pc pc' : Nat} {L S L' S' : List Value} {h h' : x_H} {ls : Array Slot} (C : x_Ctx o sio sz xs y dR n0 p R s m args meth c)
    (hd : decode (x_by y) pc = .ok (r, n)) (hn : (x_sw r || n == x_len r) = true) (hr : x_res (x_cy y) pc r = some i) (hs : x_step (x_kd y == 2) i pc (pc + n) L S h = some (pc', L', S', h'))
    (hL : x_L o sio sz ls L) (hLl : L.length = x_ml y) (hW : x_W o sio sz xs D h H s) (hS : va_S (x_A sz) s.heap H locs) (hn0 : n0 ≤ h.length) (hs0 : s0 ≤ x_sz h) (hR1 : h'.length - n0 ≤ R.cells) (hR2 : x_sz h' - s0 ≤ R.slots)
    (kk : ∀ (ls' : Array Slot) (H' : Heap) (locs' : List Loc), x_L o sio sz ls' L' → x_W o sio sz xs D h' H' s → va_S (x_A sz) s.heap H' locs' → W p l e R s m args below meth c H' locs' (h'.length - n0) (x_sz h' - s0) Q (F0 m pc' ls' (S'.map (x_tr o sio sz)))) :
    W p l e R s m args below meth c H locs (h.length - n0) (x_sz h - s0) Q (F0 m pc ls (S.map (x_tr o sio sz))) := by
  obtain ⟨hx, hb, hml, hown, hts, hO, hsz, h8, hini, hRf, hRl, hlk, hsio⟩ := C
  have hlL : lv_has ls L.length (x_ll o sio sz L) := hL.has
  have hAA : ∀ q, s.heap.size ≤ q → x_A sz q := fun q hq => by show sz ≤ q; omega
  cases r with
  | iconst v =>
    cases hr
    cases (show n = 1 by simpa [x_sw, x_len] using hn)
    cases hs
    exact lv_iconst hx hb hd rfl (kk ls H locs hL hW hS)
  | bipush v =>
    cases hr
    cases (show n = 2 by simpa [x_sw, x_len] using hn)
    cases hs
    refine lv_bipush hx hb hd rfl ?_
    have := kk ls H locs hL hW hS
    simp only [Int32.ofInt_toInt] at this
    exact this
  | sipush v =>
    cases hr
    cases (show n = 3 by simpa [x_sw, x_len] using hn)
    cases hs
    refine lv_sipush hx hb hd rfl ?_
    have := kk ls H locs hL hW hS
    simp only [Int32.ofInt_toInt] at this
    exact this
  | ldc k =>
    cases (show n = 2 by simpa [x_sw, x_len] using hn)
    simp only [x_res] at hr
    split at hr
    next v hv =>
      cases hr
      cases hs
      refine lv_ldc hx hb hown (hts _ (x_kt_w hv)) hd ?_
      have := kk ls H locs hL hW hS
      simp only [Int32.ofInt_toInt] at this
      exact this
    next =>
      split at hr
      next hc =>
        cases hr
        cases hs
        rw [hc.1] at hown
        rw [hc.2] at hd
        exact va_ldcS hx hb (own := "WindowCards") hown hO.2.2.2.1.1 hd (kk ls H locs hL hW hS)
      next =>
        split at hr
        next hc =>
          cases hr
          cases hs
          rw [hc.1] at hown
          rw [hc.2] at hd
          exact va_ldcS hx hb (own := "WindowCards") hown hO.2.2.2.1.2 hd (kk ls H locs hL hW hS)
        next => cases hr
  | ldc_w k =>
    cases (show n = 3 by simpa [x_sw, x_len] using hn)
    simp only [x_res] at hr
    split at hr
    next v hv =>
      cases hr
      cases hs
      refine lv_ldcw hx hb hown (hts _ (x_kt_w hv)) hd ?_
      have := kk ls H locs hL hW hS
      simp only [Int32.ofInt_toInt] at this
      exact this
    next => cases hr
  | lconst k =>
    cases hr
    cases (show n = 1 by simpa [x_sw, x_len] using hn)
    cases hs
    exact lv_lconst hx hb hd rfl (kk ls H locs hL hW hS)
  | ldc2_w k =>
    cases (show n = 3 by simpa [x_sw, x_len] using hn)
    simp only [x_res] at hr
    split at hr
    next v hv =>
      cases hr
      cases hs
      exact lv_ldc2 hx hb hown (hts _ (x_kl_w hv)) hd (kk ls H locs hL hW hS)
    next => cases hr
  | iload_n k =>
    cases hr
    cases (show n = 1 by simpa [x_sw, x_len] using hn)
    simp only [x_step] at hs
    split at hs
    next x hx1 =>
      cases hs
      exact lv_iload_n hx hb hd rfl (hL.2.2 _ _ hx1 (by simp)) (kk ls H locs hL hW hS)
    next => cases hs
  | iload k =>
    cases hr
    cases (show n = 2 by simpa [x_sw, x_len] using hn)
    simp only [x_step] at hs
    split at hs
    next x hx1 =>
      cases hs
      exact lv_iload hx hb hd (hL.2.2 _ _ hx1 (by simp)) (kk ls H locs hL hW hS)
    next => cases hs
  | lload_n k =>
    cases hr
    cases (show n = 1 by simpa [x_sw, x_len] using hn)
    simp only [x_step] at hs
    split at hs
    next x hx1 =>
      cases hs
      exact lv_lload_n hx hb hd rfl (hL.2.2 _ _ hx1 (by simp)) (kk ls H locs hL hW hS)
    next => cases hs
  | lload k =>
    cases hr
    cases (show n = 2 by simpa [x_sw, x_len] using hn)
    simp only [x_step] at hs
    split at hs
    next x hx1 =>
      cases hs
      exact lv_lload hx hb hd (hL.2.2 _ _ hx1 (by simp)) (kk ls H locs hL hW hS)
    next => cases hs
  | aload_n k =>
    cases hr
    cases (show n = 1 by simpa [x_sw, x_len] using hn)
    simp only [x_step] at hs
    split at hs
    next q hx1 =>
      split at hs
      next => cases hs
      next hq =>
        cases hs
        have h1 := hL.2.2 _ _ hx1 (by simp)
        have h2 := kk ls H locs hL hW hS
        rw [List.map_cons] at h2
        rw [x_tr_ref hq] at h1 h2
        exact lv_aload_n hx hb hd rfl h1 h2
    next => cases hs
  | aload k =>
    cases hr
    cases (show n = 2 by simpa [x_sw, x_len] using hn)
    simp only [x_step] at hs
    split at hs
    next q hx1 =>
      split at hs
      next => cases hs
      next hq =>
        cases hs
        have h1 := hL.2.2 _ _ hx1 (by simp)
        have h2 := kk ls H locs hL hW hS
        rw [List.map_cons] at h2
        rw [x_tr_ref hq] at h1 h2
        exact lv_aload hx hb hd h1 h2
    next => cases hs
  | istore_n k =>
    cases hr
    cases (show n = 1 by simpa [x_sw, x_len] using hn)
    simp only [x_step] at hs
    split at hs
    next x st =>
      split at hs
      next hk =>
        cases hs
        exact lv_istore_n hx hb hd rfl hlL hk rfl (fun ls' hl' => kk ls' H locs (x_L.st1 (v := .int x) hsio hl' hk) hW hS)
      next => cases hs
    next => cases hs
  | istore k =>
    cases hr
    cases (show n = 2 by simpa [x_sw, x_len] using hn)
    simp only [x_step] at hs
    split at hs
    next x st =>
      split at hs
      next hk =>
        cases hs
        exact lv_istore hx hb hd hlL hk rfl (fun ls' hl' => kk ls' H locs (x_L.st1 (v := .int x) hsio hl' hk) hW hS)
      next => cases hs
    next => cases hs
  | lstore_n k =>
    cases hr
    cases (show n = 1 by simpa [x_sw, x_len] using hn)
    simp only [x_step] at hs
    split at hs
    next x st =>
      split at hs
      next hk =>
        cases hs
        exact lv_lstore_n hx hb hd rfl hlL hk rfl (fun ls' hl' => kk ls' H locs (x_L.st2 (v := .long x) hsio hl' hk) hW hS)
      next => cases hs
    next => cases hs
  | lstore k =>
    cases hr
    cases (show n = 2 by simpa [x_sw, x_len] using hn)
    simp only [x_step] at hs
    split at hs
    next x st =>
      split at hs
      next hk =>
        cases hs
        exact lv_lstore hx hb hd hlL hk rfl (fun ls' hl' => kk ls' H locs (x_L.st2 (v := .long x) hsio hl' hk) hW hS)
      next => cases hs
    next => cases hs
  | astore_n k =>
    cases hr
    cases (show n = 1 by simpa [x_sw, x_len] using hn)
    simp only [x_step] at hs
    split at hs
    next q st =>
      split at hs
      next hk =>
        cases hs
        rw [List.map_cons, x_tr_ref hk.2]
        exact lv_astore_n hx hb hd rfl hlL hk.1 rfl (fun ls' hl' => kk ls' H locs (x_L.st1 (v := .ref q) hsio (by rw [x_tr_ref hk.2]; exact hl') hk.1) hW hS)
      next => cases hs
    next => cases hs
  | astore k =>
    cases hr
    cases (show n = 2 by simpa [x_sw, x_len] using hn)
    simp only [x_step] at hs
    split at hs
    next q st =>
      split at hs
      next hk =>
        cases hs
        rw [List.map_cons, x_tr_ref hk.2]
        exact lv_astore hx hb hd hlL hk.1 rfl (fun ls' hl' => kk ls' H locs (x_L.st1 (v := .ref q) hsio (by rw [x_tr_ref hk.2]; exact hl') hk.1) hW hS)
      next => cases hs
    next => cases hs
  | iinc k v =>
    cases hr
    cases (show n = 3 by simpa [x_sw, x_len] using hn)
    simp only [x_step] at hs
    split at hs
    next x hx1 =>
      cases hs
      have hk : k < L.length := (List.getElem?_eq_some_iff.mp hx1).1
      obtain ⟨j, hj⟩ := List.getElem?_of_mem (x_mem_ll (o := o) (sio := sio) (sz := sz) (q := (k, .int x)) |>.mpr ⟨.int x, hx1, by simp, rfl⟩)
      exact lv_iinc hx hb hd hlL hj rfl hk rfl (fun ls' hl' => kk ls' H locs (x_L.st1 (v := .int (x + Int32.ofInt v)) hsio hl' hk) hW hS)
    next => cases hs
  | iadd =>
    cases hr
    cases (show n = 1 by simpa [x_sw, x_len] using hn)
    simp only [x_step] at hs
    obtain ⟨x, z, st, v, rfl, hf, rfl, rfl, rfl, rfl⟩ := x_bi_w hs
    cases hf
    exact lv_iadd hx hb hd (kk ls H locs hL hW hS)
  | isub =>
    cases hr
    cases (show n = 1 by simpa [x_sw, x_len] using hn)
    simp only [x_step] at hs
    obtain ⟨x, z, st, v, rfl, hf, rfl, rfl, rfl, rfl⟩ := x_bi_w hs
    cases hf
    exact lv_isub hx hb hd (kk ls H locs hL hW hS)
  | imul =>
    cases hr
    cases (show n = 1 by simpa [x_sw, x_len] using hn)
    simp only [x_step] at hs
    obtain ⟨x, z, st, v, rfl, hf, rfl, rfl, rfl, rfl⟩ := x_bi_w hs
    cases hf
    exact lv_imul hx hb hd (kk ls H locs hL hW hS)
  | idiv =>
    cases hr
    cases (show n = 1 by simpa [x_sw, x_len] using hn)
    simp only [x_step] at hs
    obtain ⟨x, z, st, v, rfl, hf, rfl, rfl, rfl, rfl⟩ := x_bi_w hs
    split at hf
    next => cases hf
    next hne =>
      cases hf
      exact lv_idiv hx hb hd hne (kk ls H locs hL hW hS)
  | irem =>
    cases hr
    cases (show n = 1 by simpa [x_sw, x_len] using hn)
    simp only [x_step] at hs
    obtain ⟨x, z, st, v, rfl, hf, rfl, rfl, rfl, rfl⟩ := x_bi_w hs
    split at hf
    next => cases hf
    next hne =>
      cases hf
      exact lv_irem hx hb hd hne (kk ls H locs hL hW hS)
  | ineg =>
    cases hr
    cases (show n = 1 by simpa [x_sw, x_len] using hn)
    simp only [x_step] at hs
    obtain ⟨x, st, rfl, rfl, rfl, rfl, rfl⟩ := x_un_w hs
    exact lv_ineg hx hb hd (kk ls H locs hL hW hS)
  | iand =>
    cases hr
    cases (show n = 1 by simpa [x_sw, x_len] using hn)
    simp only [x_step] at hs
    obtain ⟨x, z, st, v, rfl, hf, rfl, rfl, rfl, rfl⟩ := x_bi_w hs
    cases hf
    exact lv_iand hx hb hd (kk ls H locs hL hW hS)
  | ior =>
    cases hr
    cases (show n = 1 by simpa [x_sw, x_len] using hn)
    simp only [x_step] at hs
    obtain ⟨x, z, st, v, rfl, hf, rfl, rfl, rfl, rfl⟩ := x_bi_w hs
    cases hf
    exact lv_ior hx hb hd (kk ls H locs hL hW hS)
  | ixor =>
    cases hr
    cases (show n = 1 by simpa [x_sw, x_len] using hn)
    simp only [x_step] at hs
    obtain ⟨x, z, st, v, rfl, hf, rfl, rfl, rfl, rfl⟩ := x_bi_w hs
    cases hf
    exact lv_ixor hx hb hd (kk ls H locs hL hW hS)
  | ishl =>
    cases hr
    cases (show n = 1 by simpa [x_sw, x_len] using hn)
    simp only [x_step] at hs
    obtain ⟨x, z, st, v, rfl, hf, rfl, rfl, rfl, rfl⟩ := x_bi_w hs
    cases hf
    exact lv_ishl hx hb hd (kk ls H locs hL hW hS)
  | ishr =>
    cases hr
    cases (show n = 1 by simpa [x_sw, x_len] using hn)
    simp only [x_step] at hs
    obtain ⟨x, z, st, v, rfl, hf, rfl, rfl, rfl, rfl⟩ := x_bi_w hs
    cases hf
    exact lv_ishr hx hb hd (kk ls H locs hL hW hS)
  | iushr =>
    cases hr
    cases (show n = 1 by simpa [x_sw, x_len] using hn)
    simp only [x_step] at hs
    obtain ⟨x, z, st, v, rfl, hf, rfl, rfl, rfl, rfl⟩ := x_bi_w hs
    cases hf
    exact lv_iushr hx hb hd rfl (kk ls H locs hL hW hS)
  | i2b =>
    cases hr
    cases (show n = 1 by simpa [x_sw, x_len] using hn)
    simp only [x_step] at hs
    obtain ⟨x, st, rfl, rfl, rfl, rfl, rfl⟩ := x_un_w hs
    exact lv_i2b hx hb hd rfl (kk ls H locs hL hW hS)
  | i2s =>
    cases hr
    cases (show n = 1 by simpa [x_sw, x_len] using hn)
    simp only [x_step] at hs
    obtain ⟨x, st, rfl, rfl, rfl, rfl, rfl⟩ := x_un_w hs
    exact lv_i2s hx hb hd rfl (kk ls H locs hL hW hS)
  | i2c =>
    cases hr
    cases (show n = 1 by simpa [x_sw, x_len] using hn)
    simp only [x_step] at hs
    obtain ⟨x, st, rfl, rfl, rfl, rfl, rfl⟩ := x_un_w hs
    exact lv_i2c hx hb hd rfl (kk ls H locs hL hW hS)
  | ladd =>
    cases hr
    cases (show n = 1 by simpa [x_sw, x_len] using hn)
    simp only [x_step] at hs
    obtain ⟨x, z, st, v, rfl, hf, rfl, rfl, rfl, rfl⟩ := x_bl_w hs
    cases hf
    exact lv_ladd hx hb hd (kk ls H locs hL hW hS)
  | lmul =>
    cases hr
    cases (show n = 1 by simpa [x_sw, x_len] using hn)
    simp only [x_step] at hs
    obtain ⟨x, z, st, v, rfl, hf, rfl, rfl, rfl, rfl⟩ := x_bl_w hs
    cases hf
    exact lv_lmul hx hb hd (kk ls H locs hL hW hS)
  | land =>
    cases hr
    cases (show n = 1 by simpa [x_sw, x_len] using hn)
    simp only [x_step] at hs
    obtain ⟨x, z, st, v, rfl, hf, rfl, rfl, rfl, rfl⟩ := x_bl_w hs
    cases hf
    exact lv_land hx hb hd (kk ls H locs hL hW hS)
  | lor =>
    cases hr
    cases (show n = 1 by simpa [x_sw, x_len] using hn)
    simp only [x_step] at hs
    obtain ⟨x, z, st, v, rfl, hf, rfl, rfl, rfl, rfl⟩ := x_bl_w hs
    cases hf
    exact lv_lor hx hb hd (kk ls H locs hL hW hS)
  | lrem =>
    cases hr
    cases (show n = 1 by simpa [x_sw, x_len] using hn)
    simp only [x_step] at hs
    obtain ⟨x, z, st, v, rfl, hf, rfl, rfl, rfl, rfl⟩ := x_bl_w hs
    split at hf
    next => cases hf
    next hne =>
      cases hf
      exact lv_lrem hx hb hd hne (kk ls H locs hL hW hS)
  | lcmp =>
    cases hr
    cases (show n = 1 by simpa [x_sw, x_len] using hn)
    simp only [x_step] at hs
    split at hs
    next z x st =>
      cases hs
      exact W.lcmp hx hb hd (kk ls H locs hL hW hS)
    next => cases hs
  | lshl =>
    cases hr
    cases (show n = 1 by simpa [x_sw, x_len] using hn)
    simp only [x_step] at hs
    split at hs
    next z x st =>
      cases hs
      exact lv_lshl hx hb hd rfl (kk ls H locs hL hW hS)
    next => cases hs
  | lshr =>
    cases hr
    cases (show n = 1 by simpa [x_sw, x_len] using hn)
    simp only [x_step] at hs
    split at hs
    next z x st =>
      cases hs
      exact lv_lshr hx hb hd rfl (kk ls H locs hL hW hS)
    next => cases hs
  | i2l =>
    cases hr
    cases (show n = 1 by simpa [x_sw, x_len] using hn)
    simp only [x_step] at hs
    split at hs
    next x st =>
      cases hs
      exact lv_i2l hx hb hd rfl (kk ls H locs hL hW hS)
    next => cases hs
  | l2i =>
    cases hr
    cases (show n = 1 by simpa [x_sw, x_len] using hn)
    simp only [x_step] at hs
    split at hs
    next x st =>
      cases hs
      exact lv_l2i hx hb hd rfl (kk ls H locs hL hW hS)
    next => cases hs
  | dup =>
    cases hr
    cases (show n = 1 by simpa [x_sw, x_len] using hn)
    simp only [x_step] at hs
    split at hs
    next v st =>
      split at hs
      next hv =>
        cases hs
        exact lv_dup hx hb hd (by rw [x_tr_cat hsio]; exact hv) (kk ls H locs hL hW hS)
      next => cases hs
    next => cases hs
  | pop =>
    cases hr
    cases (show n = 1 by simpa [x_sw, x_len] using hn)
    simp only [x_step] at hs
    split at hs
    next v st =>
      split at hs
      next hv =>
        cases hs
        exact lv_pop hx hb hd (by rw [x_tr_cat hsio]; exact hv) (kk ls H locs hL hW hS)
      next => cases hs
    next => cases hs
  | dup2 =>
    cases hr
    cases (show n = 1 by simpa [x_sw, x_len] using hn)
    simp only [x_step] at hs
    split at hs
    next v w st =>
      split at hs
      next hv =>
        cases hs
        exact lv_dup2_11 hx hb hd (by rw [x_tr_cat hsio]; exact hv.1) (by rw [x_tr_cat hsio]; exact hv.2) (kk ls H locs hL hW hS)
      next => cases hs
    next => cases hs
  | goto off =>
    cases (show n = 3 by simpa [x_sw, x_len] using hn)
    simp only [x_res] at hr
    split at hr
    next t ht =>
      cases hr
      cases hs
      exact lv_goto hx hb hd (x_to_w ht) (kk ls H locs hL hW hS)
    next => cases hr
  | ifCond q off =>
    cases (show n = 3 by simpa [x_sw, x_len] using hn)
    simp only [x_res] at hr
    split at hr
    next t ht =>
      cases hr
      simp only [x_step] at hs
      split at hs
      next x st =>
        cases hs
        have k := kk ls H locs hL hW hS
        have ht' := x_to_w ht
        cases q with
        | eq => exact lv_if_eq hx hb hd ht' (fun z => by rw [if_pos (by simpa [x_cc] using z)] at k; exact k) (fun z => by rw [if_neg (by simpa [x_cc] using z)] at k; exact k)
        | ne => exact lv_if_ne hx hb hd ht' (fun z => by rw [if_pos (by simpa [x_cc] using z)] at k; exact k) (fun z => by rw [if_neg (by simpa [x_cc] using z)] at k; exact k)
        | lt => exact lv_if_lt hx hb hd ht' (fun z => by rw [if_pos (by simpa only [x_cc, decide_eq_true_eq] using z)] at k; exact k) (fun z => by rw [if_neg (by simpa only [x_cc, decide_eq_true_eq] using z)] at k; exact k)
        | ge => exact lv_if_ge hx hb hd ht' (fun z => by rw [if_pos (by simpa only [x_cc, decide_eq_true_eq] using z)] at k; exact k) (fun z => by rw [if_neg (by simpa only [x_cc, decide_eq_true_eq] using z)] at k; exact k)
        | gt => exact lv_if_gt hx hb hd ht' (fun z => by rw [if_pos (by simpa only [x_cc, decide_eq_true_eq] using z)] at k; exact k) (fun z => by rw [if_neg (by simpa only [x_cc, decide_eq_true_eq] using z)] at k; exact k)
        | le => exact lv_if_le hx hb hd ht' (fun z => by rw [if_pos (by simpa only [x_cc, decide_eq_true_eq] using z)] at k; exact k) (fun z => by rw [if_neg (by simpa only [x_cc, decide_eq_true_eq] using z)] at k; exact k)
      next => cases hs
    next => cases hr
  | if_icmp q off =>
    cases (show n = 3 by simpa [x_sw, x_len] using hn)
    simp only [x_res] at hr
    split at hr
    next t ht =>
      cases hr
      simp only [x_step] at hs
      split at hs
      next x2 x st =>
        cases hs
        have k := kk ls H locs hL hW hS
        have ht' := x_to_w ht
        cases q with
        | eq => exact lv_icmp_eq hx hb hd ht' (fun z => by rw [if_pos (by simpa only [x_cc, decide_eq_true_eq] using z)] at k; exact k) (fun z => by rw [if_neg (by simpa only [x_cc, decide_eq_true_eq] using z)] at k; exact k)
        | ne => exact lv_icmp_ne hx hb hd ht' (fun z => by rw [if_pos (by simpa only [x_cc, decide_eq_true_eq] using z)] at k; exact k) (fun z => by rw [if_neg (by simp only [x_cc, decide_eq_true_eq]; exact not_not_intro z)] at k; exact k)
        | lt => exact lv_icmp_lt hx hb hd ht' (fun z => by rw [if_pos (by simpa only [x_cc, decide_eq_true_eq] using z)] at k; exact k) (fun z => by rw [if_neg (by simpa only [x_cc, decide_eq_true_eq] using z)] at k; exact k)
        | ge => exact lv_icmp_ge hx hb hd ht' (fun z => by rw [if_pos (by simpa only [x_cc, decide_eq_true_eq] using z)] at k; exact k) (fun z => by rw [if_neg (by simpa only [x_cc, decide_eq_true_eq] using z)] at k; exact k)
        | gt => exact lv_icmp_gt hx hb hd ht' (fun z => by rw [if_pos (by simpa only [x_cc, decide_eq_true_eq] using z)] at k; exact k) (fun z => by rw [if_neg (by simpa only [x_cc, decide_eq_true_eq] using z)] at k; exact k)
        | le => exact lv_icmp_le hx hb hd ht' (fun z => by rw [if_pos (by simpa only [x_cc, decide_eq_true_eq] using z)] at k; exact k) (fun z => by rw [if_neg (by simpa only [x_cc, decide_eq_true_eq] using z)] at k; exact k)
      next => cases hs
    next => cases hr
  | tableswitch d lo hi offs =>
    cases hr
    simp only [x_step] at hs
    split at hs
    next x st =>
      split at hs
      next hc =>
        split at hs
        next t ht =>
          cases hs
          exact lv_tableOut hx hb hd hc (x_to_w ht) (kk ls H locs hL hW hS)
        next => cases hs
      next hc =>
        split at hs
        next of hof =>
          split at hs
          next t ht =>
            cases hs
            exact lv_tableIn hx hb hd (fun z => hc (Or.inl z)) (fun z => hc (Or.inr z)) hof (x_to_w ht) (kk ls H locs hL hW hS)
          next => cases hs
        next => cases hs
    next => cases hs
  | lookupswitch d ps =>
    cases hr
    simp only [x_step] at hs
    split at hs
    next x st =>
      split at hs
      next hc =>
        split at hs
        next t ht =>
          cases hs
          exact lv_lookup hx hb hd hc rfl (x_to_w ht) (kk ls H locs hL hW hS)
        next => cases hs
      next => cases hs
    next => cases hs
  | getfield k =>
    cases (show n = 3 by simpa [x_sw, x_len] using hn)
    simp only [x_res] at hr
    split at hr
    next ev hev =>
      cases hr
      have hb8 := x_ft_b hev
      have hw := hts _ (x_ft_w hev)
      simp only [x_step] at hs
      split at hs
      next q st =>
        split at hs
        next ci fs hq =>
          split at hs
          next hci =>
            split at hs
            next v hv =>
              cases hs
              subst hci
              by_cases hq8 : 8 ≤ q
              · obtain ⟨ws, tys, hP, hD, hK, hQ⟩ := hW
                obtain ⟨cv, g1, g2⟩ := hQ.new hq8 hq
                obtain ⟨h7, rfl⟩ := x_obj g2 (by omega)
                rw [List.map_cons, x_tr8 hq8]
                rw [x_fd7 h7] at hw
                have hkN : ev % 32 < x_N (ev / 32) := by
                  rcases hb8 with z | z
                  · omega
                  · exact z.2
                exact va_get (D := D) hx hb hts (x_hin h7) hown hK hP (q - 8) g1 (x_cl7 h7) (ev % 32) hkN hw (fun _ z => z) (v := x_tr o sio sz v) (by rw [List.getElem?_map, hv]; rfl) hd (kk ls H locs hL ⟨ws, tys, hP, hD, hK, hQ⟩ hS)
              · have hW' := hW
                obtain ⟨ws, tys, hP, hD, hK, hQ⟩ := hW'
                have ho := hQ.old (Nat.lt_of_not_le hq8) hq
                have hO3 := hO.2.2.1
                rcases x_lt8 hq8 with rfl | rfl | rfl | rfl | rfl | rfl | rfl | rfl
                · exact absurd (congrArg Prod.fst (Option.some.inj ho)) (by show ¬ (10 : Nat) = _; omega)
                · exact absurd (congrArg Prod.fst (Option.some.inj ho)) (by show ¬ (10 : Nat) = _; omega)
                · exact absurd (congrArg Prod.fst (Option.some.inj ho)) (by show ¬ (10 : Nat) = _; omega)
                · have h1 : 8 = ev / 32 := congrArg Prod.fst (Option.some.inj ho)
                  have h2 : ([.ref 5, .int 0] : List Value) = fs := congrArg Prod.snd (Option.some.inj ho)
                  subst h2
                  rcases (by omega : ev % 32 = 0 ∨ ev % 32 = 1) with h3 | h3
                  · rw [h3] at hv
                    cases hv
                    have hfd : x_fd ev = ("java/lang/String", "value", "[B") := by unfold x_fd; rw [if_pos h1.symm, if_pos h3]
                    rw [hfd] at hw
                    exact vk_getf hx hb (hO3.1 0 (by decide)).2.2.1 hS hown hw (fun _ z => z) hd (kk ls H locs hL hW hS)
                  · rw [h3] at hv
                    cases hv
                    have hfd : x_fd ev = ("java/lang/String", "coder", "B") := by unfold x_fd; rw [if_pos h1.symm, if_neg (by omega)]
                    rw [hfd] at hw
                    exact vk_getf hx hb (hO3.1 0 (by decide)).2.1 hS hown hw (fun _ z => z) hd (kk ls H locs hL hW hS)
                · have h1 : 8 = ev / 32 := congrArg Prod.fst (Option.some.inj ho)
                  have h2 : ([.ref 6, .int 0] : List Value) = fs := congrArg Prod.snd (Option.some.inj ho)
                  subst h2
                  rcases (by omega : ev % 32 = 0 ∨ ev % 32 = 1) with h3 | h3
                  · rw [h3] at hv
                    cases hv
                    have hfd : x_fd ev = ("java/lang/String", "value", "[B") := by unfold x_fd; rw [if_pos h1.symm, if_pos h3]
                    rw [hfd] at hw
                    exact vk_getf hx hb (hO3.1 1 (by decide)).2.2.1 hS hown hw (fun _ z => z) hd (kk ls H locs hL hW hS)
                  · rw [h3] at hv
                    cases hv
                    have hfd : x_fd ev = ("java/lang/String", "coder", "B") := by unfold x_fd; rw [if_pos h1.symm, if_neg (by omega)]
                    rw [hfd] at hw
                    exact vk_getf hx hb (hO3.1 1 (by decide)).2.1 hS hown hw (fun _ z => z) hd (kk ls H locs hL hW hS)
                · exact absurd (congrArg Prod.fst (Option.some.inj ho)) (by show ¬ (14 : Nat) = _; omega)
                · exact absurd (congrArg Prod.fst (Option.some.inj ho)) (by show ¬ (14 : Nat) = _; omega)
                · exact absurd (congrArg Prod.fst (Option.some.inj ho)) (by show ¬ (99 : Nat) = _; omega)
            next => cases hs
          next => cases hs
        next => cases hs
      next => cases hs
    next => cases hr
  | putfield k =>
    cases (show n = 3 by simpa [x_sw, x_len] using hn)
    simp only [x_res] at hr
    split at hr
    next ev hev =>
      have hw := hts _ (x_ft_w hev)
      have hb8 := x_ft_b hev
      split at hr
      next h7 =>
        rw [x_fd7 h7] at hw
        have hkN : ev % 32 < x_N (ev / 32) := by
          rcases hb8 with z | z
          · omega
          · exact z.2
        split at hr
        next hff =>
          split at hr
          next hdc =>
            cases hr
            simp only [x_step] at hs
            split at hs
            next v q st =>
              split at hs
              next ci fs hq =>
                split at hs
                next hc =>
                  cases hs
                  obtain ⟨hin2, rfl, hq8, hkl, hfit⟩ := hc
                  obtain ⟨ws, tys, hP, hD, hK, hQ⟩ := hW
                  obtain ⟨cv, g1, g2⟩ := hQ.new hq8 hq
                  obtain ⟨-, rfl⟩ := x_obj g2 (by omega)
                  have hft := x_fit_tr (o := o) (sio := sio) (sz := sz) hfit
                  rw [List.map_cons, List.map_cons, x_tr8 hq8]
                  rw [x_fd7 h7] at hdc
                  refine va_putF (D := D) hx hb hts (x_hin h7) (x_ty (ev / 32)) (x_hty h7) (x_hnm h7) hown hK hP hD hS (q - 8) g1 (x_cl7 h7) (ev % 32) hkN hw (fun _ z => z) hff (hini (by simpa using hin2)) hdc (x_hty h7 _ hkN) hft.1 hft.2 (by rw [List.length_map]; exact hkl) hd (fun H1 locs1 hP1 hD1 hS1 => ?_)
                  have k1 := kk ls H1 locs1 hL ⟨_, tys, hP1, hD1, hK, hQ.set hq8 (List.getElem?_eq_some_iff.mp hq).1 ⟨rfl, h7, by simp only [List.map_set]⟩⟩ hS1
                  rw [List.length_set, x_sz_set hq List.length_set] at k1
                  exact k1
                next => cases hs
              next => cases hs
            next => cases hs
          next => cases hr
        next hff =>
          cases hr
          simp only [x_step] at hs
          split at hs
          next v q st =>
            split at hs
            next ci fs hq =>
              split at hs
              next hc =>
                cases hs
                obtain ⟨rfl, hq8, hkl, hfit⟩ := hc
                obtain ⟨ws, tys, hP, hD, hK, hQ⟩ := hW
                obtain ⟨cv, g1, g2⟩ := hQ.new hq8 hq
                obtain ⟨-, rfl⟩ := x_obj g2 (by omega)
                have hft := x_fit_tr (o := o) (sio := sio) (sz := sz) hfit
                rw [List.map_cons, List.map_cons, x_tr8 hq8]
                refine va_put (D := D) hx hb hts (x_hin h7) (x_ty (ev / 32)) (x_hty h7) (x_hnm h7) hown hK hP hD hS (q - 8) g1 (x_cl7 h7) (ev % 32) hkN hw (fun _ z => z) (by simpa [x_ff] using hff) (x_hty h7 _ hkN) hft.1 hft.2 (by rw [List.length_map]; exact hkl) hd (fun H1 locs1 hP1 hD1 hS1 => ?_)
                have k1 := kk ls H1 locs1 hL ⟨_, tys, hP1, hD1, hK, hQ.set hq8 (List.getElem?_eq_some_iff.mp hq).1 ⟨rfl, h7, by simp only [List.map_set]⟩⟩ hS1
                rw [List.length_set, x_sz_set hq List.length_set] at k1
                exact k1
              next => cases hs
            next => cases hs
          next => cases hs
      next => cases hr
    next => cases hr
  | getstatic k =>
    cases (show n = 3 by simpa [x_sw, x_len] using hn)
    simp only [x_res] at hr
    split at hr
    next j hj =>
      cases hr
      have hw := hts _ (x_sf_w hj)
      match j, hs, hw with
      | 0, hs, hw =>
        cases hs
        exact va_gets hx hb hO.2.1.1 hS hown hw (fun _ z => z) hd (kk ls H locs hL hW hS)
      | 1, hs, hw =>
        cases hs
        exact va_gets hx hb hO.2.1.2.1 hS hown hw (fun _ z => z) hd (kk ls H locs hL hW hS)
      | 2, hs, hw =>
        cases hs
        exact va_gets hx hb hO.2.1.2.2.1 hS hown hw (fun _ z => z) hd (kk ls H locs hL hW hS)
      | 3, hs, hw =>
        cases hs
        exact va_gets hx hb hO.2.1.2.2.2 hS hown hw (fun _ z => z) hd (kk ls H locs hL hW hS)
      | j + 4, hs, hw => cases hs
    next => cases hr
  | iaload =>
    cases hr
    cases (show n = 1 by simpa [x_sw, x_len] using hn)
    simp only [x_step] at hs
    split at hs
    next ix q st =>
      split at hs
      next ci vs hq =>
        split at hs
        next hc =>
          split at hs
          next v hv =>
            cases hs
            obtain ⟨rfl, h0⟩ := hc
            have hlt : ix.toNatClampNeg < vs.length := (List.getElem?_eq_some_iff.mp hv).1
            have k1 := kk ls H locs hL hW hS
            by_cases hq8 : 8 ≤ q
            · obtain ⟨ws, tys, hP, hD, hK, hQ⟩ := hW
              obtain ⟨cv, g1, g2⟩ := hQ.new hq8 hq
              obtain ⟨cA, f, t0, rfl, ht, hf⟩ := x_arr g2
              rw [List.map_cons, List.map_cons, x_tr8 hq8]
              have e1 := Value.int.inj (hf _ _ hv)
              subst e1
              exact va_iald hx hb hK hP (q - 8) t0 g1 ht (x_in_of h0 hlt) hd k1
            · obtain ⟨ws, tys, hP, hD, hK, hQ⟩ := hW
              have ho := hQ.old (Nat.lt_of_not_le hq8) hq
              rcases x_lt8 hq8 with rfl | rfl | rfl | rfl | rfl | rfl | rfl | rfl
              · have h2 : xs.map Value.int = vs := congrArg Prod.snd (Option.some.inj ho)
                subst h2
                exact va_ti hx hb hO.1.1 hS (x_in_of h0 (by rw [List.length_map] at hlt; exact hlt)) (congrArg Value.int (x_gD hv)) hd k1
              · have h2 : x_sizeB.map Value.int = vs := congrArg Prod.snd (Option.some.inj ho)
                subst h2
                exact va_ti hx hb hO.1.2.1 hS (x_in_of h0 (by rw [List.length_map] at hlt; exact hlt)) (congrArg Value.int (x_gD hv)) hd k1
              · have h2 : x_markB.map Value.int = vs := congrArg Prod.snd (Option.some.inj ho)
                subst h2
                exact va_ti hx hb hO.1.2.2 hS (x_in_of h0 (by rw [List.length_map] at hlt; exact hlt)) (congrArg Value.int (x_gD hv)) hd k1
              · have h2 : (8 : Nat) = 10 := congrArg Prod.fst (Option.some.inj ho)
                omega
              · have h2 : (8 : Nat) = 10 := congrArg Prod.fst (Option.some.inj ho)
                omega
              · have h2 : (14 : Nat) = 10 := congrArg Prod.fst (Option.some.inj ho)
                omega
              · have h2 : (14 : Nat) = 10 := congrArg Prod.fst (Option.some.inj ho)
                omega
              · have h2 : (99 : Nat) = 10 := congrArg Prod.fst (Option.some.inj ho)
                omega
          next => cases hs
        next => cases hs
      next => cases hs
    next => cases hs
  | baload =>
    cases hr
    cases (show n = 1 by simpa [x_sw, x_len] using hn)
    simp only [x_step] at hs
    split at hs
    next ix q st =>
      split at hs
      next ci vs hq =>
        split at hs
        next hc =>
          split at hs
          next v hv =>
            cases hs
            obtain ⟨rfl, h0⟩ := hc
            have hlt : ix.toNatClampNeg < vs.length := (List.getElem?_eq_some_iff.mp hv).1
            have k1 := kk ls H locs hL hW hS
            by_cases hq8 : 8 ≤ q
            · exfalso
              obtain ⟨ws, tys, hP, hD, hK, hQ⟩ := hW
              obtain ⟨cv, g1, g2⟩ := hQ.new hq8 hq
              match cv, g2 with
              | .inr q, ⟨h1, h2, _⟩ =>
                have h1' : 14 = q.1 := h1
                omega
              | .inl (cA, n, .inl f), ⟨h1, _⟩ => exact absurd h1 (by simp)
              | .inl (cA, n, .inr (.inr (.inr (.inr f)))), ⟨h1, _⟩ => rcases h1 with ⟨h1, -⟩ | ⟨h1, -⟩ <;> exact absurd h1 (by simp)
            · obtain ⟨ws, tys, hP, hD, hK, hQ⟩ := hW
              have ho := hQ.old (Nat.lt_of_not_le hq8) hq
              have hO3 := hO.2.2.1
              rcases x_lt8 hq8 with rfl | rfl | rfl | rfl | rfl | rfl | rfl | rfl
              · have h2 : (10 : Nat) = 14 := congrArg Prod.fst (Option.some.inj ho)
                omega
              · have h2 : (10 : Nat) = 14 := congrArg Prod.fst (Option.some.inj ho)
                omega
              · have h2 : (10 : Nat) = 14 := congrArg Prod.fst (Option.some.inj ho)
                omega
              · have h2 : (8 : Nat) = 14 := congrArg Prod.fst (Option.some.inj ho)
                omega
              · have h2 : (8 : Nat) = 14 := congrArg Prod.fst (Option.some.inj ho)
                omega
              · have h2 : x_str0.map Value.int = vs := congrArg Prod.snd (Option.some.inj ho)
                subst h2
                exact va_tb hx hb (hO3.1 0 (by decide)).2.2.2 hS (x_in_of h0 (by rw [List.length_map] at hlt; exact hlt)) (congrArg Value.int (x_gD hv)) hd k1
              · have h2 : x_str1.map Value.int = vs := congrArg Prod.snd (Option.some.inj ho)
                subst h2
                exact va_tb hx hb (hO3.1 1 (by decide)).2.2.2 hS (x_in_of h0 (by rw [List.length_map] at hlt; exact hlt)) (congrArg Value.int (x_gD hv)) hd k1
              · have h2 : (99 : Nat) = 14 := congrArg Prod.fst (Option.some.inj ho)
                omega
          next => cases hs
        next => cases hs
      next => cases hs
    next => cases hs
  | aaload =>
    cases hr
    cases (show n = 1 by simpa [x_sw, x_len] using hn)
    simp only [x_step] at hs
    split at hs
    next ix q st =>
      split at hs
      next ci vs hq =>
        split at hs
        next hc =>
          split at hs
          next q2 hv =>
            split at hs
            next => cases hs
            next hq2 =>
              cases hs
              obtain ⟨hc1, h0⟩ := hc
              have hlt : ix.toNatClampNeg < vs.length := (List.getElem?_eq_some_iff.mp hv).1
              have k1 := kk ls H locs hL hW hS
              obtain ⟨ws, tys, hP, hD, hK, hQ⟩ := hW
              by_cases hq8 : 8 ≤ q
              · obtain ⟨cv, g1, g2⟩ := hQ.new hq8 hq
                obtain ⟨cA, f, t0, rfl, ht, hf⟩ := x_arq g2 hc1
                rw [List.map_cons, List.map_cons, x_tr8 hq8]
                rw [List.map_cons, hf _ _ hv] at k1
                rcases ht with ⟨-, ht⟩ | ⟨-, ht⟩
                · exact va_aldq hx hb hK hP (q - 8) t0 g1 ht (x_in_of h0 hlt) hd k1
                · exact va_aldq hx hb hK hP (q - 8) t0 g1 ht (x_in_of h0 hlt) hd k1
              · exfalso
                have ho := hQ.old (Nat.lt_of_not_le hq8) hq
                rcases x_lt8 hq8 with rfl | rfl | rfl | rfl | rfl | rfl | rfl | rfl
                · have h2 : (10 : Nat) = ci := congrArg Prod.fst (Option.some.inj ho)
                  omega
                · have h2 : (10 : Nat) = ci := congrArg Prod.fst (Option.some.inj ho)
                  omega
                · have h2 : (10 : Nat) = ci := congrArg Prod.fst (Option.some.inj ho)
                  omega
                · have h2 : (8 : Nat) = ci := congrArg Prod.fst (Option.some.inj ho)
                  omega
                · have h2 : (8 : Nat) = ci := congrArg Prod.fst (Option.some.inj ho)
                  omega
                · have h2 : (14 : Nat) = ci := congrArg Prod.fst (Option.some.inj ho)
                  omega
                · have h2 : (14 : Nat) = ci := congrArg Prod.fst (Option.some.inj ho)
                  omega
                · have h2 : (99 : Nat) = ci := congrArg Prod.fst (Option.some.inj ho)
                  omega
          next => cases hs
        next => cases hs
      next => cases hs
    next => cases hs
  | iastore =>
    cases hr
    cases (show n = 1 by simpa [x_sw, x_len] using hn)
    simp only [x_step] at hs
    split at hs
    next v ix q st =>
      split at hs
      next ci vs hq =>
        split at hs
        next hc =>
          cases hs
          obtain ⟨rfl, hq8, h0, hlt⟩ := hc
          obtain ⟨ws, tys, hP, hD, hK, hQ⟩ := hW
          obtain ⟨cv, g1, g2⟩ := hQ.new hq8 hq
          obtain ⟨cA, f, t0, rfl, ht, hf⟩ := x_arr g2
          rw [List.map_cons, List.map_cons, List.map_cons, x_tr8 hq8]
          refine va_iast hx hb hK hP hD hS (q - 8) t0 g1 ht (x_in_of h0 hlt) hd (fun H1 locs1 hP1 hD1 hS1 => ?_)
          have k1 := kk ls H1 locs1 hL ⟨_, tys, hP1, hD1, hK, hQ.set hq8 (List.getElem?_eq_some_iff.mp hq).1 ⟨rfl, ⟨t0, ht⟩, by rw [List.length_set], fun j w hj => ?_⟩⟩ hS1
          · rw [List.length_set, x_sz_set hq List.length_set] at k1
            exact k1
          · by_cases hji : j = ix.toNatClampNeg
            · subst hji
              rw [List.getElem?_set_self hlt] at hj
              cases hj
              show Value.int v = .int (if _ = _ then v else _)
              rw [if_pos rfl]
            · rw [List.getElem?_set_ne (Ne.symm hji)] at hj
              show w = .int (if _ = _ then v else _)
              rw [if_neg hji]
              exact hf _ _ hj
        next => cases hs
      next => cases hs
    next => cases hs
  | aastore =>
    cases hr
    cases (show n = 1 by simpa [x_sw, x_len] using hn)
    simp only [x_step] at hs
    split at hs
    next q2 ix q st =>
      split at hs
      next ci vs hq =>
        split at hs
        next d fs2 hq2 =>
          split at hs
          next hc =>
            cases hs
            obtain ⟨hc1, hq8, hq28, h0, hlt⟩ := hc
            obtain ⟨ws, tys, hP, hD, hK, hQ⟩ := hW
            obtain ⟨cv, g1, g2⟩ := hQ.new hq8 hq
            obtain ⟨cA, f, t0, rfl, ht, hf⟩ := x_arq g2 (by omega)
            obtain ⟨cw, g3, g4⟩ := hQ.new hq28 hq2
            obtain ⟨-, rfl⟩ := x_obj g4 (by omega)
            rw [List.map_cons, List.map_cons, List.map_cons, x_tr8 hq8, x_tr8 hq28]
            have key : ∀ (H1 : Heap) (locs1 : List Loc), va_P D vwCl (ws.set (q - 8) (x_ad o sz q, .inl (cA, vs.length, .inr (.inr (.inr (.inr (va_up f ix.toNatClampNeg (some (x_ad o sz q2)))))))) ) H1 → va_D (x_A sz) (ws.set (q - 8) (x_ad o sz q, .inl (cA, vs.length, .inr (.inr (.inr (.inr (va_up f ix.toNatClampNeg (some (x_ad o sz q2)))))))) ) → va_S (x_A sz) s.heap H1 locs1 → W p l e R s m args below meth c H1 locs1 (h.length - n0) (x_sz h - s0) Q (F0 m (pc + 1) ls (S'.map (x_tr o sio sz))) := by
              intro H1 locs1 hP1 hD1 hS1
              have k1 := kk ls H1 locs1 hL ⟨_, tys, hP1, hD1, hK, hQ.set hq8 (List.getElem?_eq_some_iff.mp hq).1 (c := (ci, vs.set ix.toNatClampNeg (.ref q2))) ⟨?_, by rw [List.length_set], fun j w hj => ?_⟩⟩ hS1
              · rw [List.length_set, x_sz_set hq List.length_set] at k1
                exact k1
              · rcases ht with ⟨ha, hb'⟩ | ⟨ha, hb'⟩
                · exact Or.inl ⟨ha, t0, hb'⟩
                · exact Or.inr ⟨ha, t0, hb'⟩
              · by_cases hji : j = ix.toNatClampNeg
                · subst hji
                  rw [List.getElem?_set_self hlt] at hj
                  cases hj
                  rw [x_tr8 hq28]
                  show _ = va_rf (if _ = _ then some _ else _)
                  rw [if_pos rfl]
                  rfl
                · rw [List.getElem?_set_ne (Ne.symm hji)] at hj
                  show _ = va_rf (if _ = _ then some _ else _)
                  rw [if_neg hji]
                  exact hf _ _ hj
            rcases ht with ⟨ha, ht⟩ | ⟨ha, ht⟩
            · have hd2 : d = 2 := by omega
              subst hd2
              exact va_astq (r := (RX2, TX2, 4)) hx hb hK hP hD hS (q - 8) t0 (q2 - 8) 2 g1 ht g3 rfl (x_in_of h0 hlt) hd key
            · have hd2 : d = 0 := by omega
              subst hd2
              exact va_astq (r := (RX0, TX0, 10)) hx hb hK hP hD hS (q - 8) t0 (q2 - 8) 0 g1 ht g3 rfl (x_in_of h0 hlt) hd key
          next => cases hs
        next => cases hs
      next => cases hs
    next => cases hs
  | arraylength =>
    cases hr
    cases (show n = 1 by simpa [x_sw, x_len] using hn)
    simp only [x_step] at hs
    split at hs
    next q st =>
      split at hs
      next ci vs hq =>
        split at hs
        next hc =>
          cases hs
          have k1 := kk ls H locs hL hW hS
          obtain ⟨ws, tys, hP, hD, hK, hQ⟩ := hW
          by_cases hq8 : 8 ≤ q
          · obtain ⟨cv, g1, g2⟩ := hQ.new hq8 hq
            rw [List.map_cons, x_tr8 hq8]
            match cv, g2 with
            | .inr r, ⟨h1, h2, _⟩ =>
              have h1' : ci = r.1 := h1
              omega
            | .inl (cA, n, .inl f), ⟨_, ⟨t0, ht⟩, h3, _⟩ => exact va_alen hx hb hK hP (q - 8) t0 g1 ht (by rw [h3]) hd k1
            | .inl (cA, n, .inr (.inr (.inr (.inr f)))), ⟨h1, h3, _⟩ =>
              rcases h1 with ⟨-, t0, ht⟩ | ⟨-, t0, ht⟩
              · exact va_alen hx hb hK hP (q - 8) t0 g1 ht (by rw [h3]) hd k1
              · exact va_alen hx hb hK hP (q - 8) t0 g1 ht (by rw [h3]) hd k1
          · have ho := hQ.old (Nat.lt_of_not_le hq8) hq
            have hO3 := hO.2.2.1
            rcases x_lt8 hq8 with rfl | rfl | rfl | rfl | rfl | rfl | rfl | rfl
            · have h2 : xs.map Value.int = vs := congrArg Prod.snd (Option.some.inj ho)
              exact va_tlen hx hb hO.1.1 hS (by rw [← h2, List.length_map]) hd k1
            · have h2 : x_sizeB.map Value.int = vs := congrArg Prod.snd (Option.some.inj ho)
              exact va_tlen hx hb hO.1.2.1 hS (by rw [← h2, List.length_map]; rfl) hd k1
            · have h2 : x_markB.map Value.int = vs := congrArg Prod.snd (Option.some.inj ho)
              exact va_tlen hx hb hO.1.2.2 hS (by rw [← h2, List.length_map]; rfl) hd k1
            · have h2 : 8 = ci := congrArg Prod.fst (Option.some.inj ho)
              omega
            · have h2 : 8 = ci := congrArg Prod.fst (Option.some.inj ho)
              omega
            · have h2 : x_str0.map Value.int = vs := congrArg Prod.snd (Option.some.inj ho)
              exact va_tlen hx hb (hO3.1 0 (by decide)).2.2.2 hS (by rw [← h2, List.length_map]; rfl) hd k1
            · have h2 : x_str1.map Value.int = vs := congrArg Prod.snd (Option.some.inj ho)
              exact va_tlen hx hb (hO3.1 1 (by decide)).2.2.2 hS (by rw [← h2, List.length_map]; rfl) hd k1
            · have h2 : 99 = ci := congrArg Prod.fst (Option.some.inj ho)
              omega
        next => cases hs
      next => cases hs
    next => cases hs
  | new k =>
    cases (show n = 3 by simpa [x_sw, x_len] using hn)
    simp only [x_res] at hr
    split at hr
    next ci hci =>
      cases hr
      obtain ⟨h7, w1, w2, w3⟩ := x_nt_w hci
      simp only [x_step, if_pos h7] at hs
      · cases hs
        obtain ⟨ws, tys, hP, hD, hK, hQ⟩ := hW
        have hdl : (x_def ci).length = x_N ci := by unfold x_def; simp
        rw [List.length_append, List.length_singleton] at hR1
        rw [x_sz_push] at hR2
        have hR2' : x_sz h + x_N ci - s0 ≤ R.slots := by rw [← hdl]; exact hR2
        refine va_new (D := D) (fs := (x_def ci).map (x_tr o sio sz)) hx hb hts (x_hin h7) (x_ty ci) (x_hty h7) hown (hts _ w1) (hts _ w2) (hts _ w3) hK hP hD hS hAA (x_cl7 h7) (fun j hj => ?_) (by omega) (by omega) hd (fun q H1 hP1 hD1 hS1 => ?_)
        · unfold vp_V x_def
          rw [List.map_map, List.getD_eq_getElem?_getD, List.getElem?_map, List.getElem?_range hj]
          show _ = x_tr o sio sz (defaultValue (x_ty ci j))
          cases x_ty ci j <;> rfl
        · refine x_size _ (fun hz => ?_)
          have hl2 := hQ.1
          have hq : q = sz + ws.length := x_fresh hP1 hD1 (fun i r hr => (hQ.2.2 i r hr).1) (by omega)
          have hq2 : q = x_ad o sz h.length := by unfold x_ad; rw [if_neg (by omega)]; omega
          subst hq2
          have hQ1 := hQ.push (t2 := []) (c := (ci, x_def ci)) (e := .inr (ci, (x_def ci).map (x_tr o sio sz))) ⟨rfl, h7, rfl⟩
          rw [List.append_nil] at hQ1
          have k1 := kk ls H1 locs hL ⟨_, tys, hP1, hD1, hK, hQ1⟩ hS1
          rw [List.map_cons, x_tr8 (show 8 ≤ h.length by omega), List.length_append, List.length_singleton, x_sz_push] at k1
          have e1 : h.length + 1 - n0 = h.length - n0 + 1 := by omega
          have e2 : x_sz h + (x_def ci).length - s0 = x_sz h - s0 + x_N ci := by rw [hdl]; omega
          rw [e1] at k1
          have k2 : W p l e R s m args below meth c H1 locs (h.length - n0 + 1) (x_sz h - s0 + x_N ci) Q (F0 m (pc + 3) ls (.ref (x_ad o sz h.length) :: S.map (x_tr o sio sz))) := by rw [← e2]; exact k1
          exact k2
    next => cases hr
  | newarray t =>
    cases (show n = 2 by simpa [x_sw, x_len] using hn)
    cases t with
    | int =>
      cases hr
      simp only [x_step] at hs
      split at hs
      next nn st =>
        split at hs
        next hc =>
          cases hs
          obtain ⟨ws, tys, hP, hD, hK, hQ⟩ := hW
          rw [List.length_append, List.length_singleton] at hR1
          rw [x_sz_push] at hR2
          have hR2' : x_sz h + nn.toNatClampNeg - s0 ≤ R.slots := by simpa using hR2
          have hac : (Jvm.Cond.arrayClass FieldType.int).before args s = true := by
            have h1 := x_ao_ok
            simp only [Bool.and_eq_true] at h1
            exact hts _ (x_at_in h1.2)
          rw [List.map_cons]
          refine va_newa (D := D) (atype := .int) (ty := .int) (a0 := (nn.toNatClampNeg, .inl fun _ => 0)) hx hb hac rfl hK hP hD hS hAA (fun cA => rfl) hc.1 rfl (by show _ * 4 ≤ _; omega) (by omega) (by omega) hd (fun q cA H1 hK1 hP1 hD1 hS1 => ?_)
          refine x_size _ (fun hz => ?_)
          have hl2 := hQ.1
          have hq : q = sz + ws.length := x_fresh hP1 hD1 (fun i r hr => (hQ.2.2 i r hr).1) (by omega)
          have hq2 : q = x_ad o sz h.length := by unfold x_ad; rw [if_neg (by omega)]; omega
          subst hq2
          have hQ1 := hQ.push (t2 := [(cA, FieldType.int)]) (c := (10, List.replicate nn.toNatClampNeg (.int 0))) (e := .inl (cA, nn.toNatClampNeg, .inl fun _ => 0)) ⟨rfl, ⟨tys.length, by rw [List.getElem?_append_right (Nat.le_refl _), Nat.sub_self]; rfl⟩, by simp, fun j v hj => List.eq_of_mem_replicate (List.mem_of_getElem? hj)⟩
          have k1 := kk ls H1 locs hL ⟨_, _, hP1, hD1, hK1, hQ1⟩ hS1
          rw [List.map_cons, x_tr8 (show 8 ≤ h.length by omega), List.length_append, List.length_singleton, x_sz_push] at k1
          have e1 : h.length + 1 - n0 = h.length - n0 + 1 := by omega
          have e2 : x_sz h + (List.replicate nn.toNatClampNeg (Value.int 0)).length - s0 = x_sz h - s0 + nn.toNatClampNeg := by rw [List.length_replicate]; omega
          have k2 : W p l e R s m args below meth c H1 locs (h.length - n0 + 1) (x_sz h - s0 + nn.toNatClampNeg) Q (F0 m (pc + 2) ls (.ref (x_ad o sz h.length) :: st.map (x_tr o sio sz))) := by rw [← e2, ← e1]; exact k1
          exact k2
        next => cases hs
      next => cases hs
    | _ => cases hr
  | anewarray k =>
    cases (show n = 3 by simpa [x_sw, x_len] using hn)
    have key : ∀ (ci : Nat) (C0 : String) (ct : Nat), ((ci = 2 ∧ C0 = RX2 ∧ ct = 11) ∨ (ci = 0 ∧ C0 = RX0 ∧ ct = 12)) → x_new (x_cy y) k = some ci → va_AO C0 s → x_step (x_kd y == 2) (.anewarray ci) pc (pc + 3) L S h = some (pc', L', S', h') → W p l e R s m args below meth c H locs (h.length - n0) (x_sz h - s0) Q (F0 m pc ls (S.map (x_tr o sio sz))) := by
      intro ci C0 ct hci hnew hAO hs
      obtain ⟨h7, w1, w2, w3⟩ := x_nt_w hnew
      have w1' : Jvm.Cond.classLink (x_cn (x_cy y)) k C0 ∈ x_TB := by
        rcases hci with ⟨rfl, rfl, -⟩ | ⟨rfl, rfl, -⟩ <;> exact w1
      simp only [x_step] at hs
      split at hs
      next nn st _ =>
        split at hs
        next hc =>
          cases hs
          have hct : (if ci = 2 then 11 else 12) = ct := by rcases hci with ⟨rfl, -, rfl⟩ | ⟨rfl, -, rfl⟩ <;> rfl
          rw [hct] at kk hR1 hR2
          obtain ⟨ws, tys, hP, hD, hK, hQ⟩ := hW
          rw [List.length_append, List.length_singleton] at hR1
          rw [x_sz_push] at hR2
          have hR2' : x_sz h + nn.toNatClampNeg - s0 ≤ R.slots := by simpa using hR2
          rw [List.map_cons]
          refine va_newq (D := D) hx hb hown (hts _ w1') hAO hK hP hD hS hAA hc.1 rfl (by omega) (by omega) (by omega) hd (fun q cA H1 hK1 hP1 hD1 hS1 => ?_)
          refine x_size _ (fun hz => ?_)
          have hl2 := hQ.1
          have hq : q = sz + ws.length := x_fresh hP1 hD1 (fun i r hr => (hQ.2.2 i r hr).1) (by omega)
          have hq2 : q = x_ad o sz h.length := by unfold x_ad; rw [if_neg (by omega)]; omega
          subst hq2
          have hty : (tys ++ [(cA, FieldType.object C0)])[tys.length]? = some (cA, FieldType.object C0) := by rw [List.getElem?_append_right (Nat.le_refl _), Nat.sub_self]; rfl
          have hQ1 := hQ.push (t2 := [(cA, FieldType.object C0)]) (c := (ct, List.replicate nn.toNatClampNeg .null)) (e := .inl (cA, nn.toNatClampNeg, .inr (.inr (.inr (.inr fun _ => none))))) ⟨by
            rcases hci with ⟨-, rfl, rfl⟩ | ⟨-, rfl, rfl⟩
            · exact Or.inl ⟨rfl, _, hty⟩
            · exact Or.inr ⟨rfl, _, hty⟩, by simp, fun j v hj => by rw [List.eq_of_mem_replicate (List.mem_of_getElem? hj)]; rfl⟩
          have k1 := kk ls H1 locs hL ⟨_, _, hP1, hD1, hK1, hQ1⟩ hS1
          rw [List.map_cons, x_tr8 (show 8 ≤ h.length by omega), List.length_append, List.length_singleton, x_sz_push] at k1
          have e1 : h.length + 1 - n0 = h.length - n0 + 1 := by omega
          have e2 : x_sz h + (List.replicate nn.toNatClampNeg Value.null).length - s0 = x_sz h - s0 + nn.toNatClampNeg := by rw [List.length_replicate]; omega
          have k2 : W p l e R s m args below meth c H1 locs (h.length - n0 + 1) (x_sz h - s0 + nn.toNatClampNeg) Q (F0 m (pc + 3) ls (.ref (x_ad o sz h.length) :: st.map (x_tr o sio sz))) := by rw [← e2, ← e1]; exact k1
          exact k2
        next => cases hs
      next => cases hs
    simp only [x_res] at hr
    split at hr
    next hnew =>
      cases hr
      exact key 2 RX2 11 (Or.inl ⟨rfl, rfl, rfl⟩) hnew hO.2.2.2.2.1 hs
    next hnew =>
      cases hr
      exact key 0 RX0 12 (Or.inr ⟨rfl, rfl, rfl⟩) hnew hO.2.2.2.2.2.1 hs
    next => cases hr
  | invokespecial k =>
    cases (show n = 3 by simpa [x_sw, x_len] using hn)
    simp only [x_res] at hr
    split at hr
    next hoi =>
      cases hr
      simp only [x_step] at hs
      split at hs
      next q st =>
        split at hs
        next hc =>
          cases hs
          have h1 := x_oj_ok
          simp only [Bool.and_eq_true] at h1
          rw [List.map_cons, x_tr_ref hc.1]
          refine W.objInit hx hb hown (hts _ (x_oi_w hoi)) (hts _ (x_at_in h1.1)) (hts _ (x_at_in h1.2)) rfl (by rw [hml, ← hLl]; exact hL.1) rfl hd (by omega) ?_ (kk ls H locs hL hW hS)
          show 2 * 0 + _ + 12 ≤ _
          rw [x_cat_tr hsio]
          omega
        next => cases hs
      next => cases hs
    next =>
      split at hr
      next => cases hr; cases hs
      next => cases hr; cases hs
      next => cases hr
  | invokestatic k =>
    cases (show n = 3 by simpa [x_sw, x_len] using hn)
    simp only [x_res] at hr
    split at hr
    next hac =>
      cases hr
      simp only [x_step] at hs
      split at hs
      next nn dp q sp q0 st =>
        split at hs
        next ci f hq0 =>
          split at hs
          next di g hq =>
            split at hs
            next hc =>
              cases hs
              obtain ⟨rfl, rfl, hq08, hq8, a1, a2, a3, a4, a5, a6⟩ := hc
              obtain ⟨ws, tys, hP, hD, hK, hQ⟩ := hW
              obtain ⟨cv, g1, g2⟩ := hQ.new hq08 hq0
              obtain ⟨cA, f1, t0, rfl, ht0, hf1⟩ := x_arr g2
              obtain ⟨cw, g3, g4⟩ := hQ.new hq8 hq
              obtain ⟨cB, f2, t1, rfl, ht1, hf2⟩ := x_arr g4
              have h1 := x_an_ok
              simp only [Bool.and_eq_true] at h1
              have e1 : nativeFrameWords "java/lang/System" "arraycopy" 5 ≤ 30 := by decide +kernel
              simp only [List.map_cons]
              rw [x_tr8 hq8, x_tr8 hq08]
              refine va_copyi (D := D) (ty := .int) hx hb (by rw [hml, ← hLl]; exact hL.1.symm) hown (hts _ (x_ac_w hac)) (hts _ (x_at_in h1.1.1)) (hts _ (x_at_in h1.1.2)) (hts _ (x_at_in h1.2)) hK hP hD hS (q0 - 8) (q - 8) t0 t1 g1 g3 ht0 ht1 rfl a1 a2 a3 a4 a5 (fun _ _ => rfl) (by omega) (by rw [x_cat_tr hsio]; omega) hd (fun H1 locs1 hP1 hD1 hS1 => ?_)
              have k1 := kk ls H1 locs1 hL ⟨_, tys, hP1, hD1, hK, hQ.set hq8 (List.getElem?_eq_some_iff.mp hq).1 ⟨rfl, ⟨t1, ht1⟩, by rw [x_cpy_len], fun j w hj => ?_⟩⟩ hS1
              · rw [List.length_set, x_sz_set hq (x_cpy_len _ _ _ _ _)] at k1
                exact k1
              · unfold x_cpy at hj
                rw [List.getElem?_map, Option.map_eq_some_iff] at hj
                obtain ⟨j', hj1, hj2⟩ := hj
                have hjl : j < g.length := by simpa using (List.getElem?_eq_some_iff.mp hj1).1
                rw [List.getElem?_range hjl] at hj1
                cases hj1
                subst hj2
                unfold va_cpy
                split
                · have hidx : sp.toNatClampNeg + (j - dp.toNatClampNeg) < f.length := by omega
                  rw [List.getD_eq_getElem?_getD, List.getElem?_eq_getElem hidx]
                  exact hf1 _ _ (List.getElem?_eq_getElem hidx)
                · rw [List.getD_eq_getElem?_getD, List.getElem?_eq_getElem hjl]
                  exact hf2 _ _ (List.getElem?_eq_getElem hjl)
            next => cases hs
          next => cases hs
        next => cases hs
      next => cases hs
    next =>
      split at hr
      next z hz =>
        have hcw := x_call_w hz
        have hma := x_ma_ok
        simp only [Bool.and_eq_true, decide_eq_true_eq] at hma
        split at hr
        next hz2 =>
          cases hr
          simp only [x_step] at hs
          split at hs
          next x st =>
            split at hs
            next hc =>
              cases hs
              rcases hcw.2 with hq | hq
              · exact absurd hq.1 (by decide)
              · have hlink := hq.2.2
                rw [hz2, hma.1.1.1.1.1.1] at hlink
                exact va_mabs hx hb (by rw [hml, ← hLl]; exact hL.1.symm) hown (hts _ hlink) (hts _ (x_at_in hma.1.1.2)) (hts _ (x_at_in hma.2)) (hts _ (x_at_in hma.1.1.1.1.2)) (by omega) (by rw [x_cat_tr hsio]; omega) hR1 hR2 hd (kk ls H locs hL hW hS)
            next => cases hs
          next => cases hs
        next =>
          split at hr
          next hz2 =>
            cases hr
            simp only [x_step] at hs
            split at hs
            next x2 x st =>
              split at hs
              next hc =>
                cases hs
                rcases hcw.2 with hq | hq
                · exact absurd hq.1 (by decide)
                · have hlink := hq.2.2
                  rw [hz2, hma.1.1.1.1.1.2] at hlink
                  exact va_mmax hx hb (by rw [hml, ← hLl]; exact hL.1.symm) hown (hts _ hlink) (hts _ (x_at_in hma.1.2)) (hts _ (x_at_in hma.2)) (hts _ (x_at_in hma.1.1.1.2)) (by omega) (by rw [x_cat_tr hsio]; omega) hR1 hR2 hd (kk ls H locs hL hW hS)
              next => cases hs
            next => cases hs
          next => cases hr; cases hs
      next => cases hr
  | invokevirtual k =>
    simp only [x_res] at hr
    split at hr
    next => cases hr; cases hs
    next => cases hr
  | ireturn => cases hr; cases hs
  | return_ => cases hr; cases hs
  | _ => cases hr
end XST
end
section
/-! A RUN IS SOUND -/
theorem x_mo {z : Nat} (hz : x_mok z = true) : (Jvm.Cond.code (x_nm z) (x_by z) (x_ml z) (x_rt z) ∈ x_TB ∧ (if x_kd z = 0 then Jvm.Cond.static (x_nm z) else Jvm.Cond.instanceMethod (x_nm z)) ∈ x_TB ∧ (x_kd z = 1 → Jvm.Cond.selects (x_cn (x_cy z)) (x_nm z) (x_nm z) ∈ x_TB) ∧ Jvm.Cond.initialized (x_nm z).cls ∈ x_TB) ∧ plainName (x_nm z).cls = true ∧ ((x_nm z).cls ≠ "java/lang/invoke/MethodHandle" ∧ (x_nm z).cls ≠ "java/lang/invoke/VarHandle") ∧ (parseMethodDescriptor (x_nm z).desc).map (fun d => d.parameters.length + (if x_kd z = 0 then 0 else 1)) = some (x_na z) ∧ (x_nm z).cls = x_cn (x_cy z) ∧ x_ml z ≤ 41 ∧ (x_kd z = 2 → (x_nm z).name = "<init>" ∧ x_rt z = none) := by
  unfold x_mok at hz
  simp only [Bool.and_eq_true, decide_eq_true_eq, Bool.or_eq_true] at hz
  obtain ⟨⟨⟨⟨⟨⟨⟨⟨⟨⟨a1, a2⟩, a3⟩, a4⟩, a5⟩, a6⟩, a7⟩, a8⟩, a9⟩, a10⟩, a11⟩ := hz
  exact ⟨⟨x_at_in a1, x_at_in a2, fun h => a3.elim (fun z => absurd h z) (fun z => x_at_in z), x_at_in a4⟩, a5, ⟨a6, a7⟩, a8, a9, a10, fun h => a11.elim (fun z => absurd h z) id⟩
theorem x_fe_w {y pc nx : Nat} {i : Instr} (h : x_fe y pc = some (i, nx)) : ∃ r n, decode (x_by y) pc = .ok (r, n) ∧ (x_sw r || n == x_len r) = true ∧ x_res (x_cy y) pc r = some i ∧ nx = pc + n := by
  unfold x_fe at h
  split at h
  next r n hd =>
    split at h
    next hn =>
      split at h
      next j hj =>
        cases h
        exact ⟨r, n, hd, hn, hj, rfl⟩
      next => cases h
    next => cases h
  next => cases h
/-- the end of a run -/
def x_fin (r : Option Value) (y pc : Nat) (WW : List Value → Prop) : Prop :=
  (∀ v : Int32, r = some (.int v) → decode (x_by y) pc = .ok (.ireturn, 1) → (∃ ty, x_rt y = some ty ∧ narrow ty (.int v) = .int v) → WW [.int v]) ∧ (r = none → decode (x_by y) pc = .ok (.return_, 1) → x_rt y = none → WW [])
theorem x_run_succ (n d y pc : Nat) (L S : List Value) (h : x_H) : x_run (n + 1) d y pc L S h = (match x_fe y pc with
    | none => none
    | some (i, nx) => match x_cal i with
      | some z => match d with
        | 0 => none
        | d' + 1 => if x_okc i z S h = true then (match x_run n d' z 0 (x_loc (x_ml z) (S.take (x_na z)).reverse) [] h with
          | some (r, h') => x_run n (d' + 1) y nx L (r.toList ++ S.drop (x_na z)) h'
          | none => none) else none
      | none => match i, S with
        | .ireturn, [.int v] => (match x_rt y with
          | some ty => if narrow ty (.int v) = .int v then some (some (.int v), h) else none
          | none => none)
        | .return_, [] => (match x_rt y with
          | some _ => none
          | none => some (none, h))
        | i, S => match x_step (x_kd y == 2) i pc nx L S h with
          | some (pc', L', S', h') => x_run n d y pc' L' S' h'
          | none => none) := rfl
/-- a run's first step: a call, an end, or a step -/
theorem x_run_w {n d y pc : Nat} {L S : List Value} {h hf : x_H} {r : Option Value} (hr : x_run (n + 1) d y pc L S h = some (r, hf)) : ∃ i nx, x_fe y pc = some (i, nx) ∧
    ((∃ z d' r1 h1, x_cal i = some z ∧ d = d' + 1 ∧ x_okc i z S h = true ∧ x_run n d' z 0 (x_loc (x_ml z) (S.take (x_na z)).reverse) [] h = some (r1, h1) ∧ x_run n d y nx L (r1.toList ++ S.drop (x_na z)) h1 = some (r, hf)) ∨
     (∃ v ty, i = .ireturn ∧ S = [.int v] ∧ x_rt y = some ty ∧ narrow ty (.int v) = .int v ∧ r = some (.int v) ∧ hf = h) ∨
     (i = .return_ ∧ S = [] ∧ x_rt y = none ∧ r = none ∧ hf = h) ∨
     (∃ pc' L' S' h', x_cal i = none ∧ x_step (x_kd y == 2) i pc nx L S h = some (pc', L', S', h') ∧ x_run n d y pc' L' S' h' = some (r, hf))) := by
  rw [x_run_succ] at hr
  split at hr
  next => cases hr
  next i nx hfe =>
    refine ⟨i, nx, hfe, ?_⟩
    split at hr
    next z hz =>
      split at hr
      next => cases hr
      next d' =>
        split at hr
        next hok =>
          split at hr
          next r1 h1 hrun => exact Or.inl ⟨z, d', r1, h1, hz, rfl, hok, hrun, hr⟩
          next => cases hr
        next => cases hr
    next hz =>
      split at hr
      next v =>
        split at hr
        next ty hty =>
          split at hr
          next hnr =>
            cases hr
            exact Or.inr (Or.inl ⟨v, ty, rfl, rfl, hty, hnr, rfl, rfl⟩)
          next => cases hr
        next => cases hr
      next =>
        split at hr
        next => cases hr
        next hty =>
          cases hr
          exact Or.inr (Or.inr (Or.inl ⟨rfl, rfl, hty, rfl, rfl⟩))
      next =>
        split at hr
        next pc' L' S' h' hs => exact Or.inr (Or.inr (Or.inr ⟨pc', L', S', h', hz, hs, hr⟩))
        next => cases hr
theorem x_run_mono : ∀ (n d y pc : Nat) (L S : List Value) (h hf : x_H) (r : Option Value), x_run n d y pc L S h = some (r, hf) → h.length ≤ hf.length ∧ x_sz h ≤ x_sz hf := by
  intro n
  induction n with
  | zero => intro d y pc L S h hf r hr; cases hr
  | succ n ih =>
    intro d y pc L S h hf r hr
    obtain ⟨i, nx, hfe, h1 | h1 | h1 | h1⟩ := x_run_w hr
    · obtain ⟨z, d', r1, h1, -, -, -, g1, g2⟩ := h1
      have a1 := ih _ _ _ _ _ _ _ _ g1
      have a2 := ih _ _ _ _ _ _ _ _ g2
      omega
    · obtain ⟨v, ty, -, -, -, -, -, rfl⟩ := h1
      exact ⟨Nat.le_refl _, Nat.le_refl _⟩
    · obtain ⟨-, -, -, -, rfl⟩ := h1
      exact ⟨Nat.le_refl _, Nat.le_refl _⟩
    · obtain ⟨pc', L', S', h', -, g1, g2⟩ := h1
      have a1 := (x_step_mono g1).1
      have a2 := ih _ _ _ _ _ _ _ _ g2
      omega
section XRN
variable {o : Nat → Nat} {sio : Value} {sz : Nat} {xs : List Int32} {D : va_G}
/-- that the n-th fuel's runs are sound -/
def x_Snd (o : Nat → Nat) (sio : Value) (sz : Nat) (xs : List Int32) (D : va_G) (n : Nat) : Prop :=
  ∀ (d y pc : Nat) (L S : List Value) (h hf : x_H) (r : Option Value), x_run n d y pc L S h = some (r, hf) →
  ∀ (n0 s0 : Nat) (p : Program) (l : Launch) (e : Env) (R : Room) (s : State) (m : MethodId) (args : Array Value) (below : List Frame) (meth : Method) (c : Code) (H : Heap) (locs : List Loc) (Q : State → Prop) (ls : Array Slot),
  x_Ctx o sio sz xs y d n0 p R s m args meth c → x_L o sio sz ls L → L.length = x_ml y → x_W o sio sz xs D h H s → va_S (x_A sz) s.heap H locs → n0 ≤ h.length → s0 ≤ x_sz h → hf.length - n0 ≤ R.cells → x_sz hf - s0 ≤ R.slots →
  (∀ (ls' : Array Slot) (H' : Heap) (locs' : List Loc) (pc' : Nat), x_W o sio sz xs D hf H' s → va_S (x_A sz) s.heap H' locs' → x_fin r y pc' (fun st => W p l e R s m args below meth c H' locs' (hf.length - n0) (x_sz hf - s0) Q (F0 m pc' ls' st))) →
  W p l e R s m args below meth c H locs (h.length - n0) (x_sz h - s0) Q (F0 m pc ls (S.map (x_tr o sio sz)))
def x_Pc (o : Nat → Nat) (sio : Value) (sz : Nat) (xs : List Int32) (D : va_G) (vs : List Value) (h : x_H) : Array Value → State → Prop := va_Pc (vs.map (x_tr o sio sz)) (fun U => x_W o sio sz xs D h U.heap U ∧ x_Old o sio sz xs U U.heap ∧ U.heap.size + 8 = sz + h.length)
theorem x_Pc_blind {vs : List Value} {h : x_H} : FrameBlind (x_Pc o sio sz xs D vs h) := fun a U g mk q => ⟨q.1, q.2.1.moved (u := U) (U := U.calling g mk a) (Vm.Alike.refl U.vm), q.2.2.1.same (u := U) (U := U.calling g mk a) rfl, q.2.2.2⟩
def x_Qi (o : Nat → Nat) (sio : Value) (sz : Nat) (xs : List Int32) (D : va_G) (v : Int32) (h : x_H) : Array Value → State → Outcome → State → Prop := va_Qi (fun (r : Int32) (_ : Unit) => r = v) (fun _ t => x_W o sio sz xs D h t.heap t) (x_A sz)
def x_Qv (o : Nat → Nat) (sio : Value) (sz : Nat) (xs : List Int32) (D : va_G) (h : x_H) : Array Value → State → Outcome → State → Prop := va_Qv (fun _ : Unit => True) (fun _ t => x_W o sio sz xs D h t.heap t) (x_A sz)
abbrev x_rm (d mc ms : Nat) : Room := { frames := d + 1, cells := mc, slots := ms, locals := 60 * d + 60 }
abbrev x_ws (z : Nat) : List Jvm.Cond := Jvm.Cond.code (x_nm z) (x_by z) (x_ml z) (x_rt z) :: x_TB
theorem x_ws_good {z : Nat} (hz : x_mok z = true) : GoodIn x_TB (x_ws z) := by
  intro w hw
  rcases List.mem_cons.mp hw with rfl | hw
  · exact x_TB_good _ (x_mo hz).1.1
  · exact x_TB_good _ hw
set_option maxHeartbeats 2000000 in
/-- a run of a method from its entry, as a contract -/
theorem x_met {n : Nat} (ih : x_Snd o sio sz xs D n) (hsio : sio = .null ∨ ∃ t, sio = .ref t) (l : Launch) {d z : Nat} {vs : List Value} {h h1 : x_H} {r : Option Value} (hz : x_mok z = true) (h8 : 8 ≤ h.length) (hvs : (x_ent vs).length ≤ x_ml z) (hr : x_run n d z 0 (x_loc (x_ml z) vs) [] h = some (r, h1))
    {Qc : Array Value → State → Outcome → State → Prop} (hQi : ∀ v : Int32, r = some (.int v) → Qc = x_Qi o sio sz xs D v h1) (hQv : r = none → Qc = x_Qv o sio sz xs D h1) :
    Met l (x_nm z) (x_ws z) (x_rm d (h1.length - h.length) (x_sz h1 - x_sz h)) (x_Pc o sio sz xs D vs h) Qc (h1.length - h.length) (x_sz h1 - x_sz h) (x_A sz) := by
  refine Met.ofW (cc := x_by z) (maxL := x_ml z) (ret := x_rt z) (x_mo hz).2.1 rfl ?_
  intro p e s m args below meth c s₁ B hml hv
  obtain ⟨rfl, hW, hO, hsz⟩ := hv
  have hts0 := atoms_spec (ws := x_ws z) B.pre
  have hts : ∀ w ∈ x_TB, w.before (vs.map (x_tr o sio sz)).toArray s = true := fun w hw => hts0 w (List.mem_cons_of_mem _ hw)
  have hown : s.vm.findClass (x_cn (x_cy z)) = some m.cls := (x_mo hz).2.2.2.2.1 ▸ findClass_of_methodNamed B.named
  have hnm : meth.name = (x_nm z).name := (name_of_methodNamed B.named B.method).1
  have hC : x_Ctx o sio sz xs z d h.length p (x_rm d (h1.length - h.length) (x_sz h1 - x_sz h)) s m (vs.map (x_tr o sio sz)).toArray meth c := ⟨B.exec, B.bytes, hml, hown, hts, hO, hsz, h8, fun hk => by rw [hnm]; exact ((x_mo hz).2.2.2.2.2.2 hk).1, Nat.le_refl _, Nat.le_refl _, B.notSynchronized, hsio⟩
  have hlen : (x_loc (x_ml z) vs).length = x_ml z := by unfold x_loc; simp; omega
  rw [lg_entry_eq]
  have k := ih d z 0 (x_loc (x_ml z) vs) [] h h1 r hr h.length (x_sz h) p l e (x_rm d (h1.length - h.length) (x_sz h1 - x_sz h)) s m (vs.map (x_tr o sio sz)).toArray below meth c s.heap [] (MQ below Qc (vs.map (x_tr o sio sz)).toArray s (h1.length - h.length) (x_sz h1 - x_sz h) (x_A sz)) _ hC (x_L.entry hsio hvs) hlen hW va_S.rf (Nat.le_refl _) (Nat.le_refl _) (Nat.le_refl _) (Nat.le_refl _) ?_
  · rw [Nat.sub_self, Nat.sub_self] at k
    exact k
  · intro ls' H' locs' pc' hW' hS'
    refine ⟨fun v hv hd ⟨ty, hty, hnr⟩ => ?_, fun hv hd hty => ?_⟩
    · have hq := hQi v hv
      subst hq
      exact W.zret B.exec B.bytes (by rw [B.returns]; exact hty) hnr (fun t ht hWm => ⟨⟨v, (), rfl, rfl, by subst ht; exact hW'.moved hWm.alike⟩, hS'.F ht⟩) hS'.2.2 hd B.notSynchronized
    · have hq := hQv hv
      subst hq
      exact W.vret B.exec B.bytes (by rw [B.returns]; exact hty) (fun t ht hWm => ⟨⟨(), rfl, trivial, by subst ht; exact hW'.moved hWm.alike⟩, hS'.F ht⟩) hS'.2.2 hd B.notSynchronized
theorem x_take_rev {S : List Value} {k : Nat} {w : Value} (h : S[k]? = some w) : ∃ vs, (S.take (k + 1)).reverse = w :: vs := by
  refine ⟨(S.take k).reverse, ?_⟩
  rw [List.take_succ, h]
  simp
end XRN
end
section
section XSD
variable {o : Nat → Nat} {sio : Value} {sz : Nat} {xs : List Int32} {D : va_G}
/-- who stands where a virtual call asks: a cell of that class -/
theorem x_recv {h : x_H} {H : Heap} {s : State} {locs : List Loc} {q ci : Nat} {fs : List Value} (hW : x_W o sio sz xs D h H s) (hO : x_Old o sio sz xs s s.heap) (hS : va_S (x_A sz) s.heap H locs) (hq : h[q]? = some (ci, fs)) (hc : ci < 7 ∨ ci = 8) : ∃ cell : Cell, H[x_ad o sz q]? = some cell ∧ cell.vm.isStatics = false ∧ s.vm.findClass (x_cn ci) = some cell.cls := by
  obtain ⟨ws, tys, hP, hD, hK, hQ⟩ := hW
  by_cases hq8 : 8 ≤ q
  · obtain ⟨cv, g1, g2⟩ := hQ.new hq8 hq
    obtain ⟨h7, rfl⟩ := x_obj g2 (by omega)
    exact va_recv hK hP (x_cl7 h7) g1
  · have ho := hQ.old (Nat.lt_of_not_le hq8) hq
    have hO3 := hO.2.2.1
    rcases x_lt8 hq8 with rfl | rfl | rfl | rfl | rfl | rfl | rfl | rfl
    · have h2 : (10 : Nat) = ci := congrArg Prod.fst (Option.some.inj ho)
      omega
    · have h2 : (10 : Nat) = ci := congrArg Prod.fst (Option.some.inj ho)
      omega
    · have h2 : (10 : Nat) = ci := congrArg Prod.fst (Option.some.inj ho)
      omega
    · have h2 : (8 : Nat) = ci := congrArg Prod.fst (Option.some.inj ho)
      subst h2
      exact vk_recv hO3 (i := 0) (by decide) hS
    · have h2 : (8 : Nat) = ci := congrArg Prod.fst (Option.some.inj ho)
      subst h2
      exact vk_recv hO3 (i := 1) (by decide) hS
    · have h2 : (14 : Nat) = ci := congrArg Prod.fst (Option.some.inj ho)
      omega
    · have h2 : (14 : Nat) = ci := congrArg Prod.fst (Option.some.inj ho)
      omega
    · have h2 : (99 : Nat) = ci := congrArg Prod.fst (Option.some.inj ho)
      omega
theorem x_run_shape : ∀ (n d y pc : Nat) (L S : List Value) (h hf : x_H) (r : Option Value), x_run n d y pc L S h = some (r, hf) → (∃ v, r = some (.int v)) ∨ r = none := by
  intro n
  induction n with
  | zero => intro d y pc L S h hf r hr; cases hr
  | succ n ih =>
    intro d y pc L S h hf r hr
    obtain ⟨i2, nx2, -, g | g | g | g⟩ := x_run_w hr
    · obtain ⟨z2, d2, r2, h2, -, -, -, -, g2⟩ := g
      exact ih _ _ _ _ _ _ _ _ g2
    · obtain ⟨v, ty, -, -, -, -, rfl, -⟩ := g
      exact Or.inl ⟨v, rfl⟩
    · obtain ⟨-, -, -, rfl, -⟩ := g
      exact Or.inr rfl
    · obtain ⟨_, _, _, _, -, -, g2⟩ := g
      exact ih _ _ _ _ _ _ _ _ g2
/-- from which instruction a call came -/
theorem x_cal_w {c pc z : Nat} {r i : Instr} (hr : x_res c pc r = some i) (hc : x_cal i = some z) :
    (∃ k, r = .invokestatic k ∧ i = .invokestatic z ∧ x_call c k = some (z, 0) ∧ z ≠ x_abs ∧ z ≠ x_max) ∨ (∃ k, r = .invokevirtual k ∧ i = .invokevirtual z ∧ x_call c k = some (z, 1)) ∨ (∃ k q, r = .invokespecial k ∧ i = .invokespecial z ∧ x_call c k = some (z, q) ∧ (q = 2 ∨ q = 3)) := by
  cases r
  case invokestatic k =>
    refine Or.inl ⟨k, rfl, ?_⟩
    simp only [x_res] at hr
    split at hr
    next => cases hr; cases hc
    next =>
      split at hr
      next z' hz =>
        split at hr
        next => cases hr; cases hc
        next h1 =>
          split at hr
          next => cases hr; cases hc
          next h2 =>
            cases hr
            cases hc
            exact ⟨rfl, hz, h1, h2⟩
      next => cases hr
  case invokevirtual k =>
    refine Or.inr (Or.inl ⟨k, rfl, ?_⟩)
    simp only [x_res] at hr
    split at hr
    next z' hz =>
      cases hr
      cases hc
      exact ⟨rfl, hz⟩
    next => cases hr
  case invokespecial k =>
    refine Or.inr (Or.inr ?_)
    simp only [x_res] at hr
    split at hr
    next => cases hr; cases hc
    next =>
      split at hr
      next z' hz =>
        cases hr
        cases hc
        exact ⟨k, 2, rfl, rfl, hz, Or.inl rfl⟩
      next z' hz =>
        cases hr
        cases hc
        exact ⟨k, 3, rfl, rfl, hz, Or.inr rfl⟩
      next => cases hr
  case newarray t =>
    exfalso
    cases t <;> first | (cases hr; done) | (cases hr; cases hc; done)
  all_goals
    exfalso
    simp only [x_res] at hr
    repeat' (split at hr)
    all_goals first
      | (cases hr; done)
      | (cases hr; cases hc; done)
theorem x_call_z {c k z q : Nat} (h : x_call c k = some (z, q)) : z < 184 := by
  unfold x_call at h
  rw [Option.map_eq_some_iff] at h
  obtain ⟨r, h1, h2⟩ := h
  have h4 := List.all_eq_true.mp x_ct_z r (List.mem_of_find?_eq_some h1)
  cases h2
  simpa using h4
set_option maxHeartbeats 4000000 in
theorem x_sound (hD0 : True) : ∀ n, x_Snd o sio sz xs D n := by
  intro n
  induction n with
  | zero => intro d y pc L S h hf r hr; cases hr
  | succ n ih =>
    intro d y pc L S h hf r hr n0 s0 p l e R s m args below meth c H locs Q ls C hL hLl hW hS hn0 hs0 hR1 hR2 fin
    have C' := C
    obtain ⟨hx, hb, hml, hown, hts, hO, hsz, h8, hini, hRf, hRl, hlk, hsio⟩ := C'
    obtain ⟨i, nx, hfe, hcase⟩ := x_run_w hr
    obtain ⟨rw, n1, hd, hn, hres, rfl⟩ := x_fe_w hfe
    rcases hcase with hcase | hcase | hcase | hcase
    · obtain ⟨z, d', r1, h1, hcal, rfl, hok, hrun1, hrun2⟩ := hcase
      have m1 := x_run_mono _ _ _ _ _ _ _ _ _ hrun1
      have m2 := x_run_mono _ _ _ _ _ _ _ _ _ hrun2
      simp only [x_okc, Bool.and_eq_true, decide_eq_true_eq] at hok
      obtain ⟨⟨⟨ok1, ok2⟩, ok3⟩, ok4⟩ := hok
      refine x_size _ (fun hz0 => ?_)
      have hHs : H.size + 8 = sz + h.length := by
        obtain ⟨ws, tys, hP, hD, hK, hQ⟩ := hW
        have hl2 := hQ.1
        by_cases hw0 : ws.length = 0
        · have := hS.1
          omega
        · have hg : ws[ws.length - 1]? = some ws[ws.length - 1] := List.getElem?_eq_getElem (by omega)
          have h3 := (hQ.2.2 _ _ hg).1
          have h4 := (hP _ _ hg).lt
          omega
      have h8h : 8 ≤ h.length := by omega
      have fwd : ∀ (t : State) (H1 : Heap) (locs1 : List Loc) (hH : t.heap = H1) (hvm : s.vm.Alike t.vm) (hB : x_W o sio sz xs D h1 t.heap t) (hS1 : va_S (x_A sz) s.heap H1 locs1), W p l e R s m args below meth c H1 locs1 (h.length - n0 + (h1.length - h.length)) (x_sz h - s0 + (x_sz h1 - x_sz h)) Q (F0 m (pc + n1) ls ((r1.toList ++ S.drop (x_na z)).map (x_tr o sio sz))) := by
        intro t H1 locs1 hH hvm hB hS1
        subst hH
        have k := ih (d' + 1) y (pc + n1) L (r1.toList ++ S.drop (x_na z)) h1 hf r hrun2 n0 s0 p l e R s m args below meth c t.heap locs1 Q ls C hL hLl (hB.moved hvm.symm) hS1 (by omega) (by omega) hR1 hR2 fin
        rw [show h.length - n0 + (h1.length - h.length) = h1.length - n0 by omega, show x_sz h - s0 + (x_sz h1 - x_sz h) = x_sz h1 - s0 by omega]
        exact k
      have hstk : S.map (x_tr o sio sz) = ((S.take (x_na z)).reverse.map (x_tr o sio sz)).reverse ++ (S.drop (x_na z)).map (x_tr o sio sz) := by
        rw [← List.map_reverse, List.reverse_reverse, ← List.map_append, List.take_append_drop]
      have hroom : 2 * (F0 m pc ls (S.map (x_tr o sio sz))).monitorRoom + (((S.drop (x_na z)).map (x_tr o sio sz)).map fun v => v.category).sum ≤ 8 := lv_room (by rw [x_cat_tr hsio]; exact ok2)
      have hcells : h.length - n0 + (h1.length - h.length) ≤ R.cells ∧ x_sz h - s0 + (x_sz h1 - x_sz h) ≤ R.slots := by omega
      have hPU : ∀ U : State, U.heap = H → s.WarmedH U.vm → (x_W o sio sz xs D h U.heap U ∧ x_Old o sio sz xs U U.heap ∧ U.heap.size + 8 = sz + h.length) := by
        intro U hU hWm
        subst hU
        exact ⟨hW.moved hWm.alike, (hO.kept hS.2.1).warm hWm, hHs⟩
      have hAA : ∀ q, q < H.size → x_A sz q → x_A sz q := fun _ _ h => h
      have hfree : ∀ q, x_A sz q → x_A sz q := fun _ h => h
      have hsize : (F0 m pc ls (S.map (x_tr o sio sz))).locals.size = x_ml y := by show ls.size = _; rw [hL.1, hLl]
      -- the callee's contract, and what comes behind it
      have go : ∀ (hzm : x_mok z = true), n1 = 3 → (∀ (Qc : Array Value → State → Outcome → State → Prop), Met l (x_nm z) (x_ws z) (x_rm d' (h1.length - h.length) (x_sz h1 - x_sz h)) (x_Pc o sio sz xs D (S.take (x_na z)).reverse h) Qc (h1.length - h.length) (x_sz h1 - x_sz h) (x_A sz) → va_Run p l e R s m args below meth c H locs (h.length - n0) (x_sz h - s0) (h1.length - h.length) (x_sz h1 - x_sz h) (F0 m pc ls (S.map (x_tr o sio sz))) ((S.drop (x_na z)).map (x_tr o sio sz)) (Qc ((S.take (x_na z)).reverse.map (x_tr o sio sz)).toArray) (x_A sz)) → W p l e R s m args below meth c H locs (h.length - n0) (x_sz h - s0) Q (F0 m pc ls (S.map (x_tr o sio sz))) := by
        intro hzm hn1 run
        subst hn1
        have rshape : (∃ v, r1 = some (.int v)) ∨ r1 = none := x_run_shape _ _ _ _ _ _ _ _ _ hrun1
        rcases rshape with ⟨v, rfl⟩ | rfl
        · have hM := x_met (l := l) ih hsio hzm h8h ok3 hrun1 (Qc := x_Qi o sio sz xs D v h1) (fun w hw => by cases hw; rfl) (fun hw => by cases hw)
          exact va_calli (run _ hM) hS hAA hfree (fun r2 u t H1 locs1 hH hvm hp hB hsz1 hk1 hS1 => by
            have hp' : r2 = v := hp
            subst hp'
            exact fwd t H1 locs1 hH hvm hB hS1)
        · have hM := x_met (l := l) ih hsio hzm h8h ok3 hrun1 (Qc := x_Qv o sio sz xs D h1) (fun w hw => by cases hw) (fun _ => rfl)
          exact va_callv (run _ hM) hS hAA hfree (fun u t H1 locs1 hH hvm hp hB hsz1 hk1 hS1 => fwd t H1 locs1 hH hvm hB hS1)
      have callB : ∀ (hzm : x_mok z = true) (k np : Nat), (parseMethodDescriptor (x_nm z).desc).map (fun dd => dd.parameters.length) = some np → (Jvm.Cond.methodLink (x_cn (x_cy y)) k (x_nm z)).before args s = true → CallB R s args (x_cn (x_cy y)) k (x_nm z) (x_by z) (x_ml z) (x_rt z) (x_ws z) (x_rm d' (h1.length - h.length) (x_sz h1 - x_sz h)) (h1.length - h.length) (x_sz h1 - x_sz h) np := by
        intro hzm k np hnp hlink
        have hz := x_mo hzm
        refine ⟨rfl, rfl, by show d' + 1 + 1 ≤ _; omega, by show 8 + (x_ml z + 11) + (60 * d' + 60) ≤ _; have := hz.2.2.2.2.2.1; omega, pay_in hts (x_ws_good hzm), List.mem_cons_self, hts _ hz.1.1, hts _ hz.1.2.2.2, hz.2.2.1, fun sig hsig => ?_, hlink⟩
        rw [hsig] at hnp
        exact (Option.some.inj hnp).symm
      rcases x_cal_w hres hcal with ⟨k, rfl, rfl, hcl, hza, hzx⟩ | ⟨k, rfl, rfl, hcl⟩ | ⟨k, q, rfl, rfl, hcl, hq⟩
      · have hzm := x_mok_at (x_call_z hcl) hza hzx
        have hz := x_mo hzm
        have hcw := (x_call_w hcl).2
        rcases hcw with hcw | hcw
        · exact absurd hcw.1 (by decide)
        · have hkd := hcw.2.1
          refine go hzm (by simpa [x_sw, x_len] using hn) (fun Qc hM => ?_)
          have hnp := hz.2.2.2.1
          simp only [hkd, if_true, Nat.add_zero] at hnp
          have hst := hz.1.2.1
          rw [if_pos hkd] at hst
          exact va_runS ⟨hx, hb, hml, hown, hts⟩ hM ⟨callB hzm k (x_na z) hnp (hts _ hcw.2.2), hts _ hst⟩ ⟨x_Pc_blind, fun U hU hWm => ⟨rfl, hPU U hU hWm⟩⟩ rfl (by simp; omega) hsize hstk hroom (by cases (show n1 = 3 by simpa [x_sw, x_len] using hn); exact hd) hcells
      · have hcw := (x_call_w hcl).2
        rcases hcw with hcw | hcw
        · exact absurd hcw.1 (by decide)
        · have hkd := hcw.2.1
          have hzm := x_mok_at (x_call_z hcl) (fun zz => by rw [zz, x_kd_am.1] at hkd; cases hkd) (fun zz => by rw [zz, x_kd_am.2] at hkd; cases hkd)
          have hz := x_mo hzm
          refine go hzm (by simpa [x_sw, x_len] using hn) (fun Qc hM => ?_)
          dsimp only at ok4
          split at ok4
          next q hq =>
            split at ok4
            next ci fs hci =>
              simp only [Bool.and_eq_true, decide_eq_true_eq] at ok4
              have hna : ∃ np, x_na z = np + 1 ∧ (parseMethodDescriptor (x_nm z).desc).map (fun dd => dd.parameters.length) = some np := by
                have hnp := hz.2.2.2.1
                rw [hkd] at hnp
                simp only [Nat.one_ne_zero, if_false] at hnp
                cases hps : parseMethodDescriptor (x_nm z).desc with
                | none => rw [hps] at hnp; cases hnp
                | some dd => rw [hps] at hnp; exact ⟨dd.parameters.length, (Option.some.inj hnp).symm, rfl⟩
              obtain ⟨np, hnp1, hnp2⟩ := hna
              rw [hnp1, Nat.add_sub_cancel] at hq
              obtain ⟨vs, hvs⟩ := x_take_rev hq
              rw [← hnp1] at hvs
              have hvl : vs.length = np := by
                have := congrArg List.length hvs
                simp at this
                omega
              have hin := hz.1.2.1
              rw [if_neg (by omega)] at hin
              have hcy : x_cy z < 7 ∨ x_cy z = 8 := by
                have h5 := List.all_eq_true.mp x_kd_1 z (List.mem_range.mpr (x_call_z hcl))
                simp only [Bool.or_eq_true, decide_eq_true_eq] at h5
                rcases h5 with (h5 | h5) | h5
                · exact absurd hkd h5
                · exact Or.inl h5
                · exact Or.inr h5
              have hrc := x_recv hW hO hS hci (by rw [ok4.1]; exact hcy)
              rw [hvs, List.map_cons, x_tr_ref ok4.2] at hstk ⊢
              rw [hvs] at hM
              refine va_runV ⟨hx, hb, hml, hown, hts⟩ hM ⟨callB hzm k np hnp2 (hts _ hcw.2.2), hts _ hin, hts _ (hz.1.2.2.1 hkd)⟩ ⟨x_Pc_blind, by rw [← ok4.1]; exact hrc, fun U hU hWm => ⟨by rw [List.map_cons, x_tr_ref ok4.2], hPU U hU hWm⟩⟩ rfl (by rw [List.length_map]; exact hvl) hsize (by rw [List.reverse_cons, List.append_assoc] at hstk; exact hstk) hroom (by cases (show n1 = 3 by simpa [x_sw, x_len] using hn); exact hd) hcells
            next => cases ok4
          next => cases ok4
      · have hkd : x_kd z = 2 := by
          rcases (x_call_w hcl).2 with hcw | hcw
          · exact hcw.2.2.1
          · rcases hq with rfl | rfl
            · exact hcw.2.1
            · exact absurd rfl hcw.1
        have hzm := x_mok_at (x_call_z hcl) (fun zz => by rw [zz, x_kd_am.1] at hkd; cases hkd) (fun zz => by rw [zz, x_kd_am.2] at hkd; cases hkd)
        have hz := x_mo hzm
        refine go hzm (by simpa [x_sw, x_len] using hn) (fun Qc hM => ?_)
        dsimp only at ok4
        split at ok4
        next q1 hq1 =>
          simp only [decide_eq_true_eq] at ok4
          have hna : ∃ np, x_na z = np + 1 ∧ (parseMethodDescriptor (x_nm z).desc).map (fun dd => dd.parameters.length) = some np := by
            have hnp := hz.2.2.2.1
            rw [hkd] at hnp
            cases hps : parseMethodDescriptor (x_nm z).desc with
            | none => rw [hps] at hnp; cases hnp
            | some dd => rw [hps] at hnp; exact ⟨dd.parameters.length, (Option.some.inj hnp).symm, rfl⟩
          obtain ⟨np, hnp1, hnp2⟩ := hna
          rw [hnp1, Nat.add_sub_cancel] at hq1
          obtain ⟨vs, hvs⟩ := x_take_rev hq1
          rw [← hnp1] at hvs
          have hvl : vs.length = np := by
            have := congrArg List.length hvs
            simp at this
            omega
          have hin := hz.1.2.1
          rw [if_neg (by omega)] at hin
          have hrt := (hz.2.2.2.2.2.2 hkd).2
          have hname := (hz.2.2.2.2.2.2 hkd).1
          rw [hvs, List.map_cons, x_tr_ref ok4] at hstk ⊢
          rw [hvs] at hM
          have hd3 : decode (x_by y) pc = .ok (.invokespecial k, 3) := by cases (show n1 = 3 by simpa [x_sw, x_len] using hn); exact hd
          have hpre : PreS s H (x_Pc o sio sz xs D (Value.ref q1 :: vs) h) (.ref (x_ad o sz q1) :: vs.map (x_tr o sio sz)) := ⟨x_Pc_blind, fun U hU hWm => ⟨by rw [List.map_cons, x_tr_ref ok4], hPU U hU hWm⟩⟩
          have hstk' : S.map (x_tr o sio sz) = (vs.map (x_tr o sio sz)).reverse ++ (.ref (x_ad o sz q1) :: (S.drop (x_na z)).map (x_tr o sio sz)) := by rw [List.reverse_cons, List.append_assoc] at hstk; exact hstk
          have hrtw : x_ws z = Jvm.Cond.code (x_nm z) (x_by z) (x_ml z) none :: x_TB := by show Jvm.Cond.code _ _ _ (x_rt z) :: _ = _; rw [hrt]
          rcases (x_call_w hcl).2 with hcw | hcw
          · obtain ⟨-, hcy5, -, w, hne⟩ := hcw
            have hnl := hO.2.2.2.2.2.2 _ hne
            have hown5 : s.vm.findClass "WindowCards" = some m.cls := by rw [hcy5] at hown; exact hown
            have hcn : va_CN R s args "WindowCards" k (x_nm z) "WindowCards" (x_by z) (x_ml z) none (x_ws z) (x_rm d' (h1.length - h.length) (x_sz h1 - x_sz h)) (h1.length - h.length) (x_sz h1 - x_sz h) np :=
              va_cnB np hts (x_ws_good hzm) hrtw rfl rfl hnl (hts _ hz.1.2.2.2) ⟨hz.2.2.1.1, hz.2.2.1.2, hnp2⟩ ⟨by show d' + 1 + 1 ≤ _; omega, by show 8 + (x_ml z + 11) + (60 * d' + 60) ≤ _; have := hz.2.2.2.2.2.1; omega⟩
            exact va_runIN ⟨hx, hb, hml, hown5, hts⟩ hM ⟨hcn, hname, hts _ hin⟩ hpre rfl (by rw [List.length_map]; exact hvl) hsize hstk' hroom hd3 hcells
          · have hcb := callB hzm k np hnp2 (hts _ hcw.2.2)
            rw [hrt] at hcb
            exact va_runI ⟨hx, hb, hml, hown, hts⟩ hM ⟨hcb, hname, hts _ hin⟩ hpre rfl (by rw [List.length_map]; exact hvl) hsize hstk' hroom hd3 hcells
        next => cases ok4
    · obtain ⟨v, ty, rfl, rfl, hty, hnr, rfl, rfl⟩ := hcase
      have hrw : rw = .ireturn := by
        cases rw
        case ireturn => rfl
        case newarray t => cases t <;> cases hres
        all_goals
          exfalso
          simp only [x_res] at hres
          repeat' (split at hres)
          all_goals (cases hres; done)
      subst hrw
      cases (show n1 = 1 by simpa [x_sw, x_len] using hn)
      exact (fin ls H locs pc hW hS).1 v rfl hd ⟨ty, hty, hnr⟩
    · obtain ⟨rfl, rfl, hty, rfl, rfl⟩ := hcase
      have hrw : rw = .return_ := by
        cases rw
        case return_ => rfl
        case newarray t => cases t <;> cases hres
        all_goals
          exfalso
          simp only [x_res] at hres
          repeat' (split at hres)
          all_goals (cases hres; done)
      subst hrw
      cases (show n1 = 1 by simpa [x_sw, x_len] using hn)
      exact (fin ls H locs pc hW hS).2 rfl hd hty
    · obtain ⟨pc', L', S', h', hcal, hst, hrun⟩ := hcase
      have m1 := x_step_mono hst
      have m2 := x_run_mono _ _ _ _ _ _ _ _ _ hrun
      exact x_sound1 (D := D) C hd hn hres hst hL hLl hW hS hn0 hs0 (by omega) (by omega) (fun ls' H' locs' hL' hW' hS' => ih d y pc' L' S' h' hf r hrun n0 s0 p l e R s m args below meth c H' locs' Q ls' C hL' (by rw [m1.2]; exact hLl) hW' hS' (by omega) (by omega) hR1 hR2 fin)
end XSD
end
section
/-! MEMORY: all shapes are fixed behind the two constructors: tag, length, references by place; the rest is a function of ints -/
abbrev x_M : Type := Nat → Nat → Int32
def x_tgs : List Nat := [100, 100, 100, 100, 100, 100, 100, 100, 5, 11, 3, 10, 0, 10, 10, 10, 10, 0, 10, 10, 10, 10, 12, 1, 10, 10, 10, 10, 4, 10, 2, 10, 2, 10, 2, 10, 2, 10, 2, 10, 2, 10, 2, 10, 2, 10, 0, 10, 10, 10, 10, 0, 10, 10, 10, 10, 6, 10, 10, 10, 10, 10, 10, 10, 10, 10, 10, 10, 10, 10, 10, 10, 10, 10, 10]
def x_lns : List Nat := [0, 0, 0, 0, 0, 0, 0, 0, 10, 8, 6, 400, 10, 9, 112, 2, 2, 10, 9, 112, 2, 2, 2, 5, 4, 2, 16384, 3, 2, 16, 4, 40, 4, 40, 4, 40, 4, 40, 4, 40, 4, 40, 4, 40, 4, 40, 10, 9, 112, 2, 2, 10, 9, 112, 2, 2, 27, 99, 400, 8, 8, 320, 16, 9, 14, 14, 112, 3, 6, 6, 12, 6, 6, 6, 3]
def x_rfs : List (List (Option Nat)) := [[], [], [], [], [], [], [], [], [some 9, some 10, some 12, some 17, some 22, some 23, some 27, some 28], [some 30, some 32, some 34, some 36, some 38, some 40, some 42, some 44], [some 11], [], [some 13, some 14, some 15, some 16], [], [], [], [], [some 18, some 19, some 20, some 21], [], [], [], [], [some 46, some 51], [some 24, some 25, some 26], [], [], [], [], [some 29], [], [some 31], [], [some 33], [], [some 35], [], [some 37], [], [some 39], [], [some 41], [], [some 43], [], [some 45], [], [some 47, some 48, some 49, some 50], [], [], [], [], [some 52, some 53, some 54, some 55], [], [], [], [], [some 57, some 58, none, none, none, some 59, some 60, some 61, some 62, none, none, none, none, some 63, some 64, some 65, none, some 66, some 67, some 68, some 69, some 70, some 71, some 72, some 73, none, some 74], [], [], [], [], [], [], [], [], [], [], [], [], [], [], [], [], [], []]
def x_tg (p : Nat) : Nat := x_tgs.getD p 99
def x_ln (p : Nat) : Nat := x_lns.getD p 0
def x_rf (p j : Nat) : Option Nat := (x_rfs.getD p []).getD j none
def x_rr (p j : Nat) : Nat := (x_rf p j).getD 0
/-- of a reference field of a class: the tag and the length of what it refers to -/
def x_fss : List (List (Nat × Nat)) := [[(10, 9), (10, 112), (10, 2), (10, 2)], [(10, 4), (10, 2), (10, 16384)], [(10, 40)], [(10, 400)], [(10, 16)], [(11, 8), (3, 6), (0, 10), (0, 10), (12, 2), (1, 5), (10, 3), (4, 2)], [(10, 99), (10, 400), (0, 0), (0, 0), (0, 0), (10, 8), (10, 8), (10, 320), (10, 16), (0, 0), (0, 0), (0, 0), (0, 0), (10, 9), (10, 14), (10, 14), (0, 0), (10, 112), (10, 3), (10, 6), (10, 6), (10, 12), (10, 6), (10, 6), (10, 6), (0, 0), (10, 3)]]
def x_fs (c j : Nat) : Nat × Nat := (x_fss.getD c []).getD j (0, 0)
def x_isr (c j : Nat) : Bool := match x_ty c j with
  | .array _ => true
  | .object _ => true
  | _ => false
def x_vl (S : x_M) (p j : Nat) : Value := match x_rf p j with
  | some r => .ref r
  | none => .int (S p j)
def x_ce (S : x_M) (p : Nat) : x_C := (x_tg p, (List.range (x_ln p)).map (x_vl S p))
def x_hp (xs : List Int32) (S : x_M) : x_H := x_old xs ++ (List.range 67).map (fun i => x_ce S (8 + i))
def x_up (S : x_M) (p k : Nat) (v : Int32) : x_M := fun q j => if q = p ∧ j = k then v else S q j
/-- n ints of p from sp on come to q from dp on -/
def x_cp (S : x_M) (p sp q dp n : Nat) : x_M := fun r j => if r = q ∧ dp ≤ j ∧ j < dp + n then S p (sp + (j - dp)) else S r j
theorem x_sh1 : ((List.range 75).all fun p => if p < 8 then decide (x_tg p = 100) else (decide (x_tg p < 7) || decide (x_tg p = 10) || decide (x_tg p = 11) || decide (x_tg p = 12)) && (if x_tg p < 7 then decide (x_ln p = x_N (x_tg p)) && ((List.range (x_ln p)).all fun j => (x_rf p j).isSome == x_isr (x_tg p) j && (!(x_isr (x_tg p) j) || (decide (x_tg (x_rr p j) = (x_fs (x_tg p) j).1) && decide (x_ln (x_rr p j) = (x_fs (x_tg p) j).2)))) else if x_tg p = 10 then decide (x_rfs.getD p [] = []) else (List.range (x_ln p)).all fun j => (x_rf p j).isSome && decide (x_tg (x_rr p j) = if x_tg p = 11 then 2 else 0))) = true := by decide +kernel
theorem x_tg_lt {p c : Nat} (h : x_tg p = c) (hc : c < 99) : 8 ≤ p ∧ p < 75 := by
  have h75 : p < 75 := by
    by_cases hp : p < 75
    · exact hp
    · exfalso
      have h2 : x_tg p = 99 := by
        unfold x_tg
        rw [List.getD_eq_getElem?_getD, List.getElem?_eq_none (by show 75 ≤ p; omega)]
        rfl
      omega
  refine ⟨?_, h75⟩
  by_cases hp : 8 ≤ p
  · exact hp
  · exfalso
    have h1 := List.all_eq_true.mp x_sh1 p (List.mem_range.mpr h75)
    rw [if_pos (by omega)] at h1
    simp only [decide_eq_true_eq] at h1
    omega
theorem x_tg_all {p c : Nat} (h : x_tg p = c) (hc : c < 99) : (if c < 7 then decide (x_ln p = x_N c) && ((List.range (x_ln p)).all fun j => (x_rf p j).isSome == x_isr c j && (!(x_isr c j) || (decide (x_tg (x_rr p j) = (x_fs c j).1) && decide (x_ln (x_rr p j) = (x_fs c j).2)))) else if c = 10 then decide (x_rfs.getD p [] = []) else (List.range (x_ln p)).all fun j => (x_rf p j).isSome && decide (x_tg (x_rr p j) = if c = 11 then 2 else 0)) = true := by
  obtain ⟨h8, h75⟩ := x_tg_lt h hc
  have h1 := List.all_eq_true.mp x_sh1 p (List.mem_range.mpr h75)
  rw [if_neg (by omega), h, Bool.and_eq_true] at h1
  exact h1.2
theorem x_tg_n {p c : Nat} (h : x_tg p = c) (hc : c < 7) : x_ln p = x_N c := by
  have h1 := x_tg_all h (by omega)
  rw [if_pos hc] at h1
  simp only [Bool.and_eq_true, decide_eq_true_eq] at h1
  exact h1.1
theorem x_tg_i {p c j : Nat} (h : x_tg p = c) (hc : c < 7) (hj : j < x_N c) (hi : x_isr c j = false) : x_rf p j = none := by
  have h0 := x_tg_n h hc
  have h1 := x_tg_all h (by omega)
  rw [if_pos hc] at h1
  simp only [Bool.and_eq_true] at h1
  have h2 := List.all_eq_true.mp h1.2 j (List.mem_range.mpr (by omega))
  simp only [Bool.and_eq_true, hi, beq_iff_eq] at h2
  cases hr : x_rf p j with
  | none => rfl
  | some r => rw [hr] at h2; exact absurd h2.1 (by simp)
theorem x_tg_r {p c j : Nat} (h : x_tg p = c) (hc : c < 7) (hj : j < x_N c) (hi : x_isr c j = true) : x_rf p j = some (x_rr p j) ∧ x_tg (x_rr p j) = (x_fs c j).1 ∧ x_ln (x_rr p j) = (x_fs c j).2 := by
  have h0 := x_tg_n h hc
  have h1 := x_tg_all h (by omega)
  rw [if_pos hc] at h1
  simp only [Bool.and_eq_true] at h1
  have h2 := List.all_eq_true.mp h1.2 j (List.mem_range.mpr (by omega))
  simp only [Bool.and_eq_true, hi, beq_iff_eq, Bool.not_true, Bool.false_or, decide_eq_true_eq] at h2
  refine ⟨?_, h2.2⟩
  unfold x_rr
  cases hr : x_rf p j with
  | none => rw [hr] at h2; exact absurd h2.1 (by simp)
  | some r => rfl
theorem x_tg_a {p j : Nat} (h : x_tg p = 10) : x_rf p j = none := by
  have h1 := x_tg_all h (by omega)
  simp only [show ¬ (10 : Nat) < 7 by omega, if_false, if_true, decide_eq_true_eq] at h1
  unfold x_rf
  rw [h1]
  rfl
theorem x_tg_q {p c j : Nat} (h : x_tg p = c) (hc : c = 11 ∨ c = 12) (hj : j < x_ln p) : x_rf p j = some (x_rr p j) ∧ x_tg (x_rr p j) = if c = 11 then 2 else 0 := by
  have h1 := x_tg_all h (by omega)
  rw [if_neg (by omega), if_neg (by omega)] at h1
  have h2 := List.all_eq_true.mp h1 j (List.mem_range.mpr hj)
  simp only [Bool.and_eq_true, decide_eq_true_eq] at h2
  refine ⟨?_, h2.2⟩
  unfold x_rr
  cases hr : x_rf p j with
  | none => rw [hr] at h2; exact absurd h2.1 (by simp)
  | some r => rfl
theorem x_hp_at {xs : List Int32} {S : x_M} {p : Nat} (h8 : 8 ≤ p) (h75 : p < 75) : (x_hp xs S)[p]? = some (x_ce S p) := by
  unfold x_hp
  have hl : (x_old xs).length = 8 := rfl
  rw [List.getElem?_append_right (by omega), List.getElem?_map, List.getElem?_range (by omega), hl]
  show some (x_ce S (8 + (p - 8))) = _
  rw [show 8 + (p - 8) = p by omega]
theorem x_hp_tg {xs : List Int32} {S : x_M} {p c : Nat} (h : x_tg p = c) (hc : c < 99) : (x_hp xs S)[p]? = some (c, (List.range (x_ln p)).map (x_vl S p)) := by
  obtain ⟨h8, h75⟩ := x_tg_lt h hc
  rw [x_hp_at h8 h75]
  unfold x_ce
  rw [h]
theorem x_hp_len {xs : List Int32} {S : x_M} : (x_hp xs S).length = 75 := by
  unfold x_hp
  rw [List.length_append, List.length_map, List.length_range]
  rfl
theorem x_hp_ext {xs : List Int32} {S S' : x_M} {p : Nat} {c : x_C} (h8 : 8 ≤ p) (h75 : p < 75) (hc : c = x_ce S' p) (hS : ∀ q, q ≠ p → S' q = S q) : (x_hp xs S).set p c = x_hp xs S' := by
  apply List.ext_getElem?
  intro i
  by_cases hi : i = p
  · subst hi
    rw [List.getElem?_set_self (by rw [x_hp_len]; exact h75), x_hp_at h8 h75, hc]
  · rw [List.getElem?_set_ne (Ne.symm hi)]
    by_cases hi8 : 8 ≤ i
    · by_cases hi75 : i < 75
      · rw [x_hp_at hi8 hi75, x_hp_at hi8 hi75]
        unfold x_ce x_vl
        rw [hS i hi]
      · rw [List.getElem?_eq_none (by rw [x_hp_len]; omega), List.getElem?_eq_none (by rw [x_hp_len]; omega)]
    · unfold x_hp
      have hl : (x_old xs).length = 8 := rfl
      rw [List.getElem?_append_left (by omega), List.getElem?_append_left (by omega)]
theorem x_hp_set {xs : List Int32} {S : x_M} {p c k : Nat} {v : Int32} (h : x_tg p = c) (hc : c < 99) (hk : k < x_ln p) (hr : x_rf p k = none) : (x_hp xs S).set p (c, ((List.range (x_ln p)).map (x_vl S p)).set k (.int v)) = x_hp xs (x_up S p k v) := by
  obtain ⟨h8, h75⟩ := x_tg_lt h hc
  refine x_hp_ext h8 h75 ?_ (fun q hq => ?_)
  · unfold x_ce
    rw [h]
    congr 1
    apply List.ext_getElem?
    intro j
    by_cases hj : j = k
    · subst hj
      rw [List.getElem?_set_self (by simpa using hk), List.getElem?_map, List.getElem?_range hk]
      show _ = some (x_vl _ p j)
      unfold x_vl
      rw [hr]
      show _ = some (Value.int (if p = p ∧ j = j then v else _))
      rw [if_pos ⟨rfl, rfl⟩]
    · rw [List.getElem?_set_ne (Ne.symm hj), List.getElem?_map, List.getElem?_map]
      by_cases hjl : j < x_ln p
      · rw [List.getElem?_range hjl]
        show some (x_vl _ p j) = some (x_vl _ p j)
        unfold x_vl x_up
        rw [if_neg (fun z => hj z.2)]
      · rw [List.getElem?_eq_none (by simp; omega)]
        rfl
  · funext j
    show (if q = p ∧ j = k then v else S q j) = _
    rw [if_neg (fun z => hq z.1)]
/-! RUNS, upward in fuel and depth -/
theorem x_run_call {n d y pc nx z : Nat} {i : Instr} {L K : List Value} {h h1 : x_H} {r1 : Option Value} {w : Option Value × x_H} (hf : x_fe y pc = some (i, nx)) (hc : x_cal i = some z) (ho : x_okc i z K h = true) (h1r : x_run n d z 0 (x_loc (x_ml z) (K.take (x_na z)).reverse) [] h = some (r1, h1)) (h2r : x_run n (d + 1) y nx L (r1.toList ++ K.drop (x_na z)) h1 = some w) : x_run (n + 1) (d + 1) y pc L K h = some w := by
  rw [x_run_succ, hf]
  simp only [hc, ho, if_true, h1r, h2r]
theorem x_run_step {n d y pc nx : Nat} {i : Instr} {L K : List Value} {h : x_H} {pc' : Nat} {L' K' : List Value} {h' : x_H} {w : Option Value × x_H} (hf : x_fe y pc = some (i, nx)) (hc : x_cal i = none) (hs : x_step (x_kd y == 2) i pc nx L K h = some (pc', L', K', h')) (h2r : x_run n d y pc' L' K' h' = some w) : x_run (n + 1) d y pc L K h = some w := by
  rw [x_run_succ, hf]
  simp only [hc]
  split
  · cases hs
  · cases hs
  · rw [hs]
    exact h2r
theorem x_run_up : ∀ (n d y pc : Nat) (L K : List Value) (h : x_H) (w : Option Value × x_H), x_run n d y pc L K h = some w → ∀ n' d', n ≤ n' → d ≤ d' → x_run n' d' y pc L K h = some w := by
  intro n
  induction n with
  | zero => intro d y pc L K h w hr; cases hr
  | succ n ih =>
    intro d y pc L K h w hr n' d' hn hd
    obtain ⟨r, hf⟩ := w
    cases n' with
    | zero => omega
    | succ n' =>
      obtain ⟨i, nx, hfe, g | g | g | g⟩ := x_run_w hr
      · obtain ⟨z, d1, r1, h1, g1, rfl, g3, g4, g5⟩ := g
        cases d' with
        | zero => omega
        | succ d' => exact x_run_call hfe g1 g3 (ih _ _ _ _ _ _ _ g4 n' d' (by omega) (by omega)) (ih _ _ _ _ _ _ _ g5 n' (d' + 1) (by omega) (by omega))
      · obtain ⟨v, ty, rfl, rfl, g3, g4, rfl, rfl⟩ := g
        rw [x_run_succ, hfe]
        simp only [x_cal, g3, g4, if_true]
      · obtain ⟨rfl, rfl, g3, rfl, rfl⟩ := g
        rw [x_run_succ, hfe]
        simp only [x_cal, g3]
      · obtain ⟨pc', L', K', h', g1, g2, g3⟩ := g
        exact x_run_step hfe g1 g2 (ih _ _ _ _ _ _ _ g3 n' d' (by omega) hd)
/-! E: the run from here comes to an end with Q -/
def x_E (xs : List Int32) (d y pc : Nat) (L K : List Value) (S : x_M) (Q : Option Value → x_M → Prop) : Prop := ∃ (n : Nat) (r : Option Value) (S' : x_M), x_run n d y pc L K (x_hp xs S) = some (r, x_hp xs S') ∧ Q r S'
def x_Ci (xs : List Int32) (d z : Nat) (A : List Value) (S : x_M) (P : Int32 → x_M → Prop) : Prop := x_E xs d z 0 (x_loc (x_ml z) A) [] S (fun r S' => ∃ v : Int32, r = some (.int v) ∧ P v S')
def x_Cv (xs : List Int32) (d z : Nat) (A : List Value) (S : x_M) (P : x_M → Prop) : Prop := x_E xs d z 0 (x_loc (x_ml z) A) [] S (fun r S' => r = none ∧ P S')
section XE
variable {xs : List Int32} {d y pc nx : Nat} {L K : List Value} {S : x_M} {Q : Option Value → x_M → Prop}
theorem x_E_weak {Q' : Option Value → x_M → Prop} (h : x_E xs d y pc L K S Q) (hq : ∀ r S', Q r S' → Q' r S') : x_E xs d y pc L K S Q' := by
  obtain ⟨n, r, S', h1, h2⟩ := h
  exact ⟨n, r, S', h1, hq _ _ h2⟩
theorem x_E_step {i : Instr} {pc' : Nat} {L' K' : List Value} {S' : x_M} (hf : x_fe y pc = some (i, nx)) (hc : x_cal i = none) (hs : x_step (x_kd y == 2) i pc nx L K (x_hp xs S) = some (pc', L', K', x_hp xs S')) (k : x_E xs d y pc' L' K' S' Q) : x_E xs d y pc L K S Q := by
  obtain ⟨n, r, S2, h1, h2⟩ := k
  exact ⟨n + 1, r, S2, x_run_step hf hc hs h1, h2⟩
theorem e_iconst {n : Int} {c : Int32} (hf : x_fe y pc = some (.iconst n, nx)) (hc : Int32.ofInt n = c) (k : x_E xs d y nx L (.int c :: K) S Q) : x_E xs d y pc L K S Q := x_E_step hf rfl (by rw [← hc]; rfl) k
theorem e_lconst {n : Nat} {c : Int64} (hf : x_fe y pc = some (.ldc2_w n, nx)) (hc : Int64.ofNat n = c) (k : x_E xs d y nx L (.long c :: K) S Q) : x_E xs d y pc L K S Q := x_E_step hf rfl (by rw [← hc]; rfl) k
theorem e_ldc {p : Nat} (hf : x_fe y pc = some (.ldc p, nx)) (k : x_E xs d y nx L (.ref p :: K) S Q) : x_E xs d y pc L K S Q := x_E_step hf rfl rfl k
theorem e_iload {j : Nat} {v : Int32} (hf : x_fe y pc = some (.iload j, nx)) (hl : L[j]? = some (.int v)) (k : x_E xs d y nx L (.int v :: K) S Q) : x_E xs d y pc L K S Q := x_E_step hf rfl (by simp only [x_step, hl]) k
theorem e_lload {j : Nat} {v : Int64} (hf : x_fe y pc = some (.lload j, nx)) (hl : L[j]? = some (.long v)) (k : x_E xs d y nx L (.long v :: K) S Q) : x_E xs d y pc L K S Q := x_E_step hf rfl (by simp only [x_step, hl]) k
theorem e_aload {j p : Nat} (hf : x_fe y pc = some (.aload j, nx)) (hl : L[j]? = some (.ref p)) (hp : p ≠ 7) (k : x_E xs d y nx L (.ref p :: K) S Q) : x_E xs d y pc L K S Q := x_E_step hf rfl (by simp only [x_step, hl, if_neg hp]) k
theorem e_istore {j : Nat} {v : Int32} {L' : List Value} (hf : x_fe y pc = some (.istore j, nx)) (hj : j < L.length) (hl : x_st1 L j (.int v) = L') (k : x_E xs d y nx L' K S Q) : x_E xs d y pc L (.int v :: K) S Q := x_E_step hf rfl (by simp only [x_step, if_pos hj, hl]) k
theorem e_astore {j p : Nat} {L' : List Value} (hf : x_fe y pc = some (.astore j, nx)) (hj : j < L.length) (hp : p ≠ 7) (hl : x_st1 L j (.ref p) = L') (k : x_E xs d y nx L' K S Q) : x_E xs d y pc L (.ref p :: K) S Q := x_E_step hf rfl (by simp only [x_step, if_pos (And.intro hj hp), hl]) k
theorem e_lstore {j : Nat} {v : Int64} {L' : List Value} (hf : x_fe y pc = some (.lstore j, nx)) (hj : j + 1 < L.length) (hl : x_st2 L j (.long v) = L') (k : x_E xs d y nx L' K S Q) : x_E xs d y pc L (.long v :: K) S Q := x_E_step hf rfl (by simp only [x_step, if_pos hj, hl]) k
theorem e_iinc {j : Nat} {n : Int} {v w : Int32} {L' : List Value} (hf : x_fe y pc = some (.iinc j n, nx)) (h0 : L[j]? = some (.int v)) (hw : v + Int32.ofInt n = w) (hl : x_st1 L j (.int w) = L') (k : x_E xs d y nx L' K S Q) : x_E xs d y pc L K S Q := x_E_step hf rfl (by simp only [x_step, h0, hw, hl]) k
theorem e_bi {i : Instr} {a b v : Int32} {f : Int32 → Int32 → Option Int32} (hf : x_fe y pc = some (i, nx)) (hc : x_cal i = none) (hi : ∀ (S0 : List Value) (h : x_H), x_step (x_kd y == 2) i pc nx L S0 h = x_bi S0 f nx L h) (hv : f a b = some v) (k : x_E xs d y nx L (.int v :: K) S Q) : x_E xs d y pc L (.int b :: .int a :: K) S Q := x_E_step hf hc (by rw [hi]; simp only [x_bi, hv]) k
theorem e_iadd {a b : Int32} (hf : x_fe y pc = some (.iadd, nx)) (k : x_E xs d y nx L (.int (a + b) :: K) S Q) : x_E xs d y pc L (.int b :: .int a :: K) S Q := x_E_step hf rfl rfl k
theorem e_isub {a b : Int32} (hf : x_fe y pc = some (.isub, nx)) (k : x_E xs d y nx L (.int (a - b) :: K) S Q) : x_E xs d y pc L (.int b :: .int a :: K) S Q := x_E_step hf rfl rfl k
theorem e_imul {a b : Int32} (hf : x_fe y pc = some (.imul, nx)) (k : x_E xs d y nx L (.int (a * b) :: K) S Q) : x_E xs d y pc L (.int b :: .int a :: K) S Q := x_E_step hf rfl rfl k
theorem e_idiv {a b : Int32} (hf : x_fe y pc = some (.idiv, nx)) (hb : ¬ b = 0) (k : x_E xs d y nx L (.int (a / b) :: K) S Q) : x_E xs d y pc L (.int b :: .int a :: K) S Q := x_E_step hf rfl (by simp only [x_step, x_bi, if_neg hb]) k
theorem e_irem {a b : Int32} (hf : x_fe y pc = some (.irem, nx)) (hb : ¬ b = 0) (k : x_E xs d y nx L (.int (a - a / b * b) :: K) S Q) : x_E xs d y pc L (.int b :: .int a :: K) S Q := x_E_step hf rfl (by simp only [x_step, x_bi, if_neg hb]) k
theorem e_iand {a b : Int32} (hf : x_fe y pc = some (.iand, nx)) (k : x_E xs d y nx L (.int (a &&& b) :: K) S Q) : x_E xs d y pc L (.int b :: .int a :: K) S Q := x_E_step hf rfl rfl k
theorem e_ior {a b : Int32} (hf : x_fe y pc = some (.ior, nx)) (k : x_E xs d y nx L (.int (a ||| b) :: K) S Q) : x_E xs d y pc L (.int b :: .int a :: K) S Q := x_E_step hf rfl rfl k
theorem e_ixor {a b : Int32} (hf : x_fe y pc = some (.ixor, nx)) (k : x_E xs d y nx L (.int (a ^^^ b) :: K) S Q) : x_E xs d y pc L (.int b :: .int a :: K) S Q := x_E_step hf rfl rfl k
theorem e_ishl {a b : Int32} (hf : x_fe y pc = some (.ishl, nx)) (k : x_E xs d y nx L (.int (a <<< (b &&& 31)) :: K) S Q) : x_E xs d y pc L (.int b :: .int a :: K) S Q := x_E_step hf rfl rfl k
theorem e_ishr {a b : Int32} (hf : x_fe y pc = some (.ishr, nx)) (k : x_E xs d y nx L (.int (a >>> (b &&& 31)) :: K) S Q) : x_E xs d y pc L (.int b :: .int a :: K) S Q := x_E_step hf rfl rfl k
theorem e_iushr {a b : Int32} (hf : x_fe y pc = some (.iushr, nx)) (k : x_E xs d y nx L (.int (a.toUInt32 >>> (b.toUInt32 &&& Int32.toUInt32 31)).toInt32 :: K) S Q) : x_E xs d y pc L (.int b :: .int a :: K) S Q := x_E_step hf rfl rfl k
theorem e_ineg {a : Int32} (hf : x_fe y pc = some (.ineg, nx)) (k : x_E xs d y nx L (.int (-a) :: K) S Q) : x_E xs d y pc L (.int a :: K) S Q := x_E_step hf rfl rfl k
theorem e_i2b {a : Int32} (hf : x_fe y pc = some (.i2b, nx)) (k : x_E xs d y nx L (.int a.toInt8.toInt32 :: K) S Q) : x_E xs d y pc L (.int a :: K) S Q := x_E_step hf rfl rfl k
theorem e_i2s {a : Int32} (hf : x_fe y pc = some (.i2s, nx)) (k : x_E xs d y nx L (.int a.toInt16.toInt32 :: K) S Q) : x_E xs d y pc L (.int a :: K) S Q := x_E_step hf rfl rfl k
theorem e_i2c {a : Int32} (hf : x_fe y pc = some (.i2c, nx)) (k : x_E xs d y nx L (.int (a.toUInt32 % 65536).toInt32 :: K) S Q) : x_E xs d y pc L (.int a :: K) S Q := x_E_step hf rfl rfl k
theorem e_ladd {a b : Int64} (hf : x_fe y pc = some (.ladd, nx)) (k : x_E xs d y nx L (.long (a + b) :: K) S Q) : x_E xs d y pc L (.long b :: .long a :: K) S Q := x_E_step hf rfl rfl k
theorem e_lmul {a b : Int64} (hf : x_fe y pc = some (.lmul, nx)) (k : x_E xs d y nx L (.long (a * b) :: K) S Q) : x_E xs d y pc L (.long b :: .long a :: K) S Q := x_E_step hf rfl rfl k
theorem e_land {a b : Int64} (hf : x_fe y pc = some (.land, nx)) (k : x_E xs d y nx L (.long (a &&& b) :: K) S Q) : x_E xs d y pc L (.long b :: .long a :: K) S Q := x_E_step hf rfl rfl k
theorem e_lor {a b : Int64} (hf : x_fe y pc = some (.lor, nx)) (k : x_E xs d y nx L (.long (a ||| b) :: K) S Q) : x_E xs d y pc L (.long b :: .long a :: K) S Q := x_E_step hf rfl rfl k
theorem e_lrem {a b : Int64} (hf : x_fe y pc = some (.lrem, nx)) (hb : ¬ b = 0) (k : x_E xs d y nx L (.long (a - a / b * b) :: K) S Q) : x_E xs d y pc L (.long b :: .long a :: K) S Q := x_E_step hf rfl (by simp only [x_step, x_bl, if_neg hb]) k
theorem e_lcmp {a b : Int64} (hf : x_fe y pc = some (.lcmp, nx)) (k : x_E xs d y nx L (.int (lg_cmp a b) :: K) S Q) : x_E xs d y pc L (.long b :: .long a :: K) S Q := x_E_step hf rfl rfl k
theorem e_lshl {a : Int64} {b : Int32} (hf : x_fe y pc = some (.lshl, nx)) (k : x_E xs d y nx L (.long (a <<< (b.toInt64 &&& 63)) :: K) S Q) : x_E xs d y pc L (.int b :: .long a :: K) S Q := x_E_step hf rfl rfl k
theorem e_lshr {a : Int64} {b : Int32} (hf : x_fe y pc = some (.lshr, nx)) (k : x_E xs d y nx L (.long (a >>> (b.toInt64 &&& 63)) :: K) S Q) : x_E xs d y pc L (.int b :: .long a :: K) S Q := x_E_step hf rfl rfl k
theorem e_i2l {a : Int32} (hf : x_fe y pc = some (.i2l, nx)) (k : x_E xs d y nx L (.long a.toInt64 :: K) S Q) : x_E xs d y pc L (.int a :: K) S Q := x_E_step hf rfl rfl k
theorem e_l2i {a : Int64} (hf : x_fe y pc = some (.l2i, nx)) (k : x_E xs d y nx L (.int a.toInt32 :: K) S Q) : x_E xs d y pc L (.long a :: K) S Q := x_E_step hf rfl rfl k
theorem e_dup {v : Value} (hf : x_fe y pc = some (.dup, nx)) (hv : v.category = 1) (k : x_E xs d y nx L (v :: v :: K) S Q) : x_E xs d y pc L (v :: K) S Q := x_E_step hf rfl (by simp only [x_step, if_pos hv]) k
theorem e_pop {v : Value} (hf : x_fe y pc = some (.pop, nx)) (hv : v.category = 1) (k : x_E xs d y nx L K S Q) : x_E xs d y pc L (v :: K) S Q := x_E_step hf rfl (by simp only [x_step, if_pos hv]) k
theorem e_dup2 {v w : Value} (hf : x_fe y pc = some (.dup2, nx)) (hv : v.category = 1 ∧ w.category = 1) (k : x_E xs d y nx L (v :: w :: v :: w :: K) S Q) : x_E xs d y pc L (v :: w :: K) S Q := x_E_step hf rfl (by simp only [x_step, if_pos hv]) k
theorem e_goto {t : Nat} (hf : x_fe y pc = some (.goto (Int.ofNat t), nx)) (k : x_E xs d y t L K S Q) : x_E xs d y pc L K S Q := x_E_step hf rfl rfl k
theorem e_if {q : ClassFile.Cond} {t : Nat} {a : Int32} (hf : x_fe y pc = some (.ifCond q (Int.ofNat t), nx)) (kt : x_cc q a 0 = true → x_E xs d y t L K S Q) (kf : ¬ x_cc q a 0 = true → x_E xs d y nx L K S Q) : x_E xs d y pc L (.int a :: K) S Q := by
  by_cases hc : x_cc q a 0 = true
  · exact x_E_step hf rfl (by simp only [x_step, if_pos hc]; rfl) (kt hc)
  · exact x_E_step hf rfl (by simp only [x_step, if_neg hc]) (kf hc)
theorem e_icmp {q : ClassFile.Cond} {t : Nat} {a b : Int32} (hf : x_fe y pc = some (.if_icmp q (Int.ofNat t), nx)) (kt : x_cc q a b = true → x_E xs d y t L K S Q) (kf : ¬ x_cc q a b = true → x_E xs d y nx L K S Q) : x_E xs d y pc L (.int b :: .int a :: K) S Q := by
  by_cases hc : x_cc q a b = true
  · exact x_E_step hf rfl (by simp only [x_step, if_pos hc]; rfl) (kt hc)
  · exact x_E_step hf rfl (by simp only [x_step, if_neg hc]) (kf hc)
theorem x_vl_i {p j : Nat} (h : x_rf p j = none) : x_vl S p j = .int (S p j) := by
  unfold x_vl
  rw [h]
theorem x_vl_r {p j r : Nat} (h : x_rf p j = some r) : x_vl S p j = .ref r := by
  unfold x_vl
  rw [h]
def x_ib (i : Int32) (n : Nat) : Prop := ¬ i < 0 ∧ i.toNatClampNeg < n
theorem e_gf {e c j p : Nat} (hf : x_fe y pc = some (.getfield e, nx)) (he : e / 32 = c ∧ e % 32 = j) (hc : c < 7 ∧ j < x_N c ∧ x_isr c j = false) (ht : x_tg p = c) (k : x_E xs d y nx L (.int (S p j) :: K) S Q) : x_E xs d y pc L (.ref p :: K) S Q := by
  refine x_E_step hf rfl ?_ k
  have h1 := x_tg_n ht hc.1
  have h2 := x_tg_i ht hc.1 hc.2.1 hc.2.2
  simp only [x_step, x_hp_tg ht (by omega), he.1, he.2, if_true]
  rw [List.getElem?_map, List.getElem?_range (by omega)]
  simp only [Option.map_some, x_vl_i h2]
theorem e_gr {e c j p r : Nat} (hf : x_fe y pc = some (.getfield e, nx)) (he : e / 32 = c ∧ e % 32 = j) (hc : c < 7 ∧ j < x_N c ∧ x_isr c j = true) (ht : x_tg p = c) (hr : x_rr p j = r) (k : x_E xs d y nx L (.ref r :: K) S Q) : x_E xs d y pc L (.ref p :: K) S Q := by
  refine x_E_step hf rfl ?_ k
  have h1 := x_tg_n ht hc.1
  have h2 := (x_tg_r ht hc.1 hc.2.1 hc.2.2).1
  simp only [x_step, x_hp_tg ht (by omega), he.1, he.2, if_true]
  rw [List.getElem?_map, List.getElem?_range (by omega)]
  simp only [Option.map_some, x_vl_r h2, hr]
theorem e_pf {e c j p : Nat} {v : Int32} (hf : x_fe y pc = some (.putfield e, nx)) (he : e / 32 = c ∧ e % 32 = j) (hc : c < 7 ∧ j < x_N c ∧ x_isr c j = false) (ht : x_tg p = c) (hv : x_fit e (.int v) = true) (k : x_E xs d y nx L K (x_up S p j v) Q) : x_E xs d y pc L (.int v :: .ref p :: K) S Q := by
  refine x_E_step hf rfl ?_ k
  have h1 := x_tg_n ht hc.1
  have h2 := x_tg_i ht hc.1 hc.2.1 hc.2.2
  have h3 := (x_tg_lt ht (by omega)).1
  simp only [x_step, x_hp_tg ht (by omega), he.1, he.2]
  rw [if_pos ⟨by trivial, h3, by simp; omega, hv⟩, x_hp_set ht (by omega) (by omega) h2]
theorem e_ia {p n : Nat} {i : Int32} (hf : x_fe y pc = some (.iaload, nx)) (ht : x_tg p = 10) (hn : x_ln p = n) (hi : x_ib i n) (k : x_E xs d y nx L (.int (S p i.toNatClampNeg) :: K) S Q) : x_E xs d y pc L (.int i :: .ref p :: K) S Q := by
  refine x_E_step hf rfl ?_ k
  simp only [x_step, x_hp_tg ht (by omega)]
  rw [if_pos ⟨by trivial, hi.1⟩, List.getElem?_map, List.getElem?_range (by rw [hn]; exact hi.2)]
  simp only [Option.map_some, x_vl_i (x_tg_a ht)]
theorem e_is {p n : Nat} {i v : Int32} (hf : x_fe y pc = some (.iastore, nx)) (ht : x_tg p = 10) (hn : x_ln p = n) (hi : x_ib i n) (k : x_E xs d y nx L K (x_up S p i.toNatClampNeg v) Q) : x_E xs d y pc L (.int v :: .int i :: .ref p :: K) S Q := by
  refine x_E_step hf rfl ?_ k
  have h3 := (x_tg_lt ht (by omega)).1
  simp only [x_step, x_hp_tg ht (by omega)]
  rw [if_pos ⟨by trivial, h3, hi.1, by simp; rw [hn]; exact hi.2⟩, x_hp_set ht (by omega) (by rw [hn]; exact hi.2) (x_tg_a ht)]
theorem e_aa {p c n : Nat} {i : Int32} (hf : x_fe y pc = some (.aaload, nx)) (ht : x_tg p = c) (hc : c = 11 ∨ c = 12) (hn : x_ln p = n) (hi : x_ib i n) (k : x_tg (x_rr p i.toNatClampNeg) = (if c = 11 then 2 else 0) → x_E xs d y nx L (.ref (x_rr p i.toNatClampNeg) :: K) S Q) : x_E xs d y pc L (.int i :: .ref p :: K) S Q := by
  have h2 := x_tg_q ht hc (j := i.toNatClampNeg) (by rw [hn]; exact hi.2)
  refine x_E_step hf rfl ?_ (k h2.2)
  have h4 := (x_tg_lt h2.2 (by split <;> omega)).1
  simp only [x_step, x_hp_tg ht (by omega)]
  rw [if_pos ⟨hc, hi.1⟩, List.getElem?_map, List.getElem?_range (by rw [hn]; exact hi.2)]
  simp only [Option.map_some, x_vl_r h2.1]
  rw [if_neg (fun z => absurd h4 (by rw [show x_rr p i.toNatClampNeg = 7 from z]; decide))]
theorem e_al {p c n : Nat} {v : Int32} (hf : x_fe y pc = some (.arraylength, nx)) (ht : x_tg p = c) (hc : c = 10 ∨ c = 11 ∨ c = 12) (hn : x_ln p = n) (hv : Int32.ofNat n = v) (k : x_E xs d y nx L (.int v :: K) S Q) : x_E xs d y pc L (.ref p :: K) S Q := by
  refine x_E_step hf rfl ?_ k
  simp only [x_step, x_hp_tg ht (by omega)]
  rw [if_pos (by omega), List.length_map, List.length_range, hn, hv]
theorem e_abs {a : Int32} (hf : x_fe y pc = some (.f2d, nx)) (hk : x_cat K ≤ 8) (k : x_E xs d y nx L (.int (if 0 ≤ a then a else 0 - a) :: K) S Q) : x_E xs d y pc L (.int a :: K) S Q := x_E_step hf rfl (by simp only [x_step, if_pos hk]) k
theorem e_max {a b : Int32} (hf : x_fe y pc = some (.f2i, nx)) (hk : x_cat K ≤ 8) (k : x_E xs d y nx L (.int (if a < b then b else a) :: K) S Q) : x_E xs d y pc L (.int b :: .int a :: K) S Q := x_E_step hf rfl (by simp only [x_step, if_pos hk]) k
theorem x_cp_w {S : x_M} {p q np nq sp dp n : Nat} (hp : x_tg p = 10) (hq : x_tg q = 10) (hnp : x_ln p = np) (hnq : x_ln q = nq) (h1 : sp + n ≤ np) (h2 : dp + n ≤ nq) : (x_hp xs S).set q (10, x_cpy ((List.range (x_ln p)).map (x_vl S p)) ((List.range (x_ln q)).map (x_vl S q)) sp dp n) = x_hp xs (x_cp S p sp q dp n) := by
  obtain ⟨h8, h75⟩ := x_tg_lt hq (by omega)
  refine x_hp_ext h8 h75 ?_ (fun r hr => ?_)
  · unfold x_ce
    rw [hq]
    congr 1
    unfold x_cpy
    rw [List.length_map, List.length_range]
    apply List.map_congr_left
    intro j hj
    have hjl := List.mem_range.mp hj
    show _ = x_vl _ q j
    have hv : ∀ T : x_M, x_vl T q j = .int (T q j) := fun T => by unfold x_vl; rw [x_tg_a hq]
    rw [hv]
    show _ = Value.int (if q = q ∧ _ then _ else _)
    by_cases hc : dp ≤ j ∧ j < dp + n
    · rw [if_pos hc, if_pos ⟨rfl, hc⟩, List.getD_eq_getElem?_getD, List.getElem?_map, List.getElem?_range (by omega)]
      show x_vl S p _ = _
      unfold x_vl
      rw [x_tg_a hp]
    · rw [if_neg hc, if_neg (fun z => hc z.2), List.getD_eq_getElem?_getD, List.getElem?_map, List.getElem?_range hjl]
      exact hv S
  · funext j
    show (if r = q ∧ _ then _ else _) = _
    rw [if_neg (fun z => hr z.1)]
theorem e_cp {p q np nq : Nat} {sp dp n : Int32} (hf : x_fe y pc = some (.d2i, nx)) (hp : x_tg p = 10) (hq : x_tg q = 10) (hnp : x_ln p = np) (hnq : x_ln q = nq) (hk : x_cat K ≤ 8) (h0 : ¬ sp < 0 ∧ ¬ dp < 0 ∧ ¬ n < 0 ∧ sp.toNatClampNeg + n.toNatClampNeg ≤ np ∧ dp.toNatClampNeg + n.toNatClampNeg ≤ nq)
    (k : x_E xs d y nx L K (x_cp S p sp.toNatClampNeg q dp.toNatClampNeg n.toNatClampNeg) Q) : x_E xs d y pc L (.int n :: .int dp :: .ref q :: .int sp :: .ref p :: K) S Q := by
  refine x_E_step hf rfl ?_ k
  obtain ⟨a1, a2, a3, a4, a5⟩ := h0
  simp only [x_step, x_hp_tg hp (by omega), x_hp_tg hq (by omega)]
  rw [if_pos ⟨by trivial, by trivial, (x_tg_lt hp (by omega)).1, (x_tg_lt hq (by omega)).1, a1, a2, a3, by simp; omega, by simp; omega, hk⟩, x_cp_w hp hq hnp hnq a4 a5]
theorem e_ireturn {v : Int32} {ty : FieldType} (hf : x_fe y pc = some (.ireturn, nx)) (ht : x_rt y = some ty) (hn : narrow ty (.int v) = .int v) (k : Q (some (.int v)) S) : x_E xs d y pc L [.int v] S Q := by
  refine ⟨1, some (.int v), S, ?_, k⟩
  rw [x_run_succ, hf]
  simp only [x_cal, ht, hn, if_true]
theorem e_return (hf : x_fe y pc = some (.return_, nx)) (ht : x_rt y = none) (k : Q none S) : x_E xs d y pc L [] S Q := by
  refine ⟨1, none, S, ?_, k⟩
  rw [x_run_succ, hf]
  simp only [x_cal, ht]
theorem e_call {i : Instr} {z n : Nat} {A R : List Value} {P : Option Value → x_M → Prop} (hf : x_fe y pc = some (i, nx)) (hc : x_cal i = some z) (hn : x_na z = n) (hA : K.take n = A.reverse) (hR : K.drop n = R) (ho : x_okc i z K (x_hp xs S) = true) (h1 : x_E xs d z 0 (x_loc (x_ml z) A) [] S P) (k : ∀ r S', P r S' → x_E xs (d + 1) y nx L (r.toList ++ R) S' Q) : x_E xs (d + 1) y pc L K S Q := by
  obtain ⟨n1, r1, S1, g1, g2⟩ := h1
  obtain ⟨n2, r2, S2, g3, g4⟩ := k r1 S1 g2
  refine ⟨max n1 n2 + 1, r2, S2, x_run_call hf hc ho (h1 := x_hp xs S1) (r1 := r1) ?_ ?_, g4⟩
  · rw [hn, hA, List.reverse_reverse]
    exact x_run_up _ _ _ _ _ _ _ _ g1 _ _ (Nat.le_max_left _ _) (Nat.le_refl _)
  · rw [hn, hR]
    exact x_run_up _ _ _ _ _ _ _ _ g3 _ _ (Nat.le_max_right _ _) (Nat.le_refl _)
theorem x_ok_s {z n : Nat} {A : List Value} (hn : x_na z = n) (h1 : n ≤ K.length) (h2 : x_cat (K.drop n) ≤ 8) (hA : K.take n = A.reverse) (h3 : (x_ent A).length ≤ x_ml z) : x_okc (.invokestatic z) z K (x_hp xs S) = true := by
  unfold x_okc
  rw [hn, hA, List.reverse_reverse]
  simp only [Bool.and_eq_true, decide_eq_true_eq]
  exact ⟨⟨⟨h1, h2⟩, h3⟩, by trivial⟩
theorem x_ok_v {z n p : Nat} {A : List Value} (hn : x_na z = n) (h1 : n ≤ K.length) (h2 : x_cat (K.drop n) ≤ 8) (hA : K.take n = A.reverse) (h3 : (x_ent A).length ≤ x_ml z) (hp : K[n - 1]? = some (.ref p)) (hc : x_cy z < 7) (ht : x_tg p = x_cy z) : x_okc (.invokevirtual z) z K (x_hp xs S) = true := by
  unfold x_okc
  rw [hn, hA, List.reverse_reverse]
  simp only [Bool.and_eq_true, decide_eq_true_eq, hp, x_hp_tg ht (by omega)]
  have := (x_tg_lt ht (by omega)).1
  exact ⟨⟨⟨h1, h2⟩, h3⟩, trivial, fun z => absurd this (by rw [show p = 7 from z]; decide)⟩
theorem e_si {z n : Nat} {A R : List Value} {P : Int32 → x_M → Prop} (hf : x_fe y pc = some (.invokestatic z, nx)) (hn : x_na z = n) (hA : K.take n = A.reverse) (hR : K.drop n = R) (h1 : n ≤ K.length) (h2 : x_cat R ≤ 8) (h3 : (x_ent A).length ≤ x_ml z) (hcl : x_Ci xs d z A S P) (k : ∀ v S', P v S' → x_E xs (d + 1) y nx L (.int v :: R) S' Q) : x_E xs (d + 1) y pc L K S Q :=
  e_call hf rfl hn hA hR (x_ok_s hn h1 (by rw [hR]; exact h2) hA h3) hcl (fun r S' ⟨v, hv, hp⟩ => by subst hv; exact k v S' hp)
theorem e_sv {z n : Nat} {A R : List Value} {P : x_M → Prop} (hf : x_fe y pc = some (.invokestatic z, nx)) (hn : x_na z = n) (hA : K.take n = A.reverse) (hR : K.drop n = R) (h1 : n ≤ K.length) (h2 : x_cat R ≤ 8) (h3 : (x_ent A).length ≤ x_ml z) (hcl : x_Cv xs d z A S P) (k : ∀ S', P S' → x_E xs (d + 1) y nx L R S' Q) : x_E xs (d + 1) y pc L K S Q :=
  e_call hf rfl hn hA hR (x_ok_s hn h1 (by rw [hR]; exact h2) hA h3) hcl (fun r S' ⟨hv, hp⟩ => by subst hv; exact k S' hp)
theorem e_vi {z n p : Nat} {A R : List Value} {P : Int32 → x_M → Prop} (hf : x_fe y pc = some (.invokevirtual z, nx)) (hn : x_na z = n) (hA : K.take n = A.reverse) (hR : K.drop n = R) (h1 : n ≤ K.length) (h2 : x_cat R ≤ 8) (h3 : (x_ent A).length ≤ x_ml z) (hp : K[n - 1]? = some (.ref p)) (hc : x_cy z < 7) (ht : x_tg p = x_cy z) (hcl : x_Ci xs d z A S P) (k : ∀ v S', P v S' → x_E xs (d + 1) y nx L (.int v :: R) S' Q) : x_E xs (d + 1) y pc L K S Q :=
  e_call hf rfl hn hA hR (x_ok_v hn h1 (by rw [hR]; exact h2) hA h3 hp hc ht) hcl (fun r S' ⟨v, hv, hp⟩ => by subst hv; exact k v S' hp)
theorem e_vv {z n p : Nat} {A R : List Value} {P : x_M → Prop} (hf : x_fe y pc = some (.invokevirtual z, nx)) (hn : x_na z = n) (hA : K.take n = A.reverse) (hR : K.drop n = R) (h1 : n ≤ K.length) (h2 : x_cat R ≤ 8) (h3 : (x_ent A).length ≤ x_ml z) (hp : K[n - 1]? = some (.ref p)) (hc : x_cy z < 7) (ht : x_tg p = x_cy z) (hcl : x_Cv xs d z A S P) (k : ∀ S', P S' → x_E xs (d + 1) y nx L R S' Q) : x_E xs (d + 1) y pc L K S Q :=
  e_call hf rfl hn hA hR (x_ok_v hn h1 (by rw [hR]; exact h2) hA h3 hp hc ht) hcl (fun r S' ⟨hv, hp⟩ => by subst hv; exact k S' hp)
end XE
end
section
theorem zz_end : True := trivial
end
