-- ===== PART A: goes FIRST, ahead of the names: the tables' words, and 'selects' of the private methods out of them =====
/-- a private method of a class that the tables say can be made, by its rows of tables_1 -/
def lw_okq (q : MethodName × Nat) : Prop := (q.1.cls ≠ "java/lang/invoke/MethodHandle" ∧ q.1.cls ≠ "java/lang/invoke/VarHandle") ∧ Cond.instantiable q.1.cls q.2 ∈ tables_1 ∧ Cond.privateMethod q.1 ∈ tables_1 ∧ Cond.instanceMethod q.1 ∈ tables_1
theorem lw_p0 : lw_okq (⟨"TapeBench", "answer", "(I)I"⟩, 8) := ⟨⟨by decide +kernel, by decide +kernel⟩, List.mem_of_getElem? (i := 17) (by decide +kernel), List.mem_of_getElem? (i := 234) (by decide +kernel), List.mem_of_getElem? (i := 235) (by decide +kernel)⟩
theorem lw_p1 : lw_okq (⟨"TapeBench$History", "stepAt", "(I)LTapeBench$Step;"⟩, 3) := ⟨⟨by decide +kernel, by decide +kernel⟩, List.mem_of_getElem? (i := 84) (by decide +kernel), List.mem_of_getElem? (i := 243) (by decide +kernel), List.mem_of_getElem? (i := 244) (by decide +kernel)⟩
theorem lw_p2 : lw_okq (⟨"TapeBench", "sheetAt", "(I)LTapeBench$Sheet;"⟩, 8) := ⟨⟨by decide +kernel, by decide +kernel⟩, List.mem_of_getElem? (i := 17) (by decide +kernel), List.mem_of_getElem? (i := 356) (by decide +kernel), List.mem_of_getElem? (i := 357) (by decide +kernel)⟩
theorem lw_p3 : lw_okq (⟨"TapeBench$Player", "makeNext", "(LTapeBench$Layer;LTapeBench$Tape;)V"⟩, 5) := ⟨⟨by decide +kernel, by decide +kernel⟩, List.mem_of_getElem? (i := 170) (by decide +kernel), List.mem_of_getElem? (i := 528) (by decide +kernel), List.mem_of_getElem? (i := 529) (by decide +kernel)⟩
theorem lw_p4 : lw_okq (⟨"TapeBench$Player", "gain", "(I)V"⟩, 5) := ⟨⟨by decide +kernel, by decide +kernel⟩, List.mem_of_getElem? (i := 170) (by decide +kernel), List.mem_of_getElem? (i := 532) (by decide +kernel), List.mem_of_getElem? (i := 533) (by decide +kernel)⟩
theorem lw_p5 : lw_okq (⟨"TapeBench$Player", "mend", "(I)V"⟩, 5) := ⟨⟨by decide +kernel, by decide +kernel⟩, List.mem_of_getElem? (i := 170) (by decide +kernel), List.mem_of_getElem? (i := 542) (by decide +kernel), List.mem_of_getElem? (i := 543) (by decide +kernel)⟩
theorem lw_p6 : lw_okq (⟨"TapeBench$Player", "fill", "(LTapeBench$Row;I)V"⟩, 5) := ⟨⟨by decide +kernel, by decide +kernel⟩, List.mem_of_getElem? (i := 170) (by decide +kernel), List.mem_of_getElem? (i := 548) (by decide +kernel), List.mem_of_getElem? (i := 549) (by decide +kernel)⟩
theorem lw_p7 : lw_okq (⟨"TapeBench$Player", "bridge", "(I)V"⟩, 5) := ⟨⟨by decide +kernel, by decide +kernel⟩, List.mem_of_getElem? (i := 170) (by decide +kernel), List.mem_of_getElem? (i := 569) (by decide +kernel), List.mem_of_getElem? (i := 570) (by decide +kernel)⟩
theorem lw_p8 : lw_okq (⟨"TapeBench$Player", "span", "(II)V"⟩, 5) := ⟨⟨by decide +kernel, by decide +kernel⟩, List.mem_of_getElem? (i := 170) (by decide +kernel), List.mem_of_getElem? (i := 573) (by decide +kernel), List.mem_of_getElem? (i := 574) (by decide +kernel)⟩
theorem lw_p9 : lw_okq (⟨"TapeBench$Player", "warp", "(I)V"⟩, 5) := ⟨⟨by decide +kernel, by decide +kernel⟩, List.mem_of_getElem? (i := 170) (by decide +kernel), List.mem_of_getElem? (i := 580) (by decide +kernel), List.mem_of_getElem? (i := 581) (by decide +kernel)⟩
theorem lw_p10 : lw_okq (⟨"TapeBench$Player", "sampleAtTime", "(II)I"⟩, 5) := ⟨⟨by decide +kernel, by decide +kernel⟩, List.mem_of_getElem? (i := 170) (by decide +kernel), List.mem_of_getElem? (i := 586) (by decide +kernel), List.mem_of_getElem? (i := 587) (by decide +kernel)⟩
theorem lw_p11 : lw_okq (⟨"TapeBench$Player", "followWarp", "(II)V"⟩, 5) := ⟨⟨by decide +kernel, by decide +kernel⟩, List.mem_of_getElem? (i := 170) (by decide +kernel), List.mem_of_getElem? (i := 591) (by decide +kernel), List.mem_of_getElem? (i := 592) (by decide +kernel)⟩
theorem lw_p12 : lw_okq (⟨"TapeBench$Player", "cut", "(II)V"⟩, 5) := ⟨⟨by decide +kernel, by decide +kernel⟩, List.mem_of_getElem? (i := 170) (by decide +kernel), List.mem_of_getElem? (i := 600) (by decide +kernel), List.mem_of_getElem? (i := 601) (by decide +kernel)⟩
theorem lw_p13 : lw_okq (⟨"TapeBench$Player", "fade", "(I)V"⟩, 5) := ⟨⟨by decide +kernel, by decide +kernel⟩, List.mem_of_getElem? (i := 170) (by decide +kernel), List.mem_of_getElem? (i := 604) (by decide +kernel), List.mem_of_getElem? (i := 605) (by decide +kernel)⟩
theorem lw_p14 : lw_okq (⟨"TapeBenchModel", "finding", "(I)I"⟩, 13) := ⟨⟨by decide +kernel, by decide +kernel⟩, List.mem_of_getElem? (i := 707) (by decide +kernel), List.mem_of_getElem? (i := 758) (by decide +kernel), List.mem_of_getElem? (i := 759) (by decide +kernel)⟩
theorem lw_p15 : lw_okq (⟨"TapeBenchModel", "keep", "()V"⟩, 13) := ⟨⟨by decide +kernel, by decide +kernel⟩, List.mem_of_getElem? (i := 707) (by decide +kernel), List.mem_of_getElem? (i := 773) (by decide +kernel), List.mem_of_getElem? (i := 774) (by decide +kernel)⟩
def lw_privs_1 : List (MethodName × Nat) := [(⟨"TapeBench", "answer", "(I)I"⟩, 8), (⟨"TapeBench$History", "stepAt", "(I)LTapeBench$Step;"⟩, 3), (⟨"TapeBench", "sheetAt", "(I)LTapeBench$Sheet;"⟩, 8), (⟨"TapeBench$Player", "makeNext", "(LTapeBench$Layer;LTapeBench$Tape;)V"⟩, 5), (⟨"TapeBench$Player", "gain", "(I)V"⟩, 5), (⟨"TapeBench$Player", "mend", "(I)V"⟩, 5), (⟨"TapeBench$Player", "fill", "(LTapeBench$Row;I)V"⟩, 5), (⟨"TapeBench$Player", "bridge", "(I)V"⟩, 5), (⟨"TapeBench$Player", "span", "(II)V"⟩, 5), (⟨"TapeBench$Player", "warp", "(I)V"⟩, 5), (⟨"TapeBench$Player", "sampleAtTime", "(II)I"⟩, 5), (⟨"TapeBench$Player", "followWarp", "(II)V"⟩, 5), (⟨"TapeBench$Player", "cut", "(II)V"⟩, 5), (⟨"TapeBench$Player", "fade", "(I)V"⟩, 5), (⟨"TapeBenchModel", "finding", "(I)I"⟩, 13), (⟨"TapeBenchModel", "keep", "()V"⟩, 13)]
theorem lw_r1 : ∀ q ∈ lw_privs_1, lw_okq q := List.forall_mem_cons.mpr ⟨lw_p0, List.forall_mem_cons.mpr ⟨lw_p1, List.forall_mem_cons.mpr ⟨lw_p2, List.forall_mem_cons.mpr ⟨lw_p3, List.forall_mem_cons.mpr ⟨lw_p4, List.forall_mem_cons.mpr ⟨lw_p5, List.forall_mem_cons.mpr ⟨lw_p6, List.forall_mem_cons.mpr ⟨lw_p7, List.forall_mem_cons.mpr ⟨lw_p8, List.forall_mem_cons.mpr ⟨lw_p9, List.forall_mem_cons.mpr ⟨lw_p10, List.forall_mem_cons.mpr ⟨lw_p11, List.forall_mem_cons.mpr ⟨lw_p12, List.forall_mem_cons.mpr ⟨lw_p13, List.forall_mem_cons.mpr ⟨lw_p14, List.forall_mem_cons.mpr ⟨lw_p15, fun _ h => absurd h List.not_mem_nil⟩⟩⟩⟩⟩⟩⟩⟩⟩⟩⟩⟩⟩⟩⟩⟩
theorem lw_p16 : lw_okq (⟨"TapeBenchModel", "isSample", "(II)Z"⟩, 13) := ⟨⟨by decide +kernel, by decide +kernel⟩, List.mem_of_getElem? (i := 707) (by decide +kernel), List.mem_of_getElem? (i := 781) (by decide +kernel), List.mem_of_getElem? (i := 782) (by decide +kernel)⟩
theorem lw_p17 : lw_okq (⟨"TapeBenchModel", "at", "(II)I"⟩, 13) := ⟨⟨by decide +kernel, by decide +kernel⟩, List.mem_of_getElem? (i := 707) (by decide +kernel), List.mem_of_getElem? (i := 785) (by decide +kernel), List.mem_of_getElem? (i := 786) (by decide +kernel)⟩
theorem lw_p18 : lw_okq (⟨"TapeBenchModel", "takePass", "(I)V"⟩, 13) := ⟨⟨by decide +kernel, by decide +kernel⟩, List.mem_of_getElem? (i := 707) (by decide +kernel), List.mem_of_getElem? (i := 803) (by decide +kernel), List.mem_of_getElem? (i := 804) (by decide +kernel)⟩
theorem lw_p19 : lw_okq (⟨"TapeBenchModel", "lostMany", "()I"⟩, 13) := ⟨⟨by decide +kernel, by decide +kernel⟩, List.mem_of_getElem? (i := 707) (by decide +kernel), List.mem_of_getElem? (i := 807) (by decide +kernel), List.mem_of_getElem? (i := 808) (by decide +kernel)⟩
theorem lw_p20 : lw_okq (⟨"TapeBenchModel", "turns", "()I"⟩, 13) := ⟨⟨by decide +kernel, by decide +kernel⟩, List.mem_of_getElem? (i := 707) (by decide +kernel), List.mem_of_getElem? (i := 811) (by decide +kernel), List.mem_of_getElem? (i := 812) (by decide +kernel)⟩
theorem lw_p21 : lw_okq (⟨"TapeBenchModel", "isTurn", "(I)Z"⟩, 13) := ⟨⟨by decide +kernel, by decide +kernel⟩, List.mem_of_getElem? (i := 707) (by decide +kernel), List.mem_of_getElem? (i := 815) (by decide +kernel), List.mem_of_getElem? (i := 816) (by decide +kernel)⟩
theorem lw_p22 : lw_okq (⟨"TapeBenchModel", "isClick", "(II)Z"⟩, 13) := ⟨⟨by decide +kernel, by decide +kernel⟩, List.mem_of_getElem? (i := 707) (by decide +kernel), List.mem_of_getElem? (i := 819) (by decide +kernel), List.mem_of_getElem? (i := 820) (by decide +kernel)⟩
theorem lw_p23 : lw_okq (⟨"TapeBenchModel", "turnAt", "(I)I"⟩, 13) := ⟨⟨by decide +kernel, by decide +kernel⟩, List.mem_of_getElem? (i := 707) (by decide +kernel), List.mem_of_getElem? (i := 827) (by decide +kernel), List.mem_of_getElem? (i := 828) (by decide +kernel)⟩
theorem lw_p24 : lw_okq (⟨"TapeBenchModel", "laysDown", "(I)V"⟩, 13) := ⟨⟨by decide +kernel, by decide +kernel⟩, List.mem_of_getElem? (i := 707) (by decide +kernel), List.mem_of_getElem? (i := 856) (by decide +kernel), List.mem_of_getElem? (i := 857) (by decide +kernel)⟩
theorem lw_p25 : lw_okq (⟨"TapeBenchModel", "setLayer", "(IIIII)V"⟩, 13) := ⟨⟨by decide +kernel, by decide +kernel⟩, List.mem_of_getElem? (i := 707) (by decide +kernel), List.mem_of_getElem? (i := 872) (by decide +kernel), List.mem_of_getElem? (i := 873) (by decide +kernel)⟩
theorem lw_p26 : lw_okq (⟨"TapeBenchModel", "isLayer", "(I)Z"⟩, 13) := ⟨⟨by decide +kernel, by decide +kernel⟩, List.mem_of_getElem? (i := 707) (by decide +kernel), List.mem_of_getElem? (i := 880) (by decide +kernel), List.mem_of_getElem? (i := 881) (by decide +kernel)⟩
theorem lw_p27 : lw_okq (⟨"TapeBenchModel", "copyLayer", "(II)V"⟩, 13) := ⟨⟨by decide +kernel, by decide +kernel⟩, List.mem_of_getElem? (i := 707) (by decide +kernel), List.mem_of_getElem? (i := 888) (by decide +kernel), List.mem_of_getElem? (i := 889) (by decide +kernel)⟩
theorem lw_p28 : lw_okq (⟨"TapeBenchModel", "output", "(I)V"⟩, 13) := ⟨⟨by decide +kernel, by decide +kernel⟩, List.mem_of_getElem? (i := 707) (by decide +kernel), List.mem_of_getElem? (i := 908) (by decide +kernel), List.mem_of_getElem? (i := 909) (by decide +kernel)⟩
theorem lw_p29 : lw_okq (⟨"TapeBenchModel", "work", "(I)V"⟩, 13) := ⟨⟨by decide +kernel, by decide +kernel⟩, List.mem_of_getElem? (i := 707) (by decide +kernel), List.mem_of_getElem? (i := 912) (by decide +kernel), List.mem_of_getElem? (i := 913) (by decide +kernel)⟩
theorem lw_p30 : lw_okq (⟨"TapeBenchModel", "gain", "(I)V"⟩, 13) := ⟨⟨by decide +kernel, by decide +kernel⟩, List.mem_of_getElem? (i := 707) (by decide +kernel), List.mem_of_getElem? (i := 916) (by decide +kernel), List.mem_of_getElem? (i := 917) (by decide +kernel)⟩
theorem lw_p31 : lw_okq (⟨"TapeBenchModel", "mend", "(I)V"⟩, 13) := ⟨⟨by decide +kernel, by decide +kernel⟩, List.mem_of_getElem? (i := 707) (by decide +kernel), List.mem_of_getElem? (i := 923) (by decide +kernel), List.mem_of_getElem? (i := 924) (by decide +kernel)⟩
def lw_privs_2 : List (MethodName × Nat) := [(⟨"TapeBenchModel", "isSample", "(II)Z"⟩, 13), (⟨"TapeBenchModel", "at", "(II)I"⟩, 13), (⟨"TapeBenchModel", "takePass", "(I)V"⟩, 13), (⟨"TapeBenchModel", "lostMany", "()I"⟩, 13), (⟨"TapeBenchModel", "turns", "()I"⟩, 13), (⟨"TapeBenchModel", "isTurn", "(I)Z"⟩, 13), (⟨"TapeBenchModel", "isClick", "(II)Z"⟩, 13), (⟨"TapeBenchModel", "turnAt", "(I)I"⟩, 13), (⟨"TapeBenchModel", "laysDown", "(I)V"⟩, 13), (⟨"TapeBenchModel", "setLayer", "(IIIII)V"⟩, 13), (⟨"TapeBenchModel", "isLayer", "(I)Z"⟩, 13), (⟨"TapeBenchModel", "copyLayer", "(II)V"⟩, 13), (⟨"TapeBenchModel", "output", "(I)V"⟩, 13), (⟨"TapeBenchModel", "work", "(I)V"⟩, 13), (⟨"TapeBenchModel", "gain", "(I)V"⟩, 13), (⟨"TapeBenchModel", "mend", "(I)V"⟩, 13)]
theorem lw_r2 : ∀ q ∈ lw_privs_2, lw_okq q := List.forall_mem_cons.mpr ⟨lw_p16, List.forall_mem_cons.mpr ⟨lw_p17, List.forall_mem_cons.mpr ⟨lw_p18, List.forall_mem_cons.mpr ⟨lw_p19, List.forall_mem_cons.mpr ⟨lw_p20, List.forall_mem_cons.mpr ⟨lw_p21, List.forall_mem_cons.mpr ⟨lw_p22, List.forall_mem_cons.mpr ⟨lw_p23, List.forall_mem_cons.mpr ⟨lw_p24, List.forall_mem_cons.mpr ⟨lw_p25, List.forall_mem_cons.mpr ⟨lw_p26, List.forall_mem_cons.mpr ⟨lw_p27, List.forall_mem_cons.mpr ⟨lw_p28, List.forall_mem_cons.mpr ⟨lw_p29, List.forall_mem_cons.mpr ⟨lw_p30, List.forall_mem_cons.mpr ⟨lw_p31, fun _ h => absurd h List.not_mem_nil⟩⟩⟩⟩⟩⟩⟩⟩⟩⟩⟩⟩⟩⟩⟩⟩
theorem lw_p32 : lw_okq (⟨"TapeBenchModel", "takeMade", "()V"⟩, 13) := ⟨⟨by decide +kernel, by decide +kernel⟩, List.mem_of_getElem? (i := 707) (by decide +kernel), List.mem_of_getElem? (i := 927) (by decide +kernel), List.mem_of_getElem? (i := 928) (by decide +kernel)⟩
theorem lw_p33 : lw_okq (⟨"TapeBenchModel", "fill", "(II)V"⟩, 13) := ⟨⟨by decide +kernel, by decide +kernel⟩, List.mem_of_getElem? (i := 707) (by decide +kernel), List.mem_of_getElem? (i := 931) (by decide +kernel), List.mem_of_getElem? (i := 932) (by decide +kernel)⟩
theorem lw_p34 : lw_okq (⟨"TapeBenchModel", "aligned", "(II)I"⟩, 13) := ⟨⟨by decide +kernel, by decide +kernel⟩, List.mem_of_getElem? (i := 707) (by decide +kernel), List.mem_of_getElem? (i := 935) (by decide +kernel), List.mem_of_getElem? (i := 936) (by decide +kernel)⟩
theorem lw_p35 : lw_okq (⟨"TapeBenchModel", "differs", "(II)I"⟩, 13) := ⟨⟨by decide +kernel, by decide +kernel⟩, List.mem_of_getElem? (i := 707) (by decide +kernel), List.mem_of_getElem? (i := 939) (by decide +kernel), List.mem_of_getElem? (i := 940) (by decide +kernel)⟩
theorem lw_p36 : lw_okq (⟨"TapeBenchModel", "bridge", "(I)V"⟩, 13) := ⟨⟨by decide +kernel, by decide +kernel⟩, List.mem_of_getElem? (i := 707) (by decide +kernel), List.mem_of_getElem? (i := 945) (by decide +kernel), List.mem_of_getElem? (i := 946) (by decide +kernel)⟩
theorem lw_p37 : lw_okq (⟨"TapeBenchModel", "warp", "(I)V"⟩, 13) := ⟨⟨by decide +kernel, by decide +kernel⟩, List.mem_of_getElem? (i := 707) (by decide +kernel), List.mem_of_getElem? (i := 950) (by decide +kernel), List.mem_of_getElem? (i := 951) (by decide +kernel)⟩
theorem lw_p38 : lw_okq (⟨"TapeBenchModel", "cut", "(II)V"⟩, 13) := ⟨⟨by decide +kernel, by decide +kernel⟩, List.mem_of_getElem? (i := 707) (by decide +kernel), List.mem_of_getElem? (i := 955) (by decide +kernel), List.mem_of_getElem? (i := 956) (by decide +kernel)⟩
theorem lw_p39 : lw_okq (⟨"TapeBenchModel", "fade", "(I)V"⟩, 13) := ⟨⟨by decide +kernel, by decide +kernel⟩, List.mem_of_getElem? (i := 707) (by decide +kernel), List.mem_of_getElem? (i := 959) (by decide +kernel), List.mem_of_getElem? (i := 960) (by decide +kernel)⟩
theorem lw_p40 : lw_okq (⟨"TapeBenchModel", "warped", "(II)I"⟩, 13) := ⟨⟨by decide +kernel, by decide +kernel⟩, List.mem_of_getElem? (i := 707) (by decide +kernel), List.mem_of_getElem? (i := 1004) (by decide +kernel), List.mem_of_getElem? (i := 1005) (by decide +kernel)⟩
def lw_privs_3 : List (MethodName × Nat) := [(⟨"TapeBenchModel", "takeMade", "()V"⟩, 13), (⟨"TapeBenchModel", "fill", "(II)V"⟩, 13), (⟨"TapeBenchModel", "aligned", "(II)I"⟩, 13), (⟨"TapeBenchModel", "differs", "(II)I"⟩, 13), (⟨"TapeBenchModel", "bridge", "(I)V"⟩, 13), (⟨"TapeBenchModel", "warp", "(I)V"⟩, 13), (⟨"TapeBenchModel", "cut", "(II)V"⟩, 13), (⟨"TapeBenchModel", "fade", "(I)V"⟩, 13), (⟨"TapeBenchModel", "warped", "(II)I"⟩, 13)]
theorem lw_r3 : ∀ q ∈ lw_privs_3, lw_okq q := List.forall_mem_cons.mpr ⟨lw_p32, List.forall_mem_cons.mpr ⟨lw_p33, List.forall_mem_cons.mpr ⟨lw_p34, List.forall_mem_cons.mpr ⟨lw_p35, List.forall_mem_cons.mpr ⟨lw_p36, List.forall_mem_cons.mpr ⟨lw_p37, List.forall_mem_cons.mpr ⟨lw_p38, List.forall_mem_cons.mpr ⟨lw_p39, List.forall_mem_cons.mpr ⟨lw_p40, fun _ h => absurd h List.not_mem_nil⟩⟩⟩⟩⟩⟩⟩⟩⟩
def lw_privs : List (MethodName × Nat) := lw_privs_1 ++ (lw_privs_2 ++ (lw_privs_3))
def lw_tbl : List Cond := k2_sels lw_privs ++ tables_1
theorem lw_privs_ok : ∀ q ∈ lw_privs, lw_okq q := by
  show ∀ q ∈ lw_privs_1 ++ (lw_privs_2 ++ (lw_privs_3)), lw_okq q
  exact List.forall_mem_append.mpr ⟨lw_r1, List.forall_mem_append.mpr ⟨lw_r2, lw_r3⟩⟩
def tT_A : u_T := fun k => match k with
  | 0 => ("TapeBench$Aligner", "sum", "I", false)
  | _ => ("TapeBench$Aligner", "places", "I", false)
def ty_A : Nat → FieldType := fun k => match k with
  | 0 => .int
  | _ => .int
def tT_H : u_T := fun k => match k with
  | 0 => ("TapeBench$History", "steps", "[LTapeBench$Step;", true)
  | 1 => ("TapeBench$History", "next", "I", false)
  | _ => ("TapeBench$History", "kept", "I", false)
def ty_H : Nat → FieldType := fun k => match k with
  | 0 => .array (.object "TapeBench$Step")
  | 1 => .int
  | _ => .int
def tT_L : u_T := fun k => match k with
  | 0 => ("TapeBench$Layer", "kind", "I", true)
  | 1 => ("TapeBench$Layer", "a", "I", true)
  | 2 => ("TapeBench$Layer", "b", "I", true)
  | _ => ("TapeBench$Layer", "on", "Z", true)
def ty_L : Nat → FieldType := fun k => match k with
  | 0 => .int
  | 1 => .int
  | 2 => .int
  | _ => .boolean
def tT_S : u_T := fun k => match k with
  | 0 => ("TapeBench$Layers", "order", "[LTapeBench$Layer;", true)
  | _ => ("TapeBench$Layers", "laid", "I", false)
def ty_S : Nat → FieldType := fun k => match k with
  | 0 => .array (.object "TapeBench$Layer")
  | _ => .int
def tT_P : u_T := fun k => match k with
  | 0 => ("TapeBench$Player", "aligner", "LTapeBench$Aligner;", true)
  | 1 => ("TapeBench$Player", "turns", "LTapeBench$Turns;", true)
  | 2 => ("TapeBench$Player", "row", "LTapeBench$Row;", false)
  | 3 => ("TapeBench$Player", "next", "LTapeBench$Row;", false)
  | _ => ("TapeBench$Player", "followed", "I", false)
def ty_P : Nat → FieldType := fun k => match k with
  | 0 => .object "TapeBench$Aligner"
  | 1 => .object "TapeBench$Turns"
  | 2 => .object "TapeBench$Row"
  | 3 => .object "TapeBench$Row"
  | _ => .int
def tT_R : u_T := fun k => match k with
  | 0 => ("TapeBench$Row", "samples", "[I", true)
  | _ => ("TapeBench$Row", "length", "I", false)
def ty_R : Nat → FieldType := fun k => match k with
  | 0 => .array .int
  | _ => .int
def tT_Q : u_T := fun k => match k with
  | 0 => ("TapeBench$Sheet", "numbers", "[I", true)
  | 1 => ("TapeBench$Sheet", "bits", "I", false)
  | _ => ("TapeBench$Sheet", "length", "I", false)
def ty_Q : Nat → FieldType := fun k => match k with
  | 0 => .array .int
  | 1 => .int
  | _ => .int
def tT_E : u_T := fun k => match k with
  | 0 => ("TapeBench$Step", "row", "LTapeBench$Row;", true)
  | 1 => ("TapeBench$Step", "layers", "LTapeBench$Layers;", true)
  | 2 => ("TapeBench$Step", "markPasses", "[I", true)
  | 3 => ("TapeBench$Step", "markPlaces", "[I", true)
  | _ => ("TapeBench$Step", "p", "I", false)
def ty_E : Nat → FieldType := fun k => match k with
  | 0 => .object "TapeBench$Row"
  | 1 => .object "TapeBench$Layers"
  | 2 => .array .int
  | 3 => .array .int
  | _ => .int
def tT_T : u_T := fun k => match k with
  | 0 => ("TapeBench$Tape", "rows", "[LTapeBench$Row;", true)
  | 1 => ("TapeBench$Tape", "layers", "LTapeBench$Layers;", true)
  | 2 => ("TapeBench$Tape", "markPasses", "[I", true)
  | _ => ("TapeBench$Tape", "markPlaces", "[I", true)
def ty_T : Nat → FieldType := fun k => match k with
  | 0 => .array (.object "TapeBench$Row")
  | 1 => .object "TapeBench$Layers"
  | 2 => .array .int
  | _ => .array .int
def tT_U : u_T := fun k => match k with
  | 0 => ("TapeBench$Turns", "places", "[I", true)
  | _ => ("TapeBench$Turns", "found", "I", false)
def ty_U : Nat → FieldType := fun k => match k with
  | 0 => .array .int
  | _ => .int
def tT_X : u_T := fun k => match k with
  | 0 => ("TapeBench", "tape", "LTapeBench$Tape;", true)
  | 1 => ("TapeBench", "history", "LTapeBench$History;", true)
  | 2 => ("TapeBench", "sheets", "[LTapeBench$Sheet;", true)
  | 3 => ("TapeBench", "turns", "LTapeBench$Turns;", true)
  | 4 => ("TapeBench", "aligner", "LTapeBench$Aligner;", true)
  | 5 => ("TapeBench", "player", "LTapeBench$Player;", true)
  | 6 => ("TapeBench", "joined", "LTapeBench$Row;", true)
  | _ => ("TapeBench", "findings", "I", false)
def ty_X : Nat → FieldType := fun k => match k with
  | 0 => .object "TapeBench$Tape"
  | 1 => .object "TapeBench$History"
  | 2 => .array (.object "TapeBench$Sheet")
  | 3 => .object "TapeBench$Turns"
  | 4 => .object "TapeBench$Aligner"
  | 5 => .object "TapeBench$Player"
  | 6 => .object "TapeBench$Row"
  | _ => .int
def tT_M : u_T := fun k => match k with
  | 0 => ("TapeBenchModel", "now", "[I", true)
  | 1 => ("TapeBenchModel", "past", "[I", true)
  | 2 => ("TapeBenchModel", "kept", "I", false)
  | 3 => ("TapeBenchModel", "findings", "I", false)
  | 4 => ("TapeBenchModel", "bits", "[I", true)
  | 5 => ("TapeBenchModel", "numbers", "[I", true)
  | 6 => ("TapeBenchModel", "sheets", "[I", true)
  | 7 => ("TapeBenchModel", "size", "I", false)
  | 8 => ("TapeBenchModel", "row", "[I", true)
  | 9 => ("TapeBenchModel", "newSize", "I", false)
  | 10 => ("TapeBenchModel", "made", "[I", true)
  | 11 => ("TapeBenchModel", "carried", "[I", true)
  | _ => ("TapeBenchModel", "together", "I", false)
def ty_M : Nat → FieldType := fun k => match k with
  | 0 => .array .int
  | 1 => .array .int
  | 2 => .int
  | 3 => .int
  | 4 => .array .int
  | 5 => .array .int
  | 6 => .array .int
  | 7 => .int
  | 8 => .array .int
  | 9 => .int
  | 10 => .array .int
  | 11 => .array .int
  | _ => .int
abbrev classes : List vw_C := [("TapeBench$Aligner", tT_A, 2), ("TapeBench$History", tT_H, 3), ("TapeBench$Layer", tT_L, 4), ("TapeBench$Layers", tT_S, 2), ("TapeBench$Player", tT_P, 5), ("TapeBench$Row", tT_R, 2), ("TapeBench$Sheet", tT_Q, 3), ("TapeBench$Step", tT_E, 5), ("TapeBench$Tape", tT_T, 4), ("TapeBench$Turns", tT_U, 2), ("TapeBench", tT_X, 8), ("TapeBenchModel", tT_M, 13)]
abbrev tz_dk (cc : ByteArray) (pc : Nat) (i : Instr) (len n : Nat) : Prop := decode cc pc = .ok (i, len) ∧ pc + len = n
abbrev tz_dj (cc : ByteArray) (pc : Nat) (i : Instr) (off : Int) (n tgt : Nat) : Prop := decode cc pc = .ok (i, 3) ∧ pc + 3 = n ∧ (pc : Int) + off = (tgt : Int)
