section
-- ===== PART A: goes FIRST, ahead of the names: the tables' words, and 'selects' of the private methods out of them =====
/-- a private method of a class that the tables say can be made, by its rows of tables_1 -/
def lw_okq (q : MethodName × Nat) : Prop := (q.1.cls ≠ "java/lang/invoke/MethodHandle" ∧ q.1.cls ≠ "java/lang/invoke/VarHandle") ∧ Cond.instantiable q.1.cls q.2 ∈ tables_1 ∧ Cond.privateMethod q.1 ∈ tables_1 ∧ Cond.instanceMethod q.1 ∈ tables_1
theorem lw_p0 : lw_okq (⟨"TapeBench", "answer", "(I)I"⟩, 8) := ⟨⟨by decide +kernel, by decide +kernel⟩, List.mem_of_getElem? (i := 17) (by decide +kernel), List.mem_of_getElem? (i := 234) (by decide +kernel), List.mem_of_getElem? (i := 235) (by decide +kernel)⟩
theorem lw_p1 : lw_okq (⟨"TapeBench$History", "stepAt", "(I)LTapeBench$Step;"⟩, 3) := ⟨⟨by decide +kernel, by decide +kernel⟩, List.mem_of_getElem? (i := 84) (by decide +kernel), List.mem_of_getElem? (i := 243) (by decide +kernel), List.mem_of_getElem? (i := 244) (by decide +kernel)⟩
theorem lw_p2 : lw_okq (⟨"TapeBench", "sheetAt", "(I)LTapeBench$Sheet;"⟩, 8) := ⟨⟨by decide +kernel, by decide +kernel⟩, List.mem_of_getElem? (i := 17) (by decide +kernel), List.mem_of_getElem? (i := 356) (by decide +kernel), List.mem_of_getElem? (i := 357) (by decide +kernel)⟩
theorem lw_p3 : lw_okq (⟨"TapeBench$Player", "makeNext", "(LTapeBench$Layer;LTapeBench$Tape;)V"⟩, 5) := ⟨⟨by decide +kernel, by decide +kernel⟩, List.mem_of_getElem? (i := 170) (by decide +kernel), List.mem_of_getElem? (i := 528) (by decide +kernel), List.mem_of_getElem? (i := 529) (by decide +kernel)⟩
theorem lw_p4 : lw_okq (⟨"TapeBench$Player", "gain", "(I)V"⟩, 5) := ⟨⟨by decide +kernel, by decide +kernel⟩, List.mem_of_getElem? (i := 170) (by decide +kernel), List.mem_of_getElem? (i := 532) (by decide +kernel), List.mem_of_getElem? (i := 533) (by decide +kernel)⟩
theorem lw_p5 : lw_okq (⟨"TapeBench$Player", "mend", "(I)V"⟩, 5) := ⟨⟨by decide +kernel, by decide +kernel⟩, List.mem_of_getElem? (i := 170) (by decide +kernel), List.mem_of_getElem? (i := 542) (by decide +kernel), List.mem_of_getElem? (i := 543) (by decide +kernel)⟩
theorem lw_p6 : lw_okq (⟨"TapeBench$Player", "fill", "(LTapeBench$Row;I)V"⟩, 5) := ⟨⟨by decide +kernel, by decide +kernel⟩, List.mem_of_getElem? (i := 170) (by decide +kernel), List.mem_of_getElem? (i := 548) (by decide +kernel), List.mem_of_getElem? (i := 549) (by decide +kernel)⟩
theorem lw_p7 : lw_okq (⟨"TapeBench$Player", "bridge", "(I)V"⟩, 5) := ⟨⟨by decide +kernel, by decide +kernel⟩, List.mem_of_getElem? (i := 170) (by decide +kernel), List.mem_of_getElem? (i := 569) (by decide +kernel), List.mem_of_getElem? (i := 570) (by decide +kernel)⟩
theorem lw_p8 : lw_okq (⟨"TapeBench$Player", "span", "(II)V"⟩, 5) := ⟨⟨by decide +kernel, by decide +kernel⟩, List.mem_of_getElem? (i := 170) (by decide +kernel), List.mem_of_getElem? (i := 573) (by decide +kernel), List.mem_of_getElem? (i := 574) (by decide +kernel)⟩
theorem lw_p9 : lw_okq (⟨"TapeBench$Player", "warp", "(I)V"⟩, 5) := ⟨⟨by decide +kernel, by decide +kernel⟩, List.mem_of_getElem? (i := 170) (by decide +kernel), List.mem_of_getElem? (i := 580) (by decide +kernel), List.mem_of_getElem? (i := 581) (by decide +kernel)⟩
theorem lw_p10 : lw_okq (⟨"TapeBench$Player", "sampleAtTime", "(II)I"⟩, 5) := ⟨⟨by decide +kernel, by decide +kernel⟩, List.mem_of_getElem? (i := 170) (by decide +kernel), List.mem_of_getElem? (i := 586) (by decide +kernel), List.mem_of_getElem? (i := 587) (by decide +kernel)⟩
theorem lw_p11 : lw_okq (⟨"TapeBench$Player", "followWarp", "(II)V"⟩, 5) := ⟨⟨by decide +kernel, by decide +kernel⟩, List.mem_of_getElem? (i := 170) (by decide +kernel), List.mem_of_getElem? (i := 591) (by decide +kernel), List.mem_of_getElem? (i := 592) (by decide +kernel)⟩
theorem lw_p12 : lw_okq (⟨"TapeBench$Player", "cut", "(II)V"⟩, 5) := ⟨⟨by decide +kernel, by decide +kernel⟩, List.mem_of_getElem? (i := 170) (by decide +kernel), List.mem_of_getElem? (i := 600) (by decide +kernel), List.mem_of_getElem? (i := 601) (by decide +kernel)⟩
theorem lw_p13 : lw_okq (⟨"TapeBench$Player", "fade", "(I)V"⟩, 5) := ⟨⟨by decide +kernel, by decide +kernel⟩, List.mem_of_getElem? (i := 170) (by decide +kernel), List.mem_of_getElem? (i := 604) (by decide +kernel), List.mem_of_getElem? (i := 605) (by decide +kernel)⟩
theorem lw_p14 : lw_okq (⟨"TapeBenchModel", "finding", "(I)I"⟩, 13) := ⟨⟨by decide +kernel, by decide +kernel⟩, List.mem_of_getElem? (i := 707) (by decide +kernel), List.mem_of_getElem? (i := 758) (by decide +kernel), List.mem_of_getElem? (i := 759) (by decide +kernel)⟩
theorem lw_p15 : lw_okq (⟨"TapeBenchModel", "keep", "()V"⟩, 13) := ⟨⟨by decide +kernel, by decide +kernel⟩, List.mem_of_getElem? (i := 707) (by decide +kernel), List.mem_of_getElem? (i := 773) (by decide +kernel), List.mem_of_getElem? (i := 774) (by decide +kernel)⟩
def lw_privs_1 : List (MethodName × Nat) := [(⟨"TapeBench", "answer", "(I)I"⟩, 8), (⟨"TapeBench$History", "stepAt", "(I)LTapeBench$Step;"⟩, 3), (⟨"TapeBench", "sheetAt", "(I)LTapeBench$Sheet;"⟩, 8), (⟨"TapeBench$Player", "makeNext", "(LTapeBench$Layer;LTapeBench$Tape;)V"⟩, 5), (⟨"TapeBench$Player", "gain", "(I)V"⟩, 5), (⟨"TapeBench$Player", "mend", "(I)V"⟩, 5), (⟨"TapeBench$Player", "fill", "(LTapeBench$Row;I)V"⟩, 5), (⟨"TapeBench$Player", "bridge", "(I)V"⟩, 5), (⟨"TapeBench$Player", "span", "(II)V"⟩, 5), (⟨"TapeBench$Player", "warp", "(I)V"⟩, 5), (⟨"TapeBench$Player", "sampleAtTime", "(II)I"⟩, 5), (⟨"TapeBench$Player", "followWarp", "(II)V"⟩, 5), (⟨"TapeBench$Player", "cut", "(II)V"⟩, 5), (⟨"TapeBench$Player", "fade", "(I)V"⟩, 5), (⟨"TapeBenchModel", "finding", "(I)I"⟩, 13), (⟨"TapeBenchModel", "keep", "()V"⟩, 13)]
theorem lw_r1 : ∀ q ∈ lw_privs_1, lw_okq q := List.forall_mem_cons.mpr ⟨lw_p0, List.forall_mem_cons.mpr ⟨lw_p1, List.forall_mem_cons.mpr ⟨lw_p2, List.forall_mem_cons.mpr ⟨lw_p3, List.forall_mem_cons.mpr ⟨lw_p4, List.forall_mem_cons.mpr ⟨lw_p5, List.forall_mem_cons.mpr ⟨lw_p6, List.forall_mem_cons.mpr ⟨lw_p7, List.forall_mem_cons.mpr ⟨lw_p8, List.forall_mem_cons.mpr ⟨lw_p9, List.forall_mem_cons.mpr ⟨lw_p10, List.forall_mem_cons.mpr ⟨lw_p11, List.forall_mem_cons.mpr ⟨lw_p12, List.forall_mem_cons.mpr ⟨lw_p13, List.forall_mem_cons.mpr ⟨lw_p14, List.forall_mem_cons.mpr ⟨lw_p15, fun _ h => absurd h List.not_mem_nil⟩⟩⟩⟩⟩⟩⟩⟩⟩⟩⟩⟩⟩⟩⟩⟩
theorem lw_p16 : lw_okq (⟨"TapeBenchModel", "isSample", "(II)Z"⟩, 13) := ⟨⟨by decide +kernel, by decide +kernel⟩, List.mem_of_getElem? (i := 707) (by decide +kernel), List.mem_of_getElem? (i := 781) (by decide +kernel), List.mem_of_getElem? (i := 782) (by decide +kernel)⟩
theorem lw_p17 : lw_okq (⟨"TapeBenchModel", "at", "(II)I"⟩, 13) := ⟨⟨by decide +kernel, by decide +kernel⟩, List.mem_of_getElem? (i := 707) (by decide +kernel), List.mem_of_getElem? (i := 785) (by decide +kernel), List.mem_of_getElem? (i := 786) (by decide +kernel)⟩
theorem lw_p18 : lw_okq (⟨"TapeBenchModel", "takePass", "(I)V"⟩, 13) := ⟨⟨by decide +kernel, by decide +kernel⟩, List.mem_of_getElem? (i := 707) (by decide +kernel), List.mem_of_getElem? (i := 803) (by decide +kernel), List.mem_of_getElem? (i := 804) (by decide +kernel)⟩
theorem lw_p19 : lw_okq (⟨"TapeBenchModel", "lostMany", "()I"⟩, 13) := ⟨⟨by decide +kernel, by decide +kernel⟩, List.mem_of_getElem? (i := 707) (by decide +kernel), List.mem_of_getElem? (i := 807) (by decide +kernel), List.mem_of_getElem? (i := 808) (by decide +kernel)⟩
theorem lw_p20 : lw_okq (⟨"TapeBenchModel", "turns", "()I"⟩, 13) := ⟨⟨by decide +kernel, by decide +kernel⟩, List.mem_of_getElem? (i := 707) (by decide +kernel), List.mem_of_getElem? (i := 811) (by decide +kernel), List.mem_of_getElem? (i := 812) (by decide +kernel)⟩
theorem lw_p21 : lw_okq (⟨"TapeBenchModel", "isTurn", "(I)Z"⟩, 13) := ⟨⟨by decide +kernel, by decide +kernel⟩, List.mem_of_getElem? (i := 707) (by decide +kernel), List.mem_of_getElem? (i := 815) (by decide +kernel), List.mem_of_getElem? (i := 816) (by decide +kernel)⟩
theorem lw_p22 : lw_okq (⟨"TapeBenchModel", "isClick", "(II)Z"⟩, 13) := ⟨⟨by decide +kernel, by decide +kernel⟩, List.mem_of_getElem? (i := 707) (by decide +kernel), List.mem_of_getElem? (i := 819) (by decide +kernel), List.mem_of_getElem? (i := 820) (by decide +kernel)⟩
theorem lw_p23 : lw_okq (⟨"TapeBenchModel", "turnAt", "(I)I"⟩, 13) := ⟨⟨by decide +kernel, by decide +kernel⟩, List.mem_of_getElem? (i := 707) (by decide +kernel), List.mem_of_getElem? (i := 827) (by decide +kernel), List.mem_of_getElem? (i := 828) (by decide +kernel)⟩
theorem lw_p24 : lw_okq (⟨"TapeBenchModel", "laysDown", "(I)V"⟩, 13) := ⟨⟨by decide +kernel, by decide +kernel⟩, List.mem_of_getElem? (i := 707) (by decide +kernel), List.mem_of_getElem? (i := 856) (by decide +kernel), List.mem_of_getElem? (i := 857) (by decide +kernel)⟩
theorem lw_p25 : lw_okq (⟨"TapeBenchModel", "setLayer", "(IIIII)V"⟩, 13) := ⟨⟨by decide +kernel, by decide +kernel⟩, List.mem_of_getElem? (i := 707) (by decide +kernel), List.mem_of_getElem? (i := 872) (by decide +kernel), List.mem_of_getElem? (i := 873) (by decide +kernel)⟩
theorem lw_p26 : lw_okq (⟨"TapeBenchModel", "isLayer", "(I)Z"⟩, 13) := ⟨⟨by decide +kernel, by decide +kernel⟩, List.mem_of_getElem? (i := 707) (by decide +kernel), List.mem_of_getElem? (i := 880) (by decide +kernel), List.mem_of_getElem? (i := 881) (by decide +kernel)⟩
theorem lw_p27 : lw_okq (⟨"TapeBenchModel", "copyLayer", "(II)V"⟩, 13) := ⟨⟨by decide +kernel, by decide +kernel⟩, List.mem_of_getElem? (i := 707) (by decide +kernel), List.mem_of_getElem? (i := 888) (by decide +kernel), List.mem_of_getElem? (i := 889) (by decide +kernel)⟩
theorem lw_p28 : lw_okq (⟨"TapeBenchModel", "output", "(I)V"⟩, 13) := ⟨⟨by decide +kernel, by decide +kernel⟩, List.mem_of_getElem? (i := 707) (by decide +kernel), List.mem_of_getElem? (i := 908) (by decide +kernel), List.mem_of_getElem? (i := 909) (by decide +kernel)⟩
theorem lw_p29 : lw_okq (⟨"TapeBenchModel", "work", "(I)V"⟩, 13) := ⟨⟨by decide +kernel, by decide +kernel⟩, List.mem_of_getElem? (i := 707) (by decide +kernel), List.mem_of_getElem? (i := 912) (by decide +kernel), List.mem_of_getElem? (i := 913) (by decide +kernel)⟩
theorem lw_p30 : lw_okq (⟨"TapeBenchModel", "gain", "(I)V"⟩, 13) := ⟨⟨by decide +kernel, by decide +kernel⟩, List.mem_of_getElem? (i := 707) (by decide +kernel), List.mem_of_getElem? (i := 916) (by decide +kernel), List.mem_of_getElem? (i := 917) (by decide +kernel)⟩
theorem lw_p31 : lw_okq (⟨"TapeBenchModel", "mend", "(I)V"⟩, 13) := ⟨⟨by decide +kernel, by decide +kernel⟩, List.mem_of_getElem? (i := 707) (by decide +kernel), List.mem_of_getElem? (i := 923) (by decide +kernel), List.mem_of_getElem? (i := 924) (by decide +kernel)⟩
def lw_privs_2 : List (MethodName × Nat) := [(⟨"TapeBenchModel", "isSample", "(II)Z"⟩, 13), (⟨"TapeBenchModel", "at", "(II)I"⟩, 13), (⟨"TapeBenchModel", "takePass", "(I)V"⟩, 13), (⟨"TapeBenchModel", "lostMany", "()I"⟩, 13), (⟨"TapeBenchModel", "turns", "()I"⟩, 13), (⟨"TapeBenchModel", "isTurn", "(I)Z"⟩, 13), (⟨"TapeBenchModel", "isClick", "(II)Z"⟩, 13), (⟨"TapeBenchModel", "turnAt", "(I)I"⟩, 13), (⟨"TapeBenchModel", "laysDown", "(I)V"⟩, 13), (⟨"TapeBenchModel", "setLayer", "(IIIII)V"⟩, 13), (⟨"TapeBenchModel", "isLayer", "(I)Z"⟩, 13), (⟨"TapeBenchModel", "copyLayer", "(II)V"⟩, 13), (⟨"TapeBenchModel", "output", "(I)V"⟩, 13), (⟨"TapeBenchModel", "work", "(I)V"⟩, 13), (⟨"TapeBenchModel", "gain", "(I)V"⟩, 13), (⟨"TapeBenchModel", "mend", "(I)V"⟩, 13)]
theorem lw_r2 : ∀ q ∈ lw_privs_2, lw_okq q := List.forall_mem_cons.mpr ⟨lw_p16, List.forall_mem_cons.mpr ⟨lw_p17, List.forall_mem_cons.mpr ⟨lw_p18, List.forall_mem_cons.mpr ⟨lw_p19, List.forall_mem_cons.mpr ⟨lw_p20, List.forall_mem_cons.mpr ⟨lw_p21, List.forall_mem_cons.mpr ⟨lw_p22, List.forall_mem_cons.mpr ⟨lw_p23, List.forall_mem_cons.mpr ⟨lw_p24, List.forall_mem_cons.mpr ⟨lw_p25, List.forall_mem_cons.mpr ⟨lw_p26, List.forall_mem_cons.mpr ⟨lw_p27, List.forall_mem_cons.mpr ⟨lw_p28, List.forall_mem_cons.mpr ⟨lw_p29, List.forall_mem_cons.mpr ⟨lw_p30, List.forall_mem_cons.mpr ⟨lw_p31, fun _ h => absurd h List.not_mem_nil⟩⟩⟩⟩⟩⟩⟩⟩⟩⟩⟩⟩⟩⟩⟩⟩
theorem lw_p32 : lw_okq (⟨"TapeBenchModel", "takeMade", "()V"⟩, 13) := ⟨⟨by decide +kernel, by decide +kernel⟩, List.mem_of_getElem? (i := 707) (by decide +kernel), List.mem_of_getElem? (i := 927) (by decide +kernel), List.mem_of_getElem? (i := 928) (by decide +kernel)⟩
theorem lw_p33 : lw_okq (⟨"TapeBenchModel", "fill", "(II)V"⟩, 13) := ⟨⟨by decide +kernel, by decide +kernel⟩, List.mem_of_getElem? (i := 707) (by decide +kernel), List.mem_of_getElem? (i := 931) (by decide +kernel), List.mem_of_getElem? (i := 932) (by decide +kernel)⟩
theorem lw_p34 : lw_okq (⟨"TapeBenchModel", "aligned", "(II)I"⟩, 13) := ⟨⟨by decide +kernel, by decide +kernel⟩, List.mem_of_getElem? (i := 707) (by decide +kernel), List.mem_of_getElem? (i := 935) (by decide +kernel), List.mem_of_getElem? (i := 936) (by decide +kernel)⟩
theorem lw_p35 : lw_okq (⟨"TapeBenchModel", "differs", "(II)I"⟩, 13) := ⟨⟨by decide +kernel, by decide +kernel⟩, List.mem_of_getElem? (i := 707) (by decide +kernel), List.mem_of_getElem? (i := 939) (by decide +kernel), List.mem_of_getElem? (i := 940) (by decide +kernel)⟩
theorem lw_p36 : lw_okq (⟨"TapeBenchModel", "bridge", "(I)V"⟩, 13) := ⟨⟨by decide +kernel, by decide +kernel⟩, List.mem_of_getElem? (i := 707) (by decide +kernel), List.mem_of_getElem? (i := 945) (by decide +kernel), List.mem_of_getElem? (i := 946) (by decide +kernel)⟩
theorem lw_p37 : lw_okq (⟨"TapeBenchModel", "warp", "(I)V"⟩, 13) := ⟨⟨by decide +kernel, by decide +kernel⟩, List.mem_of_getElem? (i := 707) (by decide +kernel), List.mem_of_getElem? (i := 950) (by decide +kernel), List.mem_of_getElem? (i := 951) (by decide +kernel)⟩
theorem lw_p38 : lw_okq (⟨"TapeBenchModel", "cut", "(II)V"⟩, 13) := ⟨⟨by decide +kernel, by decide +kernel⟩, List.mem_of_getElem? (i := 707) (by decide +kernel), List.mem_of_getElem? (i := 955) (by decide +kernel), List.mem_of_getElem? (i := 956) (by decide +kernel)⟩
theorem lw_p39 : lw_okq (⟨"TapeBenchModel", "fade", "(I)V"⟩, 13) := ⟨⟨by decide +kernel, by decide +kernel⟩, List.mem_of_getElem? (i := 707) (by decide +kernel), List.mem_of_getElem? (i := 959) (by decide +kernel), List.mem_of_getElem? (i := 960) (by decide +kernel)⟩
theorem lw_p40 : lw_okq (⟨"TapeBenchModel", "warped", "(II)I"⟩, 13) := ⟨⟨by decide +kernel, by decide +kernel⟩, List.mem_of_getElem? (i := 707) (by decide +kernel), List.mem_of_getElem? (i := 1004) (by decide +kernel), List.mem_of_getElem? (i := 1005) (by decide +kernel)⟩
def lw_privs_3 : List (MethodName × Nat) := [(⟨"TapeBenchModel", "takeMade", "()V"⟩, 13), (⟨"TapeBenchModel", "fill", "(II)V"⟩, 13), (⟨"TapeBenchModel", "aligned", "(II)I"⟩, 13), (⟨"TapeBenchModel", "differs", "(II)I"⟩, 13), (⟨"TapeBenchModel", "bridge", "(I)V"⟩, 13), (⟨"TapeBenchModel", "warp", "(I)V"⟩, 13), (⟨"TapeBenchModel", "cut", "(II)V"⟩, 13), (⟨"TapeBenchModel", "fade", "(I)V"⟩, 13), (⟨"TapeBenchModel", "warped", "(II)I"⟩, 13)]
theorem lw_r3 : ∀ q ∈ lw_privs_3, lw_okq q := List.forall_mem_cons.mpr ⟨lw_p32, List.forall_mem_cons.mpr ⟨lw_p33, List.forall_mem_cons.mpr ⟨lw_p34, List.forall_mem_cons.mpr ⟨lw_p35, List.forall_mem_cons.mpr ⟨lw_p36, List.forall_mem_cons.mpr ⟨lw_p37, List.forall_mem_cons.mpr ⟨lw_p38, List.forall_mem_cons.mpr ⟨lw_p39, List.forall_mem_cons.mpr ⟨lw_p40, fun _ h => absurd h List.not_mem_nil⟩⟩⟩⟩⟩⟩⟩⟩⟩
def lw_privs : List (MethodName × Nat) := lw_privs_1 ++ (lw_privs_2 ++ (lw_privs_3))
def lw_tbl : List Cond := k2_sels lw_privs ++ tables_1
theorem lw_privs_ok : ∀ q ∈ lw_privs, lw_okq q := by
  show ∀ q ∈ lw_privs_1 ++ (lw_privs_2 ++ (lw_privs_3)), lw_okq q
  exact List.forall_mem_append.mpr ⟨lw_r1, List.forall_mem_append.mpr ⟨lw_r2, lw_r3⟩⟩
def tT_A : u_T := fun k => match k with
  | 0 => ("TapeBench$Aligner", "sum", "I", false)
  | _ => ("TapeBench$Aligner", "places", "I", false)
def ty_A : Nat → FieldType := fun k => match k with
  | 0 => .int
  | _ => .int
def tT_H : u_T := fun k => match k with
  | 0 => ("TapeBench$History", "steps", "[LTapeBench$Step;", true)
  | 1 => ("TapeBench$History", "next", "I", false)
  | _ => ("TapeBench$History", "kept", "I", false)
def ty_H : Nat → FieldType := fun k => match k with
  | 0 => .array (.object "TapeBench$Step")
  | 1 => .int
  | _ => .int
def tT_L : u_T := fun k => match k with
  | 0 => ("TapeBench$Layer", "kind", "I", true)
  | 1 => ("TapeBench$Layer", "a", "I", true)
  | 2 => ("TapeBench$Layer", "b", "I", true)
  | _ => ("TapeBench$Layer", "on", "Z", true)
def ty_L : Nat → FieldType := fun k => match k with
  | 0 => .int
  | 1 => .int
  | 2 => .int
  | _ => .boolean
def tT_S : u_T := fun k => match k with
  | 0 => ("TapeBench$Layers", "order", "[LTapeBench$Layer;", true)
  | _ => ("TapeBench$Layers", "laid", "I", false)
def ty_S : Nat → FieldType := fun k => match k with
  | 0 => .array (.object "TapeBench$Layer")
  | _ => .int
def tT_P : u_T := fun k => match k with
  | 0 => ("TapeBench$Player", "aligner", "LTapeBench$Aligner;", true)
  | 1 => ("TapeBench$Player", "turns", "LTapeBench$Turns;", true)
  | 2 => ("TapeBench$Player", "row", "LTapeBench$Row;", false)
  | 3 => ("TapeBench$Player", "next", "LTapeBench$Row;", false)
  | _ => ("TapeBench$Player", "followed", "I", false)
def ty_P : Nat → FieldType := fun k => match k with
  | 0 => .object "TapeBench$Aligner"
  | 1 => .object "TapeBench$Turns"
  | 2 => .object "TapeBench$Row"
  | 3 => .object "TapeBench$Row"
  | _ => .int
def tT_R : u_T := fun k => match k with
  | 0 => ("TapeBench$Row", "samples", "[I", true)
  | _ => ("TapeBench$Row", "length", "I", false)
def ty_R : Nat → FieldType := fun k => match k with
  | 0 => .array .int
  | _ => .int
def tT_Q : u_T := fun k => match k with
  | 0 => ("TapeBench$Sheet", "numbers", "[I", true)
  | 1 => ("TapeBench$Sheet", "bits", "I", false)
  | _ => ("TapeBench$Sheet", "length", "I", false)
def ty_Q : Nat → FieldType := fun k => match k with
  | 0 => .array .int
  | 1 => .int
  | _ => .int
def tT_E : u_T := fun k => match k with
  | 0 => ("TapeBench$Step", "row", "LTapeBench$Row;", true)
  | 1 => ("TapeBench$Step", "layers", "LTapeBench$Layers;", true)
  | 2 => ("TapeBench$Step", "markPasses", "[I", true)
  | 3 => ("TapeBench$Step", "markPlaces", "[I", true)
  | _ => ("TapeBench$Step", "p", "I", false)
def ty_E : Nat → FieldType := fun k => match k with
  | 0 => .object "TapeBench$Row"
  | 1 => .object "TapeBench$Layers"
  | 2 => .array .int
  | 3 => .array .int
  | _ => .int
def tT_T : u_T := fun k => match k with
  | 0 => ("TapeBench$Tape", "rows", "[LTapeBench$Row;", true)
  | 1 => ("TapeBench$Tape", "layers", "LTapeBench$Layers;", true)
  | 2 => ("TapeBench$Tape", "markPasses", "[I", true)
  | _ => ("TapeBench$Tape", "markPlaces", "[I", true)
def ty_T : Nat → FieldType := fun k => match k with
  | 0 => .array (.object "TapeBench$Row")
  | 1 => .object "TapeBench$Layers"
  | 2 => .array .int
  | _ => .array .int
def tT_U : u_T := fun k => match k with
  | 0 => ("TapeBench$Turns", "places", "[I", true)
  | _ => ("TapeBench$Turns", "found", "I", false)
def ty_U : Nat → FieldType := fun k => match k with
  | 0 => .array .int
  | _ => .int
def tT_X : u_T := fun k => match k with
  | 0 => ("TapeBench", "tape", "LTapeBench$Tape;", true)
  | 1 => ("TapeBench", "history", "LTapeBench$History;", true)
  | 2 => ("TapeBench", "sheets", "[LTapeBench$Sheet;", true)
  | 3 => ("TapeBench", "turns", "LTapeBench$Turns;", true)
  | 4 => ("TapeBench", "aligner", "LTapeBench$Aligner;", true)
  | 5 => ("TapeBench", "player", "LTapeBench$Player;", true)
  | 6 => ("TapeBench", "joined", "LTapeBench$Row;", true)
  | _ => ("TapeBench", "findings", "I", false)
def ty_X : Nat → FieldType := fun k => match k with
  | 0 => .object "TapeBench$Tape"
  | 1 => .object "TapeBench$History"
  | 2 => .array (.object "TapeBench$Sheet")
  | 3 => .object "TapeBench$Turns"
  | 4 => .object "TapeBench$Aligner"
  | 5 => .object "TapeBench$Player"
  | 6 => .object "TapeBench$Row"
  | _ => .int
def tT_M : u_T := fun k => match k with
  | 0 => ("TapeBenchModel", "now", "[I", true)
  | 1 => ("TapeBenchModel", "past", "[I", true)
  | 2 => ("TapeBenchModel", "kept", "I", false)
  | 3 => ("TapeBenchModel", "findings", "I", false)
  | 4 => ("TapeBenchModel", "bits", "[I", true)
  | 5 => ("TapeBenchModel", "numbers", "[I", true)
  | 6 => ("TapeBenchModel", "sheets", "[I", true)
  | 7 => ("TapeBenchModel", "size", "I", false)
  | 8 => ("TapeBenchModel", "row", "[I", true)
  | 9 => ("TapeBenchModel", "newSize", "I", false)
  | 10 => ("TapeBenchModel", "made", "[I", true)
  | 11 => ("TapeBenchModel", "carried", "[I", true)
  | _ => ("TapeBenchModel", "together", "I", false)
def ty_M : Nat → FieldType := fun k => match k with
  | 0 => .array .int
  | 1 => .array .int
  | 2 => .int
  | 3 => .int
  | 4 => .array .int
  | 5 => .array .int
  | 6 => .array .int
  | 7 => .int
  | 8 => .array .int
  | 9 => .int
  | 10 => .array .int
  | 11 => .array .int
  | _ => .int
abbrev classes : List vw_C := [("TapeBench$Aligner", tT_A, 2), ("TapeBench$History", tT_H, 3), ("TapeBench$Layer", tT_L, 4), ("TapeBench$Layers", tT_S, 2), ("TapeBench$Player", tT_P, 5), ("TapeBench$Row", tT_R, 2), ("TapeBench$Sheet", tT_Q, 3), ("TapeBench$Step", tT_E, 5), ("TapeBench$Tape", tT_T, 4), ("TapeBench$Turns", tT_U, 2), ("TapeBench", tT_X, 8), ("TapeBenchModel", tT_M, 13)]
abbrev tz_dk (cc : ByteArray) (pc : Nat) (i : Instr) (len n : Nat) : Prop := decode cc pc = .ok (i, len) ∧ pc + len = n
abbrev tz_dj (cc : ByteArray) (pc : Nat) (i : Instr) (off : Int) (n tgt : Nat) : Prop := decode cc pc = .ok (i, 3) ∧ pc + 3 = n ∧ (pc : Int) + off = (tgt : Int)
end
section
theorem td_X_init_0 : tz_dk prog_1_method_1_code 0 (.aload_n 0) 1 1 := by decide +kernel
theorem td_X_init_1 : tz_dk prog_1_method_1_code 1 (.invokespecial 1) 3 4 := by decide +kernel
theorem td_X_init_4 : tz_dk prog_1_method_1_code 4 (.aload_n 0) 1 5 := by decide +kernel
theorem td_X_init_5 : tz_dk prog_1_method_1_code 5 (.new 7) 3 8 := by decide +kernel
theorem td_X_init_8 : tz_dk prog_1_method_1_code 8 (.dup) 1 9 := by decide +kernel
theorem td_X_init_9 : tz_dk prog_1_method_1_code 9 (.invokespecial 9) 3 12 := by decide +kernel
theorem td_X_init_12 : tz_dk prog_1_method_1_code 12 (.putfield 10) 3 15 := by decide +kernel
theorem td_X_init_15 : tz_dk prog_1_method_1_code 15 (.aload_n 0) 1 16 := by decide +kernel
theorem td_X_init_16 : tz_dk prog_1_method_1_code 16 (.new 16) 3 19 := by decide +kernel
theorem td_X_init_19 : tz_dk prog_1_method_1_code 19 (.dup) 1 20 := by decide +kernel
theorem td_X_init_20 : tz_dk prog_1_method_1_code 20 (.invokespecial 18) 3 23 := by decide +kernel
theorem td_X_init_23 : tz_dk prog_1_method_1_code 23 (.putfield 19) 3 26 := by decide +kernel
theorem td_X_init_26 : tz_dk prog_1_method_1_code 26 (.aload_n 0) 1 27 := by decide +kernel
theorem td_X_init_27 : tz_dk prog_1_method_1_code 27 (.iconst 4) 1 28 := by decide +kernel
theorem td_X_init_28 : tz_dk prog_1_method_1_code 28 (.anewarray 23) 3 31 := by decide +kernel
theorem td_X_init_31 : tz_dk prog_1_method_1_code 31 (.putfield 25) 3 34 := by decide +kernel
theorem td_X_init_34 : tz_dk prog_1_method_1_code 34 (.iconst 0) 1 35 := by decide +kernel
theorem td_X_init_35 : tz_dk prog_1_method_1_code 35 (.istore_n 1) 1 36 := by decide +kernel
theorem td_X_init_36 : tz_dk prog_1_method_1_code 36 (.iload_n 1) 1 37 := by decide +kernel
theorem td_X_init_37 : tz_dk prog_1_method_1_code 37 (.iconst 4) 1 38 := by decide +kernel
theorem td_X_init_38 : tz_dj prog_1_method_1_code 38 (.if_icmp .ge 22) (22) 41 60 := by decide +kernel
theorem td_X_init_41 : tz_dk prog_1_method_1_code 41 (.aload_n 0) 1 42 := by decide +kernel
theorem td_X_init_42 : tz_dk prog_1_method_1_code 42 (.getfield 25) 3 45 := by decide +kernel
theorem td_X_init_45 : tz_dk prog_1_method_1_code 45 (.iload_n 1) 1 46 := by decide +kernel
theorem td_X_init_46 : tz_dk prog_1_method_1_code 46 (.new 23) 3 49 := by decide +kernel
theorem td_X_init_49 : tz_dk prog_1_method_1_code 49 (.dup) 1 50 := by decide +kernel
theorem td_X_init_50 : tz_dk prog_1_method_1_code 50 (.invokespecial 29) 3 53 := by decide +kernel
theorem td_X_init_53 : tz_dk prog_1_method_1_code 53 (.aastore) 1 54 := by decide +kernel
theorem td_X_init_54 : tz_dk prog_1_method_1_code 54 (.iinc 1 1) 3 57 := by decide +kernel
theorem td_X_init_57 : tz_dj prog_1_method_1_code 57 (.goto (-21)) (-21) 60 36 := by decide +kernel
theorem td_X_init_60 : tz_dk prog_1_method_1_code 60 (.aload_n 0) 1 61 := by decide +kernel
theorem td_X_init_61 : tz_dk prog_1_method_1_code 61 (.new 30) 3 64 := by decide +kernel
theorem td_X_init_64 : tz_dk prog_1_method_1_code 64 (.dup) 1 65 := by decide +kernel
theorem td_X_init_65 : tz_dk prog_1_method_1_code 65 (.invokespecial 32) 3 68 := by decide +kernel
theorem td_X_init_68 : tz_dk prog_1_method_1_code 68 (.putfield 33) 3 71 := by decide +kernel
theorem td_X_init_71 : tz_dk prog_1_method_1_code 71 (.aload_n 0) 1 72 := by decide +kernel
theorem td_X_init_72 : tz_dk prog_1_method_1_code 72 (.new 37) 3 75 := by decide +kernel
theorem td_X_init_75 : tz_dk prog_1_method_1_code 75 (.dup) 1 76 := by decide +kernel
theorem td_X_init_76 : tz_dk prog_1_method_1_code 76 (.invokespecial 39) 3 79 := by decide +kernel
theorem td_X_init_79 : tz_dk prog_1_method_1_code 79 (.putfield 40) 3 82 := by decide +kernel
theorem td_X_init_82 : tz_dk prog_1_method_1_code 82 (.aload_n 0) 1 83 := by decide +kernel
theorem td_X_init_83 : tz_dk prog_1_method_1_code 83 (.new 44) 3 86 := by decide +kernel
theorem td_X_init_86 : tz_dk prog_1_method_1_code 86 (.dup) 1 87 := by decide +kernel
theorem td_X_init_87 : tz_dk prog_1_method_1_code 87 (.invokespecial 46) 3 90 := by decide +kernel
theorem td_X_init_90 : tz_dk prog_1_method_1_code 90 (.putfield 47) 3 93 := by decide +kernel
theorem td_X_init_93 : tz_dk prog_1_method_1_code 93 (.aload_n 0) 1 94 := by decide +kernel
theorem td_X_init_94 : tz_dk prog_1_method_1_code 94 (.new 51) 3 97 := by decide +kernel
theorem td_X_init_97 : tz_dk prog_1_method_1_code 97 (.dup) 1 98 := by decide +kernel
theorem td_X_init_98 : tz_dk prog_1_method_1_code 98 (.invokespecial 53) 3 101 := by decide +kernel
theorem td_X_init_101 : tz_dk prog_1_method_1_code 101 (.putfield 54) 3 104 := by decide +kernel
theorem td_X_init_104 : tz_dk prog_1_method_1_code 104 (.aload_n 0) 1 105 := by decide +kernel
theorem td_X_init_105 : tz_dk prog_1_method_1_code 105 (.iconst 0) 1 106 := by decide +kernel
theorem td_X_init_106 : tz_dk prog_1_method_1_code 106 (.putfield 58) 3 109 := by decide +kernel
theorem td_X_init_109 : tz_dk prog_1_method_1_code 109 (.return_) 1 110 := by decide +kernel
theorem td_T_init_0 : tz_dk prog_10_method_1_code 0 (.aload_n 0) 1 1 := by decide +kernel
theorem td_T_init_1 : tz_dk prog_10_method_1_code 1 (.invokespecial 3) 3 4 := by decide +kernel
theorem td_T_init_4 : tz_dk prog_10_method_1_code 4 (.aload_n 0) 1 5 := by decide +kernel
theorem td_T_init_5 : tz_dk prog_10_method_1_code 5 (.iconst 4) 1 6 := by decide +kernel
theorem td_T_init_6 : tz_dk prog_10_method_1_code 6 (.anewarray 9) 3 9 := by decide +kernel
theorem td_T_init_9 : tz_dk prog_10_method_1_code 9 (.putfield 11) 3 12 := by decide +kernel
theorem td_T_init_12 : tz_dk prog_10_method_1_code 12 (.aload_n 0) 1 13 := by decide +kernel
theorem td_T_init_13 : tz_dk prog_10_method_1_code 13 (.new 17) 3 16 := by decide +kernel
theorem td_T_init_16 : tz_dk prog_10_method_1_code 16 (.dup) 1 17 := by decide +kernel
theorem td_T_init_17 : tz_dk prog_10_method_1_code 17 (.invokespecial 19) 3 20 := by decide +kernel
theorem td_T_init_20 : tz_dk prog_10_method_1_code 20 (.putfield 20) 3 23 := by decide +kernel
theorem td_T_init_23 : tz_dk prog_10_method_1_code 23 (.aload_n 0) 1 24 := by decide +kernel
theorem td_T_init_24 : tz_dk prog_10_method_1_code 24 (.bipush 6) 2 26 := by decide +kernel
theorem td_T_init_26 : tz_dk prog_10_method_1_code 26 (.newarray .int) 2 28 := by decide +kernel
theorem td_T_init_28 : tz_dk prog_10_method_1_code 28 (.putfield 24) 3 31 := by decide +kernel
theorem td_T_init_31 : tz_dk prog_10_method_1_code 31 (.aload_n 0) 1 32 := by decide +kernel
theorem td_T_init_32 : tz_dk prog_10_method_1_code 32 (.bipush 6) 2 34 := by decide +kernel
theorem td_T_init_34 : tz_dk prog_10_method_1_code 34 (.newarray .int) 2 36 := by decide +kernel
theorem td_T_init_36 : tz_dk prog_10_method_1_code 36 (.putfield 28) 3 39 := by decide +kernel
theorem td_T_init_39 : tz_dk prog_10_method_1_code 39 (.iconst 0) 1 40 := by decide +kernel
theorem td_T_init_40 : tz_dk prog_10_method_1_code 40 (.istore_n 1) 1 41 := by decide +kernel
theorem td_T_init_41 : tz_dk prog_10_method_1_code 41 (.iload_n 1) 1 42 := by decide +kernel
theorem td_T_init_42 : tz_dk prog_10_method_1_code 42 (.iconst 4) 1 43 := by decide +kernel
theorem td_T_init_43 : tz_dj prog_10_method_1_code 43 (.if_icmp .ge 22) (22) 46 65 := by decide +kernel
theorem td_T_init_46 : tz_dk prog_10_method_1_code 46 (.aload_n 0) 1 47 := by decide +kernel
theorem td_T_init_47 : tz_dk prog_10_method_1_code 47 (.getfield 11) 3 50 := by decide +kernel
theorem td_T_init_50 : tz_dk prog_10_method_1_code 50 (.iload_n 1) 1 51 := by decide +kernel
theorem td_T_init_51 : tz_dk prog_10_method_1_code 51 (.new 9) 3 54 := by decide +kernel
theorem td_T_init_54 : tz_dk prog_10_method_1_code 54 (.dup) 1 55 := by decide +kernel
theorem td_T_init_55 : tz_dk prog_10_method_1_code 55 (.invokespecial 31) 3 58 := by decide +kernel
theorem td_T_init_58 : tz_dk prog_10_method_1_code 58 (.aastore) 1 59 := by decide +kernel
theorem td_T_init_59 : tz_dk prog_10_method_1_code 59 (.iinc 1 1) 3 62 := by decide +kernel
theorem td_T_init_62 : tz_dj prog_10_method_1_code 62 (.goto (-21)) (-21) 65 41 := by decide +kernel
theorem td_T_init_65 : tz_dk prog_10_method_1_code 65 (.aload_n 0) 1 66 := by decide +kernel
theorem td_T_init_66 : tz_dk prog_10_method_1_code 66 (.getfield 28) 3 69 := by decide +kernel
theorem td_T_init_69 : tz_dk prog_10_method_1_code 69 (.iconst (-1)) 1 70 := by decide +kernel
theorem td_T_init_70 : tz_dk prog_10_method_1_code 70 (.invokestatic 32) 3 73 := by decide +kernel
theorem td_T_init_73 : tz_dk prog_10_method_1_code 73 (.return_) 1 74 := by decide +kernel
theorem td_S_init_0 : tz_dk prog_5_method_1_code 0 (.aload_n 0) 1 1 := by decide +kernel
theorem td_S_init_1 : tz_dk prog_5_method_1_code 1 (.invokespecial 3) 3 4 := by decide +kernel
theorem td_S_init_4 : tz_dk prog_5_method_1_code 4 (.aload_n 0) 1 5 := by decide +kernel
theorem td_S_init_5 : tz_dk prog_5_method_1_code 5 (.bipush 8) 2 7 := by decide +kernel
theorem td_S_init_7 : tz_dk prog_5_method_1_code 7 (.anewarray 9) 3 10 := by decide +kernel
theorem td_S_init_10 : tz_dk prog_5_method_1_code 10 (.putfield 11) 3 13 := by decide +kernel
theorem td_S_init_13 : tz_dk prog_5_method_1_code 13 (.aload_n 0) 1 14 := by decide +kernel
theorem td_S_init_14 : tz_dk prog_5_method_1_code 14 (.iconst 0) 1 15 := by decide +kernel
theorem td_S_init_15 : tz_dk prog_5_method_1_code 15 (.putfield 17) 3 18 := by decide +kernel
theorem td_S_init_18 : tz_dk prog_5_method_1_code 18 (.return_) 1 19 := by decide +kernel
theorem td_R_init_0 : tz_dk prog_7_method_1_code 0 (.aload_n 0) 1 1 := by decide +kernel
theorem td_R_init_1 : tz_dk prog_7_method_1_code 1 (.invokespecial 3) 3 4 := by decide +kernel
theorem td_R_init_4 : tz_dk prog_7_method_1_code 4 (.aload_n 0) 1 5 := by decide +kernel
theorem td_R_init_5 : tz_dk prog_7_method_1_code 5 (.bipush 120) 2 7 := by decide +kernel
theorem td_R_init_7 : tz_dk prog_7_method_1_code 7 (.newarray .int) 2 9 := by decide +kernel
theorem td_R_init_9 : tz_dk prog_7_method_1_code 9 (.putfield 9) 3 12 := by decide +kernel
theorem td_R_init_12 : tz_dk prog_7_method_1_code 12 (.aload_n 0) 1 13 := by decide +kernel
theorem td_R_init_13 : tz_dk prog_7_method_1_code 13 (.iconst 0) 1 14 := by decide +kernel
theorem td_R_init_14 : tz_dk prog_7_method_1_code 14 (.putfield 15) 3 17 := by decide +kernel
theorem td_R_init_17 : tz_dk prog_7_method_1_code 17 (.return_) 1 18 := by decide +kernel
theorem td_K_fill_0 : tz_dk prog_16_method_103_code 0 (.iconst 0) 1 1 := by decide +kernel
theorem td_K_fill_1 : tz_dk prog_16_method_103_code 1 (.istore_n 2) 1 2 := by decide +kernel
theorem td_K_fill_2 : tz_dk prog_16_method_103_code 2 (.aload_n 0) 1 3 := by decide +kernel
theorem td_K_fill_3 : tz_dk prog_16_method_103_code 3 (.arraylength) 1 4 := by decide +kernel
theorem td_K_fill_4 : tz_dk prog_16_method_103_code 4 (.istore_n 3) 1 5 := by decide +kernel
theorem td_K_fill_5 : tz_dk prog_16_method_103_code 5 (.iload_n 2) 1 6 := by decide +kernel
theorem td_K_fill_6 : tz_dk prog_16_method_103_code 6 (.iload_n 3) 1 7 := by decide +kernel
theorem td_K_fill_7 : tz_dj prog_16_method_103_code 7 (.if_icmp .ge 13) (13) 10 20 := by decide +kernel
theorem td_K_fill_10 : tz_dk prog_16_method_103_code 10 (.aload_n 0) 1 11 := by decide +kernel
theorem td_K_fill_11 : tz_dk prog_16_method_103_code 11 (.iload_n 2) 1 12 := by decide +kernel
theorem td_K_fill_12 : tz_dk prog_16_method_103_code 12 (.iload_n 1) 1 13 := by decide +kernel
theorem td_K_fill_13 : tz_dk prog_16_method_103_code 13 (.iastore) 1 14 := by decide +kernel
theorem td_K_fill_14 : tz_dk prog_16_method_103_code 14 (.iinc 2 1) 3 17 := by decide +kernel
theorem td_K_fill_17 : tz_dj prog_16_method_103_code 17 (.goto (-12)) (-12) 20 5 := by decide +kernel
theorem td_K_fill_20 : tz_dk prog_16_method_103_code 20 (.return_) 1 21 := by decide +kernel
theorem td_H_init_0 : tz_dk prog_3_method_1_code 0 (.aload_n 0) 1 1 := by decide +kernel
theorem td_H_init_1 : tz_dk prog_3_method_1_code 1 (.invokespecial 3) 3 4 := by decide +kernel
theorem td_H_init_4 : tz_dk prog_3_method_1_code 4 (.aload_n 0) 1 5 := by decide +kernel
theorem td_H_init_5 : tz_dk prog_3_method_1_code 5 (.bipush 20) 2 7 := by decide +kernel
theorem td_H_init_7 : tz_dk prog_3_method_1_code 7 (.anewarray 9) 3 10 := by decide +kernel
theorem td_H_init_10 : tz_dk prog_3_method_1_code 10 (.putfield 11) 3 13 := by decide +kernel
theorem td_H_init_13 : tz_dk prog_3_method_1_code 13 (.aload_n 0) 1 14 := by decide +kernel
theorem td_H_init_14 : tz_dk prog_3_method_1_code 14 (.iconst 0) 1 15 := by decide +kernel
theorem td_H_init_15 : tz_dk prog_3_method_1_code 15 (.putfield 17) 3 18 := by decide +kernel
theorem td_H_init_18 : tz_dk prog_3_method_1_code 18 (.aload_n 0) 1 19 := by decide +kernel
theorem td_H_init_19 : tz_dk prog_3_method_1_code 19 (.iconst 0) 1 20 := by decide +kernel
theorem td_H_init_20 : tz_dk prog_3_method_1_code 20 (.putfield 21) 3 23 := by decide +kernel
theorem td_H_init_23 : tz_dk prog_3_method_1_code 23 (.iconst 0) 1 24 := by decide +kernel
theorem td_H_init_24 : tz_dk prog_3_method_1_code 24 (.istore_n 1) 1 25 := by decide +kernel
theorem td_H_init_25 : tz_dk prog_3_method_1_code 25 (.iload_n 1) 1 26 := by decide +kernel
theorem td_H_init_26 : tz_dk prog_3_method_1_code 26 (.bipush 20) 2 28 := by decide +kernel
theorem td_H_init_28 : tz_dj prog_3_method_1_code 28 (.if_icmp .ge 22) (22) 31 50 := by decide +kernel
theorem td_H_init_31 : tz_dk prog_3_method_1_code 31 (.aload_n 0) 1 32 := by decide +kernel
theorem td_H_init_32 : tz_dk prog_3_method_1_code 32 (.getfield 11) 3 35 := by decide +kernel
theorem td_H_init_35 : tz_dk prog_3_method_1_code 35 (.iload_n 1) 1 36 := by decide +kernel
theorem td_H_init_36 : tz_dk prog_3_method_1_code 36 (.new 9) 3 39 := by decide +kernel
theorem td_H_init_39 : tz_dk prog_3_method_1_code 39 (.dup) 1 40 := by decide +kernel
theorem td_H_init_40 : tz_dk prog_3_method_1_code 40 (.invokespecial 24) 3 43 := by decide +kernel
theorem td_H_init_43 : tz_dk prog_3_method_1_code 43 (.aastore) 1 44 := by decide +kernel
theorem td_H_init_44 : tz_dk prog_3_method_1_code 44 (.iinc 1 1) 3 47 := by decide +kernel
theorem td_H_init_47 : tz_dj prog_3_method_1_code 47 (.goto (-22)) (-22) 50 25 := by decide +kernel
theorem td_H_init_50 : tz_dk prog_3_method_1_code 50 (.return_) 1 51 := by decide +kernel
theorem td_E_init_0 : tz_dk prog_9_method_1_code 0 (.aload_n 0) 1 1 := by decide +kernel
theorem td_E_init_1 : tz_dk prog_9_method_1_code 1 (.invokespecial 3) 3 4 := by decide +kernel
theorem td_E_init_4 : tz_dk prog_9_method_1_code 4 (.aload_n 0) 1 5 := by decide +kernel
theorem td_E_init_5 : tz_dk prog_9_method_1_code 5 (.new 9) 3 8 := by decide +kernel
theorem td_E_init_8 : tz_dk prog_9_method_1_code 8 (.dup) 1 9 := by decide +kernel
theorem td_E_init_9 : tz_dk prog_9_method_1_code 9 (.invokespecial 11) 3 12 := by decide +kernel
theorem td_E_init_12 : tz_dk prog_9_method_1_code 12 (.putfield 12) 3 15 := by decide +kernel
theorem td_E_init_15 : tz_dk prog_9_method_1_code 15 (.aload_n 0) 1 16 := by decide +kernel
theorem td_E_init_16 : tz_dk prog_9_method_1_code 16 (.new 18) 3 19 := by decide +kernel
theorem td_E_init_19 : tz_dk prog_9_method_1_code 19 (.dup) 1 20 := by decide +kernel
theorem td_E_init_20 : tz_dk prog_9_method_1_code 20 (.invokespecial 20) 3 23 := by decide +kernel
theorem td_E_init_23 : tz_dk prog_9_method_1_code 23 (.putfield 21) 3 26 := by decide +kernel
theorem td_E_init_26 : tz_dk prog_9_method_1_code 26 (.aload_n 0) 1 27 := by decide +kernel
theorem td_E_init_27 : tz_dk prog_9_method_1_code 27 (.bipush 6) 2 29 := by decide +kernel
theorem td_E_init_29 : tz_dk prog_9_method_1_code 29 (.newarray .int) 2 31 := by decide +kernel
theorem td_E_init_31 : tz_dk prog_9_method_1_code 31 (.putfield 25) 3 34 := by decide +kernel
theorem td_E_init_34 : tz_dk prog_9_method_1_code 34 (.aload_n 0) 1 35 := by decide +kernel
theorem td_E_init_35 : tz_dk prog_9_method_1_code 35 (.bipush 6) 2 37 := by decide +kernel
theorem td_E_init_37 : tz_dk prog_9_method_1_code 37 (.newarray .int) 2 39 := by decide +kernel
theorem td_E_init_39 : tz_dk prog_9_method_1_code 39 (.putfield 29) 3 42 := by decide +kernel
theorem td_E_init_42 : tz_dk prog_9_method_1_code 42 (.aload_n 0) 1 43 := by decide +kernel
theorem td_E_init_43 : tz_dk prog_9_method_1_code 43 (.iconst (-1)) 1 44 := by decide +kernel
theorem td_E_init_44 : tz_dk prog_9_method_1_code 44 (.putfield 32) 3 47 := by decide +kernel
theorem td_E_init_47 : tz_dk prog_9_method_1_code 47 (.return_) 1 48 := by decide +kernel
theorem td_Q_init_0 : tz_dk prog_8_method_1_code 0 (.aload_n 0) 1 1 := by decide +kernel
theorem td_Q_init_1 : tz_dk prog_8_method_1_code 1 (.invokespecial 3) 3 4 := by decide +kernel
theorem td_Q_init_4 : tz_dk prog_8_method_1_code 4 (.aload_n 0) 1 5 := by decide +kernel
theorem td_Q_init_5 : tz_dk prog_8_method_1_code 5 (.bipush 120) 2 7 := by decide +kernel
theorem td_Q_init_7 : tz_dk prog_8_method_1_code 7 (.newarray .int) 2 9 := by decide +kernel
theorem td_Q_init_9 : tz_dk prog_8_method_1_code 9 (.putfield 9) 3 12 := by decide +kernel
theorem td_Q_init_12 : tz_dk prog_8_method_1_code 12 (.aload_n 0) 1 13 := by decide +kernel
theorem td_Q_init_13 : tz_dk prog_8_method_1_code 13 (.iconst 0) 1 14 := by decide +kernel
theorem td_Q_init_14 : tz_dk prog_8_method_1_code 14 (.putfield 15) 3 17 := by decide +kernel
theorem td_Q_init_17 : tz_dk prog_8_method_1_code 17 (.aload_n 0) 1 18 := by decide +kernel
theorem td_Q_init_18 : tz_dk prog_8_method_1_code 18 (.iconst 0) 1 19 := by decide +kernel
theorem td_Q_init_19 : tz_dk prog_8_method_1_code 19 (.putfield 19) 3 22 := by decide +kernel
theorem td_Q_init_22 : tz_dk prog_8_method_1_code 22 (.return_) 1 23 := by decide +kernel
theorem td_U_init_0 : tz_dk prog_11_method_1_code 0 (.aload_n 0) 1 1 := by decide +kernel
theorem td_U_init_1 : tz_dk prog_11_method_1_code 1 (.invokespecial 3) 3 4 := by decide +kernel
theorem td_U_init_4 : tz_dk prog_11_method_1_code 4 (.aload_n 0) 1 5 := by decide +kernel
theorem td_U_init_5 : tz_dk prog_11_method_1_code 5 (.bipush 120) 2 7 := by decide +kernel
theorem td_U_init_7 : tz_dk prog_11_method_1_code 7 (.newarray .int) 2 9 := by decide +kernel
theorem td_U_init_9 : tz_dk prog_11_method_1_code 9 (.putfield 9) 3 12 := by decide +kernel
theorem td_U_init_12 : tz_dk prog_11_method_1_code 12 (.aload_n 0) 1 13 := by decide +kernel
theorem td_U_init_13 : tz_dk prog_11_method_1_code 13 (.iconst 0) 1 14 := by decide +kernel
theorem td_U_init_14 : tz_dk prog_11_method_1_code 14 (.putfield 15) 3 17 := by decide +kernel
theorem td_U_init_17 : tz_dk prog_11_method_1_code 17 (.return_) 1 18 := by decide +kernel
theorem td_A_init_0 : tz_dk prog_2_method_1_code 0 (.aload_n 0) 1 1 := by decide +kernel
theorem td_A_init_1 : tz_dk prog_2_method_1_code 1 (.invokespecial 3) 3 4 := by decide +kernel
theorem td_A_init_4 : tz_dk prog_2_method_1_code 4 (.aload_n 0) 1 5 := by decide +kernel
theorem td_A_init_5 : tz_dk prog_2_method_1_code 5 (.iconst 0) 1 6 := by decide +kernel
theorem td_A_init_6 : tz_dk prog_2_method_1_code 6 (.putfield 9) 3 9 := by decide +kernel
theorem td_A_init_9 : tz_dk prog_2_method_1_code 9 (.aload_n 0) 1 10 := by decide +kernel
theorem td_A_init_10 : tz_dk prog_2_method_1_code 10 (.iconst 0) 1 11 := by decide +kernel
theorem td_A_init_11 : tz_dk prog_2_method_1_code 11 (.putfield 15) 3 14 := by decide +kernel
theorem td_A_init_14 : tz_dk prog_2_method_1_code 14 (.return_) 1 15 := by decide +kernel
theorem td_P_init_0 : tz_dk prog_6_method_1_code 0 (.aload_n 0) 1 1 := by decide +kernel
theorem td_P_init_1 : tz_dk prog_6_method_1_code 1 (.invokespecial 3) 3 4 := by decide +kernel
theorem td_P_init_4 : tz_dk prog_6_method_1_code 4 (.aload_n 0) 1 5 := by decide +kernel
theorem td_P_init_5 : tz_dk prog_6_method_1_code 5 (.new 9) 3 8 := by decide +kernel
theorem td_P_init_8 : tz_dk prog_6_method_1_code 8 (.dup) 1 9 := by decide +kernel
theorem td_P_init_9 : tz_dk prog_6_method_1_code 9 (.invokespecial 11) 3 12 := by decide +kernel
theorem td_P_init_12 : tz_dk prog_6_method_1_code 12 (.putfield 12) 3 15 := by decide +kernel
theorem td_P_init_15 : tz_dk prog_6_method_1_code 15 (.aload_n 0) 1 16 := by decide +kernel
theorem td_P_init_16 : tz_dk prog_6_method_1_code 16 (.new 18) 3 19 := by decide +kernel
theorem td_P_init_19 : tz_dk prog_6_method_1_code 19 (.dup) 1 20 := by decide +kernel
theorem td_P_init_20 : tz_dk prog_6_method_1_code 20 (.invokespecial 20) 3 23 := by decide +kernel
theorem td_P_init_23 : tz_dk prog_6_method_1_code 23 (.putfield 21) 3 26 := by decide +kernel
theorem td_P_init_26 : tz_dk prog_6_method_1_code 26 (.aload_n 0) 1 27 := by decide +kernel
theorem td_P_init_27 : tz_dk prog_6_method_1_code 27 (.new 25) 3 30 := by decide +kernel
theorem td_P_init_30 : tz_dk prog_6_method_1_code 30 (.dup) 1 31 := by decide +kernel
theorem td_P_init_31 : tz_dk prog_6_method_1_code 31 (.invokespecial 27) 3 34 := by decide +kernel
theorem td_P_init_34 : tz_dk prog_6_method_1_code 34 (.putfield 28) 3 37 := by decide +kernel
theorem td_P_init_37 : tz_dk prog_6_method_1_code 37 (.aload_n 0) 1 38 := by decide +kernel
theorem td_P_init_38 : tz_dk prog_6_method_1_code 38 (.new 25) 3 41 := by decide +kernel
theorem td_P_init_41 : tz_dk prog_6_method_1_code 41 (.dup) 1 42 := by decide +kernel
theorem td_P_init_42 : tz_dk prog_6_method_1_code 42 (.invokespecial 27) 3 45 := by decide +kernel
theorem td_P_init_45 : tz_dk prog_6_method_1_code 45 (.putfield 32) 3 48 := by decide +kernel
theorem td_P_init_48 : tz_dk prog_6_method_1_code 48 (.aload_n 0) 1 49 := by decide +kernel
theorem td_P_init_49 : tz_dk prog_6_method_1_code 49 (.iconst (-1)) 1 50 := by decide +kernel
theorem td_P_init_50 : tz_dk prog_6_method_1_code 50 (.putfield 35) 3 53 := by decide +kernel
theorem td_P_init_53 : tz_dk prog_6_method_1_code 53 (.return_) 1 54 := by decide +kernel
theorem td_X_pass_0 : tz_dk prog_1_method_2_code 0 (.aload_n 0) 1 1 := by decide +kernel
theorem td_X_pass_1 : tz_dk prog_1_method_2_code 1 (.getfield 10) 3 4 := by decide +kernel
theorem td_X_pass_4 : tz_dk prog_1_method_2_code 4 (.iload_n 1) 1 5 := by decide +kernel
theorem td_X_pass_5 : tz_dk prog_1_method_2_code 5 (.invokevirtual 62) 3 8 := by decide +kernel
theorem td_X_pass_8 : tz_dk prog_1_method_2_code 8 (.astore_n 3) 1 9 := by decide +kernel
theorem td_X_pass_9 : tz_dk prog_1_method_2_code 9 (.aload_n 3) 1 10 := by decide +kernel
theorem td_X_pass_10 : tz_dj prog_1_method_2_code 10 (.ifnull 13) (13) 13 23 := by decide +kernel
theorem td_X_pass_13 : tz_dk prog_1_method_2_code 13 (.iload_n 2) 1 14 := by decide +kernel
theorem td_X_pass_14 : tz_dj prog_1_method_2_code 14 (.ifCond .lt 9) (9) 17 23 := by decide +kernel
theorem td_X_pass_17 : tz_dk prog_1_method_2_code 17 (.iload_n 2) 1 18 := by decide +kernel
theorem td_X_pass_18 : tz_dk prog_1_method_2_code 18 (.bipush 120) 2 20 := by decide +kernel
theorem td_X_pass_20 : tz_dj prog_1_method_2_code 20 (.if_icmp .le 10) (10) 23 30 := by decide +kernel
theorem td_X_pass_23 : tz_dk prog_1_method_2_code 23 (.aload_n 0) 1 24 := by decide +kernel
theorem td_X_pass_24 : tz_dk prog_1_method_2_code 24 (.ldc 66) 2 26 := by decide +kernel
theorem td_X_pass_26 : tz_dk prog_1_method_2_code 26 (.invokevirtual 67) 3 29 := by decide +kernel
theorem td_X_pass_29 : tz_dk prog_1_method_2_code 29 (.ireturn) 1 30 := by decide +kernel
theorem td_X_pass_30 : tz_dk prog_1_method_2_code 30 (.aload_n 0) 1 31 := by decide +kernel
theorem td_X_pass_31 : tz_dk prog_1_method_2_code 31 (.getfield 19) 3 34 := by decide +kernel
theorem td_X_pass_34 : tz_dk prog_1_method_2_code 34 (.aload_n 0) 1 35 := by decide +kernel
theorem td_X_pass_35 : tz_dk prog_1_method_2_code 35 (.getfield 10) 3 38 := by decide +kernel
theorem td_X_pass_38 : tz_dk prog_1_method_2_code 38 (.iload_n 1) 1 39 := by decide +kernel
theorem td_X_pass_39 : tz_dk prog_1_method_2_code 39 (.invokevirtual 71) 3 42 := by decide +kernel
theorem td_X_pass_42 : tz_dk prog_1_method_2_code 42 (.aload_n 3) 1 43 := by decide +kernel
theorem td_X_pass_43 : tz_dk prog_1_method_2_code 43 (.invokevirtual 75) 3 46 := by decide +kernel
theorem td_X_pass_46 : tz_dk prog_1_method_2_code 46 (.istore 4) 2 48 := by decide +kernel
theorem td_X_pass_48 : tz_dk prog_1_method_2_code 48 (.aload_n 3) 1 49 := by decide +kernel
theorem td_X_pass_49 : tz_dk prog_1_method_2_code 49 (.iload_n 2) 1 50 := by decide +kernel
theorem td_X_pass_50 : tz_dk prog_1_method_2_code 50 (.invokevirtual 79) 3 53 := by decide +kernel
theorem td_X_pass_53 : tz_dk prog_1_method_2_code 53 (.iload 4) 2 55 := by decide +kernel
theorem td_X_pass_55 : tz_dk prog_1_method_2_code 55 (.ireturn) 1 56 := by decide +kernel
theorem td_T_rowAt_0 : tz_dk prog_10_method_2_code 0 (.iload_n 1) 1 1 := by decide +kernel
theorem td_T_rowAt_1 : tz_dj prog_10_method_2_code 1 (.ifCond .lt 21) (21) 4 22 := by decide +kernel
theorem td_T_rowAt_4 : tz_dk prog_10_method_2_code 4 (.iload_n 1) 1 5 := by decide +kernel
theorem td_T_rowAt_5 : tz_dk prog_10_method_2_code 5 (.aload_n 0) 1 6 := by decide +kernel
theorem td_T_rowAt_6 : tz_dk prog_10_method_2_code 6 (.getfield 11) 3 9 := by decide +kernel
theorem td_T_rowAt_9 : tz_dk prog_10_method_2_code 9 (.arraylength) 1 10 := by decide +kernel
theorem td_T_rowAt_10 : tz_dj prog_10_method_2_code 10 (.if_icmp .ge 12) (12) 13 22 := by decide +kernel
theorem td_T_rowAt_13 : tz_dk prog_10_method_2_code 13 (.aload_n 0) 1 14 := by decide +kernel
theorem td_T_rowAt_14 : tz_dk prog_10_method_2_code 14 (.getfield 11) 3 17 := by decide +kernel
theorem td_T_rowAt_17 : tz_dk prog_10_method_2_code 17 (.iload_n 1) 1 18 := by decide +kernel
theorem td_T_rowAt_18 : tz_dk prog_10_method_2_code 18 (.aaload) 1 19 := by decide +kernel
theorem td_T_rowAt_19 : tz_dj prog_10_method_2_code 19 (.goto 4) (4) 22 23 := by decide +kernel
theorem td_T_rowAt_22 : tz_dk prog_10_method_2_code 22 (.aconst_null) 1 23 := by decide +kernel
theorem td_T_rowAt_23 : tz_dk prog_10_method_2_code 23 (.areturn) 1 24 := by decide +kernel
theorem td_X_answer_0 : tz_dk prog_1_method_31_code 0 (.iload_n 1) 1 1 := by decide +kernel
theorem td_X_answer_1 : tz_dk prog_1_method_31_code 1 (.ldc_w 268) 3 4 := by decide +kernel
theorem td_X_answer_4 : tz_dj prog_1_method_31_code 4 (.if_icmp .gt 13) (13) 7 17 := by decide +kernel
theorem td_X_answer_7 : tz_dk prog_1_method_31_code 7 (.aload_n 0) 1 8 := by decide +kernel
theorem td_X_answer_8 : tz_dk prog_1_method_31_code 8 (.dup) 1 9 := by decide +kernel
theorem td_X_answer_9 : tz_dk prog_1_method_31_code 9 (.getfield 58) 3 12 := by decide +kernel
theorem td_X_answer_12 : tz_dk prog_1_method_31_code 12 (.iconst 1) 1 13 := by decide +kernel
theorem td_X_answer_13 : tz_dk prog_1_method_31_code 13 (.iadd) 1 14 := by decide +kernel
theorem td_X_answer_14 : tz_dk prog_1_method_31_code 14 (.putfield 58) 3 17 := by decide +kernel
theorem td_X_answer_17 : tz_dk prog_1_method_31_code 17 (.iload_n 1) 1 18 := by decide +kernel
theorem td_X_answer_18 : tz_dk prog_1_method_31_code 18 (.ireturn) 1 19 := by decide +kernel
theorem td_H_keep_0 : tz_dk prog_3_method_2_code 0 (.aload_n 0) 1 1 := by decide +kernel
theorem td_H_keep_1 : tz_dk prog_3_method_2_code 1 (.aload_n 0) 1 2 := by decide +kernel
theorem td_H_keep_2 : tz_dk prog_3_method_2_code 2 (.getfield 17) 3 5 := by decide +kernel
theorem td_H_keep_5 : tz_dk prog_3_method_2_code 5 (.invokevirtual 25) 3 8 := by decide +kernel
theorem td_H_keep_8 : tz_dk prog_3_method_2_code 8 (.astore_n 3) 1 9 := by decide +kernel
theorem td_H_keep_9 : tz_dk prog_3_method_2_code 9 (.aload_n 3) 1 10 := by decide +kernel
theorem td_H_keep_10 : tz_dj prog_3_method_2_code 10 (.ifnonnull 4) (4) 13 14 := by decide +kernel
theorem td_H_keep_13 : tz_dk prog_3_method_2_code 13 (.return_) 1 14 := by decide +kernel
theorem td_H_keep_14 : tz_dk prog_3_method_2_code 14 (.aload_n 3) 1 15 := by decide +kernel
theorem td_H_keep_15 : tz_dk prog_3_method_2_code 15 (.aload_n 1) 1 16 := by decide +kernel
theorem td_H_keep_16 : tz_dk prog_3_method_2_code 16 (.iload_n 2) 1 17 := by decide +kernel
theorem td_H_keep_17 : tz_dk prog_3_method_2_code 17 (.invokevirtual 29) 3 20 := by decide +kernel
theorem td_H_keep_20 : tz_dk prog_3_method_2_code 20 (.aload_n 0) 1 21 := by decide +kernel
theorem td_H_keep_21 : tz_dk prog_3_method_2_code 21 (.aload_n 0) 1 22 := by decide +kernel
theorem td_H_keep_22 : tz_dk prog_3_method_2_code 22 (.getfield 17) 3 25 := by decide +kernel
theorem td_H_keep_25 : tz_dk prog_3_method_2_code 25 (.iconst 1) 1 26 := by decide +kernel
theorem td_H_keep_26 : tz_dk prog_3_method_2_code 26 (.iadd) 1 27 := by decide +kernel
theorem td_H_keep_27 : tz_dk prog_3_method_2_code 27 (.bipush 20) 2 29 := by decide +kernel
theorem td_H_keep_29 : tz_dk prog_3_method_2_code 29 (.irem) 1 30 := by decide +kernel
theorem td_H_keep_30 : tz_dk prog_3_method_2_code 30 (.putfield 17) 3 33 := by decide +kernel
theorem td_H_keep_33 : tz_dk prog_3_method_2_code 33 (.aload_n 0) 1 34 := by decide +kernel
theorem td_H_keep_34 : tz_dk prog_3_method_2_code 34 (.aload_n 0) 1 35 := by decide +kernel
theorem td_H_keep_35 : tz_dk prog_3_method_2_code 35 (.getfield 21) 3 38 := by decide +kernel
theorem td_H_keep_38 : tz_dk prog_3_method_2_code 38 (.iconst 1) 1 39 := by decide +kernel
theorem td_H_keep_39 : tz_dk prog_3_method_2_code 39 (.iadd) 1 40 := by decide +kernel
theorem td_H_keep_40 : tz_dk prog_3_method_2_code 40 (.bipush 20) 2 42 := by decide +kernel
theorem td_H_keep_42 : tz_dk prog_3_method_2_code 42 (.invokestatic 33) 3 45 := by decide +kernel
theorem td_H_keep_45 : tz_dk prog_3_method_2_code 45 (.putfield 21) 3 48 := by decide +kernel
theorem td_H_keep_48 : tz_dk prog_3_method_2_code 48 (.return_) 1 49 := by decide +kernel
theorem td_H_stepAt_0 : tz_dk prog_3_method_4_code 0 (.iload_n 1) 1 1 := by decide +kernel
theorem td_H_stepAt_1 : tz_dj prog_3_method_4_code 1 (.ifCond .lt 21) (21) 4 22 := by decide +kernel
theorem td_H_stepAt_4 : tz_dk prog_3_method_4_code 4 (.iload_n 1) 1 5 := by decide +kernel
theorem td_H_stepAt_5 : tz_dk prog_3_method_4_code 5 (.aload_n 0) 1 6 := by decide +kernel
theorem td_H_stepAt_6 : tz_dk prog_3_method_4_code 6 (.getfield 11) 3 9 := by decide +kernel
theorem td_H_stepAt_9 : tz_dk prog_3_method_4_code 9 (.arraylength) 1 10 := by decide +kernel
theorem td_H_stepAt_10 : tz_dj prog_3_method_4_code 10 (.if_icmp .ge 12) (12) 13 22 := by decide +kernel
theorem td_H_stepAt_13 : tz_dk prog_3_method_4_code 13 (.aload_n 0) 1 14 := by decide +kernel
theorem td_H_stepAt_14 : tz_dk prog_3_method_4_code 14 (.getfield 11) 3 17 := by decide +kernel
theorem td_H_stepAt_17 : tz_dk prog_3_method_4_code 17 (.iload_n 1) 1 18 := by decide +kernel
theorem td_H_stepAt_18 : tz_dk prog_3_method_4_code 18 (.aaload) 1 19 := by decide +kernel
theorem td_H_stepAt_19 : tz_dj prog_3_method_4_code 19 (.goto 4) (4) 22 23 := by decide +kernel
theorem td_H_stepAt_22 : tz_dk prog_3_method_4_code 22 (.aconst_null) 1 23 := by decide +kernel
theorem td_H_stepAt_23 : tz_dk prog_3_method_4_code 23 (.areturn) 1 24 := by decide +kernel
theorem td_E_keep_0 : tz_dk prog_9_method_2_code 0 (.aload_n 0) 1 1 := by decide +kernel
theorem td_E_keep_1 : tz_dk prog_9_method_2_code 1 (.iload_n 2) 1 2 := by decide +kernel
theorem td_E_keep_2 : tz_dk prog_9_method_2_code 2 (.putfield 32) 3 5 := by decide +kernel
theorem td_E_keep_5 : tz_dk prog_9_method_2_code 5 (.aload_n 1) 1 6 := by decide +kernel
theorem td_E_keep_6 : tz_dk prog_9_method_2_code 6 (.aload_n 0) 1 7 := by decide +kernel
theorem td_E_keep_7 : tz_dk prog_9_method_2_code 7 (.getfield 32) 3 10 := by decide +kernel
theorem td_E_keep_10 : tz_dk prog_9_method_2_code 10 (.invokevirtual 36) 3 13 := by decide +kernel
theorem td_E_keep_13 : tz_dk prog_9_method_2_code 13 (.astore_n 3) 1 14 := by decide +kernel
theorem td_E_keep_14 : tz_dk prog_9_method_2_code 14 (.aload_n 3) 1 15 := by decide +kernel
theorem td_E_keep_15 : tz_dj prog_9_method_2_code 15 (.ifnull 11) (11) 18 26 := by decide +kernel
theorem td_E_keep_18 : tz_dk prog_9_method_2_code 18 (.aload_n 0) 1 19 := by decide +kernel
theorem td_E_keep_19 : tz_dk prog_9_method_2_code 19 (.getfield 12) 3 22 := by decide +kernel
theorem td_E_keep_22 : tz_dk prog_9_method_2_code 22 (.aload_n 3) 1 23 := by decide +kernel
theorem td_E_keep_23 : tz_dk prog_9_method_2_code 23 (.invokevirtual 42) 3 26 := by decide +kernel
theorem td_E_keep_26 : tz_dk prog_9_method_2_code 26 (.aload_n 0) 1 27 := by decide +kernel
theorem td_E_keep_27 : tz_dk prog_9_method_2_code 27 (.getfield 21) 3 30 := by decide +kernel
theorem td_E_keep_30 : tz_dk prog_9_method_2_code 30 (.aload_n 1) 1 31 := by decide +kernel
theorem td_E_keep_31 : tz_dk prog_9_method_2_code 31 (.getfield 46) 3 34 := by decide +kernel
theorem td_E_keep_34 : tz_dk prog_9_method_2_code 34 (.invokevirtual 47) 3 37 := by decide +kernel
theorem td_E_keep_37 : tz_dk prog_9_method_2_code 37 (.aload_n 1) 1 38 := by decide +kernel
theorem td_E_keep_38 : tz_dk prog_9_method_2_code 38 (.getfield 50) 3 41 := by decide +kernel
theorem td_E_keep_41 : tz_dk prog_9_method_2_code 41 (.iconst 0) 1 42 := by decide +kernel
theorem td_E_keep_42 : tz_dk prog_9_method_2_code 42 (.aload_n 0) 1 43 := by decide +kernel
theorem td_E_keep_43 : tz_dk prog_9_method_2_code 43 (.getfield 25) 3 46 := by decide +kernel
theorem td_E_keep_46 : tz_dk prog_9_method_2_code 46 (.iconst 0) 1 47 := by decide +kernel
theorem td_E_keep_47 : tz_dk prog_9_method_2_code 47 (.bipush 6) 2 49 := by decide +kernel
theorem td_E_keep_49 : tz_dk prog_9_method_2_code 49 (.invokestatic 51) 3 52 := by decide +kernel
theorem td_E_keep_52 : tz_dk prog_9_method_2_code 52 (.aload_n 1) 1 53 := by decide +kernel
theorem td_E_keep_53 : tz_dk prog_9_method_2_code 53 (.getfield 57) 3 56 := by decide +kernel
theorem td_E_keep_56 : tz_dk prog_9_method_2_code 56 (.iconst 0) 1 57 := by decide +kernel
theorem td_E_keep_57 : tz_dk prog_9_method_2_code 57 (.aload_n 0) 1 58 := by decide +kernel
theorem td_E_keep_58 : tz_dk prog_9_method_2_code 58 (.getfield 29) 3 61 := by decide +kernel
theorem td_E_keep_61 : tz_dk prog_9_method_2_code 61 (.iconst 0) 1 62 := by decide +kernel
theorem td_E_keep_62 : tz_dk prog_9_method_2_code 62 (.bipush 6) 2 64 := by decide +kernel
theorem td_E_keep_64 : tz_dk prog_9_method_2_code 64 (.invokestatic 51) 3 67 := by decide +kernel
theorem td_E_keep_67 : tz_dk prog_9_method_2_code 67 (.return_) 1 68 := by decide +kernel
theorem td_R_become_0 : tz_dk prog_7_method_9_code 0 (.aload_n 0) 1 1 := by decide +kernel
theorem td_R_become_1 : tz_dk prog_7_method_9_code 1 (.aload_n 1) 1 2 := by decide +kernel
theorem td_R_become_2 : tz_dk prog_7_method_9_code 2 (.getfield 15) 3 5 := by decide +kernel
theorem td_R_become_5 : tz_dk prog_7_method_9_code 5 (.putfield 15) 3 8 := by decide +kernel
theorem td_R_become_8 : tz_dk prog_7_method_9_code 8 (.aload_n 1) 1 9 := by decide +kernel
theorem td_R_become_9 : tz_dk prog_7_method_9_code 9 (.getfield 9) 3 12 := by decide +kernel
theorem td_R_become_12 : tz_dk prog_7_method_9_code 12 (.iconst 0) 1 13 := by decide +kernel
theorem td_R_become_13 : tz_dk prog_7_method_9_code 13 (.aload_n 0) 1 14 := by decide +kernel
theorem td_R_become_14 : tz_dk prog_7_method_9_code 14 (.getfield 9) 3 17 := by decide +kernel
theorem td_R_become_17 : tz_dk prog_7_method_9_code 17 (.iconst 0) 1 18 := by decide +kernel
theorem td_R_become_18 : tz_dk prog_7_method_9_code 18 (.aload_n 0) 1 19 := by decide +kernel
theorem td_R_become_19 : tz_dk prog_7_method_9_code 19 (.getfield 9) 3 22 := by decide +kernel
theorem td_R_become_22 : tz_dk prog_7_method_9_code 22 (.arraylength) 1 23 := by decide +kernel
theorem td_R_become_23 : tz_dk prog_7_method_9_code 23 (.invokestatic 39) 3 26 := by decide +kernel
theorem td_R_become_26 : tz_dk prog_7_method_9_code 26 (.return_) 1 27 := by decide +kernel
theorem td_S_become_0 : tz_dk prog_5_method_8_code 0 (.aload_n 0) 1 1 := by decide +kernel
theorem td_S_become_1 : tz_dk prog_5_method_8_code 1 (.aload_n 1) 1 2 := by decide +kernel
theorem td_S_become_2 : tz_dk prog_5_method_8_code 2 (.getfield 17) 3 5 := by decide +kernel
theorem td_S_become_5 : tz_dk prog_5_method_8_code 5 (.putfield 17) 3 8 := by decide +kernel
theorem td_S_become_8 : tz_dk prog_5_method_8_code 8 (.iconst 0) 1 9 := by decide +kernel
theorem td_S_become_9 : tz_dk prog_5_method_8_code 9 (.istore_n 2) 1 10 := by decide +kernel
theorem td_S_become_10 : tz_dk prog_5_method_8_code 10 (.iload_n 2) 1 11 := by decide +kernel
theorem td_S_become_11 : tz_dk prog_5_method_8_code 11 (.aload_n 0) 1 12 := by decide +kernel
theorem td_S_become_12 : tz_dk prog_5_method_8_code 12 (.getfield 11) 3 15 := by decide +kernel
theorem td_S_become_15 : tz_dk prog_5_method_8_code 15 (.arraylength) 1 16 := by decide +kernel
theorem td_S_become_16 : tz_dj prog_5_method_8_code 16 (.if_icmp .ge 21) (21) 19 37 := by decide +kernel
theorem td_S_become_19 : tz_dk prog_5_method_8_code 19 (.aload_n 0) 1 20 := by decide +kernel
theorem td_S_become_20 : tz_dk prog_5_method_8_code 20 (.getfield 11) 3 23 := by decide +kernel
theorem td_S_become_23 : tz_dk prog_5_method_8_code 23 (.iload_n 2) 1 24 := by decide +kernel
theorem td_S_become_24 : tz_dk prog_5_method_8_code 24 (.aload_n 1) 1 25 := by decide +kernel
theorem td_S_become_25 : tz_dk prog_5_method_8_code 25 (.getfield 11) 3 28 := by decide +kernel
theorem td_S_become_28 : tz_dk prog_5_method_8_code 28 (.iload_n 2) 1 29 := by decide +kernel
theorem td_S_become_29 : tz_dk prog_5_method_8_code 29 (.aaload) 1 30 := by decide +kernel
theorem td_S_become_30 : tz_dk prog_5_method_8_code 30 (.aastore) 1 31 := by decide +kernel
theorem td_S_become_31 : tz_dk prog_5_method_8_code 31 (.iinc 2 1) 3 34 := by decide +kernel
theorem td_S_become_34 : tz_dj prog_5_method_8_code 34 (.goto (-24)) (-24) 37 10 := by decide +kernel
theorem td_S_become_37 : tz_dk prog_5_method_8_code 37 (.return_) 1 38 := by decide +kernel
theorem td_J_min_0 : tz_dk prog_14_method_69_code 0 (.iload_n 0) 1 1 := by decide +kernel
theorem td_J_min_1 : tz_dk prog_14_method_69_code 1 (.iload_n 1) 1 2 := by decide +kernel
theorem td_J_min_2 : tz_dj prog_14_method_69_code 2 (.if_icmp .gt 7) (7) 5 9 := by decide +kernel
theorem td_J_min_5 : tz_dk prog_14_method_69_code 5 (.iload_n 0) 1 6 := by decide +kernel
theorem td_J_min_6 : tz_dj prog_14_method_69_code 6 (.goto 4) (4) 9 10 := by decide +kernel
theorem td_J_min_9 : tz_dk prog_14_method_69_code 9 (.iload_n 1) 1 10 := by decide +kernel
theorem td_J_min_10 : tz_dk prog_14_method_69_code 10 (.ireturn) 1 11 := by decide +kernel
theorem td_R_length_0 : tz_dk prog_7_method_2_code 0 (.aload_n 0) 1 1 := by decide +kernel
theorem td_R_length_1 : tz_dk prog_7_method_2_code 1 (.getfield 15) 3 4 := by decide +kernel
theorem td_R_length_4 : tz_dk prog_7_method_2_code 4 (.ireturn) 1 5 := by decide +kernel
theorem td_R_restart_0 : tz_dk prog_7_method_8_code 0 (.aload_n 0) 1 1 := by decide +kernel
theorem td_R_restart_1 : tz_dk prog_7_method_8_code 1 (.getfield 9) 3 4 := by decide +kernel
theorem td_R_restart_4 : tz_dk prog_7_method_8_code 4 (.iconst 0) 1 5 := by decide +kernel
theorem td_R_restart_5 : tz_dk prog_7_method_8_code 5 (.invokestatic 24) 3 8 := by decide +kernel
theorem td_R_restart_8 : tz_dk prog_7_method_8_code 8 (.aload_n 0) 1 9 := by decide +kernel
theorem td_R_restart_9 : tz_dk prog_7_method_8_code 9 (.iconst 0) 1 10 := by decide +kernel
theorem td_R_restart_10 : tz_dk prog_7_method_8_code 10 (.iload_n 1) 1 11 := by decide +kernel
theorem td_R_restart_11 : tz_dk prog_7_method_8_code 11 (.aload_n 0) 1 12 := by decide +kernel
theorem td_R_restart_12 : tz_dk prog_7_method_8_code 12 (.getfield 9) 3 15 := by decide +kernel
theorem td_R_restart_15 : tz_dk prog_7_method_8_code 15 (.arraylength) 1 16 := by decide +kernel
theorem td_R_restart_16 : tz_dk prog_7_method_8_code 16 (.invokestatic 30) 3 19 := by decide +kernel
theorem td_R_restart_19 : tz_dk prog_7_method_8_code 19 (.invokestatic 36) 3 22 := by decide +kernel
theorem td_R_restart_22 : tz_dk prog_7_method_8_code 22 (.putfield 15) 3 25 := by decide +kernel
theorem td_R_restart_25 : tz_dk prog_7_method_8_code 25 (.return_) 1 26 := by decide +kernel
theorem td_J_max_0 : tz_dk prog_14_method_65_code 0 (.iload_n 0) 1 1 := by decide +kernel
theorem td_J_max_1 : tz_dk prog_14_method_65_code 1 (.iload_n 1) 1 2 := by decide +kernel
theorem td_J_max_2 : tz_dj prog_14_method_65_code 2 (.if_icmp .lt 7) (7) 5 9 := by decide +kernel
theorem td_J_max_5 : tz_dk prog_14_method_65_code 5 (.iload_n 0) 1 6 := by decide +kernel
theorem td_J_max_6 : tz_dj prog_14_method_65_code 6 (.goto 4) (4) 9 10 := by decide +kernel
theorem td_J_max_9 : tz_dk prog_14_method_65_code 9 (.iload_n 1) 1 10 := by decide +kernel
theorem td_J_max_10 : tz_dk prog_14_method_65_code 10 (.ireturn) 1 11 := by decide +kernel
theorem td_X_put_0 : tz_dk prog_1_method_3_code 0 (.aload_n 0) 1 1 := by decide +kernel
theorem td_X_put_1 : tz_dk prog_1_method_3_code 1 (.getfield 10) 3 4 := by decide +kernel
theorem td_X_put_4 : tz_dk prog_1_method_3_code 4 (.iload_n 1) 1 5 := by decide +kernel
theorem td_X_put_5 : tz_dk prog_1_method_3_code 5 (.invokevirtual 62) 3 8 := by decide +kernel
theorem td_X_put_8 : tz_dk prog_1_method_3_code 8 (.astore 4) 2 10 := by decide +kernel
theorem td_X_put_10 : tz_dk prog_1_method_3_code 10 (.aload 4) 2 12 := by decide +kernel
theorem td_X_put_12 : tz_dj prog_1_method_3_code 12 (.ifnull 19) (19) 15 31 := by decide +kernel
theorem td_X_put_15 : tz_dk prog_1_method_3_code 15 (.aload 4) 2 17 := by decide +kernel
theorem td_X_put_17 : tz_dk prog_1_method_3_code 17 (.iload_n 2) 1 18 := by decide +kernel
theorem td_X_put_18 : tz_dk prog_1_method_3_code 18 (.invokevirtual 83) 3 21 := by decide +kernel
theorem td_X_put_21 : tz_dj prog_1_method_3_code 21 (.ifCond .eq 10) (10) 24 31 := by decide +kernel
theorem td_X_put_24 : tz_dk prog_1_method_3_code 24 (.iload_n 3) 1 25 := by decide +kernel
theorem td_X_put_25 : tz_dk prog_1_method_3_code 25 (.invokestatic 87) 3 28 := by decide +kernel
theorem td_X_put_28 : tz_dj prog_1_method_3_code 28 (.ifCond .ne 10) (10) 31 38 := by decide +kernel
theorem td_X_put_31 : tz_dk prog_1_method_3_code 31 (.aload_n 0) 1 32 := by decide +kernel
theorem td_X_put_32 : tz_dk prog_1_method_3_code 32 (.ldc 66) 2 34 := by decide +kernel
theorem td_X_put_34 : tz_dk prog_1_method_3_code 34 (.invokevirtual 67) 3 37 := by decide +kernel
theorem td_X_put_37 : tz_dk prog_1_method_3_code 37 (.ireturn) 1 38 := by decide +kernel
theorem td_X_put_38 : tz_dk prog_1_method_3_code 38 (.aload_n 0) 1 39 := by decide +kernel
theorem td_X_put_39 : tz_dk prog_1_method_3_code 39 (.getfield 19) 3 42 := by decide +kernel
theorem td_X_put_42 : tz_dk prog_1_method_3_code 42 (.aload_n 0) 1 43 := by decide +kernel
theorem td_X_put_43 : tz_dk prog_1_method_3_code 43 (.getfield 10) 3 46 := by decide +kernel
theorem td_X_put_46 : tz_dk prog_1_method_3_code 46 (.iload_n 1) 1 47 := by decide +kernel
theorem td_X_put_47 : tz_dk prog_1_method_3_code 47 (.invokevirtual 71) 3 50 := by decide +kernel
theorem td_X_put_50 : tz_dk prog_1_method_3_code 50 (.aload 4) 2 52 := by decide +kernel
theorem td_X_put_52 : tz_dk prog_1_method_3_code 52 (.iload_n 2) 1 53 := by decide +kernel
theorem td_X_put_53 : tz_dk prog_1_method_3_code 53 (.invokevirtual 90) 3 56 := by decide +kernel
theorem td_X_put_56 : tz_dk prog_1_method_3_code 56 (.ldc 93) 2 58 := by decide +kernel
theorem td_X_put_58 : tz_dj prog_1_method_3_code 58 (.if_icmp .ne 7) (7) 61 65 := by decide +kernel
theorem td_X_put_61 : tz_dk prog_1_method_3_code 61 (.iconst 1) 1 62 := by decide +kernel
theorem td_X_put_62 : tz_dj prog_1_method_3_code 62 (.goto 4) (4) 65 66 := by decide +kernel
theorem td_X_put_65 : tz_dk prog_1_method_3_code 65 (.iconst 0) 1 66 := by decide +kernel
theorem td_X_put_66 : tz_dk prog_1_method_3_code 66 (.istore 5) 2 68 := by decide +kernel
theorem td_X_put_68 : tz_dk prog_1_method_3_code 68 (.aload 4) 2 70 := by decide +kernel
theorem td_X_put_70 : tz_dk prog_1_method_3_code 70 (.iload_n 2) 1 71 := by decide +kernel
theorem td_X_put_71 : tz_dk prog_1_method_3_code 71 (.iload_n 3) 1 72 := by decide +kernel
theorem td_X_put_72 : tz_dk prog_1_method_3_code 72 (.invokevirtual 94) 3 75 := by decide +kernel
theorem td_X_put_75 : tz_dk prog_1_method_3_code 75 (.iload 5) 2 77 := by decide +kernel
theorem td_X_put_77 : tz_dk prog_1_method_3_code 77 (.ireturn) 1 78 := by decide +kernel
theorem td_R_has_0 : tz_dk prog_7_method_3_code 0 (.iload_n 1) 1 1 := by decide +kernel
theorem td_R_has_1 : tz_dj prog_7_method_3_code 1 (.ifCond .lt 24) (24) 4 25 := by decide +kernel
theorem td_R_has_4 : tz_dk prog_7_method_3_code 4 (.iload_n 1) 1 5 := by decide +kernel
theorem td_R_has_5 : tz_dk prog_7_method_3_code 5 (.aload_n 0) 1 6 := by decide +kernel
theorem td_R_has_6 : tz_dk prog_7_method_3_code 6 (.getfield 15) 3 9 := by decide +kernel
theorem td_R_has_9 : tz_dj prog_7_method_3_code 9 (.if_icmp .ge 16) (16) 12 25 := by decide +kernel
theorem td_R_has_12 : tz_dk prog_7_method_3_code 12 (.iload_n 1) 1 13 := by decide +kernel
theorem td_R_has_13 : tz_dk prog_7_method_3_code 13 (.aload_n 0) 1 14 := by decide +kernel
theorem td_R_has_14 : tz_dk prog_7_method_3_code 14 (.getfield 9) 3 17 := by decide +kernel
theorem td_R_has_17 : tz_dk prog_7_method_3_code 17 (.arraylength) 1 18 := by decide +kernel
theorem td_R_has_18 : tz_dj prog_7_method_3_code 18 (.if_icmp .ge 7) (7) 21 25 := by decide +kernel
theorem td_R_has_21 : tz_dk prog_7_method_3_code 21 (.iconst 1) 1 22 := by decide +kernel
theorem td_R_has_22 : tz_dj prog_7_method_3_code 22 (.goto 4) (4) 25 26 := by decide +kernel
theorem td_R_has_25 : tz_dk prog_7_method_3_code 25 (.iconst 0) 1 26 := by decide +kernel
theorem td_R_has_26 : tz_dk prog_7_method_3_code 26 (.ireturn) 1 27 := by decide +kernel
theorem td_X_isSample_0 : tz_dk prog_1_method_34_code 0 (.iload_n 0) 1 1 := by decide +kernel
theorem td_X_isSample_1 : tz_dk prog_1_method_34_code 1 (.sipush (-10000)) 3 4 := by decide +kernel
theorem td_X_isSample_4 : tz_dj prog_1_method_34_code 4 (.if_icmp .lt 14) (14) 7 18 := by decide +kernel
theorem td_X_isSample_7 : tz_dk prog_1_method_34_code 7 (.iload_n 0) 1 8 := by decide +kernel
theorem td_X_isSample_8 : tz_dk prog_1_method_34_code 8 (.sipush 10000) 3 11 := by decide +kernel
theorem td_X_isSample_11 : tz_dj prog_1_method_34_code 11 (.if_icmp .gt 7) (7) 14 18 := by decide +kernel
theorem td_X_isSample_14 : tz_dk prog_1_method_34_code 14 (.iconst 1) 1 15 := by decide +kernel
theorem td_X_isSample_15 : tz_dj prog_1_method_34_code 15 (.goto 4) (4) 18 19 := by decide +kernel
theorem td_X_isSample_18 : tz_dk prog_1_method_34_code 18 (.iconst 0) 1 19 := by decide +kernel
theorem td_X_isSample_19 : tz_dk prog_1_method_34_code 19 (.ireturn) 1 20 := by decide +kernel
theorem td_R_at_0 : tz_dk prog_7_method_4_code 0 (.iload_n 1) 1 1 := by decide +kernel
theorem td_R_at_1 : tz_dj prog_7_method_4_code 1 (.ifCond .lt 29) (29) 4 30 := by decide +kernel
theorem td_R_at_4 : tz_dk prog_7_method_4_code 4 (.iload_n 1) 1 5 := by decide +kernel
theorem td_R_at_5 : tz_dk prog_7_method_4_code 5 (.aload_n 0) 1 6 := by decide +kernel
theorem td_R_at_6 : tz_dk prog_7_method_4_code 6 (.getfield 15) 3 9 := by decide +kernel
theorem td_R_at_9 : tz_dj prog_7_method_4_code 9 (.if_icmp .ge 21) (21) 12 30 := by decide +kernel
theorem td_R_at_12 : tz_dk prog_7_method_4_code 12 (.iload_n 1) 1 13 := by decide +kernel
theorem td_R_at_13 : tz_dk prog_7_method_4_code 13 (.aload_n 0) 1 14 := by decide +kernel
theorem td_R_at_14 : tz_dk prog_7_method_4_code 14 (.getfield 9) 3 17 := by decide +kernel
theorem td_R_at_17 : tz_dk prog_7_method_4_code 17 (.arraylength) 1 18 := by decide +kernel
theorem td_R_at_18 : tz_dj prog_7_method_4_code 18 (.if_icmp .ge 12) (12) 21 30 := by decide +kernel
theorem td_R_at_21 : tz_dk prog_7_method_4_code 21 (.aload_n 0) 1 22 := by decide +kernel
theorem td_R_at_22 : tz_dk prog_7_method_4_code 22 (.getfield 9) 3 25 := by decide +kernel
theorem td_R_at_25 : tz_dk prog_7_method_4_code 25 (.iload_n 1) 1 26 := by decide +kernel
theorem td_R_at_26 : tz_dk prog_7_method_4_code 26 (.iaload) 1 27 := by decide +kernel
theorem td_R_at_27 : tz_dj prog_7_method_4_code 27 (.goto 5) (5) 30 32 := by decide +kernel
theorem td_R_at_30 : tz_dk prog_7_method_4_code 30 (.ldc 19) 2 32 := by decide +kernel
theorem td_R_at_32 : tz_dk prog_7_method_4_code 32 (.ireturn) 1 33 := by decide +kernel
theorem td_R_set_0 : tz_dk prog_7_method_5_code 0 (.aload_n 0) 1 1 := by decide +kernel
theorem td_R_set_1 : tz_dk prog_7_method_5_code 1 (.iload_n 1) 1 2 := by decide +kernel
theorem td_R_set_2 : tz_dk prog_7_method_5_code 2 (.invokevirtual 20) 3 5 := by decide +kernel
theorem td_R_set_5 : tz_dj prog_7_method_5_code 5 (.ifCond .eq 10) (10) 8 15 := by decide +kernel
theorem td_R_set_8 : tz_dk prog_7_method_5_code 8 (.aload_n 0) 1 9 := by decide +kernel
theorem td_R_set_9 : tz_dk prog_7_method_5_code 9 (.getfield 9) 3 12 := by decide +kernel
theorem td_R_set_12 : tz_dk prog_7_method_5_code 12 (.iload_n 1) 1 13 := by decide +kernel
theorem td_R_set_13 : tz_dk prog_7_method_5_code 13 (.iload_n 2) 1 14 := by decide +kernel
theorem td_R_set_14 : tz_dk prog_7_method_5_code 14 (.iastore) 1 15 := by decide +kernel
theorem td_R_set_15 : tz_dk prog_7_method_5_code 15 (.return_) 1 16 := by decide +kernel
theorem td_X_lose_0 : tz_dk prog_1_method_4_code 0 (.aload_n 0) 1 1 := by decide +kernel
theorem td_X_lose_1 : tz_dk prog_1_method_4_code 1 (.getfield 10) 3 4 := by decide +kernel
theorem td_X_lose_4 : tz_dk prog_1_method_4_code 4 (.iload_n 1) 1 5 := by decide +kernel
theorem td_X_lose_5 : tz_dk prog_1_method_4_code 5 (.invokevirtual 62) 3 8 := by decide +kernel
theorem td_X_lose_8 : tz_dk prog_1_method_4_code 8 (.astore 4) 2 10 := by decide +kernel
theorem td_X_lose_10 : tz_dk prog_1_method_4_code 10 (.aload 4) 2 12 := by decide +kernel
theorem td_X_lose_12 : tz_dj prog_1_method_4_code 12 (.ifnull 16) (16) 15 28 := by decide +kernel
theorem td_X_lose_15 : tz_dk prog_1_method_4_code 15 (.aload 4) 2 17 := by decide +kernel
theorem td_X_lose_17 : tz_dk prog_1_method_4_code 17 (.invokevirtual 75) 3 20 := by decide +kernel
theorem td_X_lose_20 : tz_dk prog_1_method_4_code 20 (.iload_n 2) 1 21 := by decide +kernel
theorem td_X_lose_21 : tz_dk prog_1_method_4_code 21 (.iload_n 3) 1 22 := by decide +kernel
theorem td_X_lose_22 : tz_dk prog_1_method_4_code 22 (.invokestatic 98) 3 25 := by decide +kernel
theorem td_X_lose_25 : tz_dj prog_1_method_4_code 25 (.ifCond .ne 10) (10) 28 35 := by decide +kernel
theorem td_X_lose_28 : tz_dk prog_1_method_4_code 28 (.aload_n 0) 1 29 := by decide +kernel
theorem td_X_lose_29 : tz_dk prog_1_method_4_code 29 (.ldc 66) 2 31 := by decide +kernel
theorem td_X_lose_31 : tz_dk prog_1_method_4_code 31 (.invokevirtual 67) 3 34 := by decide +kernel
theorem td_X_lose_34 : tz_dk prog_1_method_4_code 34 (.ireturn) 1 35 := by decide +kernel
theorem td_X_lose_35 : tz_dk prog_1_method_4_code 35 (.aload_n 0) 1 36 := by decide +kernel
theorem td_X_lose_36 : tz_dk prog_1_method_4_code 36 (.getfield 19) 3 39 := by decide +kernel
theorem td_X_lose_39 : tz_dk prog_1_method_4_code 39 (.aload_n 0) 1 40 := by decide +kernel
theorem td_X_lose_40 : tz_dk prog_1_method_4_code 40 (.getfield 10) 3 43 := by decide +kernel
theorem td_X_lose_43 : tz_dk prog_1_method_4_code 43 (.iload_n 1) 1 44 := by decide +kernel
theorem td_X_lose_44 : tz_dk prog_1_method_4_code 44 (.invokevirtual 71) 3 47 := by decide +kernel
theorem td_X_lose_47 : tz_dk prog_1_method_4_code 47 (.aload 4) 2 49 := by decide +kernel
theorem td_X_lose_49 : tz_dk prog_1_method_4_code 49 (.invokevirtual 102) 3 52 := by decide +kernel
theorem td_X_lose_52 : tz_dk prog_1_method_4_code 52 (.istore 5) 2 54 := by decide +kernel
theorem td_X_lose_54 : tz_dk prog_1_method_4_code 54 (.iload_n 2) 1 55 := by decide +kernel
theorem td_X_lose_55 : tz_dk prog_1_method_4_code 55 (.istore 6) 2 57 := by decide +kernel
theorem td_X_lose_57 : tz_dk prog_1_method_4_code 57 (.iload 6) 2 59 := by decide +kernel
theorem td_X_lose_59 : tz_dk prog_1_method_4_code 59 (.iload_n 2) 1 60 := by decide +kernel
theorem td_X_lose_60 : tz_dk prog_1_method_4_code 60 (.iload_n 3) 1 61 := by decide +kernel
theorem td_X_lose_61 : tz_dk prog_1_method_4_code 61 (.iadd) 1 62 := by decide +kernel
theorem td_X_lose_62 : tz_dj prog_1_method_4_code 62 (.if_icmp .ge 18) (18) 65 80 := by decide +kernel
theorem td_X_lose_65 : tz_dk prog_1_method_4_code 65 (.aload 4) 2 67 := by decide +kernel
theorem td_X_lose_67 : tz_dk prog_1_method_4_code 67 (.iload 6) 2 69 := by decide +kernel
theorem td_X_lose_69 : tz_dk prog_1_method_4_code 69 (.ldc 93) 2 71 := by decide +kernel
theorem td_X_lose_71 : tz_dk prog_1_method_4_code 71 (.invokevirtual 94) 3 74 := by decide +kernel
theorem td_X_lose_74 : tz_dk prog_1_method_4_code 74 (.iinc 6 1) 3 77 := by decide +kernel
theorem td_X_lose_77 : tz_dj prog_1_method_4_code 77 (.goto (-20)) (-20) 80 57 := by decide +kernel
theorem td_X_lose_80 : tz_dk prog_1_method_4_code 80 (.aload 4) 2 82 := by decide +kernel
theorem td_X_lose_82 : tz_dk prog_1_method_4_code 82 (.invokevirtual 102) 3 85 := by decide +kernel
theorem td_X_lose_85 : tz_dk prog_1_method_4_code 85 (.iload 5) 2 87 := by decide +kernel
theorem td_X_lose_87 : tz_dk prog_1_method_4_code 87 (.isub) 1 88 := by decide +kernel
theorem td_X_lose_88 : tz_dk prog_1_method_4_code 88 (.ireturn) 1 89 := by decide +kernel
theorem td_X_holds_0 : tz_dk prog_1_method_35_code 0 (.iload_n 1) 1 1 := by decide +kernel
theorem td_X_holds_1 : tz_dj prog_1_method_35_code 1 (.ifCond .lt 23) (23) 4 24 := by decide +kernel
theorem td_X_holds_4 : tz_dk prog_1_method_35_code 4 (.iload_n 2) 1 5 := by decide +kernel
theorem td_X_holds_5 : tz_dj prog_1_method_35_code 5 (.ifCond .lt 19) (19) 8 24 := by decide +kernel
theorem td_X_holds_8 : tz_dk prog_1_method_35_code 8 (.iload_n 2) 1 9 := by decide +kernel
theorem td_X_holds_9 : tz_dk prog_1_method_35_code 9 (.iload_n 0) 1 10 := by decide +kernel
theorem td_X_holds_10 : tz_dj prog_1_method_35_code 10 (.if_icmp .gt 14) (14) 13 24 := by decide +kernel
theorem td_X_holds_13 : tz_dk prog_1_method_35_code 13 (.iload_n 1) 1 14 := by decide +kernel
theorem td_X_holds_14 : tz_dk prog_1_method_35_code 14 (.iload_n 0) 1 15 := by decide +kernel
theorem td_X_holds_15 : tz_dk prog_1_method_35_code 15 (.iload_n 2) 1 16 := by decide +kernel
theorem td_X_holds_16 : tz_dk prog_1_method_35_code 16 (.isub) 1 17 := by decide +kernel
theorem td_X_holds_17 : tz_dj prog_1_method_35_code 17 (.if_icmp .gt 7) (7) 20 24 := by decide +kernel
theorem td_X_holds_20 : tz_dk prog_1_method_35_code 20 (.iconst 1) 1 21 := by decide +kernel
theorem td_X_holds_21 : tz_dj prog_1_method_35_code 21 (.goto 4) (4) 24 25 := by decide +kernel
theorem td_X_holds_24 : tz_dk prog_1_method_35_code 24 (.iconst 0) 1 25 := by decide +kernel
theorem td_X_holds_25 : tz_dk prog_1_method_35_code 25 (.ireturn) 1 26 := by decide +kernel
theorem td_R_lostOnes_0 : tz_dk prog_7_method_10_code 0 (.iconst 0) 1 1 := by decide +kernel
theorem td_R_lostOnes_1 : tz_dk prog_7_method_10_code 1 (.istore_n 1) 1 2 := by decide +kernel
theorem td_R_lostOnes_2 : tz_dk prog_7_method_10_code 2 (.iconst 0) 1 3 := by decide +kernel
theorem td_R_lostOnes_3 : tz_dk prog_7_method_10_code 3 (.istore_n 2) 1 4 := by decide +kernel
theorem td_R_lostOnes_4 : tz_dk prog_7_method_10_code 4 (.iload_n 2) 1 5 := by decide +kernel
theorem td_R_lostOnes_5 : tz_dk prog_7_method_10_code 5 (.aload_n 0) 1 6 := by decide +kernel
theorem td_R_lostOnes_6 : tz_dk prog_7_method_10_code 6 (.getfield 15) 3 9 := by decide +kernel
theorem td_R_lostOnes_9 : tz_dj prog_7_method_10_code 9 (.if_icmp .ge 22) (22) 12 31 := by decide +kernel
theorem td_R_lostOnes_12 : tz_dk prog_7_method_10_code 12 (.aload_n 0) 1 13 := by decide +kernel
theorem td_R_lostOnes_13 : tz_dk prog_7_method_10_code 13 (.iload_n 2) 1 14 := by decide +kernel
theorem td_R_lostOnes_14 : tz_dk prog_7_method_10_code 14 (.invokevirtual 45) 3 17 := by decide +kernel
theorem td_R_lostOnes_17 : tz_dk prog_7_method_10_code 17 (.ldc 19) 2 19 := by decide +kernel
theorem td_R_lostOnes_19 : tz_dj prog_7_method_10_code 19 (.if_icmp .ne 6) (6) 22 25 := by decide +kernel
theorem td_R_lostOnes_22 : tz_dk prog_7_method_10_code 22 (.iinc 1 1) 3 25 := by decide +kernel
theorem td_R_lostOnes_25 : tz_dk prog_7_method_10_code 25 (.iinc 2 1) 3 28 := by decide +kernel
theorem td_R_lostOnes_28 : tz_dj prog_7_method_10_code 28 (.goto (-24)) (-24) 31 4 := by decide +kernel
theorem td_R_lostOnes_31 : tz_dk prog_7_method_10_code 31 (.iload_n 1) 1 32 := by decide +kernel
theorem td_R_lostOnes_32 : tz_dk prog_7_method_10_code 32 (.ireturn) 1 33 := by decide +kernel
theorem td_X_sample_0 : tz_dk prog_1_method_5_code 0 (.aload_n 0) 1 1 := by decide +kernel
theorem td_X_sample_1 : tz_dk prog_1_method_5_code 1 (.getfield 10) 3 4 := by decide +kernel
theorem td_X_sample_4 : tz_dk prog_1_method_5_code 4 (.iload_n 1) 1 5 := by decide +kernel
theorem td_X_sample_5 : tz_dk prog_1_method_5_code 5 (.invokevirtual 62) 3 8 := by decide +kernel
theorem td_X_sample_8 : tz_dk prog_1_method_5_code 8 (.astore_n 3) 1 9 := by decide +kernel
theorem td_X_sample_9 : tz_dk prog_1_method_5_code 9 (.aload_n 3) 1 10 := by decide +kernel
theorem td_X_sample_10 : tz_dj prog_1_method_5_code 10 (.ifnull 11) (11) 13 21 := by decide +kernel
theorem td_X_sample_13 : tz_dk prog_1_method_5_code 13 (.aload_n 3) 1 14 := by decide +kernel
theorem td_X_sample_14 : tz_dk prog_1_method_5_code 14 (.iload_n 2) 1 15 := by decide +kernel
theorem td_X_sample_15 : tz_dk prog_1_method_5_code 15 (.invokevirtual 83) 3 18 := by decide +kernel
theorem td_X_sample_18 : tz_dj prog_1_method_5_code 18 (.ifCond .ne 10) (10) 21 28 := by decide +kernel
theorem td_X_sample_21 : tz_dk prog_1_method_5_code 21 (.aload_n 0) 1 22 := by decide +kernel
theorem td_X_sample_22 : tz_dk prog_1_method_5_code 22 (.ldc 66) 2 24 := by decide +kernel
theorem td_X_sample_24 : tz_dk prog_1_method_5_code 24 (.invokevirtual 67) 3 27 := by decide +kernel
theorem td_X_sample_27 : tz_dk prog_1_method_5_code 27 (.ireturn) 1 28 := by decide +kernel
theorem td_X_sample_28 : tz_dk prog_1_method_5_code 28 (.aload_n 0) 1 29 := by decide +kernel
theorem td_X_sample_29 : tz_dk prog_1_method_5_code 29 (.aload_n 3) 1 30 := by decide +kernel
theorem td_X_sample_30 : tz_dk prog_1_method_5_code 30 (.iload_n 2) 1 31 := by decide +kernel
theorem td_X_sample_31 : tz_dk prog_1_method_5_code 31 (.invokevirtual 90) 3 34 := by decide +kernel
theorem td_X_sample_34 : tz_dk prog_1_method_5_code 34 (.invokevirtual 67) 3 37 := by decide +kernel
theorem td_X_sample_37 : tz_dk prog_1_method_5_code 37 (.ireturn) 1 38 := by decide +kernel
theorem td_X_about_0 : tz_dk prog_1_method_6_code 0 (.aload_n 0) 1 1 := by decide +kernel
theorem td_X_about_1 : tz_dk prog_1_method_6_code 1 (.getfield 10) 3 4 := by decide +kernel
theorem td_X_about_4 : tz_dk prog_1_method_6_code 4 (.iload_n 1) 1 5 := by decide +kernel
theorem td_X_about_5 : tz_dk prog_1_method_6_code 5 (.invokevirtual 62) 3 8 := by decide +kernel
theorem td_X_about_8 : tz_dk prog_1_method_6_code 8 (.astore_n 3) 1 9 := by decide +kernel
theorem td_X_about_9 : tz_dk prog_1_method_6_code 9 (.aload_n 3) 1 10 := by decide +kernel
theorem td_X_about_10 : tz_dj prog_1_method_6_code 10 (.ifnonnull 10) (10) 13 20 := by decide +kernel
theorem td_X_about_13 : tz_dk prog_1_method_6_code 13 (.aload_n 0) 1 14 := by decide +kernel
theorem td_X_about_14 : tz_dk prog_1_method_6_code 14 (.ldc 66) 2 16 := by decide +kernel
theorem td_X_about_16 : tz_dk prog_1_method_6_code 16 (.invokevirtual 67) 3 19 := by decide +kernel
theorem td_X_about_19 : tz_dk prog_1_method_6_code 19 (.ireturn) 1 20 := by decide +kernel
theorem td_X_about_20 : tz_dk prog_1_method_6_code 20 (.iload_n 2) 1 21 := by decide +kernel
theorem td_X_about_21 : decode prog_1_method_6_code 21 = .ok (.tableswitch 64 0 3 #[31, 36, 41, 57], 31) := by decide +kernel
theorem td_X_about_52 : tz_dk prog_1_method_6_code 52 (.aload_n 3) 1 53 := by decide +kernel
theorem td_X_about_53 : tz_dk prog_1_method_6_code 53 (.invokevirtual 75) 3 56 := by decide +kernel
theorem td_X_about_56 : tz_dk prog_1_method_6_code 56 (.ireturn) 1 57 := by decide +kernel
theorem td_X_about_57 : tz_dk prog_1_method_6_code 57 (.aload_n 3) 1 58 := by decide +kernel
theorem td_X_about_58 : tz_dk prog_1_method_6_code 58 (.invokevirtual 102) 3 61 := by decide +kernel
theorem td_X_about_61 : tz_dk prog_1_method_6_code 61 (.ireturn) 1 62 := by decide +kernel
theorem td_X_about_62 : tz_dk prog_1_method_6_code 62 (.aload_n 0) 1 63 := by decide +kernel
theorem td_X_about_63 : tz_dk prog_1_method_6_code 63 (.getfield 33) 3 66 := by decide +kernel
theorem td_X_about_66 : tz_dk prog_1_method_6_code 66 (.aload_n 3) 1 67 := by decide +kernel
theorem td_X_about_67 : tz_dk prog_1_method_6_code 67 (.invokevirtual 105) 3 70 := by decide +kernel
theorem td_X_about_70 : tz_dk prog_1_method_6_code 70 (.aload_n 0) 1 71 := by decide +kernel
theorem td_X_about_71 : tz_dk prog_1_method_6_code 71 (.getfield 33) 3 74 := by decide +kernel
theorem td_X_about_74 : tz_dk prog_1_method_6_code 74 (.invokevirtual 109) 3 77 := by decide +kernel
theorem td_X_about_77 : tz_dk prog_1_method_6_code 77 (.ireturn) 1 78 := by decide +kernel
theorem td_X_about_78 : tz_dk prog_1_method_6_code 78 (.aload_n 3) 1 79 := by decide +kernel
theorem td_X_about_79 : tz_dk prog_1_method_6_code 79 (.bipush 100) 2 81 := by decide +kernel
theorem td_X_about_81 : tz_dk prog_1_method_6_code 81 (.invokevirtual 112) 3 84 := by decide +kernel
theorem td_X_about_84 : tz_dk prog_1_method_6_code 84 (.ireturn) 1 85 := by decide +kernel
theorem td_X_about_85 : tz_dk prog_1_method_6_code 85 (.aload_n 0) 1 86 := by decide +kernel
theorem td_X_about_86 : tz_dk prog_1_method_6_code 86 (.ldc 66) 2 88 := by decide +kernel
theorem td_X_about_88 : tz_dk prog_1_method_6_code 88 (.invokevirtual 67) 3 91 := by decide +kernel
theorem td_X_about_91 : tz_dk prog_1_method_6_code 91 (.ireturn) 1 92 := by decide +kernel
theorem td_U_find_0 : tz_dk prog_11_method_2_code 0 (.aload_n 0) 1 1 := by decide +kernel
theorem td_U_find_1 : tz_dk prog_11_method_2_code 1 (.iconst 0) 1 2 := by decide +kernel
theorem td_U_find_2 : tz_dk prog_11_method_2_code 2 (.putfield 15) 3 5 := by decide +kernel
theorem td_U_find_5 : tz_dk prog_11_method_2_code 5 (.iconst 1) 1 6 := by decide +kernel
theorem td_U_find_6 : tz_dk prog_11_method_2_code 6 (.istore_n 2) 1 7 := by decide +kernel
theorem td_U_find_7 : tz_dk prog_11_method_2_code 7 (.iload_n 2) 1 8 := by decide +kernel
theorem td_U_find_8 : tz_dk prog_11_method_2_code 8 (.aload_n 1) 1 9 := by decide +kernel
theorem td_U_find_9 : tz_dk prog_11_method_2_code 9 (.invokevirtual 19) 3 12 := by decide +kernel
theorem td_U_find_12 : tz_dj prog_11_method_2_code 12 (.if_icmp .ge 49) (49) 15 61 := by decide +kernel
theorem td_U_find_15 : tz_dk prog_11_method_2_code 15 (.aload_n 1) 1 16 := by decide +kernel
theorem td_U_find_16 : tz_dk prog_11_method_2_code 16 (.iload_n 2) 1 17 := by decide +kernel
theorem td_U_find_17 : tz_dk prog_11_method_2_code 17 (.invokevirtual 25) 3 20 := by decide +kernel
theorem td_U_find_20 : tz_dj prog_11_method_2_code 20 (.ifCond .eq 35) (35) 23 55 := by decide +kernel
theorem td_U_find_23 : tz_dk prog_11_method_2_code 23 (.aload_n 0) 1 24 := by decide +kernel
theorem td_U_find_24 : tz_dk prog_11_method_2_code 24 (.getfield 15) 3 27 := by decide +kernel
theorem td_U_find_27 : tz_dk prog_11_method_2_code 27 (.aload_n 0) 1 28 := by decide +kernel
theorem td_U_find_28 : tz_dk prog_11_method_2_code 28 (.getfield 9) 3 31 := by decide +kernel
theorem td_U_find_31 : tz_dk prog_11_method_2_code 31 (.arraylength) 1 32 := by decide +kernel
theorem td_U_find_32 : tz_dj prog_11_method_2_code 32 (.if_icmp .ge 23) (23) 35 55 := by decide +kernel
theorem td_U_find_35 : tz_dk prog_11_method_2_code 35 (.aload_n 0) 1 36 := by decide +kernel
theorem td_U_find_36 : tz_dk prog_11_method_2_code 36 (.getfield 9) 3 39 := by decide +kernel
theorem td_U_find_39 : tz_dk prog_11_method_2_code 39 (.aload_n 0) 1 40 := by decide +kernel
theorem td_U_find_40 : tz_dk prog_11_method_2_code 40 (.getfield 15) 3 43 := by decide +kernel
theorem td_U_find_43 : tz_dk prog_11_method_2_code 43 (.iload_n 2) 1 44 := by decide +kernel
theorem td_U_find_44 : tz_dk prog_11_method_2_code 44 (.iastore) 1 45 := by decide +kernel
theorem td_U_find_45 : tz_dk prog_11_method_2_code 45 (.aload_n 0) 1 46 := by decide +kernel
theorem td_U_find_46 : tz_dk prog_11_method_2_code 46 (.dup) 1 47 := by decide +kernel
theorem td_U_find_47 : tz_dk prog_11_method_2_code 47 (.getfield 15) 3 50 := by decide +kernel
theorem td_U_find_50 : tz_dk prog_11_method_2_code 50 (.iconst 1) 1 51 := by decide +kernel
theorem td_U_find_51 : tz_dk prog_11_method_2_code 51 (.iadd) 1 52 := by decide +kernel
theorem td_U_find_52 : tz_dk prog_11_method_2_code 52 (.putfield 15) 3 55 := by decide +kernel
theorem td_U_find_55 : tz_dk prog_11_method_2_code 55 (.iinc 2 1) 3 58 := by decide +kernel
theorem td_U_find_58 : tz_dj prog_11_method_2_code 58 (.goto (-51)) (-51) 61 7 := by decide +kernel
theorem td_U_find_61 : tz_dk prog_11_method_2_code 61 (.return_) 1 62 := by decide +kernel
theorem td_R_isTurn_0 : tz_dk prog_7_method_11_code 0 (.aload_n 0) 1 1 := by decide +kernel
theorem td_R_isTurn_1 : tz_dk prog_7_method_11_code 1 (.iload_n 1) 1 2 := by decide +kernel
theorem td_R_isTurn_2 : tz_dk prog_7_method_11_code 2 (.iconst 1) 1 3 := by decide +kernel
theorem td_R_isTurn_3 : tz_dk prog_7_method_11_code 3 (.isub) 1 4 := by decide +kernel
theorem td_R_isTurn_4 : tz_dk prog_7_method_11_code 4 (.invokevirtual 45) 3 7 := by decide +kernel
theorem td_R_isTurn_7 : tz_dk prog_7_method_11_code 7 (.ldc 19) 2 9 := by decide +kernel
theorem td_R_isTurn_9 : tz_dj prog_7_method_11_code 9 (.if_icmp .eq 35) (35) 12 44 := by decide +kernel
theorem td_R_isTurn_12 : tz_dk prog_7_method_11_code 12 (.aload_n 0) 1 13 := by decide +kernel
theorem td_R_isTurn_13 : tz_dk prog_7_method_11_code 13 (.iload_n 1) 1 14 := by decide +kernel
theorem td_R_isTurn_14 : tz_dk prog_7_method_11_code 14 (.invokevirtual 45) 3 17 := by decide +kernel
theorem td_R_isTurn_17 : tz_dk prog_7_method_11_code 17 (.ldc 19) 2 19 := by decide +kernel
theorem td_R_isTurn_19 : tz_dj prog_7_method_11_code 19 (.if_icmp .eq 25) (25) 22 44 := by decide +kernel
theorem td_R_isTurn_22 : tz_dk prog_7_method_11_code 22 (.aload_n 0) 1 23 := by decide +kernel
theorem td_R_isTurn_23 : tz_dk prog_7_method_11_code 23 (.iload_n 1) 1 24 := by decide +kernel
theorem td_R_isTurn_24 : tz_dk prog_7_method_11_code 24 (.iconst 1) 1 25 := by decide +kernel
theorem td_R_isTurn_25 : tz_dk prog_7_method_11_code 25 (.isub) 1 26 := by decide +kernel
theorem td_R_isTurn_26 : tz_dk prog_7_method_11_code 26 (.invokevirtual 45) 3 29 := by decide +kernel
theorem td_R_isTurn_29 : tz_dj prog_7_method_11_code 29 (.ifCond .ge 15) (15) 32 44 := by decide +kernel
theorem td_R_isTurn_32 : tz_dk prog_7_method_11_code 32 (.aload_n 0) 1 33 := by decide +kernel
theorem td_R_isTurn_33 : tz_dk prog_7_method_11_code 33 (.iload_n 1) 1 34 := by decide +kernel
theorem td_R_isTurn_34 : tz_dk prog_7_method_11_code 34 (.invokevirtual 45) 3 37 := by decide +kernel
theorem td_R_isTurn_37 : tz_dj prog_7_method_11_code 37 (.ifCond .lt 7) (7) 40 44 := by decide +kernel
theorem td_R_isTurn_40 : tz_dk prog_7_method_11_code 40 (.iconst 1) 1 41 := by decide +kernel
theorem td_R_isTurn_41 : tz_dj prog_7_method_11_code 41 (.goto 4) (4) 44 45 := by decide +kernel
theorem td_R_isTurn_44 : tz_dk prog_7_method_11_code 44 (.iconst 0) 1 45 := by decide +kernel
theorem td_R_isTurn_45 : tz_dk prog_7_method_11_code 45 (.ireturn) 1 46 := by decide +kernel
theorem td_U_found_0 : tz_dk prog_11_method_3_code 0 (.aload_n 0) 1 1 := by decide +kernel
theorem td_U_found_1 : tz_dk prog_11_method_3_code 1 (.getfield 15) 3 4 := by decide +kernel
theorem td_U_found_4 : tz_dk prog_11_method_3_code 4 (.ireturn) 1 5 := by decide +kernel
theorem td_R_clicks_0 : tz_dk prog_7_method_13_code 0 (.iconst 0) 1 1 := by decide +kernel
theorem td_R_clicks_1 : tz_dk prog_7_method_13_code 1 (.istore_n 2) 1 2 := by decide +kernel
theorem td_R_clicks_2 : tz_dk prog_7_method_13_code 2 (.iconst 1) 1 3 := by decide +kernel
theorem td_R_clicks_3 : tz_dk prog_7_method_13_code 3 (.istore_n 3) 1 4 := by decide +kernel
theorem td_R_clicks_4 : tz_dk prog_7_method_13_code 4 (.iload_n 3) 1 5 := by decide +kernel
theorem td_R_clicks_5 : tz_dk prog_7_method_13_code 5 (.aload_n 0) 1 6 := by decide +kernel
theorem td_R_clicks_6 : tz_dk prog_7_method_13_code 6 (.getfield 15) 3 9 := by decide +kernel
theorem td_R_clicks_9 : tz_dk prog_7_method_13_code 9 (.iconst 1) 1 10 := by decide +kernel
theorem td_R_clicks_10 : tz_dk prog_7_method_13_code 10 (.isub) 1 11 := by decide +kernel
theorem td_R_clicks_11 : tz_dj prog_7_method_13_code 11 (.if_icmp .ge 21) (21) 14 32 := by decide +kernel
theorem td_R_clicks_14 : tz_dk prog_7_method_13_code 14 (.aload_n 0) 1 15 := by decide +kernel
theorem td_R_clicks_15 : tz_dk prog_7_method_13_code 15 (.iload_n 3) 1 16 := by decide +kernel
theorem td_R_clicks_16 : tz_dk prog_7_method_13_code 16 (.iload_n 1) 1 17 := by decide +kernel
theorem td_R_clicks_17 : tz_dk prog_7_method_13_code 17 (.invokevirtual 49) 3 20 := by decide +kernel
theorem td_R_clicks_20 : tz_dj prog_7_method_13_code 20 (.ifCond .eq 6) (6) 23 26 := by decide +kernel
theorem td_R_clicks_23 : tz_dk prog_7_method_13_code 23 (.iinc 2 1) 3 26 := by decide +kernel
theorem td_R_clicks_26 : tz_dk prog_7_method_13_code 26 (.iinc 3 1) 3 29 := by decide +kernel
theorem td_R_clicks_29 : tz_dj prog_7_method_13_code 29 (.goto (-25)) (-25) 32 4 := by decide +kernel
theorem td_R_clicks_32 : tz_dk prog_7_method_13_code 32 (.iload_n 2) 1 33 := by decide +kernel
theorem td_R_clicks_33 : tz_dk prog_7_method_13_code 33 (.ireturn) 1 34 := by decide +kernel
theorem td_R_isClick_0 : tz_dk prog_7_method_12_code 0 (.aload_n 0) 1 1 := by decide +kernel
theorem td_R_isClick_1 : tz_dk prog_7_method_12_code 1 (.iload_n 1) 1 2 := by decide +kernel
theorem td_R_isClick_2 : tz_dk prog_7_method_12_code 2 (.iconst 1) 1 3 := by decide +kernel
theorem td_R_isClick_3 : tz_dk prog_7_method_12_code 3 (.isub) 1 4 := by decide +kernel
theorem td_R_isClick_4 : tz_dk prog_7_method_12_code 4 (.invokevirtual 45) 3 7 := by decide +kernel
theorem td_R_isClick_7 : tz_dk prog_7_method_12_code 7 (.ldc 19) 2 9 := by decide +kernel
theorem td_R_isClick_9 : tz_dj prog_7_method_12_code 9 (.if_icmp .eq 25) (25) 12 34 := by decide +kernel
theorem td_R_isClick_12 : tz_dk prog_7_method_12_code 12 (.aload_n 0) 1 13 := by decide +kernel
theorem td_R_isClick_13 : tz_dk prog_7_method_12_code 13 (.iload_n 1) 1 14 := by decide +kernel
theorem td_R_isClick_14 : tz_dk prog_7_method_12_code 14 (.invokevirtual 45) 3 17 := by decide +kernel
theorem td_R_isClick_17 : tz_dk prog_7_method_12_code 17 (.ldc 19) 2 19 := by decide +kernel
theorem td_R_isClick_19 : tz_dj prog_7_method_12_code 19 (.if_icmp .eq 15) (15) 22 34 := by decide +kernel
theorem td_R_isClick_22 : tz_dk prog_7_method_12_code 22 (.aload_n 0) 1 23 := by decide +kernel
theorem td_R_isClick_23 : tz_dk prog_7_method_12_code 23 (.iload_n 1) 1 24 := by decide +kernel
theorem td_R_isClick_24 : tz_dk prog_7_method_12_code 24 (.iconst 1) 1 25 := by decide +kernel
theorem td_R_isClick_25 : tz_dk prog_7_method_12_code 25 (.iadd) 1 26 := by decide +kernel
theorem td_R_isClick_26 : tz_dk prog_7_method_12_code 26 (.invokevirtual 45) 3 29 := by decide +kernel
theorem td_R_isClick_29 : tz_dk prog_7_method_12_code 29 (.ldc 19) 2 31 := by decide +kernel
theorem td_R_isClick_31 : tz_dj prog_7_method_12_code 31 (.if_icmp .ne 5) (5) 34 36 := by decide +kernel
theorem td_R_isClick_34 : tz_dk prog_7_method_12_code 34 (.iconst 0) 1 35 := by decide +kernel
theorem td_R_isClick_35 : tz_dk prog_7_method_12_code 35 (.ireturn) 1 36 := by decide +kernel
theorem td_R_isClick_36 : tz_dk prog_7_method_12_code 36 (.iconst 2) 1 37 := by decide +kernel
theorem td_R_isClick_37 : tz_dk prog_7_method_12_code 37 (.aload_n 0) 1 38 := by decide +kernel
theorem td_R_isClick_38 : tz_dk prog_7_method_12_code 38 (.iload_n 1) 1 39 := by decide +kernel
theorem td_R_isClick_39 : tz_dk prog_7_method_12_code 39 (.invokevirtual 45) 3 42 := by decide +kernel
theorem td_R_isClick_42 : tz_dk prog_7_method_12_code 42 (.imul) 1 43 := by decide +kernel
theorem td_R_isClick_43 : tz_dk prog_7_method_12_code 43 (.aload_n 0) 1 44 := by decide +kernel
theorem td_R_isClick_44 : tz_dk prog_7_method_12_code 44 (.iload_n 1) 1 45 := by decide +kernel
theorem td_R_isClick_45 : tz_dk prog_7_method_12_code 45 (.iconst 1) 1 46 := by decide +kernel
theorem td_R_isClick_46 : tz_dk prog_7_method_12_code 46 (.isub) 1 47 := by decide +kernel
theorem td_R_isClick_47 : tz_dk prog_7_method_12_code 47 (.invokevirtual 45) 3 50 := by decide +kernel
theorem td_R_isClick_50 : tz_dk prog_7_method_12_code 50 (.isub) 1 51 := by decide +kernel
theorem td_R_isClick_51 : tz_dk prog_7_method_12_code 51 (.aload_n 0) 1 52 := by decide +kernel
theorem td_R_isClick_52 : tz_dk prog_7_method_12_code 52 (.iload_n 1) 1 53 := by decide +kernel
theorem td_R_isClick_53 : tz_dk prog_7_method_12_code 53 (.iconst 1) 1 54 := by decide +kernel
theorem td_R_isClick_54 : tz_dk prog_7_method_12_code 54 (.iadd) 1 55 := by decide +kernel
theorem td_R_isClick_55 : tz_dk prog_7_method_12_code 55 (.invokevirtual 45) 3 58 := by decide +kernel
theorem td_R_isClick_58 : tz_dk prog_7_method_12_code 58 (.isub) 1 59 := by decide +kernel
theorem td_R_isClick_59 : tz_dk prog_7_method_12_code 59 (.istore_n 3) 1 60 := by decide +kernel
theorem td_R_isClick_60 : tz_dk prog_7_method_12_code 60 (.iload_n 3) 1 61 := by decide +kernel
theorem td_R_isClick_61 : tz_dk prog_7_method_12_code 61 (.iload_n 2) 1 62 := by decide +kernel
theorem td_R_isClick_62 : tz_dj prog_7_method_12_code 62 (.if_icmp .gt 9) (9) 65 71 := by decide +kernel
theorem td_R_isClick_65 : tz_dk prog_7_method_12_code 65 (.iload_n 3) 1 66 := by decide +kernel
theorem td_R_isClick_66 : tz_dk prog_7_method_12_code 66 (.iload_n 2) 1 67 := by decide +kernel
theorem td_R_isClick_67 : tz_dk prog_7_method_12_code 67 (.ineg) 1 68 := by decide +kernel
theorem td_R_isClick_68 : tz_dj prog_7_method_12_code 68 (.if_icmp .ge 7) (7) 71 75 := by decide +kernel
theorem td_R_isClick_71 : tz_dk prog_7_method_12_code 71 (.iconst 1) 1 72 := by decide +kernel
theorem td_R_isClick_72 : tz_dj prog_7_method_12_code 72 (.goto 4) (4) 75 76 := by decide +kernel
theorem td_R_isClick_75 : tz_dk prog_7_method_12_code 75 (.iconst 0) 1 76 := by decide +kernel
theorem td_R_isClick_76 : tz_dk prog_7_method_12_code 76 (.ireturn) 1 77 := by decide +kernel
theorem td_X_turn_0 : tz_dk prog_1_method_7_code 0 (.aload_n 0) 1 1 := by decide +kernel
theorem td_X_turn_1 : tz_dk prog_1_method_7_code 1 (.getfield 10) 3 4 := by decide +kernel
theorem td_X_turn_4 : tz_dk prog_1_method_7_code 4 (.iload_n 1) 1 5 := by decide +kernel
theorem td_X_turn_5 : tz_dk prog_1_method_7_code 5 (.invokevirtual 62) 3 8 := by decide +kernel
theorem td_X_turn_8 : tz_dk prog_1_method_7_code 8 (.astore_n 3) 1 9 := by decide +kernel
theorem td_X_turn_9 : tz_dk prog_1_method_7_code 9 (.aload_n 3) 1 10 := by decide +kernel
theorem td_X_turn_10 : tz_dj prog_1_method_7_code 10 (.ifnonnull 10) (10) 13 20 := by decide +kernel
theorem td_X_turn_13 : tz_dk prog_1_method_7_code 13 (.aload_n 0) 1 14 := by decide +kernel
theorem td_X_turn_14 : tz_dk prog_1_method_7_code 14 (.ldc 66) 2 16 := by decide +kernel
theorem td_X_turn_16 : tz_dk prog_1_method_7_code 16 (.invokevirtual 67) 3 19 := by decide +kernel
theorem td_X_turn_19 : tz_dk prog_1_method_7_code 19 (.ireturn) 1 20 := by decide +kernel
theorem td_X_turn_20 : tz_dk prog_1_method_7_code 20 (.aload_n 0) 1 21 := by decide +kernel
theorem td_X_turn_21 : tz_dk prog_1_method_7_code 21 (.getfield 33) 3 24 := by decide +kernel
theorem td_X_turn_24 : tz_dk prog_1_method_7_code 24 (.aload_n 3) 1 25 := by decide +kernel
theorem td_X_turn_25 : tz_dk prog_1_method_7_code 25 (.invokevirtual 105) 3 28 := by decide +kernel
theorem td_X_turn_28 : tz_dk prog_1_method_7_code 28 (.aload_n 0) 1 29 := by decide +kernel
theorem td_X_turn_29 : tz_dk prog_1_method_7_code 29 (.aload_n 0) 1 30 := by decide +kernel
theorem td_X_turn_30 : tz_dk prog_1_method_7_code 30 (.getfield 33) 3 33 := by decide +kernel
theorem td_X_turn_33 : tz_dk prog_1_method_7_code 33 (.iload_n 2) 1 34 := by decide +kernel
theorem td_X_turn_34 : tz_dk prog_1_method_7_code 34 (.invokevirtual 115) 3 37 := by decide +kernel
theorem td_X_turn_37 : tz_dk prog_1_method_7_code 37 (.invokevirtual 67) 3 40 := by decide +kernel
theorem td_X_turn_40 : tz_dk prog_1_method_7_code 40 (.ireturn) 1 41 := by decide +kernel
theorem td_U_placeAt_0 : tz_dk prog_11_method_4_code 0 (.iload_n 1) 1 1 := by decide +kernel
theorem td_U_placeAt_1 : tz_dj prog_11_method_4_code 1 (.ifCond .lt 29) (29) 4 30 := by decide +kernel
theorem td_U_placeAt_4 : tz_dk prog_11_method_4_code 4 (.iload_n 1) 1 5 := by decide +kernel
theorem td_U_placeAt_5 : tz_dk prog_11_method_4_code 5 (.aload_n 0) 1 6 := by decide +kernel
theorem td_U_placeAt_6 : tz_dk prog_11_method_4_code 6 (.getfield 15) 3 9 := by decide +kernel
theorem td_U_placeAt_9 : tz_dj prog_11_method_4_code 9 (.if_icmp .ge 21) (21) 12 30 := by decide +kernel
theorem td_U_placeAt_12 : tz_dk prog_11_method_4_code 12 (.iload_n 1) 1 13 := by decide +kernel
theorem td_U_placeAt_13 : tz_dk prog_11_method_4_code 13 (.aload_n 0) 1 14 := by decide +kernel
theorem td_U_placeAt_14 : tz_dk prog_11_method_4_code 14 (.getfield 9) 3 17 := by decide +kernel
theorem td_U_placeAt_17 : tz_dk prog_11_method_4_code 17 (.arraylength) 1 18 := by decide +kernel
theorem td_U_placeAt_18 : tz_dj prog_11_method_4_code 18 (.if_icmp .ge 12) (12) 21 30 := by decide +kernel
theorem td_U_placeAt_21 : tz_dk prog_11_method_4_code 21 (.aload_n 0) 1 22 := by decide +kernel
theorem td_U_placeAt_22 : tz_dk prog_11_method_4_code 22 (.getfield 9) 3 25 := by decide +kernel
theorem td_U_placeAt_25 : tz_dk prog_11_method_4_code 25 (.iload_n 1) 1 26 := by decide +kernel
theorem td_U_placeAt_26 : tz_dk prog_11_method_4_code 26 (.iaload) 1 27 := by decide +kernel
theorem td_U_placeAt_27 : tz_dj prog_11_method_4_code 27 (.goto 5) (5) 30 32 := by decide +kernel
theorem td_U_placeAt_30 : tz_dk prog_11_method_4_code 30 (.ldc 29) 2 32 := by decide +kernel
theorem td_U_placeAt_32 : tz_dk prog_11_method_4_code 32 (.ireturn) 1 33 := by decide +kernel
theorem td_X_sheet_0 : tz_dk prog_1_method_8_code 0 (.aload_n 0) 1 1 := by decide +kernel
theorem td_X_sheet_1 : tz_dk prog_1_method_8_code 1 (.iload_n 1) 1 2 := by decide +kernel
theorem td_X_sheet_2 : tz_dk prog_1_method_8_code 2 (.invokevirtual 118) 3 5 := by decide +kernel
theorem td_X_sheet_5 : tz_dk prog_1_method_8_code 5 (.astore 4) 2 7 := by decide +kernel
theorem td_X_sheet_7 : tz_dk prog_1_method_8_code 7 (.aload 4) 2 9 := by decide +kernel
theorem td_X_sheet_9 : tz_dj prog_1_method_8_code 9 (.ifnull 10) (10) 12 19 := by decide +kernel
theorem td_X_sheet_12 : tz_dk prog_1_method_8_code 12 (.iload_n 2) 1 13 := by decide +kernel
theorem td_X_sheet_13 : tz_dk prog_1_method_8_code 13 (.invokestatic 122) 3 16 := by decide +kernel
theorem td_X_sheet_16 : tz_dj prog_1_method_8_code 16 (.ifCond .ne 10) (10) 19 26 := by decide +kernel
theorem td_X_sheet_19 : tz_dk prog_1_method_8_code 19 (.aload_n 0) 1 20 := by decide +kernel
theorem td_X_sheet_20 : tz_dk prog_1_method_8_code 20 (.ldc 66) 2 22 := by decide +kernel
theorem td_X_sheet_22 : tz_dk prog_1_method_8_code 22 (.invokevirtual 67) 3 25 := by decide +kernel
theorem td_X_sheet_25 : tz_dk prog_1_method_8_code 25 (.ireturn) 1 26 := by decide +kernel
theorem td_X_sheet_26 : tz_dk prog_1_method_8_code 26 (.iload_n 3) 1 27 := by decide +kernel
theorem td_X_sheet_27 : tz_dj prog_1_method_8_code 27 (.ifCond .ge 10) (10) 30 37 := by decide +kernel
theorem td_X_sheet_30 : tz_dk prog_1_method_8_code 30 (.aload_n 0) 1 31 := by decide +kernel
theorem td_X_sheet_31 : tz_dk prog_1_method_8_code 31 (.ldc 125) 2 33 := by decide +kernel
theorem td_X_sheet_33 : tz_dk prog_1_method_8_code 33 (.invokevirtual 67) 3 36 := by decide +kernel
theorem td_X_sheet_36 : tz_dk prog_1_method_8_code 36 (.ireturn) 1 37 := by decide +kernel
theorem td_X_sheet_37 : tz_dk prog_1_method_8_code 37 (.iload_n 3) 1 38 := by decide +kernel
theorem td_X_sheet_38 : tz_dk prog_1_method_8_code 38 (.bipush 120) 2 40 := by decide +kernel
theorem td_X_sheet_40 : tz_dj prog_1_method_8_code 40 (.if_icmp .le 10) (10) 43 50 := by decide +kernel
theorem td_X_sheet_43 : tz_dk prog_1_method_8_code 43 (.aload_n 0) 1 44 := by decide +kernel
theorem td_X_sheet_44 : tz_dk prog_1_method_8_code 44 (.ldc 66) 2 46 := by decide +kernel
theorem td_X_sheet_46 : tz_dk prog_1_method_8_code 46 (.invokevirtual 67) 3 49 := by decide +kernel
theorem td_X_sheet_49 : tz_dk prog_1_method_8_code 49 (.ireturn) 1 50 := by decide +kernel
theorem td_X_sheet_50 : tz_dk prog_1_method_8_code 50 (.aload 4) 2 52 := by decide +kernel
theorem td_X_sheet_52 : tz_dk prog_1_method_8_code 52 (.iload_n 2) 1 53 := by decide +kernel
theorem td_X_sheet_53 : tz_dk prog_1_method_8_code 53 (.iload_n 2) 1 54 := by decide +kernel
theorem td_X_sheet_54 : tz_dj prog_1_method_8_code 54 (.ifCond .ne 7) (7) 57 61 := by decide +kernel
theorem td_X_sheet_57 : tz_dk prog_1_method_8_code 57 (.iconst 0) 1 58 := by decide +kernel
theorem td_X_sheet_58 : tz_dj prog_1_method_8_code 58 (.goto 4) (4) 61 62 := by decide +kernel
theorem td_X_sheet_61 : tz_dk prog_1_method_8_code 61 (.iload_n 3) 1 62 := by decide +kernel
theorem td_X_sheet_62 : tz_dk prog_1_method_8_code 62 (.invokevirtual 126) 3 65 := by decide +kernel
theorem td_X_sheet_65 : tz_dk prog_1_method_8_code 65 (.aload 4) 2 67 := by decide +kernel
theorem td_X_sheet_67 : tz_dk prog_1_method_8_code 67 (.invokevirtual 128) 3 70 := by decide +kernel
theorem td_X_sheet_70 : tz_dk prog_1_method_8_code 70 (.ireturn) 1 71 := by decide +kernel
theorem td_X_sheetAt_0 : tz_dk prog_1_method_32_code 0 (.iload_n 1) 1 1 := by decide +kernel
theorem td_X_sheetAt_1 : tz_dj prog_1_method_32_code 1 (.ifCond .lt 21) (21) 4 22 := by decide +kernel
theorem td_X_sheetAt_4 : tz_dk prog_1_method_32_code 4 (.iload_n 1) 1 5 := by decide +kernel
theorem td_X_sheetAt_5 : tz_dk prog_1_method_32_code 5 (.aload_n 0) 1 6 := by decide +kernel
theorem td_X_sheetAt_6 : tz_dk prog_1_method_32_code 6 (.getfield 25) 3 9 := by decide +kernel
theorem td_X_sheetAt_9 : tz_dk prog_1_method_32_code 9 (.arraylength) 1 10 := by decide +kernel
theorem td_X_sheetAt_10 : tz_dj prog_1_method_32_code 10 (.if_icmp .ge 12) (12) 13 22 := by decide +kernel
theorem td_X_sheetAt_13 : tz_dk prog_1_method_32_code 13 (.aload_n 0) 1 14 := by decide +kernel
theorem td_X_sheetAt_14 : tz_dk prog_1_method_32_code 14 (.getfield 25) 3 17 := by decide +kernel
theorem td_X_sheetAt_17 : tz_dk prog_1_method_32_code 17 (.iload_n 1) 1 18 := by decide +kernel
theorem td_X_sheetAt_18 : tz_dk prog_1_method_32_code 18 (.aaload) 1 19 := by decide +kernel
theorem td_X_sheetAt_19 : tz_dj prog_1_method_32_code 19 (.goto 4) (4) 22 23 := by decide +kernel
theorem td_X_sheetAt_22 : tz_dk prog_1_method_32_code 22 (.aconst_null) 1 23 := by decide +kernel
theorem td_X_sheetAt_23 : tz_dk prog_1_method_32_code 23 (.areturn) 1 24 := by decide +kernel
theorem td_Q_canHave_0 : tz_dk prog_8_method_2_code 0 (.iload_n 0) 1 1 := by decide +kernel
theorem td_Q_canHave_1 : tz_dj prog_8_method_2_code 1 (.ifCond .eq 21) (21) 4 22 := by decide +kernel
theorem td_Q_canHave_4 : tz_dk prog_8_method_2_code 4 (.iload_n 0) 1 5 := by decide +kernel
theorem td_Q_canHave_5 : tz_dk prog_8_method_2_code 5 (.bipush 8) 2 7 := by decide +kernel
theorem td_Q_canHave_7 : tz_dj prog_8_method_2_code 7 (.if_icmp .eq 15) (15) 10 22 := by decide +kernel
theorem td_Q_canHave_10 : tz_dk prog_8_method_2_code 10 (.iload_n 0) 1 11 := by decide +kernel
theorem td_Q_canHave_11 : tz_dk prog_8_method_2_code 11 (.bipush 16) 2 13 := by decide +kernel
theorem td_Q_canHave_13 : tz_dj prog_8_method_2_code 13 (.if_icmp .eq 9) (9) 16 22 := by decide +kernel
theorem td_Q_canHave_16 : tz_dk prog_8_method_2_code 16 (.iload_n 0) 1 17 := by decide +kernel
theorem td_Q_canHave_17 : tz_dk prog_8_method_2_code 17 (.bipush 32) 2 19 := by decide +kernel
theorem td_Q_canHave_19 : tz_dj prog_8_method_2_code 19 (.if_icmp .ne 7) (7) 22 26 := by decide +kernel
theorem td_Q_canHave_22 : tz_dk prog_8_method_2_code 22 (.iconst 1) 1 23 := by decide +kernel
theorem td_Q_canHave_23 : tz_dj prog_8_method_2_code 23 (.goto 4) (4) 26 27 := by decide +kernel
theorem td_Q_canHave_26 : tz_dk prog_8_method_2_code 26 (.iconst 0) 1 27 := by decide +kernel
theorem td_Q_canHave_27 : tz_dk prog_8_method_2_code 27 (.ireturn) 1 28 := by decide +kernel
end
section
theorem td_Q_restart_0 : tz_dk prog_8_method_7_code 0 (.aload_n 0) 1 1 := by decide +kernel
theorem td_Q_restart_1 : tz_dk prog_8_method_7_code 1 (.getfield 9) 3 4 := by decide +kernel
theorem td_Q_restart_4 : tz_dk prog_8_method_7_code 4 (.iconst 0) 1 5 := by decide +kernel
theorem td_Q_restart_5 : tz_dk prog_8_method_7_code 5 (.invokestatic 22) 3 8 := by decide +kernel
theorem td_Q_restart_8 : tz_dk prog_8_method_7_code 8 (.aload_n 0) 1 9 := by decide +kernel
theorem td_Q_restart_9 : tz_dk prog_8_method_7_code 9 (.iload_n 1) 1 10 := by decide +kernel
theorem td_Q_restart_10 : tz_dk prog_8_method_7_code 10 (.putfield 15) 3 13 := by decide +kernel
theorem td_Q_restart_13 : tz_dk prog_8_method_7_code 13 (.aload_n 0) 1 14 := by decide +kernel
theorem td_Q_restart_14 : tz_dk prog_8_method_7_code 14 (.iconst 0) 1 15 := by decide +kernel
theorem td_Q_restart_15 : tz_dk prog_8_method_7_code 15 (.iload_n 2) 1 16 := by decide +kernel
theorem td_Q_restart_16 : tz_dk prog_8_method_7_code 16 (.aload_n 0) 1 17 := by decide +kernel
theorem td_Q_restart_17 : tz_dk prog_8_method_7_code 17 (.getfield 9) 3 20 := by decide +kernel
theorem td_Q_restart_20 : tz_dk prog_8_method_7_code 20 (.arraylength) 1 21 := by decide +kernel
theorem td_Q_restart_21 : tz_dk prog_8_method_7_code 21 (.invokestatic 28) 3 24 := by decide +kernel
theorem td_Q_restart_24 : tz_dk prog_8_method_7_code 24 (.invokestatic 34) 3 27 := by decide +kernel
theorem td_Q_restart_27 : tz_dk prog_8_method_7_code 27 (.putfield 19) 3 30 := by decide +kernel
theorem td_Q_restart_30 : tz_dk prog_8_method_7_code 30 (.return_) 1 31 := by decide +kernel
theorem td_Q_length_0 : tz_dk prog_8_method_5_code 0 (.aload_n 0) 1 1 := by decide +kernel
theorem td_Q_length_1 : tz_dk prog_8_method_5_code 1 (.getfield 19) 3 4 := by decide +kernel
theorem td_Q_length_4 : tz_dk prog_8_method_5_code 4 (.ireturn) 1 5 := by decide +kernel
theorem td_X_write_0 : tz_dk prog_1_method_9_code 0 (.aload_n 0) 1 1 := by decide +kernel
theorem td_X_write_1 : tz_dk prog_1_method_9_code 1 (.iload_n 1) 1 2 := by decide +kernel
theorem td_X_write_2 : tz_dk prog_1_method_9_code 2 (.invokevirtual 118) 3 5 := by decide +kernel
theorem td_X_write_5 : tz_dk prog_1_method_9_code 5 (.astore 4) 2 7 := by decide +kernel
theorem td_X_write_7 : tz_dk prog_1_method_9_code 7 (.aload 4) 2 9 := by decide +kernel
theorem td_X_write_9 : tz_dj prog_1_method_9_code 9 (.ifnonnull 10) (10) 12 19 := by decide +kernel
theorem td_X_write_12 : tz_dk prog_1_method_9_code 12 (.aload_n 0) 1 13 := by decide +kernel
theorem td_X_write_13 : tz_dk prog_1_method_9_code 13 (.ldc 66) 2 15 := by decide +kernel
theorem td_X_write_15 : tz_dk prog_1_method_9_code 15 (.invokevirtual 67) 3 18 := by decide +kernel
theorem td_X_write_18 : tz_dk prog_1_method_9_code 18 (.ireturn) 1 19 := by decide +kernel
theorem td_X_write_19 : tz_dk prog_1_method_9_code 19 (.aload 4) 2 21 := by decide +kernel
theorem td_X_write_21 : tz_dk prog_1_method_9_code 21 (.invokevirtual 129) 3 24 := by decide +kernel
theorem td_X_write_24 : tz_dj prog_1_method_9_code 24 (.ifCond .eq 10) (10) 27 34 := by decide +kernel
theorem td_X_write_27 : tz_dk prog_1_method_9_code 27 (.aload_n 0) 1 28 := by decide +kernel
theorem td_X_write_28 : tz_dk prog_1_method_9_code 28 (.ldc 133) 2 30 := by decide +kernel
theorem td_X_write_30 : tz_dk prog_1_method_9_code 30 (.invokevirtual 67) 3 33 := by decide +kernel
theorem td_X_write_33 : tz_dk prog_1_method_9_code 33 (.ireturn) 1 34 := by decide +kernel
theorem td_X_write_34 : tz_dk prog_1_method_9_code 34 (.aload 4) 2 36 := by decide +kernel
theorem td_X_write_36 : tz_dk prog_1_method_9_code 36 (.iload_n 2) 1 37 := by decide +kernel
theorem td_X_write_37 : tz_dk prog_1_method_9_code 37 (.invokevirtual 134) 3 40 := by decide +kernel
theorem td_X_write_40 : tz_dj prog_1_method_9_code 40 (.ifCond .ne 10) (10) 43 50 := by decide +kernel
theorem td_X_write_43 : tz_dk prog_1_method_9_code 43 (.aload_n 0) 1 44 := by decide +kernel
theorem td_X_write_44 : tz_dk prog_1_method_9_code 44 (.ldc 66) 2 46 := by decide +kernel
theorem td_X_write_46 : tz_dk prog_1_method_9_code 46 (.invokevirtual 67) 3 49 := by decide +kernel
theorem td_X_write_49 : tz_dk prog_1_method_9_code 49 (.ireturn) 1 50 := by decide +kernel
theorem td_X_write_50 : tz_dk prog_1_method_9_code 50 (.aload 4) 2 52 := by decide +kernel
theorem td_X_write_52 : tz_dk prog_1_method_9_code 52 (.iload_n 2) 1 53 := by decide +kernel
theorem td_X_write_53 : tz_dk prog_1_method_9_code 53 (.iload_n 3) 1 54 := by decide +kernel
theorem td_X_write_54 : tz_dk prog_1_method_9_code 54 (.invokevirtual 135) 3 57 := by decide +kernel
theorem td_X_write_57 : tz_dk prog_1_method_9_code 57 (.iconst 0) 1 58 := by decide +kernel
theorem td_X_write_58 : tz_dk prog_1_method_9_code 58 (.ireturn) 1 59 := by decide +kernel
theorem td_Q_isMissing_0 : tz_dk prog_8_method_3_code 0 (.aload_n 0) 1 1 := by decide +kernel
theorem td_Q_isMissing_1 : tz_dk prog_8_method_3_code 1 (.getfield 15) 3 4 := by decide +kernel
theorem td_Q_isMissing_4 : tz_dj prog_8_method_3_code 4 (.ifCond .ne 7) (7) 7 11 := by decide +kernel
theorem td_Q_isMissing_7 : tz_dk prog_8_method_3_code 7 (.iconst 1) 1 8 := by decide +kernel
theorem td_Q_isMissing_8 : tz_dj prog_8_method_3_code 8 (.goto 4) (4) 11 12 := by decide +kernel
theorem td_Q_isMissing_11 : tz_dk prog_8_method_3_code 11 (.iconst 0) 1 12 := by decide +kernel
theorem td_Q_isMissing_12 : tz_dk prog_8_method_3_code 12 (.ireturn) 1 13 := by decide +kernel
theorem td_Q_has_0 : tz_dk prog_8_method_6_code 0 (.iload_n 1) 1 1 := by decide +kernel
theorem td_Q_has_1 : tz_dj prog_8_method_6_code 1 (.ifCond .lt 24) (24) 4 25 := by decide +kernel
theorem td_Q_has_4 : tz_dk prog_8_method_6_code 4 (.iload_n 1) 1 5 := by decide +kernel
theorem td_Q_has_5 : tz_dk prog_8_method_6_code 5 (.aload_n 0) 1 6 := by decide +kernel
theorem td_Q_has_6 : tz_dk prog_8_method_6_code 6 (.getfield 19) 3 9 := by decide +kernel
theorem td_Q_has_9 : tz_dj prog_8_method_6_code 9 (.if_icmp .ge 16) (16) 12 25 := by decide +kernel
theorem td_Q_has_12 : tz_dk prog_8_method_6_code 12 (.iload_n 1) 1 13 := by decide +kernel
theorem td_Q_has_13 : tz_dk prog_8_method_6_code 13 (.aload_n 0) 1 14 := by decide +kernel
theorem td_Q_has_14 : tz_dk prog_8_method_6_code 14 (.getfield 9) 3 17 := by decide +kernel
theorem td_Q_has_17 : tz_dk prog_8_method_6_code 17 (.arraylength) 1 18 := by decide +kernel
theorem td_Q_has_18 : tz_dj prog_8_method_6_code 18 (.if_icmp .ge 7) (7) 21 25 := by decide +kernel
theorem td_Q_has_21 : tz_dk prog_8_method_6_code 21 (.iconst 1) 1 22 := by decide +kernel
theorem td_Q_has_22 : tz_dj prog_8_method_6_code 22 (.goto 4) (4) 25 26 := by decide +kernel
theorem td_Q_has_25 : tz_dk prog_8_method_6_code 25 (.iconst 0) 1 26 := by decide +kernel
theorem td_Q_has_26 : tz_dk prog_8_method_6_code 26 (.ireturn) 1 27 := by decide +kernel
theorem td_Q_set_0 : tz_dk prog_8_method_8_code 0 (.aload_n 0) 1 1 := by decide +kernel
theorem td_Q_set_1 : tz_dk prog_8_method_8_code 1 (.iload_n 1) 1 2 := by decide +kernel
theorem td_Q_set_2 : tz_dk prog_8_method_8_code 2 (.invokevirtual 37) 3 5 := by decide +kernel
theorem td_Q_set_5 : tz_dj prog_8_method_8_code 5 (.ifCond .eq 22) (22) 8 27 := by decide +kernel
theorem td_Q_set_8 : tz_dk prog_8_method_8_code 8 (.bipush 32) 2 10 := by decide +kernel
theorem td_Q_set_10 : tz_dk prog_8_method_8_code 10 (.aload_n 0) 1 11 := by decide +kernel
theorem td_Q_set_11 : tz_dk prog_8_method_8_code 11 (.getfield 15) 3 14 := by decide +kernel
theorem td_Q_set_14 : tz_dk prog_8_method_8_code 14 (.isub) 1 15 := by decide +kernel
theorem td_Q_set_15 : tz_dk prog_8_method_8_code 15 (.istore_n 3) 1 16 := by decide +kernel
theorem td_Q_set_16 : tz_dk prog_8_method_8_code 16 (.aload_n 0) 1 17 := by decide +kernel
theorem td_Q_set_17 : tz_dk prog_8_method_8_code 17 (.getfield 9) 3 20 := by decide +kernel
theorem td_Q_set_20 : tz_dk prog_8_method_8_code 20 (.iload_n 1) 1 21 := by decide +kernel
theorem td_Q_set_21 : tz_dk prog_8_method_8_code 21 (.iload_n 2) 1 22 := by decide +kernel
theorem td_Q_set_22 : tz_dk prog_8_method_8_code 22 (.iload_n 3) 1 23 := by decide +kernel
theorem td_Q_set_23 : tz_dk prog_8_method_8_code 23 (.ishl) 1 24 := by decide +kernel
theorem td_Q_set_24 : tz_dk prog_8_method_8_code 24 (.iload_n 3) 1 25 := by decide +kernel
theorem td_Q_set_25 : tz_dk prog_8_method_8_code 25 (.ishr) 1 26 := by decide +kernel
theorem td_Q_set_26 : tz_dk prog_8_method_8_code 26 (.iastore) 1 27 := by decide +kernel
theorem td_Q_set_27 : tz_dk prog_8_method_8_code 27 (.return_) 1 28 := by decide +kernel
theorem td_X_copy_0 : tz_dk prog_1_method_10_code 0 (.aload_n 0) 1 1 := by decide +kernel
theorem td_X_copy_1 : tz_dk prog_1_method_10_code 1 (.iload_n 1) 1 2 := by decide +kernel
theorem td_X_copy_2 : tz_dk prog_1_method_10_code 2 (.invokevirtual 118) 3 5 := by decide +kernel
theorem td_X_copy_5 : tz_dk prog_1_method_10_code 5 (.astore 6) 2 7 := by decide +kernel
theorem td_X_copy_7 : tz_dk prog_1_method_10_code 7 (.aload_n 0) 1 8 := by decide +kernel
theorem td_X_copy_8 : tz_dk prog_1_method_10_code 8 (.iload_n 3) 1 9 := by decide +kernel
theorem td_X_copy_9 : tz_dk prog_1_method_10_code 9 (.invokevirtual 118) 3 12 := by decide +kernel
theorem td_X_copy_12 : tz_dk prog_1_method_10_code 12 (.astore 7) 2 14 := by decide +kernel
theorem td_X_copy_14 : tz_dk prog_1_method_10_code 14 (.aload 6) 2 16 := by decide +kernel
theorem td_X_copy_16 : tz_dj prog_1_method_10_code 16 (.ifnull 8) (8) 19 24 := by decide +kernel
theorem td_X_copy_19 : tz_dk prog_1_method_10_code 19 (.aload 7) 2 21 := by decide +kernel
theorem td_X_copy_21 : tz_dj prog_1_method_10_code 21 (.ifnonnull 10) (10) 24 31 := by decide +kernel
theorem td_X_copy_24 : tz_dk prog_1_method_10_code 24 (.aload_n 0) 1 25 := by decide +kernel
theorem td_X_copy_25 : tz_dk prog_1_method_10_code 25 (.ldc 66) 2 27 := by decide +kernel
theorem td_X_copy_27 : tz_dk prog_1_method_10_code 27 (.invokevirtual 67) 3 30 := by decide +kernel
theorem td_X_copy_30 : tz_dk prog_1_method_10_code 30 (.ireturn) 1 31 := by decide +kernel
theorem td_X_copy_31 : tz_dk prog_1_method_10_code 31 (.aload 6) 2 33 := by decide +kernel
theorem td_X_copy_33 : tz_dk prog_1_method_10_code 33 (.invokevirtual 129) 3 36 := by decide +kernel
theorem td_X_copy_36 : tz_dj prog_1_method_10_code 36 (.ifCond .ne 11) (11) 39 47 := by decide +kernel
theorem td_X_copy_39 : tz_dk prog_1_method_10_code 39 (.aload 7) 2 41 := by decide +kernel
theorem td_X_copy_41 : tz_dk prog_1_method_10_code 41 (.invokevirtual 129) 3 44 := by decide +kernel
theorem td_X_copy_44 : tz_dj prog_1_method_10_code 44 (.ifCond .eq 10) (10) 47 54 := by decide +kernel
theorem td_X_copy_47 : tz_dk prog_1_method_10_code 47 (.aload_n 0) 1 48 := by decide +kernel
theorem td_X_copy_48 : tz_dk prog_1_method_10_code 48 (.ldc 133) 2 50 := by decide +kernel
theorem td_X_copy_50 : tz_dk prog_1_method_10_code 50 (.invokevirtual 67) 3 53 := by decide +kernel
theorem td_X_copy_53 : tz_dk prog_1_method_10_code 53 (.ireturn) 1 54 := by decide +kernel
theorem td_X_copy_54 : tz_dk prog_1_method_10_code 54 (.aload 6) 2 56 := by decide +kernel
theorem td_X_copy_56 : tz_dk prog_1_method_10_code 56 (.invokevirtual 136) 3 59 := by decide +kernel
theorem td_X_copy_59 : tz_dk prog_1_method_10_code 59 (.aload 7) 2 61 := by decide +kernel
theorem td_X_copy_61 : tz_dk prog_1_method_10_code 61 (.invokevirtual 136) 3 64 := by decide +kernel
theorem td_X_copy_64 : tz_dj prog_1_method_10_code 64 (.if_icmp .eq 10) (10) 67 74 := by decide +kernel
theorem td_X_copy_67 : tz_dk prog_1_method_10_code 67 (.aload_n 0) 1 68 := by decide +kernel
theorem td_X_copy_68 : tz_dk prog_1_method_10_code 68 (.ldc 139) 2 70 := by decide +kernel
theorem td_X_copy_70 : tz_dk prog_1_method_10_code 70 (.invokevirtual 67) 3 73 := by decide +kernel
theorem td_X_copy_73 : tz_dk prog_1_method_10_code 73 (.ireturn) 1 74 := by decide +kernel
theorem td_X_copy_74 : tz_dk prog_1_method_10_code 74 (.aload 6) 2 76 := by decide +kernel
theorem td_X_copy_76 : tz_dk prog_1_method_10_code 76 (.invokevirtual 128) 3 79 := by decide +kernel
theorem td_X_copy_79 : tz_dk prog_1_method_10_code 79 (.iload_n 2) 1 80 := by decide +kernel
theorem td_X_copy_80 : tz_dk prog_1_method_10_code 80 (.iload 5) 2 82 := by decide +kernel
theorem td_X_copy_82 : tz_dk prog_1_method_10_code 82 (.invokestatic 98) 3 85 := by decide +kernel
theorem td_X_copy_85 : tz_dj prog_1_method_10_code 85 (.ifCond .eq 18) (18) 88 103 := by decide +kernel
theorem td_X_copy_88 : tz_dk prog_1_method_10_code 88 (.aload 7) 2 90 := by decide +kernel
theorem td_X_copy_90 : tz_dk prog_1_method_10_code 90 (.invokevirtual 128) 3 93 := by decide +kernel
theorem td_X_copy_93 : tz_dk prog_1_method_10_code 93 (.iload 4) 2 95 := by decide +kernel
theorem td_X_copy_95 : tz_dk prog_1_method_10_code 95 (.iload 5) 2 97 := by decide +kernel
theorem td_X_copy_97 : tz_dk prog_1_method_10_code 97 (.invokestatic 98) 3 100 := by decide +kernel
theorem td_X_copy_100 : tz_dj prog_1_method_10_code 100 (.ifCond .ne 10) (10) 103 110 := by decide +kernel
theorem td_X_copy_103 : tz_dk prog_1_method_10_code 103 (.aload_n 0) 1 104 := by decide +kernel
theorem td_X_copy_104 : tz_dk prog_1_method_10_code 104 (.ldc 66) 2 106 := by decide +kernel
theorem td_X_copy_106 : tz_dk prog_1_method_10_code 106 (.invokevirtual 67) 3 109 := by decide +kernel
theorem td_X_copy_109 : tz_dk prog_1_method_10_code 109 (.ireturn) 1 110 := by decide +kernel
theorem td_X_copy_110 : tz_dk prog_1_method_10_code 110 (.aload 7) 2 112 := by decide +kernel
theorem td_X_copy_112 : tz_dk prog_1_method_10_code 112 (.aload 6) 2 114 := by decide +kernel
theorem td_X_copy_114 : tz_dk prog_1_method_10_code 114 (.iload_n 2) 1 115 := by decide +kernel
theorem td_X_copy_115 : tz_dk prog_1_method_10_code 115 (.iload 4) 2 117 := by decide +kernel
theorem td_X_copy_117 : tz_dk prog_1_method_10_code 117 (.iload 5) 2 119 := by decide +kernel
theorem td_X_copy_119 : tz_dk prog_1_method_10_code 119 (.invokevirtual 140) 3 122 := by decide +kernel
theorem td_X_copy_122 : tz_dk prog_1_method_10_code 122 (.iload 5) 2 124 := by decide +kernel
theorem td_X_copy_124 : tz_dk prog_1_method_10_code 124 (.ireturn) 1 125 := by decide +kernel
theorem td_Q_bits_0 : tz_dk prog_8_method_4_code 0 (.aload_n 0) 1 1 := by decide +kernel
theorem td_Q_bits_1 : tz_dk prog_8_method_4_code 1 (.getfield 15) 3 4 := by decide +kernel
theorem td_Q_bits_4 : tz_dk prog_8_method_4_code 4 (.ireturn) 1 5 := by decide +kernel
theorem td_Q_take_0 : tz_dk prog_8_method_9_code 0 (.aload_n 1) 1 1 := by decide +kernel
theorem td_Q_take_1 : tz_dk prog_8_method_9_code 1 (.getfield 19) 3 4 := by decide +kernel
theorem td_Q_take_4 : tz_dk prog_8_method_9_code 4 (.iload_n 2) 1 5 := by decide +kernel
theorem td_Q_take_5 : tz_dk prog_8_method_9_code 5 (.iload 4) 2 7 := by decide +kernel
theorem td_Q_take_7 : tz_dk prog_8_method_9_code 7 (.invokestatic 41) 3 10 := by decide +kernel
theorem td_Q_take_10 : tz_dj prog_8_method_9_code 10 (.ifCond .eq 31) (31) 13 41 := by decide +kernel
theorem td_Q_take_13 : tz_dk prog_8_method_9_code 13 (.aload_n 0) 1 14 := by decide +kernel
theorem td_Q_take_14 : tz_dk prog_8_method_9_code 14 (.getfield 19) 3 17 := by decide +kernel
theorem td_Q_take_17 : tz_dk prog_8_method_9_code 17 (.iload_n 3) 1 18 := by decide +kernel
theorem td_Q_take_18 : tz_dk prog_8_method_9_code 18 (.iload 4) 2 20 := by decide +kernel
theorem td_Q_take_20 : tz_dk prog_8_method_9_code 20 (.invokestatic 41) 3 23 := by decide +kernel
theorem td_Q_take_23 : tz_dj prog_8_method_9_code 23 (.ifCond .eq 18) (18) 26 41 := by decide +kernel
theorem td_Q_take_26 : tz_dk prog_8_method_9_code 26 (.aload_n 1) 1 27 := by decide +kernel
theorem td_Q_take_27 : tz_dk prog_8_method_9_code 27 (.getfield 9) 3 30 := by decide +kernel
theorem td_Q_take_30 : tz_dk prog_8_method_9_code 30 (.iload_n 2) 1 31 := by decide +kernel
theorem td_Q_take_31 : tz_dk prog_8_method_9_code 31 (.aload_n 0) 1 32 := by decide +kernel
theorem td_Q_take_32 : tz_dk prog_8_method_9_code 32 (.getfield 9) 3 35 := by decide +kernel
theorem td_Q_take_35 : tz_dk prog_8_method_9_code 35 (.iload_n 3) 1 36 := by decide +kernel
theorem td_Q_take_36 : tz_dk prog_8_method_9_code 36 (.iload 4) 2 38 := by decide +kernel
theorem td_Q_take_38 : tz_dk prog_8_method_9_code 38 (.invokestatic 45) 3 41 := by decide +kernel
theorem td_Q_take_41 : tz_dk prog_8_method_9_code 41 (.return_) 1 42 := by decide +kernel
theorem td_X_lay_0 : tz_dk prog_1_method_11_code 0 (.aload_n 0) 1 1 := by decide +kernel
theorem td_X_lay_1 : tz_dk prog_1_method_11_code 1 (.getfield 10) 3 4 := by decide +kernel
theorem td_X_lay_4 : tz_dk prog_1_method_11_code 4 (.iload_n 1) 1 5 := by decide +kernel
theorem td_X_lay_5 : tz_dk prog_1_method_11_code 5 (.invokevirtual 62) 3 8 := by decide +kernel
theorem td_X_lay_8 : tz_dk prog_1_method_11_code 8 (.astore_n 3) 1 9 := by decide +kernel
theorem td_X_lay_9 : tz_dk prog_1_method_11_code 9 (.aload_n 0) 1 10 := by decide +kernel
theorem td_X_lay_10 : tz_dk prog_1_method_11_code 10 (.iload_n 2) 1 11 := by decide +kernel
theorem td_X_lay_11 : tz_dk prog_1_method_11_code 11 (.invokevirtual 118) 3 14 := by decide +kernel
theorem td_X_lay_14 : tz_dk prog_1_method_11_code 14 (.astore 4) 2 16 := by decide +kernel
theorem td_X_lay_16 : tz_dk prog_1_method_11_code 16 (.aload_n 3) 1 17 := by decide +kernel
theorem td_X_lay_17 : tz_dj prog_1_method_11_code 17 (.ifnull 8) (8) 20 25 := by decide +kernel
theorem td_X_lay_20 : tz_dk prog_1_method_11_code 20 (.aload 4) 2 22 := by decide +kernel
theorem td_X_lay_22 : tz_dj prog_1_method_11_code 22 (.ifnonnull 10) (10) 25 32 := by decide +kernel
theorem td_X_lay_25 : tz_dk prog_1_method_11_code 25 (.aload_n 0) 1 26 := by decide +kernel
theorem td_X_lay_26 : tz_dk prog_1_method_11_code 26 (.ldc 66) 2 28 := by decide +kernel
theorem td_X_lay_28 : tz_dk prog_1_method_11_code 28 (.invokevirtual 67) 3 31 := by decide +kernel
theorem td_X_lay_31 : tz_dk prog_1_method_11_code 31 (.ireturn) 1 32 := by decide +kernel
theorem td_X_lay_32 : tz_dk prog_1_method_11_code 32 (.aload 4) 2 34 := by decide +kernel
theorem td_X_lay_34 : tz_dk prog_1_method_11_code 34 (.invokevirtual 129) 3 37 := by decide +kernel
theorem td_X_lay_37 : tz_dj prog_1_method_11_code 37 (.ifCond .eq 10) (10) 40 47 := by decide +kernel
theorem td_X_lay_40 : tz_dk prog_1_method_11_code 40 (.aload_n 0) 1 41 := by decide +kernel
theorem td_X_lay_41 : tz_dk prog_1_method_11_code 41 (.ldc 133) 2 43 := by decide +kernel
theorem td_X_lay_43 : tz_dk prog_1_method_11_code 43 (.invokevirtual 67) 3 46 := by decide +kernel
theorem td_X_lay_46 : tz_dk prog_1_method_11_code 46 (.ireturn) 1 47 := by decide +kernel
theorem td_X_lay_47 : tz_dk prog_1_method_11_code 47 (.aload_n 0) 1 48 := by decide +kernel
theorem td_X_lay_48 : tz_dk prog_1_method_11_code 48 (.getfield 19) 3 51 := by decide +kernel
theorem td_X_lay_51 : tz_dk prog_1_method_11_code 51 (.aload_n 0) 1 52 := by decide +kernel
theorem td_X_lay_52 : tz_dk prog_1_method_11_code 52 (.getfield 10) 3 55 := by decide +kernel
theorem td_X_lay_55 : tz_dk prog_1_method_11_code 55 (.iload_n 1) 1 56 := by decide +kernel
theorem td_X_lay_56 : tz_dk prog_1_method_11_code 56 (.invokevirtual 71) 3 59 := by decide +kernel
theorem td_X_lay_59 : tz_dk prog_1_method_11_code 59 (.aload_n 3) 1 60 := by decide +kernel
theorem td_X_lay_60 : tz_dk prog_1_method_11_code 60 (.invokevirtual 144) 3 63 := by decide +kernel
theorem td_X_lay_63 : tz_dk prog_1_method_11_code 63 (.iconst 0) 1 64 := by decide +kernel
theorem td_X_lay_64 : tz_dk prog_1_method_11_code 64 (.istore 5) 2 66 := by decide +kernel
theorem td_X_lay_66 : tz_dk prog_1_method_11_code 66 (.iload 5) 2 68 := by decide +kernel
theorem td_X_lay_68 : tz_dk prog_1_method_11_code 68 (.aload 4) 2 70 := by decide +kernel
theorem td_X_lay_70 : tz_dk prog_1_method_11_code 70 (.invokevirtual 128) 3 73 := by decide +kernel
theorem td_X_lay_73 : tz_dj prog_1_method_11_code 73 (.if_icmp .ge 20) (20) 76 93 := by decide +kernel
theorem td_X_lay_76 : tz_dk prog_1_method_11_code 76 (.aload_n 3) 1 77 := by decide +kernel
theorem td_X_lay_77 : tz_dk prog_1_method_11_code 77 (.aload 4) 2 79 := by decide +kernel
theorem td_X_lay_79 : tz_dk prog_1_method_11_code 79 (.iload 5) 2 81 := by decide +kernel
theorem td_X_lay_81 : tz_dk prog_1_method_11_code 81 (.invokevirtual 147) 3 84 := by decide +kernel
theorem td_X_lay_84 : tz_dk prog_1_method_11_code 84 (.invokevirtual 150) 3 87 := by decide +kernel
theorem td_X_lay_87 : tz_dk prog_1_method_11_code 87 (.iinc 5 1) 3 90 := by decide +kernel
theorem td_X_lay_90 : tz_dj prog_1_method_11_code 90 (.goto (-24)) (-24) 93 66 := by decide +kernel
theorem td_X_lay_93 : tz_dk prog_1_method_11_code 93 (.aload_n 3) 1 94 := by decide +kernel
theorem td_X_lay_94 : tz_dk prog_1_method_11_code 94 (.invokevirtual 75) 3 97 := by decide +kernel
theorem td_X_lay_97 : tz_dk prog_1_method_11_code 97 (.aload_n 3) 1 98 := by decide +kernel
theorem td_X_lay_98 : tz_dk prog_1_method_11_code 98 (.invokevirtual 102) 3 101 := by decide +kernel
theorem td_X_lay_101 : tz_dk prog_1_method_11_code 101 (.isub) 1 102 := by decide +kernel
theorem td_X_lay_102 : tz_dk prog_1_method_11_code 102 (.ireturn) 1 103 := by decide +kernel
theorem td_R_empty_0 : tz_dk prog_7_method_7_code 0 (.aload_n 0) 1 1 := by decide +kernel
theorem td_R_empty_1 : tz_dk prog_7_method_7_code 1 (.iconst 0) 1 2 := by decide +kernel
theorem td_R_empty_2 : tz_dk prog_7_method_7_code 2 (.putfield 15) 3 5 := by decide +kernel
theorem td_R_empty_5 : tz_dk prog_7_method_7_code 5 (.return_) 1 6 := by decide +kernel
theorem td_Q_asSample_0 : tz_dk prog_8_method_10_code 0 (.aload_n 0) 1 1 := by decide +kernel
theorem td_Q_asSample_1 : tz_dk prog_8_method_10_code 1 (.iload_n 1) 1 2 := by decide +kernel
theorem td_Q_asSample_2 : tz_dk prog_8_method_10_code 2 (.invokevirtual 37) 3 5 := by decide +kernel
theorem td_Q_asSample_5 : tz_dj prog_8_method_10_code 5 (.ifCond .eq 35) (35) 8 40 := by decide +kernel
theorem td_Q_asSample_8 : tz_dk prog_8_method_10_code 8 (.aload_n 0) 1 9 := by decide +kernel
theorem td_Q_asSample_9 : tz_dk prog_8_method_10_code 9 (.getfield 9) 3 12 := by decide +kernel
theorem td_Q_asSample_12 : tz_dk prog_8_method_10_code 12 (.iload_n 1) 1 13 := by decide +kernel
theorem td_Q_asSample_13 : tz_dk prog_8_method_10_code 13 (.iaload) 1 14 := by decide +kernel
theorem td_Q_asSample_14 : tz_dk prog_8_method_10_code 14 (.invokestatic 51) 3 17 := by decide +kernel
theorem td_Q_asSample_17 : tz_dj prog_8_method_10_code 17 (.ifCond .eq 23) (23) 20 40 := by decide +kernel
theorem td_Q_asSample_20 : tz_dk prog_8_method_10_code 20 (.aload_n 0) 1 21 := by decide +kernel
theorem td_Q_asSample_21 : tz_dk prog_8_method_10_code 21 (.getfield 15) 3 24 := by decide +kernel
theorem td_Q_asSample_24 : tz_dk prog_8_method_10_code 24 (.bipush 8) 2 26 := by decide +kernel
theorem td_Q_asSample_26 : tz_dj prog_8_method_10_code 26 (.if_icmp .ne 17) (17) 29 43 := by decide +kernel
theorem td_Q_asSample_29 : tz_dk prog_8_method_10_code 29 (.aload_n 0) 1 30 := by decide +kernel
theorem td_Q_asSample_30 : tz_dk prog_8_method_10_code 30 (.getfield 9) 3 33 := by decide +kernel
theorem td_Q_asSample_33 : tz_dk prog_8_method_10_code 33 (.iload_n 1) 1 34 := by decide +kernel
theorem td_Q_asSample_34 : tz_dk prog_8_method_10_code 34 (.iaload) 1 35 := by decide +kernel
theorem td_Q_asSample_35 : tz_dk prog_8_method_10_code 35 (.bipush (-128)) 2 37 := by decide +kernel
theorem td_Q_asSample_37 : tz_dj prog_8_method_10_code 37 (.if_icmp .ne 6) (6) 40 43 := by decide +kernel
theorem td_Q_asSample_40 : tz_dk prog_8_method_10_code 40 (.ldc 54) 2 42 := by decide +kernel
theorem td_Q_asSample_42 : tz_dk prog_8_method_10_code 42 (.ireturn) 1 43 := by decide +kernel
theorem td_Q_asSample_43 : tz_dk prog_8_method_10_code 43 (.aload_n 0) 1 44 := by decide +kernel
theorem td_Q_asSample_44 : tz_dk prog_8_method_10_code 44 (.getfield 9) 3 47 := by decide +kernel
theorem td_Q_asSample_47 : tz_dk prog_8_method_10_code 47 (.iload_n 1) 1 48 := by decide +kernel
theorem td_Q_asSample_48 : tz_dk prog_8_method_10_code 48 (.iaload) 1 49 := by decide +kernel
theorem td_Q_asSample_49 : tz_dk prog_8_method_10_code 49 (.ireturn) 1 50 := by decide +kernel
theorem td_R_add_0 : tz_dk prog_7_method_6_code 0 (.aload_n 0) 1 1 := by decide +kernel
theorem td_R_add_1 : tz_dk prog_7_method_6_code 1 (.getfield 15) 3 4 := by decide +kernel
theorem td_R_add_4 : tz_dj prog_7_method_6_code 4 (.ifCond .lt 35) (35) 7 39 := by decide +kernel
theorem td_R_add_7 : tz_dk prog_7_method_6_code 7 (.aload_n 0) 1 8 := by decide +kernel
theorem td_R_add_8 : tz_dk prog_7_method_6_code 8 (.getfield 15) 3 11 := by decide +kernel
theorem td_R_add_11 : tz_dk prog_7_method_6_code 11 (.aload_n 0) 1 12 := by decide +kernel
theorem td_R_add_12 : tz_dk prog_7_method_6_code 12 (.getfield 9) 3 15 := by decide +kernel
theorem td_R_add_15 : tz_dk prog_7_method_6_code 15 (.arraylength) 1 16 := by decide +kernel
theorem td_R_add_16 : tz_dj prog_7_method_6_code 16 (.if_icmp .ge 23) (23) 19 39 := by decide +kernel
theorem td_R_add_19 : tz_dk prog_7_method_6_code 19 (.aload_n 0) 1 20 := by decide +kernel
theorem td_R_add_20 : tz_dk prog_7_method_6_code 20 (.getfield 9) 3 23 := by decide +kernel
theorem td_R_add_23 : tz_dk prog_7_method_6_code 23 (.aload_n 0) 1 24 := by decide +kernel
theorem td_R_add_24 : tz_dk prog_7_method_6_code 24 (.getfield 15) 3 27 := by decide +kernel
theorem td_R_add_27 : tz_dk prog_7_method_6_code 27 (.iload_n 1) 1 28 := by decide +kernel
theorem td_R_add_28 : tz_dk prog_7_method_6_code 28 (.iastore) 1 29 := by decide +kernel
theorem td_R_add_29 : tz_dk prog_7_method_6_code 29 (.aload_n 0) 1 30 := by decide +kernel
theorem td_R_add_30 : tz_dk prog_7_method_6_code 30 (.dup) 1 31 := by decide +kernel
theorem td_R_add_31 : tz_dk prog_7_method_6_code 31 (.getfield 15) 3 34 := by decide +kernel
theorem td_R_add_34 : tz_dk prog_7_method_6_code 34 (.iconst 1) 1 35 := by decide +kernel
theorem td_R_add_35 : tz_dk prog_7_method_6_code 35 (.iadd) 1 36 := by decide +kernel
theorem td_R_add_36 : tz_dk prog_7_method_6_code 36 (.putfield 15) 3 39 := by decide +kernel
theorem td_R_add_39 : tz_dk prog_7_method_6_code 39 (.return_) 1 40 := by decide +kernel
theorem td_X_layer_0 : tz_dk prog_1_method_12_code 0 (.iload_n 1) 1 1 := by decide +kernel
theorem td_X_layer_1 : tz_dk prog_1_method_12_code 1 (.iload_n 2) 1 2 := by decide +kernel
theorem td_X_layer_2 : tz_dk prog_1_method_12_code 2 (.iload_n 3) 1 3 := by decide +kernel
theorem td_X_layer_3 : tz_dk prog_1_method_12_code 3 (.invokestatic 153) 3 6 := by decide +kernel
theorem td_X_layer_6 : tz_dj prog_1_method_12_code 6 (.ifCond .ne 10) (10) 9 16 := by decide +kernel
theorem td_X_layer_9 : tz_dk prog_1_method_12_code 9 (.aload_n 0) 1 10 := by decide +kernel
theorem td_X_layer_10 : tz_dk prog_1_method_12_code 10 (.ldc 66) 2 12 := by decide +kernel
theorem td_X_layer_12 : tz_dk prog_1_method_12_code 12 (.invokevirtual 67) 3 15 := by decide +kernel
theorem td_X_layer_15 : tz_dk prog_1_method_12_code 15 (.ireturn) 1 16 := by decide +kernel
theorem td_X_layer_16 : tz_dk prog_1_method_12_code 16 (.aload_n 0) 1 17 := by decide +kernel
theorem td_X_layer_17 : tz_dk prog_1_method_12_code 17 (.getfield 10) 3 20 := by decide +kernel
theorem td_X_layer_20 : tz_dk prog_1_method_12_code 20 (.getfield 158) 3 23 := by decide +kernel
theorem td_X_layer_23 : tz_dk prog_1_method_12_code 23 (.invokevirtual 162) 3 26 := by decide +kernel
theorem td_X_layer_26 : tz_dk prog_1_method_12_code 26 (.istore 4) 2 28 := by decide +kernel
theorem td_X_layer_28 : tz_dk prog_1_method_12_code 28 (.iload 4) 2 30 := by decide +kernel
theorem td_X_layer_30 : tz_dk prog_1_method_12_code 30 (.bipush 8) 2 32 := by decide +kernel
theorem td_X_layer_32 : tz_dj prog_1_method_12_code 32 (.if_icmp .lt 10) (10) 35 42 := by decide +kernel
theorem td_X_layer_35 : tz_dk prog_1_method_12_code 35 (.aload_n 0) 1 36 := by decide +kernel
theorem td_X_layer_36 : tz_dk prog_1_method_12_code 36 (.ldc 167) 2 38 := by decide +kernel
theorem td_X_layer_38 : tz_dk prog_1_method_12_code 38 (.invokevirtual 67) 3 41 := by decide +kernel
theorem td_X_layer_41 : tz_dk prog_1_method_12_code 41 (.ireturn) 1 42 := by decide +kernel
theorem td_X_layer_42 : tz_dk prog_1_method_12_code 42 (.aload_n 0) 1 43 := by decide +kernel
theorem td_X_layer_43 : tz_dk prog_1_method_12_code 43 (.getfield 19) 3 46 := by decide +kernel
theorem td_X_layer_46 : tz_dk prog_1_method_12_code 46 (.aload_n 0) 1 47 := by decide +kernel
theorem td_X_layer_47 : tz_dk prog_1_method_12_code 47 (.getfield 10) 3 50 := by decide +kernel
theorem td_X_layer_50 : tz_dk prog_1_method_12_code 50 (.iconst (-1)) 1 51 := by decide +kernel
theorem td_X_layer_51 : tz_dk prog_1_method_12_code 51 (.invokevirtual 71) 3 54 := by decide +kernel
theorem td_X_layer_54 : tz_dk prog_1_method_12_code 54 (.aload_n 0) 1 55 := by decide +kernel
theorem td_X_layer_55 : tz_dk prog_1_method_12_code 55 (.getfield 10) 3 58 := by decide +kernel
theorem td_X_layer_58 : tz_dk prog_1_method_12_code 58 (.getfield 158) 3 61 := by decide +kernel
theorem td_X_layer_61 : tz_dk prog_1_method_12_code 61 (.iload 4) 2 63 := by decide +kernel
theorem td_X_layer_63 : tz_dk prog_1_method_12_code 63 (.new 154) 3 66 := by decide +kernel
theorem td_X_layer_66 : tz_dk prog_1_method_12_code 66 (.dup) 1 67 := by decide +kernel
theorem td_X_layer_67 : tz_dk prog_1_method_12_code 67 (.iload_n 1) 1 68 := by decide +kernel
theorem td_X_layer_68 : tz_dk prog_1_method_12_code 68 (.iload_n 2) 1 69 := by decide +kernel
theorem td_X_layer_69 : tz_dk prog_1_method_12_code 69 (.iload_n 1) 1 70 := by decide +kernel
theorem td_X_layer_70 : tz_dk prog_1_method_12_code 70 (.invokestatic 168) 3 73 := by decide +kernel
theorem td_X_layer_73 : tz_dj prog_1_method_12_code 73 (.ifCond .eq 7) (7) 76 80 := by decide +kernel
theorem td_X_layer_76 : tz_dk prog_1_method_12_code 76 (.iload_n 3) 1 77 := by decide +kernel
theorem td_X_layer_77 : tz_dj prog_1_method_12_code 77 (.goto 4) (4) 80 81 := by decide +kernel
theorem td_X_layer_80 : tz_dk prog_1_method_12_code 80 (.iconst 0) 1 81 := by decide +kernel
theorem td_X_layer_81 : tz_dk prog_1_method_12_code 81 (.iconst 1) 1 82 := by decide +kernel
theorem td_X_layer_82 : tz_dk prog_1_method_12_code 82 (.invokespecial 171) 3 85 := by decide +kernel
theorem td_X_layer_85 : tz_dk prog_1_method_12_code 85 (.invokevirtual 174) 3 88 := by decide +kernel
theorem td_X_layer_88 : tz_dk prog_1_method_12_code 88 (.iload 4) 2 90 := by decide +kernel
theorem td_X_layer_90 : tz_dk prog_1_method_12_code 90 (.ireturn) 1 91 := by decide +kernel
theorem td_L_canBe_0 : tz_dk prog_4_method_3_code 0 (.iload_n 0) 1 1 := by decide +kernel
theorem td_L_canBe_1 : tz_dj prog_4_method_3_code 1 (.ifCond .lt 27) (27) 4 28 := by decide +kernel
theorem td_L_canBe_4 : tz_dk prog_4_method_3_code 4 (.iload_n 0) 1 5 := by decide +kernel
theorem td_L_canBe_5 : tz_dk prog_4_method_3_code 5 (.bipush 6) 2 7 := by decide +kernel
theorem td_L_canBe_7 : tz_dj prog_4_method_3_code 7 (.if_icmp .gt 21) (21) 10 28 := by decide +kernel
theorem td_L_canBe_10 : tz_dk prog_4_method_3_code 10 (.iload_n 1) 1 11 := by decide +kernel
theorem td_L_canBe_11 : tz_dk prog_4_method_3_code 11 (.getstatic 25) 3 14 := by decide +kernel
theorem td_L_canBe_14 : tz_dk prog_4_method_3_code 14 (.iload_n 0) 1 15 := by decide +kernel
theorem td_L_canBe_15 : tz_dk prog_4_method_3_code 15 (.iaload) 1 16 := by decide +kernel
theorem td_L_canBe_16 : tz_dj prog_4_method_3_code 16 (.if_icmp .lt 12) (12) 19 28 := by decide +kernel
theorem td_L_canBe_19 : tz_dk prog_4_method_3_code 19 (.iload_n 1) 1 20 := by decide +kernel
theorem td_L_canBe_20 : tz_dk prog_4_method_3_code 20 (.getstatic 29) 3 23 := by decide +kernel
theorem td_L_canBe_23 : tz_dk prog_4_method_3_code 23 (.iload_n 0) 1 24 := by decide +kernel
theorem td_L_canBe_24 : tz_dk prog_4_method_3_code 24 (.iaload) 1 25 := by decide +kernel
theorem td_L_canBe_25 : tz_dj prog_4_method_3_code 25 (.if_icmp .le 5) (5) 28 30 := by decide +kernel
theorem td_L_canBe_28 : tz_dk prog_4_method_3_code 28 (.iconst 0) 1 29 := by decide +kernel
theorem td_L_canBe_29 : tz_dk prog_4_method_3_code 29 (.ireturn) 1 30 := by decide +kernel
theorem td_L_canBe_30 : tz_dk prog_4_method_3_code 30 (.iload_n 0) 1 31 := by decide +kernel
theorem td_L_canBe_31 : tz_dk prog_4_method_3_code 31 (.iconst 2) 1 32 := by decide +kernel
theorem td_L_canBe_32 : tz_dj prog_4_method_3_code 32 (.if_icmp .ne 19) (19) 35 51 := by decide +kernel
theorem td_L_canBe_35 : tz_dk prog_4_method_3_code 35 (.iload_n 2) 1 36 := by decide +kernel
theorem td_L_canBe_36 : tz_dj prog_4_method_3_code 36 (.ifCond .lt 13) (13) 39 49 := by decide +kernel
theorem td_L_canBe_39 : tz_dk prog_4_method_3_code 39 (.iload_n 2) 1 40 := by decide +kernel
theorem td_L_canBe_40 : tz_dk prog_4_method_3_code 40 (.bipush 9) 2 42 := by decide +kernel
theorem td_L_canBe_42 : tz_dj prog_4_method_3_code 42 (.if_icmp .gt 7) (7) 45 49 := by decide +kernel
theorem td_L_canBe_45 : tz_dk prog_4_method_3_code 45 (.iconst 1) 1 46 := by decide +kernel
theorem td_L_canBe_46 : tz_dj prog_4_method_3_code 46 (.goto 4) (4) 49 50 := by decide +kernel
theorem td_L_canBe_49 : tz_dk prog_4_method_3_code 49 (.iconst 0) 1 50 := by decide +kernel
theorem td_L_canBe_50 : tz_dk prog_4_method_3_code 50 (.ireturn) 1 51 := by decide +kernel
theorem td_L_canBe_51 : tz_dk prog_4_method_3_code 51 (.iload_n 0) 1 52 := by decide +kernel
theorem td_L_canBe_52 : tz_dk prog_4_method_3_code 52 (.iconst 5) 1 53 := by decide +kernel
theorem td_L_canBe_53 : tz_dj prog_4_method_3_code 53 (.if_icmp .ne 14) (14) 56 67 := by decide +kernel
theorem td_L_canBe_56 : tz_dk prog_4_method_3_code 56 (.iload_n 2) 1 57 := by decide +kernel
theorem td_L_canBe_57 : tz_dk prog_4_method_3_code 57 (.iconst 1) 1 58 := by decide +kernel
theorem td_L_canBe_58 : tz_dj prog_4_method_3_code 58 (.if_icmp .lt 13) (13) 61 71 := by decide +kernel
theorem td_L_canBe_61 : tz_dk prog_4_method_3_code 61 (.iload_n 2) 1 62 := by decide +kernel
theorem td_L_canBe_62 : tz_dk prog_4_method_3_code 62 (.bipush 120) 2 64 := by decide +kernel
theorem td_L_canBe_64 : tz_dj prog_4_method_3_code 64 (.if_icmp .gt 7) (7) 67 71 := by decide +kernel
theorem td_L_canBe_67 : tz_dk prog_4_method_3_code 67 (.iconst 1) 1 68 := by decide +kernel
theorem td_L_canBe_68 : tz_dj prog_4_method_3_code 68 (.goto 4) (4) 71 72 := by decide +kernel
theorem td_L_canBe_71 : tz_dk prog_4_method_3_code 71 (.iconst 0) 1 72 := by decide +kernel
theorem td_L_canBe_72 : tz_dk prog_4_method_3_code 72 (.ireturn) 1 73 := by decide +kernel
theorem td_S_inAll_0 : tz_dk prog_5_method_2_code 0 (.aload_n 0) 1 1 := by decide +kernel
theorem td_S_inAll_1 : tz_dk prog_5_method_2_code 1 (.getfield 17) 3 4 := by decide +kernel
theorem td_S_inAll_4 : tz_dk prog_5_method_2_code 4 (.ireturn) 1 5 := by decide +kernel
theorem td_L_hasB_0 : tz_dk prog_4_method_2_code 0 (.iload_n 0) 1 1 := by decide +kernel
theorem td_L_hasB_1 : tz_dk prog_4_method_2_code 1 (.iconst 2) 1 2 := by decide +kernel
theorem td_L_hasB_2 : tz_dj prog_4_method_2_code 2 (.if_icmp .eq 8) (8) 5 10 := by decide +kernel
theorem td_L_hasB_5 : tz_dk prog_4_method_2_code 5 (.iload_n 0) 1 6 := by decide +kernel
theorem td_L_hasB_6 : tz_dk prog_4_method_2_code 6 (.iconst 5) 1 7 := by decide +kernel
theorem td_L_hasB_7 : tz_dj prog_4_method_2_code 7 (.if_icmp .ne 7) (7) 10 14 := by decide +kernel
theorem td_L_hasB_10 : tz_dk prog_4_method_2_code 10 (.iconst 1) 1 11 := by decide +kernel
theorem td_L_hasB_11 : tz_dj prog_4_method_2_code 11 (.goto 4) (4) 14 15 := by decide +kernel
theorem td_L_hasB_14 : tz_dk prog_4_method_2_code 14 (.iconst 0) 1 15 := by decide +kernel
theorem td_L_hasB_15 : tz_dk prog_4_method_2_code 15 (.ireturn) 1 16 := by decide +kernel
theorem td_L_init_0 : tz_dk prog_4_method_1_code 0 (.aload_n 0) 1 1 := by decide +kernel
theorem td_L_init_1 : tz_dk prog_4_method_1_code 1 (.invokespecial 3) 3 4 := by decide +kernel
theorem td_L_init_4 : tz_dk prog_4_method_1_code 4 (.aload_n 0) 1 5 := by decide +kernel
theorem td_L_init_5 : tz_dk prog_4_method_1_code 5 (.iload_n 1) 1 6 := by decide +kernel
theorem td_L_init_6 : tz_dk prog_4_method_1_code 6 (.putfield 9) 3 9 := by decide +kernel
theorem td_L_init_9 : tz_dk prog_4_method_1_code 9 (.aload_n 0) 1 10 := by decide +kernel
theorem td_L_init_10 : tz_dk prog_4_method_1_code 10 (.iload_n 2) 1 11 := by decide +kernel
theorem td_L_init_11 : tz_dk prog_4_method_1_code 11 (.putfield 15) 3 14 := by decide +kernel
theorem td_L_init_14 : tz_dk prog_4_method_1_code 14 (.aload_n 0) 1 15 := by decide +kernel
theorem td_L_init_15 : tz_dk prog_4_method_1_code 15 (.iload_n 3) 1 16 := by decide +kernel
theorem td_L_init_16 : tz_dk prog_4_method_1_code 16 (.putfield 18) 3 19 := by decide +kernel
theorem td_L_init_19 : tz_dk prog_4_method_1_code 19 (.aload_n 0) 1 20 := by decide +kernel
theorem td_L_init_20 : tz_dk prog_4_method_1_code 20 (.iload 4) 2 22 := by decide +kernel
theorem td_L_init_22 : tz_dk prog_4_method_1_code 22 (.putfield 21) 3 25 := by decide +kernel
theorem td_L_init_25 : tz_dk prog_4_method_1_code 25 (.return_) 1 26 := by decide +kernel
theorem td_S_insert_0 : tz_dk prog_5_method_5_code 0 (.aload_n 0) 1 1 := by decide +kernel
theorem td_S_insert_1 : tz_dk prog_5_method_5_code 1 (.getfield 17) 3 4 := by decide +kernel
theorem td_S_insert_4 : tz_dk prog_5_method_5_code 4 (.aload_n 0) 1 5 := by decide +kernel
theorem td_S_insert_5 : tz_dk prog_5_method_5_code 5 (.getfield 11) 3 8 := by decide +kernel
theorem td_S_insert_8 : tz_dk prog_5_method_5_code 8 (.arraylength) 1 9 := by decide +kernel
theorem td_S_insert_9 : tz_dj prog_5_method_5_code 9 (.if_icmp .ge 15) (15) 12 24 := by decide +kernel
theorem td_S_insert_12 : tz_dk prog_5_method_5_code 12 (.iload_n 1) 1 13 := by decide +kernel
theorem td_S_insert_13 : tz_dj prog_5_method_5_code 13 (.ifCond .lt 11) (11) 16 24 := by decide +kernel
theorem td_S_insert_16 : tz_dk prog_5_method_5_code 16 (.iload_n 1) 1 17 := by decide +kernel
theorem td_S_insert_17 : tz_dk prog_5_method_5_code 17 (.aload_n 0) 1 18 := by decide +kernel
theorem td_S_insert_18 : tz_dk prog_5_method_5_code 18 (.getfield 17) 3 21 := by decide +kernel
theorem td_S_insert_21 : tz_dj prog_5_method_5_code 21 (.if_icmp .le 4) (4) 24 25 := by decide +kernel
theorem td_S_insert_24 : tz_dk prog_5_method_5_code 24 (.return_) 1 25 := by decide +kernel
theorem td_S_insert_25 : tz_dk prog_5_method_5_code 25 (.aload_n 0) 1 26 := by decide +kernel
theorem td_S_insert_26 : tz_dk prog_5_method_5_code 26 (.getfield 17) 3 29 := by decide +kernel
theorem td_S_insert_29 : tz_dk prog_5_method_5_code 29 (.istore_n 3) 1 30 := by decide +kernel
theorem td_S_insert_30 : tz_dk prog_5_method_5_code 30 (.iload_n 3) 1 31 := by decide +kernel
theorem td_S_insert_31 : tz_dk prog_5_method_5_code 31 (.iload_n 1) 1 32 := by decide +kernel
theorem td_S_insert_32 : tz_dj prog_5_method_5_code 32 (.if_icmp .le 23) (23) 35 55 := by decide +kernel
theorem td_S_insert_35 : tz_dk prog_5_method_5_code 35 (.aload_n 0) 1 36 := by decide +kernel
theorem td_S_insert_36 : tz_dk prog_5_method_5_code 36 (.getfield 11) 3 39 := by decide +kernel
theorem td_S_insert_39 : tz_dk prog_5_method_5_code 39 (.iload_n 3) 1 40 := by decide +kernel
theorem td_S_insert_40 : tz_dk prog_5_method_5_code 40 (.aload_n 0) 1 41 := by decide +kernel
theorem td_S_insert_41 : tz_dk prog_5_method_5_code 41 (.getfield 11) 3 44 := by decide +kernel
theorem td_S_insert_44 : tz_dk prog_5_method_5_code 44 (.iload_n 3) 1 45 := by decide +kernel
theorem td_S_insert_45 : tz_dk prog_5_method_5_code 45 (.iconst 1) 1 46 := by decide +kernel
theorem td_S_insert_46 : tz_dk prog_5_method_5_code 46 (.isub) 1 47 := by decide +kernel
theorem td_S_insert_47 : tz_dk prog_5_method_5_code 47 (.aaload) 1 48 := by decide +kernel
theorem td_S_insert_48 : tz_dk prog_5_method_5_code 48 (.aastore) 1 49 := by decide +kernel
theorem td_S_insert_49 : tz_dk prog_5_method_5_code 49 (.iinc 3 (-1)) 3 52 := by decide +kernel
theorem td_S_insert_52 : tz_dj prog_5_method_5_code 52 (.goto (-22)) (-22) 55 30 := by decide +kernel
theorem td_S_insert_55 : tz_dk prog_5_method_5_code 55 (.aload_n 0) 1 56 := by decide +kernel
theorem td_S_insert_56 : tz_dk prog_5_method_5_code 56 (.getfield 11) 3 59 := by decide +kernel
theorem td_S_insert_59 : tz_dk prog_5_method_5_code 59 (.iload_n 1) 1 60 := by decide +kernel
theorem td_S_insert_60 : tz_dk prog_5_method_5_code 60 (.aload_n 2) 1 61 := by decide +kernel
theorem td_S_insert_61 : tz_dk prog_5_method_5_code 61 (.aastore) 1 62 := by decide +kernel
theorem td_S_insert_62 : tz_dk prog_5_method_5_code 62 (.aload_n 0) 1 63 := by decide +kernel
theorem td_S_insert_63 : tz_dk prog_5_method_5_code 63 (.dup) 1 64 := by decide +kernel
theorem td_S_insert_64 : tz_dk prog_5_method_5_code 64 (.getfield 17) 3 67 := by decide +kernel
theorem td_S_insert_67 : tz_dk prog_5_method_5_code 67 (.iconst 1) 1 68 := by decide +kernel
theorem td_S_insert_68 : tz_dk prog_5_method_5_code 68 (.iadd) 1 69 := by decide +kernel
theorem td_S_insert_69 : tz_dk prog_5_method_5_code 69 (.putfield 17) 3 72 := by decide +kernel
theorem td_S_insert_72 : tz_dk prog_5_method_5_code 72 (.return_) 1 73 := by decide +kernel
theorem td_X_turnOn_0 : tz_dk prog_1_method_13_code 0 (.aload_n 0) 1 1 := by decide +kernel
theorem td_X_turnOn_1 : tz_dk prog_1_method_13_code 1 (.getfield 10) 3 4 := by decide +kernel
theorem td_X_turnOn_4 : tz_dk prog_1_method_13_code 4 (.getfield 158) 3 7 := by decide +kernel
theorem td_X_turnOn_7 : tz_dk prog_1_method_13_code 7 (.iload_n 1) 1 8 := by decide +kernel
theorem td_X_turnOn_8 : tz_dk prog_1_method_13_code 8 (.invokevirtual 178) 3 11 := by decide +kernel
theorem td_X_turnOn_11 : tz_dk prog_1_method_13_code 11 (.astore_n 3) 1 12 := by decide +kernel
theorem td_X_turnOn_12 : tz_dk prog_1_method_13_code 12 (.aload_n 3) 1 13 := by decide +kernel
theorem td_X_turnOn_13 : tz_dj prog_1_method_13_code 13 (.ifnonnull 10) (10) 16 23 := by decide +kernel
theorem td_X_turnOn_16 : tz_dk prog_1_method_13_code 16 (.aload_n 0) 1 17 := by decide +kernel
theorem td_X_turnOn_17 : tz_dk prog_1_method_13_code 17 (.ldc 66) 2 19 := by decide +kernel
theorem td_X_turnOn_19 : tz_dk prog_1_method_13_code 19 (.invokevirtual 67) 3 22 := by decide +kernel
theorem td_X_turnOn_22 : tz_dk prog_1_method_13_code 22 (.ireturn) 1 23 := by decide +kernel
theorem td_X_turnOn_23 : tz_dk prog_1_method_13_code 23 (.aload_n 0) 1 24 := by decide +kernel
theorem td_X_turnOn_24 : tz_dk prog_1_method_13_code 24 (.getfield 19) 3 27 := by decide +kernel
theorem td_X_turnOn_27 : tz_dk prog_1_method_13_code 27 (.aload_n 0) 1 28 := by decide +kernel
theorem td_X_turnOn_28 : tz_dk prog_1_method_13_code 28 (.getfield 10) 3 31 := by decide +kernel
theorem td_X_turnOn_31 : tz_dk prog_1_method_13_code 31 (.iconst (-1)) 1 32 := by decide +kernel
theorem td_X_turnOn_32 : tz_dk prog_1_method_13_code 32 (.invokevirtual 71) 3 35 := by decide +kernel
theorem td_X_turnOn_35 : tz_dk prog_1_method_13_code 35 (.aload_n 3) 1 36 := by decide +kernel
theorem td_X_turnOn_36 : tz_dk prog_1_method_13_code 36 (.getfield 181) 3 39 := by decide +kernel
theorem td_X_turnOn_39 : tz_dk prog_1_method_13_code 39 (.iload_n 2) 1 40 := by decide +kernel
theorem td_X_turnOn_40 : tz_dj prog_1_method_13_code 40 (.if_icmp .ne 5) (5) 43 45 := by decide +kernel
theorem td_X_turnOn_43 : tz_dk prog_1_method_13_code 43 (.iconst 0) 1 44 := by decide +kernel
theorem td_X_turnOn_44 : tz_dk prog_1_method_13_code 44 (.ireturn) 1 45 := by decide +kernel
theorem td_X_turnOn_45 : tz_dk prog_1_method_13_code 45 (.aload_n 0) 1 46 := by decide +kernel
theorem td_X_turnOn_46 : tz_dk prog_1_method_13_code 46 (.getfield 10) 3 49 := by decide +kernel
theorem td_X_turnOn_49 : tz_dk prog_1_method_13_code 49 (.getfield 158) 3 52 := by decide +kernel
theorem td_X_turnOn_52 : tz_dk prog_1_method_13_code 52 (.iload_n 1) 1 53 := by decide +kernel
theorem td_X_turnOn_53 : tz_dk prog_1_method_13_code 53 (.new 154) 3 56 := by decide +kernel
theorem td_X_turnOn_56 : tz_dk prog_1_method_13_code 56 (.dup) 1 57 := by decide +kernel
theorem td_X_turnOn_57 : tz_dk prog_1_method_13_code 57 (.aload_n 3) 1 58 := by decide +kernel
theorem td_X_turnOn_58 : tz_dk prog_1_method_13_code 58 (.getfield 185) 3 61 := by decide +kernel
theorem td_X_turnOn_61 : tz_dk prog_1_method_13_code 61 (.aload_n 3) 1 62 := by decide +kernel
theorem td_X_turnOn_62 : tz_dk prog_1_method_13_code 62 (.getfield 188) 3 65 := by decide +kernel
theorem td_X_turnOn_65 : tz_dk prog_1_method_13_code 65 (.aload_n 3) 1 66 := by decide +kernel
theorem td_X_turnOn_66 : tz_dk prog_1_method_13_code 66 (.getfield 191) 3 69 := by decide +kernel
theorem td_X_turnOn_69 : tz_dk prog_1_method_13_code 69 (.iload_n 2) 1 70 := by decide +kernel
theorem td_X_turnOn_70 : tz_dk prog_1_method_13_code 70 (.invokespecial 171) 3 73 := by decide +kernel
theorem td_X_turnOn_73 : tz_dk prog_1_method_13_code 73 (.invokevirtual 194) 3 76 := by decide +kernel
theorem td_X_turnOn_76 : tz_dk prog_1_method_13_code 76 (.iconst 1) 1 77 := by decide +kernel
theorem td_X_turnOn_77 : tz_dk prog_1_method_13_code 77 (.ireturn) 1 78 := by decide +kernel
theorem td_S_at_0 : tz_dk prog_5_method_3_code 0 (.iload_n 1) 1 1 := by decide +kernel
theorem td_S_at_1 : tz_dj prog_5_method_3_code 1 (.ifCond .lt 29) (29) 4 30 := by decide +kernel
theorem td_S_at_4 : tz_dk prog_5_method_3_code 4 (.iload_n 1) 1 5 := by decide +kernel
theorem td_S_at_5 : tz_dk prog_5_method_3_code 5 (.aload_n 0) 1 6 := by decide +kernel
theorem td_S_at_6 : tz_dk prog_5_method_3_code 6 (.getfield 17) 3 9 := by decide +kernel
theorem td_S_at_9 : tz_dj prog_5_method_3_code 9 (.if_icmp .ge 21) (21) 12 30 := by decide +kernel
theorem td_S_at_12 : tz_dk prog_5_method_3_code 12 (.iload_n 1) 1 13 := by decide +kernel
theorem td_S_at_13 : tz_dk prog_5_method_3_code 13 (.aload_n 0) 1 14 := by decide +kernel
theorem td_S_at_14 : tz_dk prog_5_method_3_code 14 (.getfield 11) 3 17 := by decide +kernel
theorem td_S_at_17 : tz_dk prog_5_method_3_code 17 (.arraylength) 1 18 := by decide +kernel
theorem td_S_at_18 : tz_dj prog_5_method_3_code 18 (.if_icmp .ge 12) (12) 21 30 := by decide +kernel
theorem td_S_at_21 : tz_dk prog_5_method_3_code 21 (.aload_n 0) 1 22 := by decide +kernel
theorem td_S_at_22 : tz_dk prog_5_method_3_code 22 (.getfield 11) 3 25 := by decide +kernel
theorem td_S_at_25 : tz_dk prog_5_method_3_code 25 (.iload_n 1) 1 26 := by decide +kernel
theorem td_S_at_26 : tz_dk prog_5_method_3_code 26 (.aaload) 1 27 := by decide +kernel
theorem td_S_at_27 : tz_dj prog_5_method_3_code 27 (.goto 4) (4) 30 31 := by decide +kernel
theorem td_S_at_30 : tz_dk prog_5_method_3_code 30 (.aconst_null) 1 31 := by decide +kernel
theorem td_S_at_31 : tz_dk prog_5_method_3_code 31 (.areturn) 1 32 := by decide +kernel
theorem td_S_replace_0 : tz_dk prog_5_method_7_code 0 (.aload_n 0) 1 1 := by decide +kernel
theorem td_S_replace_1 : tz_dk prog_5_method_7_code 1 (.iload_n 1) 1 2 := by decide +kernel
theorem td_S_replace_2 : tz_dk prog_5_method_7_code 2 (.invokevirtual 21) 3 5 := by decide +kernel
theorem td_S_replace_5 : tz_dj prog_5_method_7_code 5 (.ifnull 10) (10) 8 15 := by decide +kernel
theorem td_S_replace_8 : tz_dk prog_5_method_7_code 8 (.aload_n 0) 1 9 := by decide +kernel
theorem td_S_replace_9 : tz_dk prog_5_method_7_code 9 (.getfield 11) 3 12 := by decide +kernel
theorem td_S_replace_12 : tz_dk prog_5_method_7_code 12 (.iload_n 1) 1 13 := by decide +kernel
theorem td_S_replace_13 : tz_dk prog_5_method_7_code 13 (.aload_n 2) 1 14 := by decide +kernel
theorem td_S_replace_14 : tz_dk prog_5_method_7_code 14 (.aastore) 1 15 := by decide +kernel
theorem td_S_replace_15 : tz_dk prog_5_method_7_code 15 (.return_) 1 16 := by decide +kernel
theorem td_X_move_0 : tz_dk prog_1_method_14_code 0 (.aload_n 0) 1 1 := by decide +kernel
theorem td_X_move_1 : tz_dk prog_1_method_14_code 1 (.getfield 10) 3 4 := by decide +kernel
theorem td_X_move_4 : tz_dk prog_1_method_14_code 4 (.getfield 158) 3 7 := by decide +kernel
theorem td_X_move_7 : tz_dk prog_1_method_14_code 7 (.iload_n 1) 1 8 := by decide +kernel
theorem td_X_move_8 : tz_dk prog_1_method_14_code 8 (.invokevirtual 178) 3 11 := by decide +kernel
theorem td_X_move_11 : tz_dk prog_1_method_14_code 11 (.astore_n 3) 1 12 := by decide +kernel
theorem td_X_move_12 : tz_dk prog_1_method_14_code 12 (.aload_n 3) 1 13 := by decide +kernel
theorem td_X_move_13 : tz_dj prog_1_method_14_code 13 (.ifnull 17) (17) 16 30 := by decide +kernel
theorem td_X_move_16 : tz_dk prog_1_method_14_code 16 (.aload_n 0) 1 17 := by decide +kernel
theorem td_X_move_17 : tz_dk prog_1_method_14_code 17 (.getfield 10) 3 20 := by decide +kernel
theorem td_X_move_20 : tz_dk prog_1_method_14_code 20 (.getfield 158) 3 23 := by decide +kernel
theorem td_X_move_23 : tz_dk prog_1_method_14_code 23 (.iload_n 2) 1 24 := by decide +kernel
theorem td_X_move_24 : tz_dk prog_1_method_14_code 24 (.invokevirtual 178) 3 27 := by decide +kernel
theorem td_X_move_27 : tz_dj prog_1_method_14_code 27 (.ifnonnull 10) (10) 30 37 := by decide +kernel
theorem td_X_move_30 : tz_dk prog_1_method_14_code 30 (.aload_n 0) 1 31 := by decide +kernel
theorem td_X_move_31 : tz_dk prog_1_method_14_code 31 (.ldc 66) 2 33 := by decide +kernel
theorem td_X_move_33 : tz_dk prog_1_method_14_code 33 (.invokevirtual 67) 3 36 := by decide +kernel
theorem td_X_move_36 : tz_dk prog_1_method_14_code 36 (.ireturn) 1 37 := by decide +kernel
theorem td_X_move_37 : tz_dk prog_1_method_14_code 37 (.aload_n 0) 1 38 := by decide +kernel
theorem td_X_move_38 : tz_dk prog_1_method_14_code 38 (.getfield 19) 3 41 := by decide +kernel
theorem td_X_move_41 : tz_dk prog_1_method_14_code 41 (.aload_n 0) 1 42 := by decide +kernel
theorem td_X_move_42 : tz_dk prog_1_method_14_code 42 (.getfield 10) 3 45 := by decide +kernel
theorem td_X_move_45 : tz_dk prog_1_method_14_code 45 (.iconst (-1)) 1 46 := by decide +kernel
theorem td_X_move_46 : tz_dk prog_1_method_14_code 46 (.invokevirtual 71) 3 49 := by decide +kernel
theorem td_X_move_49 : tz_dk prog_1_method_14_code 49 (.aload_n 0) 1 50 := by decide +kernel
theorem td_X_move_50 : tz_dk prog_1_method_14_code 50 (.getfield 10) 3 53 := by decide +kernel
theorem td_X_move_53 : tz_dk prog_1_method_14_code 53 (.getfield 158) 3 56 := by decide +kernel
theorem td_X_move_56 : tz_dk prog_1_method_14_code 56 (.iload_n 1) 1 57 := by decide +kernel
theorem td_X_move_57 : tz_dk prog_1_method_14_code 57 (.invokevirtual 197) 3 60 := by decide +kernel
theorem td_X_move_60 : tz_dk prog_1_method_14_code 60 (.aload_n 0) 1 61 := by decide +kernel
theorem td_X_move_61 : tz_dk prog_1_method_14_code 61 (.getfield 10) 3 64 := by decide +kernel
theorem td_X_move_64 : tz_dk prog_1_method_14_code 64 (.getfield 158) 3 67 := by decide +kernel
theorem td_X_move_67 : tz_dk prog_1_method_14_code 67 (.iload_n 2) 1 68 := by decide +kernel
theorem td_X_move_68 : tz_dk prog_1_method_14_code 68 (.aload_n 3) 1 69 := by decide +kernel
theorem td_X_move_69 : tz_dk prog_1_method_14_code 69 (.invokevirtual 174) 3 72 := by decide +kernel
theorem td_X_move_72 : tz_dk prog_1_method_14_code 72 (.iconst 1) 1 73 := by decide +kernel
theorem td_X_move_73 : tz_dk prog_1_method_14_code 73 (.ireturn) 1 74 := by decide +kernel
theorem td_S_remove_0 : tz_dk prog_5_method_6_code 0 (.aload_n 0) 1 1 := by decide +kernel
theorem td_S_remove_1 : tz_dk prog_5_method_6_code 1 (.iload_n 1) 1 2 := by decide +kernel
theorem td_S_remove_2 : tz_dk prog_5_method_6_code 2 (.invokevirtual 21) 3 5 := by decide +kernel
theorem td_S_remove_5 : tz_dj prog_5_method_6_code 5 (.ifnonnull 4) (4) 8 9 := by decide +kernel
theorem td_S_remove_8 : tz_dk prog_5_method_6_code 8 (.return_) 1 9 := by decide +kernel
theorem td_S_remove_9 : tz_dk prog_5_method_6_code 9 (.iload_n 1) 1 10 := by decide +kernel
theorem td_S_remove_10 : tz_dk prog_5_method_6_code 10 (.istore_n 2) 1 11 := by decide +kernel
theorem td_S_remove_11 : tz_dk prog_5_method_6_code 11 (.iload_n 2) 1 12 := by decide +kernel
theorem td_S_remove_12 : tz_dk prog_5_method_6_code 12 (.aload_n 0) 1 13 := by decide +kernel
theorem td_S_remove_13 : tz_dk prog_5_method_6_code 13 (.getfield 17) 3 16 := by decide +kernel
theorem td_S_remove_16 : tz_dk prog_5_method_6_code 16 (.iconst 1) 1 17 := by decide +kernel
theorem td_S_remove_17 : tz_dk prog_5_method_6_code 17 (.isub) 1 18 := by decide +kernel
theorem td_S_remove_18 : tz_dj prog_5_method_6_code 18 (.if_icmp .ge 23) (23) 21 41 := by decide +kernel
theorem td_S_remove_21 : tz_dk prog_5_method_6_code 21 (.aload_n 0) 1 22 := by decide +kernel
theorem td_S_remove_22 : tz_dk prog_5_method_6_code 22 (.getfield 11) 3 25 := by decide +kernel
theorem td_S_remove_25 : tz_dk prog_5_method_6_code 25 (.iload_n 2) 1 26 := by decide +kernel
theorem td_S_remove_26 : tz_dk prog_5_method_6_code 26 (.aload_n 0) 1 27 := by decide +kernel
theorem td_S_remove_27 : tz_dk prog_5_method_6_code 27 (.getfield 11) 3 30 := by decide +kernel
theorem td_S_remove_30 : tz_dk prog_5_method_6_code 30 (.iload_n 2) 1 31 := by decide +kernel
theorem td_S_remove_31 : tz_dk prog_5_method_6_code 31 (.iconst 1) 1 32 := by decide +kernel
theorem td_S_remove_32 : tz_dk prog_5_method_6_code 32 (.iadd) 1 33 := by decide +kernel
theorem td_S_remove_33 : tz_dk prog_5_method_6_code 33 (.aaload) 1 34 := by decide +kernel
theorem td_S_remove_34 : tz_dk prog_5_method_6_code 34 (.aastore) 1 35 := by decide +kernel
theorem td_S_remove_35 : tz_dk prog_5_method_6_code 35 (.iinc 2 1) 3 38 := by decide +kernel
theorem td_S_remove_38 : tz_dj prog_5_method_6_code 38 (.goto (-27)) (-27) 41 11 := by decide +kernel
theorem td_S_remove_41 : tz_dk prog_5_method_6_code 41 (.aload_n 0) 1 42 := by decide +kernel
theorem td_S_remove_42 : tz_dk prog_5_method_6_code 42 (.dup) 1 43 := by decide +kernel
theorem td_S_remove_43 : tz_dk prog_5_method_6_code 43 (.getfield 17) 3 46 := by decide +kernel
theorem td_S_remove_46 : tz_dk prog_5_method_6_code 46 (.iconst 1) 1 47 := by decide +kernel
theorem td_S_remove_47 : tz_dk prog_5_method_6_code 47 (.isub) 1 48 := by decide +kernel
theorem td_S_remove_48 : tz_dk prog_5_method_6_code 48 (.putfield 17) 3 51 := by decide +kernel
theorem td_S_remove_51 : tz_dk prog_5_method_6_code 51 (.return_) 1 52 := by decide +kernel
theorem td_X_drop_0 : tz_dk prog_1_method_15_code 0 (.aload_n 0) 1 1 := by decide +kernel
theorem td_X_drop_1 : tz_dk prog_1_method_15_code 1 (.getfield 10) 3 4 := by decide +kernel
theorem td_X_drop_4 : tz_dk prog_1_method_15_code 4 (.getfield 158) 3 7 := by decide +kernel
theorem td_X_drop_7 : tz_dk prog_1_method_15_code 7 (.iload_n 1) 1 8 := by decide +kernel
theorem td_X_drop_8 : tz_dk prog_1_method_15_code 8 (.invokevirtual 178) 3 11 := by decide +kernel
theorem td_X_drop_11 : tz_dj prog_1_method_15_code 11 (.ifnonnull 10) (10) 14 21 := by decide +kernel
theorem td_X_drop_14 : tz_dk prog_1_method_15_code 14 (.aload_n 0) 1 15 := by decide +kernel
theorem td_X_drop_15 : tz_dk prog_1_method_15_code 15 (.ldc 66) 2 17 := by decide +kernel
theorem td_X_drop_17 : tz_dk prog_1_method_15_code 17 (.invokevirtual 67) 3 20 := by decide +kernel
theorem td_X_drop_20 : tz_dk prog_1_method_15_code 20 (.ireturn) 1 21 := by decide +kernel
theorem td_X_drop_21 : tz_dk prog_1_method_15_code 21 (.aload_n 0) 1 22 := by decide +kernel
theorem td_X_drop_22 : tz_dk prog_1_method_15_code 22 (.getfield 19) 3 25 := by decide +kernel
theorem td_X_drop_25 : tz_dk prog_1_method_15_code 25 (.aload_n 0) 1 26 := by decide +kernel
theorem td_X_drop_26 : tz_dk prog_1_method_15_code 26 (.getfield 10) 3 29 := by decide +kernel
theorem td_X_drop_29 : tz_dk prog_1_method_15_code 29 (.iconst (-1)) 1 30 := by decide +kernel
theorem td_X_drop_30 : tz_dk prog_1_method_15_code 30 (.invokevirtual 71) 3 33 := by decide +kernel
theorem td_X_drop_33 : tz_dk prog_1_method_15_code 33 (.aload_n 0) 1 34 := by decide +kernel
theorem td_X_drop_34 : tz_dk prog_1_method_15_code 34 (.getfield 10) 3 37 := by decide +kernel
theorem td_X_drop_37 : tz_dk prog_1_method_15_code 37 (.getfield 158) 3 40 := by decide +kernel
theorem td_X_drop_40 : tz_dk prog_1_method_15_code 40 (.iload_n 1) 1 41 := by decide +kernel
theorem td_X_drop_41 : tz_dk prog_1_method_15_code 41 (.invokevirtual 197) 3 44 := by decide +kernel
theorem td_X_drop_44 : tz_dk prog_1_method_15_code 44 (.aload_n 0) 1 45 := by decide +kernel
theorem td_X_drop_45 : tz_dk prog_1_method_15_code 45 (.getfield 10) 3 48 := by decide +kernel
theorem td_X_drop_48 : tz_dk prog_1_method_15_code 48 (.getfield 158) 3 51 := by decide +kernel
theorem td_X_drop_51 : tz_dk prog_1_method_15_code 51 (.invokevirtual 162) 3 54 := by decide +kernel
theorem td_X_drop_54 : tz_dk prog_1_method_15_code 54 (.ireturn) 1 55 := by decide +kernel
theorem td_X_told_0 : tz_dk prog_1_method_16_code 0 (.aload_n 0) 1 1 := by decide +kernel
theorem td_X_told_1 : tz_dk prog_1_method_16_code 1 (.getfield 10) 3 4 := by decide +kernel
theorem td_X_told_4 : tz_dk prog_1_method_16_code 4 (.getfield 158) 3 7 := by decide +kernel
theorem td_X_told_7 : tz_dk prog_1_method_16_code 7 (.iload_n 1) 1 8 := by decide +kernel
theorem td_X_told_8 : tz_dk prog_1_method_16_code 8 (.invokevirtual 178) 3 11 := by decide +kernel
theorem td_X_told_11 : tz_dk prog_1_method_16_code 11 (.astore_n 3) 1 12 := by decide +kernel
theorem td_X_told_12 : tz_dk prog_1_method_16_code 12 (.aload_n 3) 1 13 := by decide +kernel
theorem td_X_told_13 : tz_dj prog_1_method_16_code 13 (.ifnonnull 10) (10) 16 23 := by decide +kernel
theorem td_X_told_16 : tz_dk prog_1_method_16_code 16 (.aload_n 0) 1 17 := by decide +kernel
theorem td_X_told_17 : tz_dk prog_1_method_16_code 17 (.ldc 66) 2 19 := by decide +kernel
theorem td_X_told_19 : tz_dk prog_1_method_16_code 19 (.invokevirtual 67) 3 22 := by decide +kernel
theorem td_X_told_22 : tz_dk prog_1_method_16_code 22 (.ireturn) 1 23 := by decide +kernel
theorem td_X_told_23 : tz_dk prog_1_method_16_code 23 (.iload_n 2) 1 24 := by decide +kernel
theorem td_X_told_24 : decode prog_1_method_16_code 24 = .ok (.tableswitch 60 0 3 #[32, 37, 42, 47], 32) := by decide +kernel
theorem td_X_told_56 : tz_dk prog_1_method_16_code 56 (.aload_n 3) 1 57 := by decide +kernel
theorem td_X_told_57 : tz_dk prog_1_method_16_code 57 (.getfield 185) 3 60 := by decide +kernel
theorem td_X_told_60 : tz_dk prog_1_method_16_code 60 (.ireturn) 1 61 := by decide +kernel
theorem td_X_told_61 : tz_dk prog_1_method_16_code 61 (.aload_n 3) 1 62 := by decide +kernel
theorem td_X_told_62 : tz_dk prog_1_method_16_code 62 (.getfield 188) 3 65 := by decide +kernel
theorem td_X_told_65 : tz_dk prog_1_method_16_code 65 (.ireturn) 1 66 := by decide +kernel
theorem td_X_told_66 : tz_dk prog_1_method_16_code 66 (.aload_n 3) 1 67 := by decide +kernel
theorem td_X_told_67 : tz_dk prog_1_method_16_code 67 (.getfield 191) 3 70 := by decide +kernel
theorem td_X_told_70 : tz_dk prog_1_method_16_code 70 (.ireturn) 1 71 := by decide +kernel
theorem td_X_told_71 : tz_dk prog_1_method_16_code 71 (.aload_n 3) 1 72 := by decide +kernel
theorem td_X_told_72 : tz_dk prog_1_method_16_code 72 (.getfield 181) 3 75 := by decide +kernel
theorem td_X_told_75 : tz_dj prog_1_method_16_code 75 (.ifCond .eq 7) (7) 78 82 := by decide +kernel
theorem td_X_told_78 : tz_dk prog_1_method_16_code 78 (.iconst 1) 1 79 := by decide +kernel
theorem td_X_told_79 : tz_dj prog_1_method_16_code 79 (.goto 4) (4) 82 83 := by decide +kernel
theorem td_X_told_82 : tz_dk prog_1_method_16_code 82 (.iconst 0) 1 83 := by decide +kernel
theorem td_X_told_83 : tz_dk prog_1_method_16_code 83 (.ireturn) 1 84 := by decide +kernel
theorem td_X_told_84 : tz_dk prog_1_method_16_code 84 (.aload_n 0) 1 85 := by decide +kernel
theorem td_X_told_85 : tz_dk prog_1_method_16_code 85 (.ldc 66) 2 87 := by decide +kernel
theorem td_X_told_87 : tz_dk prog_1_method_16_code 87 (.invokevirtual 67) 3 90 := by decide +kernel
theorem td_X_told_90 : tz_dk prog_1_method_16_code 90 (.ireturn) 1 91 := by decide +kernel
theorem td_X_as_0 : tz_dk prog_1_method_17_code 0 (.aload_n 0) 1 1 := by decide +kernel
theorem td_X_as_1 : tz_dk prog_1_method_17_code 1 (.getfield 10) 3 4 := by decide +kernel
theorem td_X_as_4 : tz_dk prog_1_method_17_code 4 (.getfield 158) 3 7 := by decide +kernel
theorem td_X_as_7 : tz_dk prog_1_method_17_code 7 (.iload_n 1) 1 8 := by decide +kernel
theorem td_X_as_8 : tz_dk prog_1_method_17_code 8 (.invokevirtual 178) 3 11 := by decide +kernel
theorem td_X_as_11 : tz_dk prog_1_method_17_code 11 (.astore_n 3) 1 12 := by decide +kernel
theorem td_X_as_12 : tz_dk prog_1_method_17_code 12 (.aload_n 3) 1 13 := by decide +kernel
theorem td_X_as_13 : tz_dj prog_1_method_17_code 13 (.ifnull 14) (14) 16 27 := by decide +kernel
theorem td_X_as_16 : tz_dk prog_1_method_17_code 16 (.iload_n 2) 1 17 := by decide +kernel
theorem td_X_as_17 : tz_dk prog_1_method_17_code 17 (.iconst (-1)) 1 18 := by decide +kernel
theorem td_X_as_18 : tz_dj prog_1_method_17_code 18 (.if_icmp .lt 9) (9) 21 27 := by decide +kernel
theorem td_X_as_21 : tz_dk prog_1_method_17_code 21 (.iload_n 2) 1 22 := by decide +kernel
theorem td_X_as_22 : tz_dk prog_1_method_17_code 22 (.bipush 6) 2 24 := by decide +kernel
theorem td_X_as_24 : tz_dj prog_1_method_17_code 24 (.if_icmp .le 10) (10) 27 34 := by decide +kernel
theorem td_X_as_27 : tz_dk prog_1_method_17_code 27 (.aload_n 0) 1 28 := by decide +kernel
theorem td_X_as_28 : tz_dk prog_1_method_17_code 28 (.ldc 66) 2 30 := by decide +kernel
theorem td_X_as_30 : tz_dk prog_1_method_17_code 30 (.invokevirtual 67) 3 33 := by decide +kernel
theorem td_X_as_33 : tz_dk prog_1_method_17_code 33 (.ireturn) 1 34 := by decide +kernel
theorem td_X_as_34 : tz_dk prog_1_method_17_code 34 (.aload_n 3) 1 35 := by decide +kernel
theorem td_X_as_35 : tz_dk prog_1_method_17_code 35 (.iload_n 2) 1 36 := by decide +kernel
theorem td_X_as_36 : tz_dk prog_1_method_17_code 36 (.invokevirtual 200) 3 39 := by decide +kernel
theorem td_X_as_39 : tz_dj prog_1_method_17_code 39 (.ifCond .eq 7) (7) 42 46 := by decide +kernel
theorem td_X_as_42 : tz_dk prog_1_method_17_code 42 (.iload_n 1) 1 43 := by decide +kernel
theorem td_X_as_43 : tz_dj prog_1_method_17_code 43 (.goto 9) (9) 46 52 := by decide +kernel
theorem td_X_as_46 : tz_dk prog_1_method_17_code 46 (.aload_n 0) 1 47 := by decide +kernel
theorem td_X_as_47 : tz_dk prog_1_method_17_code 47 (.ldc 139) 2 49 := by decide +kernel
theorem td_X_as_49 : tz_dk prog_1_method_17_code 49 (.invokevirtual 67) 3 52 := by decide +kernel
theorem td_X_as_52 : tz_dk prog_1_method_17_code 52 (.ireturn) 1 53 := by decide +kernel
theorem td_L_isA_0 : tz_dk prog_4_method_4_code 0 (.iload_n 1) 1 1 := by decide +kernel
theorem td_L_isA_1 : tz_dk prog_4_method_4_code 1 (.iconst (-1)) 1 2 := by decide +kernel
theorem td_L_isA_2 : tz_dj prog_4_method_4_code 2 (.if_icmp .eq 11) (11) 5 13 := by decide +kernel
theorem td_L_isA_5 : tz_dk prog_4_method_4_code 5 (.iload_n 1) 1 6 := by decide +kernel
theorem td_L_isA_6 : tz_dk prog_4_method_4_code 6 (.aload_n 0) 1 7 := by decide +kernel
theorem td_L_isA_7 : tz_dk prog_4_method_4_code 7 (.getfield 9) 3 10 := by decide +kernel
theorem td_L_isA_10 : tz_dj prog_4_method_4_code 10 (.if_icmp .ne 5) (5) 13 15 := by decide +kernel
theorem td_L_isA_13 : tz_dk prog_4_method_4_code 13 (.iconst 1) 1 14 := by decide +kernel
theorem td_L_isA_14 : tz_dk prog_4_method_4_code 14 (.ireturn) 1 15 := by decide +kernel
theorem td_L_isA_15 : tz_dk prog_4_method_4_code 15 (.aload_n 0) 1 16 := by decide +kernel
theorem td_L_isA_16 : tz_dk prog_4_method_4_code 16 (.getfield 9) 3 19 := by decide +kernel
theorem td_L_isA_19 : tz_dj prog_4_method_4_code 19 (.ifCond .lt 28) (28) 22 47 := by decide +kernel
theorem td_L_isA_22 : tz_dk prog_4_method_4_code 22 (.aload_n 0) 1 23 := by decide +kernel
theorem td_L_isA_23 : tz_dk prog_4_method_4_code 23 (.getfield 9) 3 26 := by decide +kernel
theorem td_L_isA_26 : tz_dk prog_4_method_4_code 26 (.bipush 6) 2 28 := by decide +kernel
theorem td_L_isA_28 : tz_dj prog_4_method_4_code 28 (.if_icmp .gt 19) (19) 31 47 := by decide +kernel
theorem td_L_isA_31 : tz_dk prog_4_method_4_code 31 (.getstatic 32) 3 34 := by decide +kernel
theorem td_L_isA_34 : tz_dk prog_4_method_4_code 34 (.aload_n 0) 1 35 := by decide +kernel
theorem td_L_isA_35 : tz_dk prog_4_method_4_code 35 (.getfield 9) 3 38 := by decide +kernel
theorem td_L_isA_38 : tz_dk prog_4_method_4_code 38 (.iaload) 1 39 := by decide +kernel
theorem td_L_isA_39 : tz_dk prog_4_method_4_code 39 (.iload_n 1) 1 40 := by decide +kernel
theorem td_L_isA_40 : tz_dj prog_4_method_4_code 40 (.if_icmp .ne 7) (7) 43 47 := by decide +kernel
theorem td_L_isA_43 : tz_dk prog_4_method_4_code 43 (.iconst 1) 1 44 := by decide +kernel
theorem td_L_isA_44 : tz_dj prog_4_method_4_code 44 (.goto 4) (4) 47 48 := by decide +kernel
theorem td_L_isA_47 : tz_dk prog_4_method_4_code 47 (.iconst 0) 1 48 := by decide +kernel
theorem td_L_isA_48 : tz_dk prog_4_method_4_code 48 (.ireturn) 1 49 := by decide +kernel
theorem td_X_size_0 : tz_dk prog_1_method_18_code 0 (.aload_n 0) 1 1 := by decide +kernel
theorem td_X_size_1 : tz_dk prog_1_method_18_code 1 (.getfield 10) 3 4 := by decide +kernel
theorem td_X_size_4 : tz_dk prog_1_method_18_code 4 (.iload_n 1) 1 5 := by decide +kernel
theorem td_X_size_5 : tz_dk prog_1_method_18_code 5 (.invokevirtual 62) 3 8 := by decide +kernel
theorem td_X_size_8 : tz_dk prog_1_method_18_code 8 (.astore_n 2) 1 9 := by decide +kernel
theorem td_X_size_9 : tz_dk prog_1_method_18_code 9 (.aload_n 2) 1 10 := by decide +kernel
theorem td_X_size_10 : tz_dj prog_1_method_18_code 10 (.ifnonnull 10) (10) 13 20 := by decide +kernel
theorem td_X_size_13 : tz_dk prog_1_method_18_code 13 (.aload_n 0) 1 14 := by decide +kernel
theorem td_X_size_14 : tz_dk prog_1_method_18_code 14 (.ldc 66) 2 16 := by decide +kernel
theorem td_X_size_16 : tz_dk prog_1_method_18_code 16 (.invokevirtual 67) 3 19 := by decide +kernel
theorem td_X_size_19 : tz_dk prog_1_method_18_code 19 (.ireturn) 1 20 := by decide +kernel
theorem td_X_size_20 : tz_dk prog_1_method_18_code 20 (.aload_n 0) 1 21 := by decide +kernel
theorem td_X_size_21 : tz_dk prog_1_method_18_code 21 (.getfield 47) 3 24 := by decide +kernel
theorem td_X_size_24 : tz_dk prog_1_method_18_code 24 (.aload_n 0) 1 25 := by decide +kernel
theorem td_X_size_25 : tz_dk prog_1_method_18_code 25 (.getfield 10) 3 28 := by decide +kernel
theorem td_X_size_28 : tz_dk prog_1_method_18_code 28 (.aload_n 2) 1 29 := by decide +kernel
theorem td_X_size_29 : tz_dk prog_1_method_18_code 29 (.iconst (-1)) 1 30 := by decide +kernel
theorem td_X_size_30 : tz_dk prog_1_method_18_code 30 (.invokevirtual 203) 3 33 := by decide +kernel
theorem td_X_size_33 : tz_dk prog_1_method_18_code 33 (.invokevirtual 75) 3 36 := by decide +kernel
theorem td_X_size_36 : tz_dk prog_1_method_18_code 36 (.ireturn) 1 37 := by decide +kernel
theorem td_P_play_0 : tz_dk prog_6_method_3_code 0 (.aload_n 0) 1 1 := by decide +kernel
theorem td_P_play_1 : tz_dk prog_6_method_3_code 1 (.getfield 28) 3 4 := by decide +kernel
theorem td_P_play_4 : tz_dk prog_6_method_3_code 4 (.aload_n 2) 1 5 := by decide +kernel
theorem td_P_play_5 : tz_dk prog_6_method_3_code 5 (.invokevirtual 39) 3 8 := by decide +kernel
theorem td_P_play_8 : tz_dk prog_6_method_3_code 8 (.aload_n 0) 1 9 := by decide +kernel
theorem td_P_play_9 : tz_dk prog_6_method_3_code 9 (.iload_n 3) 1 10 := by decide +kernel
theorem td_P_play_10 : tz_dk prog_6_method_3_code 10 (.putfield 35) 3 13 := by decide +kernel
theorem td_P_play_13 : tz_dk prog_6_method_3_code 13 (.iconst 0) 1 14 := by decide +kernel
theorem td_P_play_14 : tz_dk prog_6_method_3_code 14 (.istore 4) 2 16 := by decide +kernel
theorem td_P_play_16 : tz_dk prog_6_method_3_code 16 (.iload 4) 2 18 := by decide +kernel
theorem td_P_play_18 : tz_dk prog_6_method_3_code 18 (.aload_n 1) 1 19 := by decide +kernel
theorem td_P_play_19 : tz_dk prog_6_method_3_code 19 (.getfield 43) 3 22 := by decide +kernel
theorem td_P_play_22 : tz_dk prog_6_method_3_code 22 (.invokevirtual 49) 3 25 := by decide +kernel
theorem td_P_play_25 : tz_dj prog_6_method_3_code 25 (.if_icmp .ge 70) (70) 28 95 := by decide +kernel
theorem td_P_play_28 : tz_dk prog_6_method_3_code 28 (.aload_n 1) 1 29 := by decide +kernel
theorem td_P_play_29 : tz_dk prog_6_method_3_code 29 (.getfield 43) 3 32 := by decide +kernel
theorem td_P_play_32 : tz_dk prog_6_method_3_code 32 (.iload 4) 2 34 := by decide +kernel
theorem td_P_play_34 : tz_dk prog_6_method_3_code 34 (.invokevirtual 55) 3 37 := by decide +kernel
theorem td_P_play_37 : tz_dk prog_6_method_3_code 37 (.astore 5) 2 39 := by decide +kernel
theorem td_P_play_39 : tz_dk prog_6_method_3_code 39 (.aload 5) 2 41 := by decide +kernel
theorem td_P_play_41 : tz_dj prog_6_method_3_code 41 (.ifnull 48) (48) 44 89 := by decide +kernel
theorem td_P_play_44 : tz_dk prog_6_method_3_code 44 (.aload 5) 2 46 := by decide +kernel
theorem td_P_play_46 : tz_dk prog_6_method_3_code 46 (.getfield 59) 3 49 := by decide +kernel
theorem td_P_play_49 : tz_dj prog_6_method_3_code 49 (.ifCond .ne 6) (6) 52 55 := by decide +kernel
theorem td_P_play_52 : tz_dj prog_6_method_3_code 52 (.goto 37) (37) 55 89 := by decide +kernel
theorem td_P_play_55 : tz_dk prog_6_method_3_code 55 (.aload_n 0) 1 56 := by decide +kernel
theorem td_P_play_56 : tz_dk prog_6_method_3_code 56 (.getfield 32) 3 59 := by decide +kernel
theorem td_P_play_59 : tz_dk prog_6_method_3_code 59 (.invokevirtual 65) 3 62 := by decide +kernel
theorem td_P_play_62 : tz_dk prog_6_method_3_code 62 (.aload_n 0) 1 63 := by decide +kernel
theorem td_P_play_63 : tz_dk prog_6_method_3_code 63 (.aload 5) 2 65 := by decide +kernel
theorem td_P_play_65 : tz_dk prog_6_method_3_code 65 (.aload_n 1) 1 66 := by decide +kernel
theorem td_P_play_66 : tz_dk prog_6_method_3_code 66 (.invokevirtual 68) 3 69 := by decide +kernel
theorem td_P_play_69 : tz_dk prog_6_method_3_code 69 (.aload_n 0) 1 70 := by decide +kernel
theorem td_P_play_70 : tz_dk prog_6_method_3_code 70 (.getfield 32) 3 73 := by decide +kernel
theorem td_P_play_73 : tz_dk prog_6_method_3_code 73 (.astore 6) 2 75 := by decide +kernel
theorem td_P_play_75 : tz_dk prog_6_method_3_code 75 (.aload_n 0) 1 76 := by decide +kernel
theorem td_P_play_76 : tz_dk prog_6_method_3_code 76 (.aload_n 0) 1 77 := by decide +kernel
theorem td_P_play_77 : tz_dk prog_6_method_3_code 77 (.getfield 28) 3 80 := by decide +kernel
theorem td_P_play_80 : tz_dk prog_6_method_3_code 80 (.putfield 32) 3 83 := by decide +kernel
theorem td_P_play_83 : tz_dk prog_6_method_3_code 83 (.aload_n 0) 1 84 := by decide +kernel
theorem td_P_play_84 : tz_dk prog_6_method_3_code 84 (.aload 6) 2 86 := by decide +kernel
theorem td_P_play_86 : tz_dk prog_6_method_3_code 86 (.putfield 28) 3 89 := by decide +kernel
theorem td_P_play_89 : tz_dk prog_6_method_3_code 89 (.iinc 4 1) 3 92 := by decide +kernel
theorem td_P_play_92 : tz_dj prog_6_method_3_code 92 (.goto (-76)) (-76) 95 16 := by decide +kernel
theorem td_P_play_95 : tz_dk prog_6_method_3_code 95 (.aload_n 0) 1 96 := by decide +kernel
theorem td_P_play_96 : tz_dk prog_6_method_3_code 96 (.getfield 28) 3 99 := by decide +kernel
theorem td_P_play_99 : tz_dk prog_6_method_3_code 99 (.areturn) 1 100 := by decide +kernel
theorem td_P_makeNext_0 : tz_dk prog_6_method_4_code 0 (.aload_n 1) 1 1 := by decide +kernel
theorem td_P_makeNext_1 : tz_dk prog_6_method_4_code 1 (.getfield 72) 3 4 := by decide +kernel
theorem td_P_makeNext_4 : decode prog_6_method_4_code 4 = .ok (.tableswitch 118 0 5 #[40, 51, 62, 81, 92, 103], 40) := by decide +kernel
theorem td_P_makeNext_44 : tz_dk prog_6_method_4_code 44 (.aload_n 0) 1 45 := by decide +kernel
theorem td_P_makeNext_45 : tz_dk prog_6_method_4_code 45 (.aload_n 1) 1 46 := by decide +kernel
theorem td_P_makeNext_46 : tz_dk prog_6_method_4_code 46 (.getfield 75) 3 49 := by decide +kernel
theorem td_P_makeNext_49 : tz_dk prog_6_method_4_code 49 (.invokevirtual 78) 3 52 := by decide +kernel
theorem td_P_makeNext_52 : tz_dj prog_6_method_4_code 52 (.goto 78) (78) 55 130 := by decide +kernel
theorem td_P_makeNext_55 : tz_dk prog_6_method_4_code 55 (.aload_n 0) 1 56 := by decide +kernel
theorem td_P_makeNext_56 : tz_dk prog_6_method_4_code 56 (.aload_n 1) 1 57 := by decide +kernel
theorem td_P_makeNext_57 : tz_dk prog_6_method_4_code 57 (.getfield 75) 3 60 := by decide +kernel
theorem td_P_makeNext_60 : tz_dk prog_6_method_4_code 60 (.invokevirtual 82) 3 63 := by decide +kernel
theorem td_P_makeNext_63 : tz_dj prog_6_method_4_code 63 (.goto 67) (67) 66 130 := by decide +kernel
theorem td_P_makeNext_66 : tz_dk prog_6_method_4_code 66 (.aload_n 0) 1 67 := by decide +kernel
theorem td_P_makeNext_67 : tz_dk prog_6_method_4_code 67 (.aload_n 2) 1 68 := by decide +kernel
theorem td_P_makeNext_68 : tz_dk prog_6_method_4_code 68 (.aload_n 1) 1 69 := by decide +kernel
theorem td_P_makeNext_69 : tz_dk prog_6_method_4_code 69 (.getfield 75) 3 72 := by decide +kernel
theorem td_P_makeNext_72 : tz_dk prog_6_method_4_code 72 (.invokevirtual 85) 3 75 := by decide +kernel
theorem td_P_makeNext_75 : tz_dk prog_6_method_4_code 75 (.aload_n 1) 1 76 := by decide +kernel
theorem td_P_makeNext_76 : tz_dk prog_6_method_4_code 76 (.getfield 89) 3 79 := by decide +kernel
theorem td_P_makeNext_79 : tz_dk prog_6_method_4_code 79 (.invokevirtual 92) 3 82 := by decide +kernel
theorem td_P_makeNext_82 : tz_dj prog_6_method_4_code 82 (.goto 48) (48) 85 130 := by decide +kernel
theorem td_P_makeNext_85 : tz_dk prog_6_method_4_code 85 (.aload_n 0) 1 86 := by decide +kernel
theorem td_P_makeNext_86 : tz_dk prog_6_method_4_code 86 (.aload_n 1) 1 87 := by decide +kernel
theorem td_P_makeNext_87 : tz_dk prog_6_method_4_code 87 (.getfield 75) 3 90 := by decide +kernel
theorem td_P_makeNext_90 : tz_dk prog_6_method_4_code 90 (.invokevirtual 96) 3 93 := by decide +kernel
theorem td_P_makeNext_93 : tz_dj prog_6_method_4_code 93 (.goto 37) (37) 96 130 := by decide +kernel
theorem td_P_makeNext_96 : tz_dk prog_6_method_4_code 96 (.aload_n 0) 1 97 := by decide +kernel
theorem td_P_makeNext_97 : tz_dk prog_6_method_4_code 97 (.aload_n 1) 1 98 := by decide +kernel
theorem td_P_makeNext_98 : tz_dk prog_6_method_4_code 98 (.getfield 75) 3 101 := by decide +kernel
theorem td_P_makeNext_101 : tz_dk prog_6_method_4_code 101 (.invokevirtual 99) 3 104 := by decide +kernel
theorem td_P_makeNext_104 : tz_dj prog_6_method_4_code 104 (.goto 26) (26) 107 130 := by decide +kernel
theorem td_P_makeNext_107 : tz_dk prog_6_method_4_code 107 (.aload_n 0) 1 108 := by decide +kernel
theorem td_P_makeNext_108 : tz_dk prog_6_method_4_code 108 (.aload_n 1) 1 109 := by decide +kernel
theorem td_P_makeNext_109 : tz_dk prog_6_method_4_code 109 (.getfield 75) 3 112 := by decide +kernel
theorem td_P_makeNext_112 : tz_dk prog_6_method_4_code 112 (.aload_n 1) 1 113 := by decide +kernel
theorem td_P_makeNext_113 : tz_dk prog_6_method_4_code 113 (.getfield 89) 3 116 := by decide +kernel
theorem td_P_makeNext_116 : tz_dk prog_6_method_4_code 116 (.invokevirtual 102) 3 119 := by decide +kernel
theorem td_P_makeNext_119 : tz_dj prog_6_method_4_code 119 (.goto 11) (11) 122 130 := by decide +kernel
theorem td_P_makeNext_122 : tz_dk prog_6_method_4_code 122 (.aload_n 0) 1 123 := by decide +kernel
theorem td_P_makeNext_123 : tz_dk prog_6_method_4_code 123 (.aload_n 1) 1 124 := by decide +kernel
theorem td_P_makeNext_124 : tz_dk prog_6_method_4_code 124 (.getfield 75) 3 127 := by decide +kernel
theorem td_P_makeNext_127 : tz_dk prog_6_method_4_code 127 (.invokevirtual 106) 3 130 := by decide +kernel
theorem td_P_makeNext_130 : tz_dk prog_6_method_4_code 130 (.return_) 1 131 := by decide +kernel
theorem td_P_gain_0 : tz_dk prog_6_method_5_code 0 (.iconst 0) 1 1 := by decide +kernel
theorem td_P_gain_1 : tz_dk prog_6_method_5_code 1 (.istore_n 2) 1 2 := by decide +kernel
theorem td_P_gain_2 : tz_dk prog_6_method_5_code 2 (.iload_n 2) 1 3 := by decide +kernel
theorem td_P_gain_3 : tz_dk prog_6_method_5_code 3 (.aload_n 0) 1 4 := by decide +kernel
theorem td_P_gain_4 : tz_dk prog_6_method_5_code 4 (.getfield 28) 3 7 := by decide +kernel
theorem td_P_gain_7 : tz_dk prog_6_method_5_code 7 (.invokevirtual 109) 3 10 := by decide +kernel
theorem td_P_gain_10 : tz_dj prog_6_method_5_code 10 (.if_icmp .ge 54) (54) 13 64 := by decide +kernel
theorem td_P_gain_13 : tz_dk prog_6_method_5_code 13 (.aload_n 0) 1 14 := by decide +kernel
theorem td_P_gain_14 : tz_dk prog_6_method_5_code 14 (.getfield 28) 3 17 := by decide +kernel
theorem td_P_gain_17 : tz_dk prog_6_method_5_code 17 (.iload_n 2) 1 18 := by decide +kernel
theorem td_P_gain_18 : tz_dk prog_6_method_5_code 18 (.invokevirtual 112) 3 21 := by decide +kernel
theorem td_P_gain_21 : tz_dk prog_6_method_5_code 21 (.istore_n 3) 1 22 := by decide +kernel
theorem td_P_gain_22 : tz_dk prog_6_method_5_code 22 (.aload_n 0) 1 23 := by decide +kernel
theorem td_P_gain_23 : tz_dk prog_6_method_5_code 23 (.getfield 32) 3 26 := by decide +kernel
theorem td_P_gain_26 : tz_dk prog_6_method_5_code 26 (.iload_n 3) 1 27 := by decide +kernel
theorem td_P_gain_27 : tz_dk prog_6_method_5_code 27 (.ldc 115) 2 29 := by decide +kernel
theorem td_P_gain_29 : tz_dj prog_6_method_5_code 29 (.if_icmp .ne 8) (8) 32 37 := by decide +kernel
theorem td_P_gain_32 : tz_dk prog_6_method_5_code 32 (.ldc 115) 2 34 := by decide +kernel
theorem td_P_gain_34 : tz_dj prog_6_method_5_code 34 (.goto 21) (21) 37 55 := by decide +kernel
theorem td_P_gain_37 : tz_dk prog_6_method_5_code 37 (.sipush (-10000)) 3 40 := by decide +kernel
theorem td_P_gain_40 : tz_dk prog_6_method_5_code 40 (.sipush 10000) 3 43 := by decide +kernel
theorem td_P_gain_43 : tz_dk prog_6_method_5_code 43 (.iload_n 3) 1 44 := by decide +kernel
theorem td_P_gain_44 : tz_dk prog_6_method_5_code 44 (.iload_n 1) 1 45 := by decide +kernel
theorem td_P_gain_45 : tz_dk prog_6_method_5_code 45 (.imul) 1 46 := by decide +kernel
theorem td_P_gain_46 : tz_dk prog_6_method_5_code 46 (.bipush 100) 2 48 := by decide +kernel
theorem td_P_gain_48 : tz_dk prog_6_method_5_code 48 (.idiv) 1 49 := by decide +kernel
theorem td_P_gain_49 : tz_dk prog_6_method_5_code 49 (.invokestatic 116) 3 52 := by decide +kernel
theorem td_P_gain_52 : tz_dk prog_6_method_5_code 52 (.invokestatic 122) 3 55 := by decide +kernel
theorem td_P_gain_55 : tz_dk prog_6_method_5_code 55 (.invokevirtual 125) 3 58 := by decide +kernel
theorem td_P_gain_58 : tz_dk prog_6_method_5_code 58 (.iinc 2 1) 3 61 := by decide +kernel
theorem td_P_gain_61 : tz_dj prog_6_method_5_code 61 (.goto (-59)) (-59) 64 2 := by decide +kernel
theorem td_P_gain_64 : tz_dk prog_6_method_5_code 64 (.return_) 1 65 := by decide +kernel
theorem td_P_mend_0 : tz_dk prog_6_method_6_code 0 (.iconst 0) 1 1 := by decide +kernel
theorem td_P_mend_1 : tz_dk prog_6_method_6_code 1 (.istore_n 2) 1 2 := by decide +kernel
theorem td_P_mend_2 : tz_dk prog_6_method_6_code 2 (.iload_n 2) 1 3 := by decide +kernel
theorem td_P_mend_3 : tz_dk prog_6_method_6_code 3 (.aload_n 0) 1 4 := by decide +kernel
theorem td_P_mend_4 : tz_dk prog_6_method_6_code 4 (.getfield 28) 3 7 := by decide +kernel
theorem td_P_mend_7 : tz_dk prog_6_method_6_code 7 (.invokevirtual 109) 3 10 := by decide +kernel
theorem td_P_mend_10 : tz_dj prog_6_method_6_code 10 (.if_icmp .ge 62) (62) 13 72 := by decide +kernel
theorem td_P_mend_13 : tz_dk prog_6_method_6_code 13 (.aload_n 0) 1 14 := by decide +kernel
theorem td_P_mend_14 : tz_dk prog_6_method_6_code 14 (.getfield 32) 3 17 := by decide +kernel
theorem td_P_mend_17 : tz_dk prog_6_method_6_code 17 (.aload_n 0) 1 18 := by decide +kernel
theorem td_P_mend_18 : tz_dk prog_6_method_6_code 18 (.getfield 28) 3 21 := by decide +kernel
theorem td_P_mend_21 : tz_dk prog_6_method_6_code 21 (.iload_n 2) 1 22 := by decide +kernel
theorem td_P_mend_22 : tz_dk prog_6_method_6_code 22 (.iload_n 1) 1 23 := by decide +kernel
theorem td_P_mend_23 : tz_dk prog_6_method_6_code 23 (.invokevirtual 128) 3 26 := by decide +kernel
theorem td_P_mend_26 : tz_dj prog_6_method_6_code 26 (.ifCond .eq 29) (29) 29 55 := by decide +kernel
theorem td_P_mend_29 : tz_dk prog_6_method_6_code 29 (.aload_n 0) 1 30 := by decide +kernel
theorem td_P_mend_30 : tz_dk prog_6_method_6_code 30 (.getfield 28) 3 33 := by decide +kernel
theorem td_P_mend_33 : tz_dk prog_6_method_6_code 33 (.iload_n 2) 1 34 := by decide +kernel
theorem td_P_mend_34 : tz_dk prog_6_method_6_code 34 (.iconst 1) 1 35 := by decide +kernel
theorem td_P_mend_35 : tz_dk prog_6_method_6_code 35 (.isub) 1 36 := by decide +kernel
theorem td_P_mend_36 : tz_dk prog_6_method_6_code 36 (.invokevirtual 112) 3 39 := by decide +kernel
theorem td_P_mend_39 : tz_dk prog_6_method_6_code 39 (.aload_n 0) 1 40 := by decide +kernel
theorem td_P_mend_40 : tz_dk prog_6_method_6_code 40 (.getfield 28) 3 43 := by decide +kernel
theorem td_P_mend_43 : tz_dk prog_6_method_6_code 43 (.iload_n 2) 1 44 := by decide +kernel
theorem td_P_mend_44 : tz_dk prog_6_method_6_code 44 (.iconst 1) 1 45 := by decide +kernel
theorem td_P_mend_45 : tz_dk prog_6_method_6_code 45 (.iadd) 1 46 := by decide +kernel
theorem td_P_mend_46 : tz_dk prog_6_method_6_code 46 (.invokevirtual 112) 3 49 := by decide +kernel
theorem td_P_mend_49 : tz_dk prog_6_method_6_code 49 (.iadd) 1 50 := by decide +kernel
theorem td_P_mend_50 : tz_dk prog_6_method_6_code 50 (.iconst 2) 1 51 := by decide +kernel
theorem td_P_mend_51 : tz_dk prog_6_method_6_code 51 (.idiv) 1 52 := by decide +kernel
theorem td_P_mend_52 : tz_dj prog_6_method_6_code 52 (.goto 11) (11) 55 63 := by decide +kernel
theorem td_P_mend_55 : tz_dk prog_6_method_6_code 55 (.aload_n 0) 1 56 := by decide +kernel
theorem td_P_mend_56 : tz_dk prog_6_method_6_code 56 (.getfield 28) 3 59 := by decide +kernel
theorem td_P_mend_59 : tz_dk prog_6_method_6_code 59 (.iload_n 2) 1 60 := by decide +kernel
theorem td_P_mend_60 : tz_dk prog_6_method_6_code 60 (.invokevirtual 112) 3 63 := by decide +kernel
theorem td_P_mend_63 : tz_dk prog_6_method_6_code 63 (.invokevirtual 125) 3 66 := by decide +kernel
theorem td_P_mend_66 : tz_dk prog_6_method_6_code 66 (.iinc 2 1) 3 69 := by decide +kernel
theorem td_P_mend_69 : tz_dj prog_6_method_6_code 69 (.goto (-67)) (-67) 72 2 := by decide +kernel
theorem td_P_mend_72 : tz_dk prog_6_method_6_code 72 (.return_) 1 73 := by decide +kernel
theorem td_P_fill_0 : tz_dk prog_6_method_7_code 0 (.aload_n 0) 1 1 := by decide +kernel
theorem td_P_fill_1 : tz_dk prog_6_method_7_code 1 (.getfield 32) 3 4 := by decide +kernel
theorem td_P_fill_4 : tz_dk prog_6_method_7_code 4 (.aload_n 0) 1 5 := by decide +kernel
theorem td_P_fill_5 : tz_dk prog_6_method_7_code 5 (.getfield 28) 3 8 := by decide +kernel
theorem td_P_fill_8 : tz_dk prog_6_method_7_code 8 (.invokevirtual 39) 3 11 := by decide +kernel
theorem td_P_fill_11 : tz_dk prog_6_method_7_code 11 (.aload_n 1) 1 12 := by decide +kernel
theorem td_P_fill_12 : tz_dj prog_6_method_7_code 12 (.ifnonnull 4) (4) 15 16 := by decide +kernel
theorem td_P_fill_15 : tz_dk prog_6_method_7_code 15 (.return_) 1 16 := by decide +kernel
theorem td_P_fill_16 : tz_dk prog_6_method_7_code 16 (.aload_n 0) 1 17 := by decide +kernel
theorem td_P_fill_17 : tz_dk prog_6_method_7_code 17 (.getfield 12) 3 20 := by decide +kernel
theorem td_P_fill_20 : tz_dk prog_6_method_7_code 20 (.aload_n 0) 1 21 := by decide +kernel
theorem td_P_fill_21 : tz_dk prog_6_method_7_code 21 (.getfield 28) 3 24 := by decide +kernel
theorem td_P_fill_24 : tz_dk prog_6_method_7_code 24 (.aload_n 1) 1 25 := by decide +kernel
theorem td_P_fill_25 : tz_dk prog_6_method_7_code 25 (.iload_n 2) 1 26 := by decide +kernel
theorem td_P_fill_26 : tz_dk prog_6_method_7_code 26 (.invokevirtual 132) 3 29 := by decide +kernel
theorem td_P_fill_29 : tz_dk prog_6_method_7_code 29 (.istore_n 3) 1 30 := by decide +kernel
theorem td_P_fill_30 : tz_dk prog_6_method_7_code 30 (.iload_n 3) 1 31 := by decide +kernel
theorem td_P_fill_31 : tz_dk prog_6_method_7_code 31 (.ldc 136) 2 33 := by decide +kernel
theorem td_P_fill_33 : tz_dj prog_6_method_7_code 33 (.if_icmp .ne 4) (4) 36 37 := by decide +kernel
theorem td_P_fill_36 : tz_dk prog_6_method_7_code 36 (.return_) 1 37 := by decide +kernel
theorem td_P_fill_37 : tz_dk prog_6_method_7_code 37 (.iconst 0) 1 38 := by decide +kernel
theorem td_P_fill_38 : tz_dk prog_6_method_7_code 38 (.istore 4) 2 40 := by decide +kernel
theorem td_P_fill_40 : tz_dk prog_6_method_7_code 40 (.iload 4) 2 42 := by decide +kernel
theorem td_P_fill_42 : tz_dk prog_6_method_7_code 42 (.aload_n 0) 1 43 := by decide +kernel
theorem td_P_fill_43 : tz_dk prog_6_method_7_code 43 (.getfield 28) 3 46 := by decide +kernel
theorem td_P_fill_46 : tz_dk prog_6_method_7_code 46 (.invokevirtual 109) 3 49 := by decide +kernel
theorem td_P_fill_49 : tz_dj prog_6_method_7_code 49 (.if_icmp .ge 40) (40) 52 89 := by decide +kernel
theorem td_P_fill_52 : tz_dk prog_6_method_7_code 52 (.aload_n 0) 1 53 := by decide +kernel
theorem td_P_fill_53 : tz_dk prog_6_method_7_code 53 (.getfield 28) 3 56 := by decide +kernel
theorem td_P_fill_56 : tz_dk prog_6_method_7_code 56 (.iload 4) 2 58 := by decide +kernel
theorem td_P_fill_58 : tz_dk prog_6_method_7_code 58 (.invokevirtual 112) 3 61 := by decide +kernel
theorem td_P_fill_61 : tz_dk prog_6_method_7_code 61 (.ldc 115) 2 63 := by decide +kernel
theorem td_P_fill_63 : tz_dj prog_6_method_7_code 63 (.if_icmp .ne 20) (20) 66 83 := by decide +kernel
theorem td_P_fill_66 : tz_dk prog_6_method_7_code 66 (.aload_n 0) 1 67 := by decide +kernel
theorem td_P_fill_67 : tz_dk prog_6_method_7_code 67 (.getfield 32) 3 70 := by decide +kernel
theorem td_P_fill_70 : tz_dk prog_6_method_7_code 70 (.iload 4) 2 72 := by decide +kernel
theorem td_P_fill_72 : tz_dk prog_6_method_7_code 72 (.aload_n 1) 1 73 := by decide +kernel
theorem td_P_fill_73 : tz_dk prog_6_method_7_code 73 (.iload 4) 2 75 := by decide +kernel
theorem td_P_fill_75 : tz_dk prog_6_method_7_code 75 (.iload_n 3) 1 76 := by decide +kernel
theorem td_P_fill_76 : tz_dk prog_6_method_7_code 76 (.iadd) 1 77 := by decide +kernel
theorem td_P_fill_77 : tz_dk prog_6_method_7_code 77 (.invokevirtual 112) 3 80 := by decide +kernel
theorem td_P_fill_80 : tz_dk prog_6_method_7_code 80 (.invokevirtual 137) 3 83 := by decide +kernel
theorem td_P_fill_83 : tz_dk prog_6_method_7_code 83 (.iinc 4 1) 3 86 := by decide +kernel
theorem td_P_fill_86 : tz_dj prog_6_method_7_code 86 (.goto (-46)) (-46) 89 40 := by decide +kernel
theorem td_P_fill_89 : tz_dk prog_6_method_7_code 89 (.return_) 1 90 := by decide +kernel
end
section
theorem td_A_shift_0 : tz_dk prog_2_method_5_code 0 (.ldc 34) 2 2 := by decide +kernel
theorem td_A_shift_2 : tz_dk prog_2_method_5_code 2 (.istore 4) 2 4 := by decide +kernel
theorem td_A_shift_4 : tz_dk prog_2_method_5_code 4 (.lconst 0) 1 5 := by decide +kernel
theorem td_A_shift_5 : tz_dk prog_2_method_5_code 5 (.lstore 5) 2 7 := by decide +kernel
theorem td_A_shift_7 : tz_dk prog_2_method_5_code 7 (.lconst 1) 1 8 := by decide +kernel
theorem td_A_shift_8 : tz_dk prog_2_method_5_code 8 (.lstore 7) 2 10 := by decide +kernel
theorem td_A_shift_10 : tz_dk prog_2_method_5_code 10 (.iconst 0) 1 11 := by decide +kernel
theorem td_A_shift_11 : tz_dk prog_2_method_5_code 11 (.istore 9) 2 13 := by decide +kernel
theorem td_A_shift_13 : tz_dk prog_2_method_5_code 13 (.iload 9) 2 15 := by decide +kernel
theorem td_A_shift_15 : tz_dk prog_2_method_5_code 15 (.iconst 2) 1 16 := by decide +kernel
theorem td_A_shift_16 : tz_dk prog_2_method_5_code 16 (.iload_n 3) 1 17 := by decide +kernel
theorem td_A_shift_17 : tz_dk prog_2_method_5_code 17 (.imul) 1 18 := by decide +kernel
theorem td_A_shift_18 : tz_dj prog_2_method_5_code 18 (.if_icmp .gt 96) (96) 21 114 := by decide +kernel
theorem td_A_shift_21 : tz_dk prog_2_method_5_code 21 (.iload 9) 2 23 := by decide +kernel
theorem td_A_shift_23 : tz_dk prog_2_method_5_code 23 (.iconst 2) 1 24 := by decide +kernel
theorem td_A_shift_24 : tz_dk prog_2_method_5_code 24 (.irem) 1 25 := by decide +kernel
theorem td_A_shift_25 : tz_dj prog_2_method_5_code 25 (.ifCond .ne 10) (10) 28 35 := by decide +kernel
theorem td_A_shift_28 : tz_dk prog_2_method_5_code 28 (.iload 9) 2 30 := by decide +kernel
theorem td_A_shift_30 : tz_dk prog_2_method_5_code 30 (.iconst 2) 1 31 := by decide +kernel
theorem td_A_shift_31 : tz_dk prog_2_method_5_code 31 (.idiv) 1 32 := by decide +kernel
theorem td_A_shift_32 : tz_dj prog_2_method_5_code 32 (.goto 10) (10) 35 42 := by decide +kernel
theorem td_A_shift_35 : tz_dk prog_2_method_5_code 35 (.iload 9) 2 37 := by decide +kernel
theorem td_A_shift_37 : tz_dk prog_2_method_5_code 37 (.iconst 1) 1 38 := by decide +kernel
theorem td_A_shift_38 : tz_dk prog_2_method_5_code 38 (.iadd) 1 39 := by decide +kernel
theorem td_A_shift_39 : tz_dk prog_2_method_5_code 39 (.ineg) 1 40 := by decide +kernel
theorem td_A_shift_40 : tz_dk prog_2_method_5_code 40 (.iconst 2) 1 41 := by decide +kernel
theorem td_A_shift_41 : tz_dk prog_2_method_5_code 41 (.idiv) 1 42 := by decide +kernel
theorem td_A_shift_42 : tz_dk prog_2_method_5_code 42 (.istore 10) 2 44 := by decide +kernel
theorem td_A_shift_44 : tz_dk prog_2_method_5_code 44 (.aload_n 0) 1 45 := by decide +kernel
theorem td_A_shift_45 : tz_dk prog_2_method_5_code 45 (.aload_n 1) 1 46 := by decide +kernel
theorem td_A_shift_46 : tz_dk prog_2_method_5_code 46 (.aload_n 2) 1 47 := by decide +kernel
theorem td_A_shift_47 : tz_dk prog_2_method_5_code 47 (.iload 10) 2 49 := by decide +kernel
theorem td_A_shift_49 : tz_dk prog_2_method_5_code 49 (.invokevirtual 35) 3 52 := by decide +kernel
theorem td_A_shift_52 : tz_dk prog_2_method_5_code 52 (.aload_n 0) 1 53 := by decide +kernel
theorem td_A_shift_53 : tz_dk prog_2_method_5_code 53 (.getfield 15) 3 56 := by decide +kernel
theorem td_A_shift_56 : tz_dk prog_2_method_5_code 56 (.iconst 4) 1 57 := by decide +kernel
theorem td_A_shift_57 : tz_dj prog_2_method_5_code 57 (.if_icmp .ge 6) (6) 60 63 := by decide +kernel
theorem td_A_shift_60 : tz_dj prog_2_method_5_code 60 (.goto 48) (48) 63 108 := by decide +kernel
theorem td_A_shift_63 : tz_dk prog_2_method_5_code 63 (.iload 4) 2 65 := by decide +kernel
theorem td_A_shift_65 : tz_dk prog_2_method_5_code 65 (.ldc 34) 2 67 := by decide +kernel
theorem td_A_shift_67 : tz_dj prog_2_method_5_code 67 (.if_icmp .eq 23) (23) 70 90 := by decide +kernel
theorem td_A_shift_70 : tz_dk prog_2_method_5_code 70 (.aload_n 0) 1 71 := by decide +kernel
theorem td_A_shift_71 : tz_dk prog_2_method_5_code 71 (.getfield 9) 3 74 := by decide +kernel
theorem td_A_shift_74 : tz_dk prog_2_method_5_code 74 (.i2l) 1 75 := by decide +kernel
theorem td_A_shift_75 : tz_dk prog_2_method_5_code 75 (.lload 7) 2 77 := by decide +kernel
theorem td_A_shift_77 : tz_dk prog_2_method_5_code 77 (.lmul) 1 78 := by decide +kernel
theorem td_A_shift_78 : tz_dk prog_2_method_5_code 78 (.lload 5) 2 80 := by decide +kernel
theorem td_A_shift_80 : tz_dk prog_2_method_5_code 80 (.aload_n 0) 1 81 := by decide +kernel
theorem td_A_shift_81 : tz_dk prog_2_method_5_code 81 (.getfield 15) 3 84 := by decide +kernel
theorem td_A_shift_84 : tz_dk prog_2_method_5_code 84 (.i2l) 1 85 := by decide +kernel
theorem td_A_shift_85 : tz_dk prog_2_method_5_code 85 (.lmul) 1 86 := by decide +kernel
theorem td_A_shift_86 : tz_dk prog_2_method_5_code 86 (.lcmp) 1 87 := by decide +kernel
theorem td_A_shift_87 : tz_dj prog_2_method_5_code 87 (.ifCond .ge 21) (21) 90 108 := by decide +kernel
theorem td_A_shift_90 : tz_dk prog_2_method_5_code 90 (.iload 10) 2 92 := by decide +kernel
theorem td_A_shift_92 : tz_dk prog_2_method_5_code 92 (.istore 4) 2 94 := by decide +kernel
theorem td_A_shift_94 : tz_dk prog_2_method_5_code 94 (.aload_n 0) 1 95 := by decide +kernel
theorem td_A_shift_95 : tz_dk prog_2_method_5_code 95 (.getfield 9) 3 98 := by decide +kernel
theorem td_A_shift_98 : tz_dk prog_2_method_5_code 98 (.i2l) 1 99 := by decide +kernel
theorem td_A_shift_99 : tz_dk prog_2_method_5_code 99 (.lstore 5) 2 101 := by decide +kernel
theorem td_A_shift_101 : tz_dk prog_2_method_5_code 101 (.aload_n 0) 1 102 := by decide +kernel
theorem td_A_shift_102 : tz_dk prog_2_method_5_code 102 (.getfield 15) 3 105 := by decide +kernel
theorem td_A_shift_105 : tz_dk prog_2_method_5_code 105 (.i2l) 1 106 := by decide +kernel
theorem td_A_shift_106 : tz_dk prog_2_method_5_code 106 (.lstore 7) 2 108 := by decide +kernel
theorem td_A_shift_108 : tz_dk prog_2_method_5_code 108 (.iinc 9 1) 3 111 := by decide +kernel
theorem td_A_shift_111 : tz_dj prog_2_method_5_code 111 (.goto (-98)) (-98) 114 13 := by decide +kernel
theorem td_A_shift_114 : tz_dk prog_2_method_5_code 114 (.iload 4) 2 116 := by decide +kernel
theorem td_A_shift_116 : tz_dk prog_2_method_5_code 116 (.ireturn) 1 117 := by decide +kernel
theorem td_A_compare_0 : tz_dk prog_2_method_4_code 0 (.aload_n 0) 1 1 := by decide +kernel
theorem td_A_compare_1 : tz_dk prog_2_method_4_code 1 (.iconst 0) 1 2 := by decide +kernel
theorem td_A_compare_2 : tz_dk prog_2_method_4_code 2 (.putfield 9) 3 5 := by decide +kernel
theorem td_A_compare_5 : tz_dk prog_2_method_4_code 5 (.aload_n 0) 1 6 := by decide +kernel
theorem td_A_compare_6 : tz_dk prog_2_method_4_code 6 (.iconst 0) 1 7 := by decide +kernel
theorem td_A_compare_7 : tz_dk prog_2_method_4_code 7 (.putfield 15) 3 10 := by decide +kernel
theorem td_A_compare_10 : tz_dk prog_2_method_4_code 10 (.iconst 0) 1 11 := by decide +kernel
theorem td_A_compare_11 : tz_dk prog_2_method_4_code 11 (.istore 4) 2 13 := by decide +kernel
theorem td_A_compare_13 : tz_dk prog_2_method_4_code 13 (.iload 4) 2 15 := by decide +kernel
theorem td_A_compare_15 : tz_dk prog_2_method_4_code 15 (.aload_n 1) 1 16 := by decide +kernel
theorem td_A_compare_16 : tz_dk prog_2_method_4_code 16 (.invokevirtual 18) 3 19 := by decide +kernel
theorem td_A_compare_19 : tz_dj prog_2_method_4_code 19 (.if_icmp .ge 68) (68) 22 87 := by decide +kernel
theorem td_A_compare_22 : tz_dk prog_2_method_4_code 22 (.aload_n 1) 1 23 := by decide +kernel
theorem td_A_compare_23 : tz_dk prog_2_method_4_code 23 (.iload 4) 2 25 := by decide +kernel
theorem td_A_compare_25 : tz_dk prog_2_method_4_code 25 (.invokevirtual 24) 3 28 := by decide +kernel
theorem td_A_compare_28 : tz_dk prog_2_method_4_code 28 (.istore 5) 2 30 := by decide +kernel
theorem td_A_compare_30 : tz_dk prog_2_method_4_code 30 (.aload_n 2) 1 31 := by decide +kernel
theorem td_A_compare_31 : tz_dk prog_2_method_4_code 31 (.iload 4) 2 33 := by decide +kernel
theorem td_A_compare_33 : tz_dk prog_2_method_4_code 33 (.iload_n 3) 1 34 := by decide +kernel
theorem td_A_compare_34 : tz_dk prog_2_method_4_code 34 (.iadd) 1 35 := by decide +kernel
theorem td_A_compare_35 : tz_dk prog_2_method_4_code 35 (.invokevirtual 24) 3 38 := by decide +kernel
theorem td_A_compare_38 : tz_dk prog_2_method_4_code 38 (.istore 6) 2 40 := by decide +kernel
theorem td_A_compare_40 : tz_dk prog_2_method_4_code 40 (.iload 5) 2 42 := by decide +kernel
theorem td_A_compare_42 : tz_dk prog_2_method_4_code 42 (.ldc 28) 2 44 := by decide +kernel
theorem td_A_compare_44 : tz_dj prog_2_method_4_code 44 (.if_icmp .eq 37) (37) 47 81 := by decide +kernel
theorem td_A_compare_47 : tz_dk prog_2_method_4_code 47 (.iload 6) 2 49 := by decide +kernel
theorem td_A_compare_49 : tz_dk prog_2_method_4_code 49 (.ldc 28) 2 51 := by decide +kernel
theorem td_A_compare_51 : tz_dj prog_2_method_4_code 51 (.if_icmp .eq 30) (30) 54 81 := by decide +kernel
theorem td_A_compare_54 : tz_dk prog_2_method_4_code 54 (.aload_n 0) 1 55 := by decide +kernel
theorem td_A_compare_55 : tz_dk prog_2_method_4_code 55 (.dup) 1 56 := by decide +kernel
theorem td_A_compare_56 : tz_dk prog_2_method_4_code 56 (.getfield 9) 3 59 := by decide +kernel
theorem td_A_compare_59 : tz_dk prog_2_method_4_code 59 (.iload 5) 2 61 := by decide +kernel
theorem td_A_compare_61 : tz_dk prog_2_method_4_code 61 (.iload 6) 2 63 := by decide +kernel
theorem td_A_compare_63 : tz_dk prog_2_method_4_code 63 (.isub) 1 64 := by decide +kernel
theorem td_A_compare_64 : tz_dk prog_2_method_4_code 64 (.invokestatic 29) 3 67 := by decide +kernel
theorem td_A_compare_67 : tz_dk prog_2_method_4_code 67 (.iadd) 1 68 := by decide +kernel
theorem td_A_compare_68 : tz_dk prog_2_method_4_code 68 (.putfield 9) 3 71 := by decide +kernel
theorem td_A_compare_71 : tz_dk prog_2_method_4_code 71 (.aload_n 0) 1 72 := by decide +kernel
theorem td_A_compare_72 : tz_dk prog_2_method_4_code 72 (.dup) 1 73 := by decide +kernel
theorem td_A_compare_73 : tz_dk prog_2_method_4_code 73 (.getfield 15) 3 76 := by decide +kernel
theorem td_A_compare_76 : tz_dk prog_2_method_4_code 76 (.iconst 1) 1 77 := by decide +kernel
theorem td_A_compare_77 : tz_dk prog_2_method_4_code 77 (.iadd) 1 78 := by decide +kernel
theorem td_A_compare_78 : tz_dk prog_2_method_4_code 78 (.putfield 15) 3 81 := by decide +kernel
theorem td_A_compare_81 : tz_dk prog_2_method_4_code 81 (.iinc 4 1) 3 84 := by decide +kernel
theorem td_A_compare_84 : tz_dj prog_2_method_4_code 84 (.goto (-71)) (-71) 87 13 := by decide +kernel
theorem td_A_compare_87 : tz_dk prog_2_method_4_code 87 (.return_) 1 88 := by decide +kernel
theorem td_J_abs_0 : tz_dk prog_14_method_59_code 0 (.iload_n 0) 1 1 := by decide +kernel
theorem td_J_abs_1 : tz_dj prog_14_method_59_code 1 (.ifCond .ge 8) (8) 4 9 := by decide +kernel
theorem td_J_abs_4 : tz_dk prog_14_method_59_code 4 (.iload_n 0) 1 5 := by decide +kernel
theorem td_J_abs_5 : tz_dk prog_14_method_59_code 5 (.ineg) 1 6 := by decide +kernel
theorem td_J_abs_6 : tz_dj prog_14_method_59_code 6 (.goto 4) (4) 9 10 := by decide +kernel
theorem td_J_abs_9 : tz_dk prog_14_method_59_code 9 (.iload_n 0) 1 10 := by decide +kernel
theorem td_J_abs_10 : tz_dk prog_14_method_59_code 10 (.ireturn) 1 11 := by decide +kernel
theorem td_P_bridge_0 : tz_dk prog_6_method_8_code 0 (.aload_n 0) 1 1 := by decide +kernel
theorem td_P_bridge_1 : tz_dk prog_6_method_8_code 1 (.getfield 32) 3 4 := by decide +kernel
theorem td_P_bridge_4 : tz_dk prog_6_method_8_code 4 (.aload_n 0) 1 5 := by decide +kernel
theorem td_P_bridge_5 : tz_dk prog_6_method_8_code 5 (.getfield 28) 3 8 := by decide +kernel
theorem td_P_bridge_8 : tz_dk prog_6_method_8_code 8 (.invokevirtual 39) 3 11 := by decide +kernel
theorem td_P_bridge_11 : tz_dk prog_6_method_8_code 11 (.iconst (-1)) 1 12 := by decide +kernel
theorem td_P_bridge_12 : tz_dk prog_6_method_8_code 12 (.istore_n 2) 1 13 := by decide +kernel
theorem td_P_bridge_13 : tz_dk prog_6_method_8_code 13 (.iconst 0) 1 14 := by decide +kernel
theorem td_P_bridge_14 : tz_dk prog_6_method_8_code 14 (.istore_n 3) 1 15 := by decide +kernel
theorem td_P_bridge_15 : tz_dk prog_6_method_8_code 15 (.iload_n 3) 1 16 := by decide +kernel
theorem td_P_bridge_16 : tz_dk prog_6_method_8_code 16 (.aload_n 0) 1 17 := by decide +kernel
theorem td_P_bridge_17 : tz_dk prog_6_method_8_code 17 (.getfield 28) 3 20 := by decide +kernel
theorem td_P_bridge_20 : tz_dk prog_6_method_8_code 20 (.invokevirtual 109) 3 23 := by decide +kernel
theorem td_P_bridge_23 : tz_dj prog_6_method_8_code 23 (.if_icmp .ge 47) (47) 26 70 := by decide +kernel
theorem td_P_bridge_26 : tz_dk prog_6_method_8_code 26 (.aload_n 0) 1 27 := by decide +kernel
theorem td_P_bridge_27 : tz_dk prog_6_method_8_code 27 (.getfield 28) 3 30 := by decide +kernel
theorem td_P_bridge_30 : tz_dk prog_6_method_8_code 30 (.iload_n 3) 1 31 := by decide +kernel
theorem td_P_bridge_31 : tz_dk prog_6_method_8_code 31 (.invokevirtual 112) 3 34 := by decide +kernel
theorem td_P_bridge_34 : tz_dk prog_6_method_8_code 34 (.ldc 115) 2 36 := by decide +kernel
theorem td_P_bridge_36 : tz_dj prog_6_method_8_code 36 (.if_icmp .ne 6) (6) 39 42 := by decide +kernel
theorem td_P_bridge_39 : tz_dj prog_6_method_8_code 39 (.goto 25) (25) 42 64 := by decide +kernel
theorem td_P_bridge_42 : tz_dk prog_6_method_8_code 42 (.iload_n 2) 1 43 := by decide +kernel
theorem td_P_bridge_43 : tz_dk prog_6_method_8_code 43 (.iconst (-1)) 1 44 := by decide +kernel
theorem td_P_bridge_44 : tz_dj prog_6_method_8_code 44 (.if_icmp .eq 18) (18) 47 62 := by decide +kernel
theorem td_P_bridge_47 : tz_dk prog_6_method_8_code 47 (.iload_n 3) 1 48 := by decide +kernel
theorem td_P_bridge_48 : tz_dk prog_6_method_8_code 48 (.iload_n 2) 1 49 := by decide +kernel
theorem td_P_bridge_49 : tz_dk prog_6_method_8_code 49 (.isub) 1 50 := by decide +kernel
theorem td_P_bridge_50 : tz_dk prog_6_method_8_code 50 (.iconst 1) 1 51 := by decide +kernel
theorem td_P_bridge_51 : tz_dk prog_6_method_8_code 51 (.isub) 1 52 := by decide +kernel
theorem td_P_bridge_52 : tz_dk prog_6_method_8_code 52 (.iload_n 1) 1 53 := by decide +kernel
theorem td_P_bridge_53 : tz_dj prog_6_method_8_code 53 (.if_icmp .gt 9) (9) 56 62 := by decide +kernel
theorem td_P_bridge_56 : tz_dk prog_6_method_8_code 56 (.aload_n 0) 1 57 := by decide +kernel
theorem td_P_bridge_57 : tz_dk prog_6_method_8_code 57 (.iload_n 2) 1 58 := by decide +kernel
theorem td_P_bridge_58 : tz_dk prog_6_method_8_code 58 (.iload_n 3) 1 59 := by decide +kernel
theorem td_P_bridge_59 : tz_dk prog_6_method_8_code 59 (.invokevirtual 140) 3 62 := by decide +kernel
theorem td_P_bridge_62 : tz_dk prog_6_method_8_code 62 (.iload_n 3) 1 63 := by decide +kernel
theorem td_P_bridge_63 : tz_dk prog_6_method_8_code 63 (.istore_n 2) 1 64 := by decide +kernel
theorem td_P_bridge_64 : tz_dk prog_6_method_8_code 64 (.iinc 3 1) 3 67 := by decide +kernel
theorem td_P_bridge_67 : tz_dj prog_6_method_8_code 67 (.goto (-52)) (-52) 70 15 := by decide +kernel
theorem td_P_bridge_70 : tz_dk prog_6_method_8_code 70 (.return_) 1 71 := by decide +kernel
theorem td_P_span_0 : tz_dk prog_6_method_9_code 0 (.aload_n 0) 1 1 := by decide +kernel
theorem td_P_span_1 : tz_dk prog_6_method_9_code 1 (.getfield 28) 3 4 := by decide +kernel
theorem td_P_span_4 : tz_dk prog_6_method_9_code 4 (.iload_n 1) 1 5 := by decide +kernel
theorem td_P_span_5 : tz_dk prog_6_method_9_code 5 (.invokevirtual 112) 3 8 := by decide +kernel
theorem td_P_span_8 : tz_dk prog_6_method_9_code 8 (.istore_n 3) 1 9 := by decide +kernel
theorem td_P_span_9 : tz_dk prog_6_method_9_code 9 (.aload_n 0) 1 10 := by decide +kernel
theorem td_P_span_10 : tz_dk prog_6_method_9_code 10 (.getfield 28) 3 13 := by decide +kernel
theorem td_P_span_13 : tz_dk prog_6_method_9_code 13 (.iload_n 2) 1 14 := by decide +kernel
theorem td_P_span_14 : tz_dk prog_6_method_9_code 14 (.invokevirtual 112) 3 17 := by decide +kernel
theorem td_P_span_17 : tz_dk prog_6_method_9_code 17 (.istore 4) 2 19 := by decide +kernel
theorem td_P_span_19 : tz_dk prog_6_method_9_code 19 (.iload_n 1) 1 20 := by decide +kernel
theorem td_P_span_20 : tz_dk prog_6_method_9_code 20 (.iconst 1) 1 21 := by decide +kernel
theorem td_P_span_21 : tz_dk prog_6_method_9_code 21 (.iadd) 1 22 := by decide +kernel
theorem td_P_span_22 : tz_dk prog_6_method_9_code 22 (.istore 5) 2 24 := by decide +kernel
theorem td_P_span_24 : tz_dk prog_6_method_9_code 24 (.iload 5) 2 26 := by decide +kernel
theorem td_P_span_26 : tz_dk prog_6_method_9_code 26 (.iload_n 2) 1 27 := by decide +kernel
theorem td_P_span_27 : tz_dj prog_6_method_9_code 27 (.if_icmp .ge 35) (35) 30 62 := by decide +kernel
theorem td_P_span_30 : tz_dk prog_6_method_9_code 30 (.aload_n 0) 1 31 := by decide +kernel
theorem td_P_span_31 : tz_dk prog_6_method_9_code 31 (.getfield 32) 3 34 := by decide +kernel
theorem td_P_span_34 : tz_dk prog_6_method_9_code 34 (.iload 5) 2 36 := by decide +kernel
theorem td_P_span_36 : tz_dk prog_6_method_9_code 36 (.iload_n 3) 1 37 := by decide +kernel
theorem td_P_span_37 : tz_dk prog_6_method_9_code 37 (.iload 5) 2 39 := by decide +kernel
theorem td_P_span_39 : tz_dk prog_6_method_9_code 39 (.iload_n 1) 1 40 := by decide +kernel
theorem td_P_span_40 : tz_dk prog_6_method_9_code 40 (.isub) 1 41 := by decide +kernel
theorem td_P_span_41 : tz_dk prog_6_method_9_code 41 (.iload 4) 2 43 := by decide +kernel
theorem td_P_span_43 : tz_dk prog_6_method_9_code 43 (.iload_n 3) 1 44 := by decide +kernel
theorem td_P_span_44 : tz_dk prog_6_method_9_code 44 (.isub) 1 45 := by decide +kernel
theorem td_P_span_45 : tz_dk prog_6_method_9_code 45 (.imul) 1 46 := by decide +kernel
theorem td_P_span_46 : tz_dk prog_6_method_9_code 46 (.iload_n 2) 1 47 := by decide +kernel
theorem td_P_span_47 : tz_dk prog_6_method_9_code 47 (.iload_n 1) 1 48 := by decide +kernel
theorem td_P_span_48 : tz_dk prog_6_method_9_code 48 (.isub) 1 49 := by decide +kernel
theorem td_P_span_49 : tz_dk prog_6_method_9_code 49 (.invokestatic 143) 3 52 := by decide +kernel
theorem td_P_span_52 : tz_dk prog_6_method_9_code 52 (.iadd) 1 53 := by decide +kernel
theorem td_P_span_53 : tz_dk prog_6_method_9_code 53 (.invokevirtual 137) 3 56 := by decide +kernel
theorem td_P_span_56 : tz_dk prog_6_method_9_code 56 (.iinc 5 1) 3 59 := by decide +kernel
theorem td_P_span_59 : tz_dj prog_6_method_9_code 59 (.goto (-35)) (-35) 62 24 := by decide +kernel
theorem td_P_span_62 : tz_dk prog_6_method_9_code 62 (.return_) 1 63 := by decide +kernel
theorem td_J_floorDiv_0 : tz_dk prog_14_method_47_code 0 (.iload_n 0) 1 1 := by decide +kernel
theorem td_J_floorDiv_1 : tz_dk prog_14_method_47_code 1 (.iload_n 1) 1 2 := by decide +kernel
theorem td_J_floorDiv_2 : tz_dk prog_14_method_47_code 2 (.idiv) 1 3 := by decide +kernel
theorem td_J_floorDiv_3 : tz_dk prog_14_method_47_code 3 (.istore_n 2) 1 4 := by decide +kernel
theorem td_J_floorDiv_4 : tz_dk prog_14_method_47_code 4 (.iload_n 0) 1 5 := by decide +kernel
theorem td_J_floorDiv_5 : tz_dk prog_14_method_47_code 5 (.iload_n 1) 1 6 := by decide +kernel
theorem td_J_floorDiv_6 : tz_dk prog_14_method_47_code 6 (.ixor) 1 7 := by decide +kernel
theorem td_J_floorDiv_7 : tz_dj prog_14_method_47_code 7 (.ifCond .ge 14) (14) 10 21 := by decide +kernel
theorem td_J_floorDiv_10 : tz_dk prog_14_method_47_code 10 (.iload_n 2) 1 11 := by decide +kernel
theorem td_J_floorDiv_11 : tz_dk prog_14_method_47_code 11 (.iload_n 1) 1 12 := by decide +kernel
theorem td_J_floorDiv_12 : tz_dk prog_14_method_47_code 12 (.imul) 1 13 := by decide +kernel
theorem td_J_floorDiv_13 : tz_dk prog_14_method_47_code 13 (.iload_n 0) 1 14 := by decide +kernel
theorem td_J_floorDiv_14 : tz_dj prog_14_method_47_code 14 (.if_icmp .eq 7) (7) 17 21 := by decide +kernel
theorem td_J_floorDiv_17 : tz_dk prog_14_method_47_code 17 (.iload_n 2) 1 18 := by decide +kernel
theorem td_J_floorDiv_18 : tz_dk prog_14_method_47_code 18 (.iconst 1) 1 19 := by decide +kernel
theorem td_J_floorDiv_19 : tz_dk prog_14_method_47_code 19 (.isub) 1 20 := by decide +kernel
theorem td_J_floorDiv_20 : tz_dk prog_14_method_47_code 20 (.ireturn) 1 21 := by decide +kernel
theorem td_J_floorDiv_21 : tz_dk prog_14_method_47_code 21 (.iload_n 2) 1 22 := by decide +kernel
theorem td_J_floorDiv_22 : tz_dk prog_14_method_47_code 22 (.ireturn) 1 23 := by decide +kernel
theorem td_P_warp_0 : tz_dk prog_6_method_10_code 0 (.aload_n 0) 1 1 := by decide +kernel
theorem td_P_warp_1 : tz_dk prog_6_method_10_code 1 (.getfield 21) 3 4 := by decide +kernel
theorem td_P_warp_4 : tz_dk prog_6_method_10_code 4 (.aload_n 0) 1 5 := by decide +kernel
theorem td_P_warp_5 : tz_dk prog_6_method_10_code 5 (.getfield 28) 3 8 := by decide +kernel
theorem td_P_warp_8 : tz_dk prog_6_method_10_code 8 (.invokevirtual 146) 3 11 := by decide +kernel
theorem td_P_warp_11 : tz_dk prog_6_method_10_code 11 (.aload_n 0) 1 12 := by decide +kernel
theorem td_P_warp_12 : tz_dk prog_6_method_10_code 12 (.getfield 21) 3 15 := by decide +kernel
theorem td_P_warp_15 : tz_dk prog_6_method_10_code 15 (.invokevirtual 149) 3 18 := by decide +kernel
theorem td_P_warp_18 : tz_dk prog_6_method_10_code 18 (.iconst 2) 1 19 := by decide +kernel
theorem td_P_warp_19 : tz_dj prog_6_method_10_code 19 (.if_icmp .ge 15) (15) 22 34 := by decide +kernel
theorem td_P_warp_22 : tz_dk prog_6_method_10_code 22 (.aload_n 0) 1 23 := by decide +kernel
theorem td_P_warp_23 : tz_dk prog_6_method_10_code 23 (.getfield 32) 3 26 := by decide +kernel
theorem td_P_warp_26 : tz_dk prog_6_method_10_code 26 (.aload_n 0) 1 27 := by decide +kernel
theorem td_P_warp_27 : tz_dk prog_6_method_10_code 27 (.getfield 28) 3 30 := by decide +kernel
theorem td_P_warp_30 : tz_dk prog_6_method_10_code 30 (.invokevirtual 39) 3 33 := by decide +kernel
theorem td_P_warp_33 : tz_dk prog_6_method_10_code 33 (.return_) 1 34 := by decide +kernel
theorem td_P_warp_34 : tz_dk prog_6_method_10_code 34 (.bipush 120) 2 36 := by decide +kernel
theorem td_P_warp_36 : tz_dk prog_6_method_10_code 36 (.aload_n 0) 1 37 := by decide +kernel
theorem td_P_warp_37 : tz_dk prog_6_method_10_code 37 (.getfield 21) 3 40 := by decide +kernel
theorem td_P_warp_40 : tz_dk prog_6_method_10_code 40 (.invokevirtual 149) 3 43 := by decide +kernel
theorem td_P_warp_43 : tz_dk prog_6_method_10_code 43 (.iconst 1) 1 44 := by decide +kernel
theorem td_P_warp_44 : tz_dk prog_6_method_10_code 44 (.isub) 1 45 := by decide +kernel
theorem td_P_warp_45 : tz_dk prog_6_method_10_code 45 (.iload_n 1) 1 46 := by decide +kernel
theorem td_P_warp_46 : tz_dk prog_6_method_10_code 46 (.imul) 1 47 := by decide +kernel
theorem td_P_warp_47 : tz_dk prog_6_method_10_code 47 (.iconst 1) 1 48 := by decide +kernel
theorem td_P_warp_48 : tz_dk prog_6_method_10_code 48 (.iadd) 1 49 := by decide +kernel
theorem td_P_warp_49 : tz_dk prog_6_method_10_code 49 (.invokestatic 116) 3 52 := by decide +kernel
theorem td_P_warp_52 : tz_dk prog_6_method_10_code 52 (.istore_n 2) 1 53 := by decide +kernel
theorem td_P_warp_53 : tz_dk prog_6_method_10_code 53 (.iconst 0) 1 54 := by decide +kernel
theorem td_P_warp_54 : tz_dk prog_6_method_10_code 54 (.istore_n 3) 1 55 := by decide +kernel
theorem td_P_warp_55 : tz_dk prog_6_method_10_code 55 (.iload_n 3) 1 56 := by decide +kernel
theorem td_P_warp_56 : tz_dk prog_6_method_10_code 56 (.iload_n 2) 1 57 := by decide +kernel
theorem td_P_warp_57 : tz_dj prog_6_method_10_code 57 (.if_icmp .ge 22) (22) 60 79 := by decide +kernel
theorem td_P_warp_60 : tz_dk prog_6_method_10_code 60 (.aload_n 0) 1 61 := by decide +kernel
theorem td_P_warp_61 : tz_dk prog_6_method_10_code 61 (.getfield 32) 3 64 := by decide +kernel
theorem td_P_warp_64 : tz_dk prog_6_method_10_code 64 (.aload_n 0) 1 65 := by decide +kernel
theorem td_P_warp_65 : tz_dk prog_6_method_10_code 65 (.iload_n 3) 1 66 := by decide +kernel
theorem td_P_warp_66 : tz_dk prog_6_method_10_code 66 (.iload_n 1) 1 67 := by decide +kernel
theorem td_P_warp_67 : tz_dk prog_6_method_10_code 67 (.invokevirtual 152) 3 70 := by decide +kernel
theorem td_P_warp_70 : tz_dk prog_6_method_10_code 70 (.invokevirtual 125) 3 73 := by decide +kernel
theorem td_P_warp_73 : tz_dk prog_6_method_10_code 73 (.iinc 3 1) 3 76 := by decide +kernel
theorem td_P_warp_76 : tz_dj prog_6_method_10_code 76 (.goto (-21)) (-21) 79 55 := by decide +kernel
theorem td_P_warp_79 : tz_dk prog_6_method_10_code 79 (.aload_n 0) 1 80 := by decide +kernel
theorem td_P_warp_80 : tz_dk prog_6_method_10_code 80 (.iload_n 1) 1 81 := by decide +kernel
theorem td_P_warp_81 : tz_dk prog_6_method_10_code 81 (.iload_n 2) 1 82 := by decide +kernel
theorem td_P_warp_82 : tz_dk prog_6_method_10_code 82 (.invokevirtual 155) 3 85 := by decide +kernel
theorem td_P_warp_85 : tz_dk prog_6_method_10_code 85 (.return_) 1 86 := by decide +kernel
theorem td_P_sampleAtTime_0 : tz_dk prog_6_method_11_code 0 (.iload_n 2) 1 1 := by decide +kernel
theorem td_P_sampleAtTime_1 : tz_dj prog_6_method_11_code 1 (.ifCond .gt 6) (6) 4 7 := by decide +kernel
theorem td_P_sampleAtTime_4 : tz_dk prog_6_method_11_code 4 (.ldc 115) 2 6 := by decide +kernel
theorem td_P_sampleAtTime_6 : tz_dk prog_6_method_11_code 6 (.ireturn) 1 7 := by decide +kernel
theorem td_P_sampleAtTime_7 : tz_dk prog_6_method_11_code 7 (.aload_n 0) 1 8 := by decide +kernel
theorem td_P_sampleAtTime_8 : tz_dk prog_6_method_11_code 8 (.getfield 21) 3 11 := by decide +kernel
theorem td_P_sampleAtTime_11 : tz_dk prog_6_method_11_code 11 (.iload_n 1) 1 12 := by decide +kernel
theorem td_P_sampleAtTime_12 : tz_dk prog_6_method_11_code 12 (.iload_n 2) 1 13 := by decide +kernel
theorem td_P_sampleAtTime_13 : tz_dk prog_6_method_11_code 13 (.idiv) 1 14 := by decide +kernel
theorem td_P_sampleAtTime_14 : tz_dk prog_6_method_11_code 14 (.invokevirtual 158) 3 17 := by decide +kernel
theorem td_P_sampleAtTime_17 : tz_dk prog_6_method_11_code 17 (.istore_n 3) 1 18 := by decide +kernel
theorem td_P_sampleAtTime_18 : tz_dk prog_6_method_11_code 18 (.iload_n 1) 1 19 := by decide +kernel
theorem td_P_sampleAtTime_19 : tz_dk prog_6_method_11_code 19 (.iload_n 2) 1 20 := by decide +kernel
theorem td_P_sampleAtTime_20 : tz_dk prog_6_method_11_code 20 (.irem) 1 21 := by decide +kernel
theorem td_P_sampleAtTime_21 : tz_dk prog_6_method_11_code 21 (.istore 4) 2 23 := by decide +kernel
theorem td_P_sampleAtTime_23 : tz_dk prog_6_method_11_code 23 (.iload 4) 2 25 := by decide +kernel
theorem td_P_sampleAtTime_25 : tz_dj prog_6_method_11_code 25 (.ifCond .ne 12) (12) 28 37 := by decide +kernel
theorem td_P_sampleAtTime_28 : tz_dk prog_6_method_11_code 28 (.aload_n 0) 1 29 := by decide +kernel
theorem td_P_sampleAtTime_29 : tz_dk prog_6_method_11_code 29 (.getfield 28) 3 32 := by decide +kernel
theorem td_P_sampleAtTime_32 : tz_dk prog_6_method_11_code 32 (.iload_n 3) 1 33 := by decide +kernel
theorem td_P_sampleAtTime_33 : tz_dk prog_6_method_11_code 33 (.invokevirtual 112) 3 36 := by decide +kernel
theorem td_P_sampleAtTime_36 : tz_dk prog_6_method_11_code 36 (.ireturn) 1 37 := by decide +kernel
theorem td_P_sampleAtTime_37 : tz_dk prog_6_method_11_code 37 (.iload 4) 2 39 := by decide +kernel
theorem td_P_sampleAtTime_39 : tz_dk prog_6_method_11_code 39 (.aload_n 0) 1 40 := by decide +kernel
theorem td_P_sampleAtTime_40 : tz_dk prog_6_method_11_code 40 (.getfield 21) 3 43 := by decide +kernel
theorem td_P_sampleAtTime_43 : tz_dk prog_6_method_11_code 43 (.iload_n 1) 1 44 := by decide +kernel
theorem td_P_sampleAtTime_44 : tz_dk prog_6_method_11_code 44 (.iload_n 2) 1 45 := by decide +kernel
theorem td_P_sampleAtTime_45 : tz_dk prog_6_method_11_code 45 (.idiv) 1 46 := by decide +kernel
theorem td_P_sampleAtTime_46 : tz_dk prog_6_method_11_code 46 (.iconst 1) 1 47 := by decide +kernel
theorem td_P_sampleAtTime_47 : tz_dk prog_6_method_11_code 47 (.iadd) 1 48 := by decide +kernel
theorem td_P_sampleAtTime_48 : tz_dk prog_6_method_11_code 48 (.invokevirtual 158) 3 51 := by decide +kernel
theorem td_P_sampleAtTime_51 : tz_dk prog_6_method_11_code 51 (.iload_n 3) 1 52 := by decide +kernel
theorem td_P_sampleAtTime_52 : tz_dk prog_6_method_11_code 52 (.isub) 1 53 := by decide +kernel
theorem td_P_sampleAtTime_53 : tz_dk prog_6_method_11_code 53 (.imul) 1 54 := by decide +kernel
theorem td_P_sampleAtTime_54 : tz_dk prog_6_method_11_code 54 (.istore 5) 2 56 := by decide +kernel
theorem td_P_sampleAtTime_56 : tz_dk prog_6_method_11_code 56 (.iload_n 3) 1 57 := by decide +kernel
theorem td_P_sampleAtTime_57 : tz_dk prog_6_method_11_code 57 (.iload 5) 2 59 := by decide +kernel
theorem td_P_sampleAtTime_59 : tz_dk prog_6_method_11_code 59 (.iload_n 2) 1 60 := by decide +kernel
theorem td_P_sampleAtTime_60 : tz_dk prog_6_method_11_code 60 (.idiv) 1 61 := by decide +kernel
theorem td_P_sampleAtTime_61 : tz_dk prog_6_method_11_code 61 (.iadd) 1 62 := by decide +kernel
theorem td_P_sampleAtTime_62 : tz_dk prog_6_method_11_code 62 (.istore 6) 2 64 := by decide +kernel
theorem td_P_sampleAtTime_64 : tz_dk prog_6_method_11_code 64 (.iload 5) 2 66 := by decide +kernel
theorem td_P_sampleAtTime_66 : tz_dk prog_6_method_11_code 66 (.iload_n 2) 1 67 := by decide +kernel
theorem td_P_sampleAtTime_67 : tz_dk prog_6_method_11_code 67 (.irem) 1 68 := by decide +kernel
theorem td_P_sampleAtTime_68 : tz_dk prog_6_method_11_code 68 (.istore 7) 2 70 := by decide +kernel
theorem td_P_sampleAtTime_70 : tz_dk prog_6_method_11_code 70 (.iload 7) 2 72 := by decide +kernel
theorem td_P_sampleAtTime_72 : tz_dj prog_6_method_11_code 72 (.ifCond .ne 13) (13) 75 85 := by decide +kernel
theorem td_P_sampleAtTime_75 : tz_dk prog_6_method_11_code 75 (.aload_n 0) 1 76 := by decide +kernel
theorem td_P_sampleAtTime_76 : tz_dk prog_6_method_11_code 76 (.getfield 28) 3 79 := by decide +kernel
theorem td_P_sampleAtTime_79 : tz_dk prog_6_method_11_code 79 (.iload 6) 2 81 := by decide +kernel
theorem td_P_sampleAtTime_81 : tz_dk prog_6_method_11_code 81 (.invokevirtual 112) 3 84 := by decide +kernel
theorem td_P_sampleAtTime_84 : tz_dk prog_6_method_11_code 84 (.ireturn) 1 85 := by decide +kernel
theorem td_P_sampleAtTime_85 : tz_dk prog_6_method_11_code 85 (.aload_n 0) 1 86 := by decide +kernel
theorem td_P_sampleAtTime_86 : tz_dk prog_6_method_11_code 86 (.getfield 28) 3 89 := by decide +kernel
theorem td_P_sampleAtTime_89 : tz_dk prog_6_method_11_code 89 (.iload 6) 2 91 := by decide +kernel
theorem td_P_sampleAtTime_91 : tz_dk prog_6_method_11_code 91 (.invokevirtual 112) 3 94 := by decide +kernel
theorem td_P_sampleAtTime_94 : tz_dk prog_6_method_11_code 94 (.istore 8) 2 96 := by decide +kernel
theorem td_P_sampleAtTime_96 : tz_dk prog_6_method_11_code 96 (.aload_n 0) 1 97 := by decide +kernel
theorem td_P_sampleAtTime_97 : tz_dk prog_6_method_11_code 97 (.getfield 28) 3 100 := by decide +kernel
theorem td_P_sampleAtTime_100 : tz_dk prog_6_method_11_code 100 (.iload 6) 2 102 := by decide +kernel
theorem td_P_sampleAtTime_102 : tz_dk prog_6_method_11_code 102 (.iconst 1) 1 103 := by decide +kernel
theorem td_P_sampleAtTime_103 : tz_dk prog_6_method_11_code 103 (.iadd) 1 104 := by decide +kernel
theorem td_P_sampleAtTime_104 : tz_dk prog_6_method_11_code 104 (.invokevirtual 112) 3 107 := by decide +kernel
theorem td_P_sampleAtTime_107 : tz_dk prog_6_method_11_code 107 (.istore 9) 2 109 := by decide +kernel
theorem td_P_sampleAtTime_109 : tz_dk prog_6_method_11_code 109 (.iload 8) 2 111 := by decide +kernel
theorem td_P_sampleAtTime_111 : tz_dk prog_6_method_11_code 111 (.ldc 115) 2 113 := by decide +kernel
theorem td_P_sampleAtTime_113 : tz_dj prog_6_method_11_code 113 (.if_icmp .eq 10) (10) 116 123 := by decide +kernel
theorem td_P_sampleAtTime_116 : tz_dk prog_6_method_11_code 116 (.iload 9) 2 118 := by decide +kernel
theorem td_P_sampleAtTime_118 : tz_dk prog_6_method_11_code 118 (.ldc 115) 2 120 := by decide +kernel
theorem td_P_sampleAtTime_120 : tz_dj prog_6_method_11_code 120 (.if_icmp .ne 8) (8) 123 128 := by decide +kernel
theorem td_P_sampleAtTime_123 : tz_dk prog_6_method_11_code 123 (.ldc 115) 2 125 := by decide +kernel
theorem td_P_sampleAtTime_125 : tz_dj prog_6_method_11_code 125 (.goto 18) (18) 128 143 := by decide +kernel
theorem td_P_sampleAtTime_128 : tz_dk prog_6_method_11_code 128 (.iload 8) 2 130 := by decide +kernel
theorem td_P_sampleAtTime_130 : tz_dk prog_6_method_11_code 130 (.iload 7) 2 132 := by decide +kernel
theorem td_P_sampleAtTime_132 : tz_dk prog_6_method_11_code 132 (.iload 9) 2 134 := by decide +kernel
theorem td_P_sampleAtTime_134 : tz_dk prog_6_method_11_code 134 (.iload 8) 2 136 := by decide +kernel
theorem td_P_sampleAtTime_136 : tz_dk prog_6_method_11_code 136 (.isub) 1 137 := by decide +kernel
theorem td_P_sampleAtTime_137 : tz_dk prog_6_method_11_code 137 (.imul) 1 138 := by decide +kernel
theorem td_P_sampleAtTime_138 : tz_dk prog_6_method_11_code 138 (.iload_n 2) 1 139 := by decide +kernel
theorem td_P_sampleAtTime_139 : tz_dk prog_6_method_11_code 139 (.invokestatic 143) 3 142 := by decide +kernel
theorem td_P_sampleAtTime_142 : tz_dk prog_6_method_11_code 142 (.iadd) 1 143 := by decide +kernel
theorem td_P_sampleAtTime_143 : tz_dk prog_6_method_11_code 143 (.ireturn) 1 144 := by decide +kernel
theorem td_P_followWarp_0 : tz_dk prog_6_method_12_code 0 (.aload_n 0) 1 1 := by decide +kernel
theorem td_P_followWarp_1 : tz_dk prog_6_method_12_code 1 (.getfield 21) 3 4 := by decide +kernel
theorem td_P_followWarp_4 : tz_dk prog_6_method_12_code 4 (.aload_n 0) 1 5 := by decide +kernel
theorem td_P_followWarp_5 : tz_dk prog_6_method_12_code 5 (.getfield 35) 3 8 := by decide +kernel
theorem td_P_followWarp_8 : tz_dk prog_6_method_12_code 8 (.invokevirtual 161) 3 11 := by decide +kernel
theorem td_P_followWarp_11 : tz_dk prog_6_method_12_code 11 (.istore_n 3) 1 12 := by decide +kernel
theorem td_P_followWarp_12 : tz_dk prog_6_method_12_code 12 (.aload_n 0) 1 13 := by decide +kernel
theorem td_P_followWarp_13 : tz_dk prog_6_method_12_code 13 (.getfield 21) 3 16 := by decide +kernel
theorem td_P_followWarp_16 : tz_dk prog_6_method_12_code 16 (.iload_n 3) 1 17 := by decide +kernel
theorem td_P_followWarp_17 : tz_dk prog_6_method_12_code 17 (.invokevirtual 158) 3 20 := by decide +kernel
theorem td_P_followWarp_20 : tz_dk prog_6_method_12_code 20 (.istore 4) 2 22 := by decide +kernel
theorem td_P_followWarp_22 : tz_dk prog_6_method_12_code 22 (.aload_n 0) 1 23 := by decide +kernel
theorem td_P_followWarp_23 : tz_dk prog_6_method_12_code 23 (.getfield 21) 3 26 := by decide +kernel
theorem td_P_followWarp_26 : tz_dk prog_6_method_12_code 26 (.iload_n 3) 1 27 := by decide +kernel
theorem td_P_followWarp_27 : tz_dk prog_6_method_12_code 27 (.iconst 1) 1 28 := by decide +kernel
theorem td_P_followWarp_28 : tz_dk prog_6_method_12_code 28 (.iadd) 1 29 := by decide +kernel
theorem td_P_followWarp_29 : tz_dk prog_6_method_12_code 29 (.invokevirtual 158) 3 32 := by decide +kernel
theorem td_P_followWarp_32 : tz_dk prog_6_method_12_code 32 (.istore 5) 2 34 := by decide +kernel
theorem td_P_followWarp_34 : tz_dk prog_6_method_12_code 34 (.iconst (-1)) 1 35 := by decide +kernel
theorem td_P_followWarp_35 : tz_dk prog_6_method_12_code 35 (.istore 6) 2 37 := by decide +kernel
theorem td_P_followWarp_37 : tz_dk prog_6_method_12_code 37 (.iload_n 3) 1 38 := by decide +kernel
theorem td_P_followWarp_38 : tz_dk prog_6_method_12_code 38 (.iconst (-1)) 1 39 := by decide +kernel
theorem td_P_followWarp_39 : tz_dj prog_6_method_12_code 39 (.if_icmp .eq 20) (20) 42 59 := by decide +kernel
theorem td_P_followWarp_42 : tz_dk prog_6_method_12_code 42 (.aload_n 0) 1 43 := by decide +kernel
theorem td_P_followWarp_43 : tz_dk prog_6_method_12_code 43 (.getfield 35) 3 46 := by decide +kernel
theorem td_P_followWarp_46 : tz_dk prog_6_method_12_code 46 (.iload 4) 2 48 := by decide +kernel
theorem td_P_followWarp_48 : tz_dj prog_6_method_12_code 48 (.if_icmp .ne 11) (11) 51 59 := by decide +kernel
theorem td_P_followWarp_51 : tz_dk prog_6_method_12_code 51 (.iload_n 3) 1 52 := by decide +kernel
theorem td_P_followWarp_52 : tz_dk prog_6_method_12_code 52 (.iload_n 1) 1 53 := by decide +kernel
theorem td_P_followWarp_53 : tz_dk prog_6_method_12_code 53 (.imul) 1 54 := by decide +kernel
theorem td_P_followWarp_54 : tz_dk prog_6_method_12_code 54 (.istore 6) 2 56 := by decide +kernel
theorem td_P_followWarp_56 : tz_dj prog_6_method_12_code 56 (.goto 36) (36) 59 92 := by decide +kernel
theorem td_P_followWarp_59 : tz_dk prog_6_method_12_code 59 (.iload_n 3) 1 60 := by decide +kernel
theorem td_P_followWarp_60 : tz_dk prog_6_method_12_code 60 (.iconst (-1)) 1 61 := by decide +kernel
theorem td_P_followWarp_61 : tz_dj prog_6_method_12_code 61 (.if_icmp .eq 31) (31) 64 92 := by decide +kernel
theorem td_P_followWarp_64 : tz_dk prog_6_method_12_code 64 (.iload 5) 2 66 := by decide +kernel
theorem td_P_followWarp_66 : tz_dk prog_6_method_12_code 66 (.iload 4) 2 68 := by decide +kernel
theorem td_P_followWarp_68 : tz_dj prog_6_method_12_code 68 (.if_icmp .le 24) (24) 71 92 := by decide +kernel
theorem td_P_followWarp_71 : tz_dk prog_6_method_12_code 71 (.iload_n 3) 1 72 := by decide +kernel
theorem td_P_followWarp_72 : tz_dk prog_6_method_12_code 72 (.iload_n 1) 1 73 := by decide +kernel
theorem td_P_followWarp_73 : tz_dk prog_6_method_12_code 73 (.imul) 1 74 := by decide +kernel
theorem td_P_followWarp_74 : tz_dk prog_6_method_12_code 74 (.aload_n 0) 1 75 := by decide +kernel
theorem td_P_followWarp_75 : tz_dk prog_6_method_12_code 75 (.getfield 35) 3 78 := by decide +kernel
theorem td_P_followWarp_78 : tz_dk prog_6_method_12_code 78 (.iload 4) 2 80 := by decide +kernel
theorem td_P_followWarp_80 : tz_dk prog_6_method_12_code 80 (.isub) 1 81 := by decide +kernel
theorem td_P_followWarp_81 : tz_dk prog_6_method_12_code 81 (.iload_n 1) 1 82 := by decide +kernel
theorem td_P_followWarp_82 : tz_dk prog_6_method_12_code 82 (.imul) 1 83 := by decide +kernel
theorem td_P_followWarp_83 : tz_dk prog_6_method_12_code 83 (.iload 5) 2 85 := by decide +kernel
theorem td_P_followWarp_85 : tz_dk prog_6_method_12_code 85 (.iload 4) 2 87 := by decide +kernel
theorem td_P_followWarp_87 : tz_dk prog_6_method_12_code 87 (.isub) 1 88 := by decide +kernel
theorem td_P_followWarp_88 : tz_dk prog_6_method_12_code 88 (.idiv) 1 89 := by decide +kernel
theorem td_P_followWarp_89 : tz_dk prog_6_method_12_code 89 (.iadd) 1 90 := by decide +kernel
theorem td_P_followWarp_90 : tz_dk prog_6_method_12_code 90 (.istore 6) 2 92 := by decide +kernel
theorem td_P_followWarp_92 : tz_dk prog_6_method_12_code 92 (.aload_n 0) 1 93 := by decide +kernel
theorem td_P_followWarp_93 : tz_dk prog_6_method_12_code 93 (.iload 6) 2 95 := by decide +kernel
theorem td_P_followWarp_95 : tz_dk prog_6_method_12_code 95 (.iload_n 2) 1 96 := by decide +kernel
theorem td_P_followWarp_96 : tz_dj prog_6_method_12_code 96 (.if_icmp .ge 8) (8) 99 104 := by decide +kernel
theorem td_P_followWarp_99 : tz_dk prog_6_method_12_code 99 (.iload 6) 2 101 := by decide +kernel
theorem td_P_followWarp_101 : tz_dj prog_6_method_12_code 101 (.goto 4) (4) 104 105 := by decide +kernel
theorem td_P_followWarp_104 : tz_dk prog_6_method_12_code 104 (.iconst (-1)) 1 105 := by decide +kernel
theorem td_P_followWarp_105 : tz_dk prog_6_method_12_code 105 (.putfield 35) 3 108 := by decide +kernel
theorem td_P_followWarp_108 : tz_dk prog_6_method_12_code 108 (.return_) 1 109 := by decide +kernel
theorem td_U_latestUpTo_0 : tz_dk prog_11_method_5_code 0 (.iconst (-1)) 1 1 := by decide +kernel
theorem td_U_latestUpTo_1 : tz_dk prog_11_method_5_code 1 (.istore_n 2) 1 2 := by decide +kernel
theorem td_U_latestUpTo_2 : tz_dk prog_11_method_5_code 2 (.iconst 0) 1 3 := by decide +kernel
theorem td_U_latestUpTo_3 : tz_dk prog_11_method_5_code 3 (.istore_n 3) 1 4 := by decide +kernel
theorem td_U_latestUpTo_4 : tz_dk prog_11_method_5_code 4 (.iload_n 3) 1 5 := by decide +kernel
theorem td_U_latestUpTo_5 : tz_dk prog_11_method_5_code 5 (.aload_n 0) 1 6 := by decide +kernel
theorem td_U_latestUpTo_6 : tz_dk prog_11_method_5_code 6 (.getfield 15) 3 9 := by decide +kernel
theorem td_U_latestUpTo_9 : tz_dj prog_11_method_5_code 9 (.if_icmp .ge 20) (20) 12 29 := by decide +kernel
theorem td_U_latestUpTo_12 : tz_dk prog_11_method_5_code 12 (.aload_n 0) 1 13 := by decide +kernel
theorem td_U_latestUpTo_13 : tz_dk prog_11_method_5_code 13 (.iload_n 3) 1 14 := by decide +kernel
theorem td_U_latestUpTo_14 : tz_dk prog_11_method_5_code 14 (.invokevirtual 30) 3 17 := by decide +kernel
theorem td_U_latestUpTo_17 : tz_dk prog_11_method_5_code 17 (.iload_n 1) 1 18 := by decide +kernel
theorem td_U_latestUpTo_18 : tz_dj prog_11_method_5_code 18 (.if_icmp .gt 11) (11) 21 29 := by decide +kernel
theorem td_U_latestUpTo_21 : tz_dk prog_11_method_5_code 21 (.iload_n 3) 1 22 := by decide +kernel
theorem td_U_latestUpTo_22 : tz_dk prog_11_method_5_code 22 (.istore_n 2) 1 23 := by decide +kernel
theorem td_U_latestUpTo_23 : tz_dk prog_11_method_5_code 23 (.iinc 3 1) 3 26 := by decide +kernel
theorem td_U_latestUpTo_26 : tz_dj prog_11_method_5_code 26 (.goto (-22)) (-22) 29 4 := by decide +kernel
theorem td_U_latestUpTo_29 : tz_dk prog_11_method_5_code 29 (.iload_n 2) 1 30 := by decide +kernel
theorem td_U_latestUpTo_30 : tz_dk prog_11_method_5_code 30 (.ireturn) 1 31 := by decide +kernel
theorem td_P_cut_0 : tz_dk prog_6_method_13_code 0 (.iconst 0) 1 1 := by decide +kernel
theorem td_P_cut_1 : tz_dk prog_6_method_13_code 1 (.istore_n 3) 1 2 := by decide +kernel
theorem td_P_cut_2 : tz_dk prog_6_method_13_code 2 (.iload_n 3) 1 3 := by decide +kernel
theorem td_P_cut_3 : tz_dk prog_6_method_13_code 3 (.aload_n 0) 1 4 := by decide +kernel
theorem td_P_cut_4 : tz_dk prog_6_method_13_code 4 (.getfield 28) 3 7 := by decide +kernel
theorem td_P_cut_7 : tz_dk prog_6_method_13_code 7 (.invokevirtual 109) 3 10 := by decide +kernel
theorem td_P_cut_10 : tz_dj prog_6_method_13_code 10 (.if_icmp .ge 36) (36) 13 46 := by decide +kernel
theorem td_P_cut_13 : tz_dk prog_6_method_13_code 13 (.iload_n 3) 1 14 := by decide +kernel
theorem td_P_cut_14 : tz_dk prog_6_method_13_code 14 (.iload_n 1) 1 15 := by decide +kernel
theorem td_P_cut_15 : tz_dj prog_6_method_13_code 15 (.if_icmp .lt 10) (10) 18 25 := by decide +kernel
theorem td_P_cut_18 : tz_dk prog_6_method_13_code 18 (.iload_n 3) 1 19 := by decide +kernel
theorem td_P_cut_19 : tz_dk prog_6_method_13_code 19 (.iload_n 1) 1 20 := by decide +kernel
theorem td_P_cut_20 : tz_dk prog_6_method_13_code 20 (.iload_n 2) 1 21 := by decide +kernel
theorem td_P_cut_21 : tz_dk prog_6_method_13_code 21 (.iadd) 1 22 := by decide +kernel
theorem td_P_cut_22 : tz_dj prog_6_method_13_code 22 (.if_icmp .lt 18) (18) 25 40 := by decide +kernel
theorem td_P_cut_25 : tz_dk prog_6_method_13_code 25 (.aload_n 0) 1 26 := by decide +kernel
theorem td_P_cut_26 : tz_dk prog_6_method_13_code 26 (.getfield 32) 3 29 := by decide +kernel
theorem td_P_cut_29 : tz_dk prog_6_method_13_code 29 (.aload_n 0) 1 30 := by decide +kernel
theorem td_P_cut_30 : tz_dk prog_6_method_13_code 30 (.getfield 28) 3 33 := by decide +kernel
theorem td_P_cut_33 : tz_dk prog_6_method_13_code 33 (.iload_n 3) 1 34 := by decide +kernel
theorem td_P_cut_34 : tz_dk prog_6_method_13_code 34 (.invokevirtual 112) 3 37 := by decide +kernel
theorem td_P_cut_37 : tz_dk prog_6_method_13_code 37 (.invokevirtual 125) 3 40 := by decide +kernel
theorem td_P_cut_40 : tz_dk prog_6_method_13_code 40 (.iinc 3 1) 3 43 := by decide +kernel
theorem td_P_cut_43 : tz_dj prog_6_method_13_code 43 (.goto (-41)) (-41) 46 2 := by decide +kernel
theorem td_P_cut_46 : tz_dk prog_6_method_13_code 46 (.aload_n 0) 1 47 := by decide +kernel
theorem td_P_cut_47 : tz_dk prog_6_method_13_code 47 (.getfield 35) 3 50 := by decide +kernel
theorem td_P_cut_50 : tz_dk prog_6_method_13_code 50 (.iload_n 1) 1 51 := by decide +kernel
theorem td_P_cut_51 : tz_dj prog_6_method_13_code 51 (.if_icmp .lt 27) (27) 54 78 := by decide +kernel
theorem td_P_cut_54 : tz_dk prog_6_method_13_code 54 (.aload_n 0) 1 55 := by decide +kernel
theorem td_P_cut_55 : tz_dk prog_6_method_13_code 55 (.aload_n 0) 1 56 := by decide +kernel
theorem td_P_cut_56 : tz_dk prog_6_method_13_code 56 (.getfield 35) 3 59 := by decide +kernel
theorem td_P_cut_59 : tz_dk prog_6_method_13_code 59 (.iload_n 1) 1 60 := by decide +kernel
theorem td_P_cut_60 : tz_dk prog_6_method_13_code 60 (.iload_n 2) 1 61 := by decide +kernel
theorem td_P_cut_61 : tz_dk prog_6_method_13_code 61 (.iadd) 1 62 := by decide +kernel
theorem td_P_cut_62 : tz_dj prog_6_method_13_code 62 (.if_icmp .ge 7) (7) 65 69 := by decide +kernel
theorem td_P_cut_65 : tz_dk prog_6_method_13_code 65 (.iconst (-1)) 1 66 := by decide +kernel
theorem td_P_cut_66 : tz_dj prog_6_method_13_code 66 (.goto 9) (9) 69 75 := by decide +kernel
theorem td_P_cut_69 : tz_dk prog_6_method_13_code 69 (.aload_n 0) 1 70 := by decide +kernel
theorem td_P_cut_70 : tz_dk prog_6_method_13_code 70 (.getfield 35) 3 73 := by decide +kernel
theorem td_P_cut_73 : tz_dk prog_6_method_13_code 73 (.iload_n 2) 1 74 := by decide +kernel
theorem td_P_cut_74 : tz_dk prog_6_method_13_code 74 (.isub) 1 75 := by decide +kernel
theorem td_P_cut_75 : tz_dk prog_6_method_13_code 75 (.putfield 35) 3 78 := by decide +kernel
theorem td_P_cut_78 : tz_dk prog_6_method_13_code 78 (.return_) 1 79 := by decide +kernel
theorem td_P_fade_0 : tz_dk prog_6_method_14_code 0 (.iconst 0) 1 1 := by decide +kernel
theorem td_P_fade_1 : tz_dk prog_6_method_14_code 1 (.istore_n 2) 1 2 := by decide +kernel
theorem td_P_fade_2 : tz_dk prog_6_method_14_code 2 (.iload_n 2) 1 3 := by decide +kernel
theorem td_P_fade_3 : tz_dk prog_6_method_14_code 3 (.aload_n 0) 1 4 := by decide +kernel
theorem td_P_fade_4 : tz_dk prog_6_method_14_code 4 (.getfield 28) 3 7 := by decide +kernel
theorem td_P_fade_7 : tz_dk prog_6_method_14_code 7 (.invokevirtual 109) 3 10 := by decide +kernel
theorem td_P_fade_10 : tz_dj prog_6_method_14_code 10 (.if_icmp .ge 49) (49) 13 59 := by decide +kernel
theorem td_P_fade_13 : tz_dk prog_6_method_14_code 13 (.aload_n 0) 1 14 := by decide +kernel
theorem td_P_fade_14 : tz_dk prog_6_method_14_code 14 (.getfield 28) 3 17 := by decide +kernel
theorem td_P_fade_17 : tz_dk prog_6_method_14_code 17 (.iload_n 2) 1 18 := by decide +kernel
theorem td_P_fade_18 : tz_dk prog_6_method_14_code 18 (.invokevirtual 112) 3 21 := by decide +kernel
theorem td_P_fade_21 : tz_dk prog_6_method_14_code 21 (.istore_n 3) 1 22 := by decide +kernel
theorem td_P_fade_22 : tz_dk prog_6_method_14_code 22 (.aload_n 0) 1 23 := by decide +kernel
theorem td_P_fade_23 : tz_dk prog_6_method_14_code 23 (.getfield 32) 3 26 := by decide +kernel
theorem td_P_fade_26 : tz_dk prog_6_method_14_code 26 (.iload_n 3) 1 27 := by decide +kernel
theorem td_P_fade_27 : tz_dk prog_6_method_14_code 27 (.ldc 115) 2 29 := by decide +kernel
theorem td_P_fade_29 : tz_dj prog_6_method_14_code 29 (.if_icmp .eq 20) (20) 32 49 := by decide +kernel
theorem td_P_fade_32 : tz_dk prog_6_method_14_code 32 (.iload_n 2) 1 33 := by decide +kernel
theorem td_P_fade_33 : tz_dk prog_6_method_14_code 33 (.iload_n 1) 1 34 := by decide +kernel
theorem td_P_fade_34 : tz_dj prog_6_method_14_code 34 (.if_icmp .ge 15) (15) 37 49 := by decide +kernel
theorem td_P_fade_37 : tz_dk prog_6_method_14_code 37 (.iload_n 3) 1 38 := by decide +kernel
theorem td_P_fade_38 : tz_dk prog_6_method_14_code 38 (.iload_n 2) 1 39 := by decide +kernel
theorem td_P_fade_39 : tz_dk prog_6_method_14_code 39 (.iconst 1) 1 40 := by decide +kernel
theorem td_P_fade_40 : tz_dk prog_6_method_14_code 40 (.iadd) 1 41 := by decide +kernel
theorem td_P_fade_41 : tz_dk prog_6_method_14_code 41 (.imul) 1 42 := by decide +kernel
theorem td_P_fade_42 : tz_dk prog_6_method_14_code 42 (.iload_n 1) 1 43 := by decide +kernel
theorem td_P_fade_43 : tz_dk prog_6_method_14_code 43 (.iconst 1) 1 44 := by decide +kernel
theorem td_P_fade_44 : tz_dk prog_6_method_14_code 44 (.iadd) 1 45 := by decide +kernel
theorem td_P_fade_45 : tz_dk prog_6_method_14_code 45 (.idiv) 1 46 := by decide +kernel
theorem td_P_fade_46 : tz_dj prog_6_method_14_code 46 (.goto 4) (4) 49 50 := by decide +kernel
theorem td_P_fade_49 : tz_dk prog_6_method_14_code 49 (.iload_n 3) 1 50 := by decide +kernel
theorem td_P_fade_50 : tz_dk prog_6_method_14_code 50 (.invokevirtual 125) 3 53 := by decide +kernel
theorem td_P_fade_53 : tz_dk prog_6_method_14_code 53 (.iinc 2 1) 3 56 := by decide +kernel
theorem td_P_fade_56 : tz_dj prog_6_method_14_code 56 (.goto (-54)) (-54) 59 2 := by decide +kernel
theorem td_P_fade_59 : tz_dk prog_6_method_14_code 59 (.return_) 1 60 := by decide +kernel
theorem td_X_out_0 : tz_dk prog_1_method_19_code 0 (.aload_n 0) 1 1 := by decide +kernel
theorem td_X_out_1 : tz_dk prog_1_method_19_code 1 (.getfield 10) 3 4 := by decide +kernel
theorem td_X_out_4 : tz_dk prog_1_method_19_code 4 (.iload_n 1) 1 5 := by decide +kernel
theorem td_X_out_5 : tz_dk prog_1_method_19_code 5 (.invokevirtual 62) 3 8 := by decide +kernel
theorem td_X_out_8 : tz_dk prog_1_method_19_code 8 (.astore_n 3) 1 9 := by decide +kernel
theorem td_X_out_9 : tz_dk prog_1_method_19_code 9 (.aload_n 3) 1 10 := by decide +kernel
theorem td_X_out_10 : tz_dj prog_1_method_19_code 10 (.ifnonnull 10) (10) 13 20 := by decide +kernel
theorem td_X_out_13 : tz_dk prog_1_method_19_code 13 (.aload_n 0) 1 14 := by decide +kernel
theorem td_X_out_14 : tz_dk prog_1_method_19_code 14 (.ldc 66) 2 16 := by decide +kernel
theorem td_X_out_16 : tz_dk prog_1_method_19_code 16 (.invokevirtual 67) 3 19 := by decide +kernel
theorem td_X_out_19 : tz_dk prog_1_method_19_code 19 (.ireturn) 1 20 := by decide +kernel
theorem td_X_out_20 : tz_dk prog_1_method_19_code 20 (.aload_n 0) 1 21 := by decide +kernel
theorem td_X_out_21 : tz_dk prog_1_method_19_code 21 (.getfield 47) 3 24 := by decide +kernel
theorem td_X_out_24 : tz_dk prog_1_method_19_code 24 (.aload_n 0) 1 25 := by decide +kernel
theorem td_X_out_25 : tz_dk prog_1_method_19_code 25 (.getfield 10) 3 28 := by decide +kernel
theorem td_X_out_28 : tz_dk prog_1_method_19_code 28 (.aload_n 3) 1 29 := by decide +kernel
theorem td_X_out_29 : tz_dk prog_1_method_19_code 29 (.iconst (-1)) 1 30 := by decide +kernel
theorem td_X_out_30 : tz_dk prog_1_method_19_code 30 (.invokevirtual 203) 3 33 := by decide +kernel
theorem td_X_out_33 : tz_dk prog_1_method_19_code 33 (.astore 4) 2 35 := by decide +kernel
theorem td_X_out_35 : tz_dk prog_1_method_19_code 35 (.aload 4) 2 37 := by decide +kernel
theorem td_X_out_37 : tz_dk prog_1_method_19_code 37 (.iload_n 2) 1 38 := by decide +kernel
theorem td_X_out_38 : tz_dk prog_1_method_19_code 38 (.invokevirtual 83) 3 41 := by decide +kernel
theorem td_X_out_41 : tz_dj prog_1_method_19_code 41 (.ifCond .ne 10) (10) 44 51 := by decide +kernel
theorem td_X_out_44 : tz_dk prog_1_method_19_code 44 (.aload_n 0) 1 45 := by decide +kernel
theorem td_X_out_45 : tz_dk prog_1_method_19_code 45 (.ldc 66) 2 47 := by decide +kernel
theorem td_X_out_47 : tz_dk prog_1_method_19_code 47 (.invokevirtual 67) 3 50 := by decide +kernel
theorem td_X_out_50 : tz_dk prog_1_method_19_code 50 (.ireturn) 1 51 := by decide +kernel
theorem td_X_out_51 : tz_dk prog_1_method_19_code 51 (.aload_n 0) 1 52 := by decide +kernel
theorem td_X_out_52 : tz_dk prog_1_method_19_code 52 (.aload 4) 2 54 := by decide +kernel
theorem td_X_out_54 : tz_dk prog_1_method_19_code 54 (.iload_n 2) 1 55 := by decide +kernel
theorem td_X_out_55 : tz_dk prog_1_method_19_code 55 (.invokevirtual 90) 3 58 := by decide +kernel
theorem td_X_out_58 : tz_dk prog_1_method_19_code 58 (.invokevirtual 67) 3 61 := by decide +kernel
theorem td_X_out_61 : tz_dk prog_1_method_19_code 61 (.ireturn) 1 62 := by decide +kernel
theorem td_X_heard_0 : tz_dk prog_1_method_20_code 0 (.aload_n 0) 1 1 := by decide +kernel
theorem td_X_heard_1 : tz_dk prog_1_method_20_code 1 (.getfield 10) 3 4 := by decide +kernel
theorem td_X_heard_4 : tz_dk prog_1_method_20_code 4 (.iload_n 1) 1 5 := by decide +kernel
theorem td_X_heard_5 : tz_dk prog_1_method_20_code 5 (.invokevirtual 62) 3 8 := by decide +kernel
theorem td_X_heard_8 : tz_dk prog_1_method_20_code 8 (.astore_n 3) 1 9 := by decide +kernel
theorem td_X_heard_9 : tz_dk prog_1_method_20_code 9 (.aload_n 3) 1 10 := by decide +kernel
theorem td_X_heard_10 : tz_dj prog_1_method_20_code 10 (.ifnonnull 10) (10) 13 20 := by decide +kernel
theorem td_X_heard_13 : tz_dk prog_1_method_20_code 13 (.aload_n 0) 1 14 := by decide +kernel
theorem td_X_heard_14 : tz_dk prog_1_method_20_code 14 (.ldc 66) 2 16 := by decide +kernel
theorem td_X_heard_16 : tz_dk prog_1_method_20_code 16 (.invokevirtual 67) 3 19 := by decide +kernel
theorem td_X_heard_19 : tz_dk prog_1_method_20_code 19 (.ireturn) 1 20 := by decide +kernel
theorem td_X_heard_20 : tz_dk prog_1_method_20_code 20 (.aload_n 0) 1 21 := by decide +kernel
theorem td_X_heard_21 : tz_dk prog_1_method_20_code 21 (.getfield 47) 3 24 := by decide +kernel
theorem td_X_heard_24 : tz_dk prog_1_method_20_code 24 (.aload_n 0) 1 25 := by decide +kernel
theorem td_X_heard_25 : tz_dk prog_1_method_20_code 25 (.getfield 10) 3 28 := by decide +kernel
theorem td_X_heard_28 : tz_dk prog_1_method_20_code 28 (.aload_n 3) 1 29 := by decide +kernel
theorem td_X_heard_29 : tz_dk prog_1_method_20_code 29 (.iconst (-1)) 1 30 := by decide +kernel
theorem td_X_heard_30 : tz_dk prog_1_method_20_code 30 (.invokevirtual 203) 3 33 := by decide +kernel
theorem td_X_heard_33 : tz_dk prog_1_method_20_code 33 (.astore 4) 2 35 := by decide +kernel
theorem td_X_heard_35 : tz_dk prog_1_method_20_code 35 (.iload_n 2) 1 36 := by decide +kernel
theorem td_X_heard_36 : decode prog_1_method_20_code 36 = .ok (.tableswitch 47 0 2 #[28, 34, 40], 28) := by decide +kernel
theorem td_X_heard_64 : tz_dk prog_1_method_20_code 64 (.aload 4) 2 66 := by decide +kernel
theorem td_X_heard_66 : tz_dk prog_1_method_20_code 66 (.invokevirtual 207) 3 69 := by decide +kernel
theorem td_X_heard_69 : tz_dk prog_1_method_20_code 69 (.ireturn) 1 70 := by decide +kernel
theorem td_X_heard_70 : tz_dk prog_1_method_20_code 70 (.aload 4) 2 72 := by decide +kernel
theorem td_X_heard_72 : tz_dk prog_1_method_20_code 72 (.invokevirtual 102) 3 75 := by decide +kernel
theorem td_X_heard_75 : tz_dk prog_1_method_20_code 75 (.ireturn) 1 76 := by decide +kernel
theorem td_X_heard_76 : tz_dk prog_1_method_20_code 76 (.aload 4) 2 78 := by decide +kernel
theorem td_X_heard_78 : tz_dk prog_1_method_20_code 78 (.aload_n 3) 1 79 := by decide +kernel
theorem td_X_heard_79 : tz_dk prog_1_method_20_code 79 (.invokevirtual 210) 3 82 := by decide +kernel
theorem td_X_heard_82 : tz_dk prog_1_method_20_code 82 (.ireturn) 1 83 := by decide +kernel
theorem td_X_heard_83 : tz_dk prog_1_method_20_code 83 (.aload_n 0) 1 84 := by decide +kernel
theorem td_X_heard_84 : tz_dk prog_1_method_20_code 84 (.ldc 66) 2 86 := by decide +kernel
theorem td_X_heard_86 : tz_dk prog_1_method_20_code 86 (.invokevirtual 67) 3 89 := by decide +kernel
theorem td_X_heard_89 : tz_dk prog_1_method_20_code 89 (.ireturn) 1 90 := by decide +kernel
theorem td_R_loudest_0 : tz_dk prog_7_method_14_code 0 (.iconst 0) 1 1 := by decide +kernel
theorem td_R_loudest_1 : tz_dk prog_7_method_14_code 1 (.istore_n 1) 1 2 := by decide +kernel
theorem td_R_loudest_2 : tz_dk prog_7_method_14_code 2 (.iconst 0) 1 3 := by decide +kernel
theorem td_R_loudest_3 : tz_dk prog_7_method_14_code 3 (.istore_n 2) 1 4 := by decide +kernel
theorem td_R_loudest_4 : tz_dk prog_7_method_14_code 4 (.iload_n 2) 1 5 := by decide +kernel
theorem td_R_loudest_5 : tz_dk prog_7_method_14_code 5 (.aload_n 0) 1 6 := by decide +kernel
theorem td_R_loudest_6 : tz_dk prog_7_method_14_code 6 (.getfield 15) 3 9 := by decide +kernel
theorem td_R_loudest_9 : tz_dj prog_7_method_14_code 9 (.if_icmp .ge 32) (32) 12 41 := by decide +kernel
theorem td_R_loudest_12 : tz_dk prog_7_method_14_code 12 (.aload_n 0) 1 13 := by decide +kernel
theorem td_R_loudest_13 : tz_dk prog_7_method_14_code 13 (.iload_n 2) 1 14 := by decide +kernel
theorem td_R_loudest_14 : tz_dk prog_7_method_14_code 14 (.invokevirtual 45) 3 17 := by decide +kernel
theorem td_R_loudest_17 : tz_dk prog_7_method_14_code 17 (.ldc 19) 2 19 := by decide +kernel
theorem td_R_loudest_19 : tz_dj prog_7_method_14_code 19 (.if_icmp .eq 16) (16) 22 35 := by decide +kernel
theorem td_R_loudest_22 : tz_dk prog_7_method_14_code 22 (.iload_n 1) 1 23 := by decide +kernel
theorem td_R_loudest_23 : tz_dk prog_7_method_14_code 23 (.aload_n 0) 1 24 := by decide +kernel
theorem td_R_loudest_24 : tz_dk prog_7_method_14_code 24 (.iload_n 2) 1 25 := by decide +kernel
theorem td_R_loudest_25 : tz_dk prog_7_method_14_code 25 (.invokevirtual 45) 3 28 := by decide +kernel
theorem td_R_loudest_28 : tz_dk prog_7_method_14_code 28 (.invokestatic 53) 3 31 := by decide +kernel
theorem td_R_loudest_31 : tz_dk prog_7_method_14_code 31 (.invokestatic 36) 3 34 := by decide +kernel
theorem td_R_loudest_34 : tz_dk prog_7_method_14_code 34 (.istore_n 1) 1 35 := by decide +kernel
theorem td_R_loudest_35 : tz_dk prog_7_method_14_code 35 (.iinc 2 1) 3 38 := by decide +kernel
theorem td_R_loudest_38 : tz_dj prog_7_method_14_code 38 (.goto (-34)) (-34) 41 4 := by decide +kernel
theorem td_R_loudest_41 : tz_dk prog_7_method_14_code 41 (.iload_n 1) 1 42 := by decide +kernel
theorem td_R_loudest_42 : tz_dk prog_7_method_14_code 42 (.ireturn) 1 43 := by decide +kernel
theorem td_R_placesUnlike_0 : tz_dk prog_7_method_16_code 0 (.iconst 0) 1 1 := by decide +kernel
theorem td_R_placesUnlike_1 : tz_dk prog_7_method_16_code 1 (.istore_n 2) 1 2 := by decide +kernel
theorem td_R_placesUnlike_2 : tz_dk prog_7_method_16_code 2 (.iconst 0) 1 3 := by decide +kernel
theorem td_R_placesUnlike_3 : tz_dk prog_7_method_16_code 3 (.istore_n 3) 1 4 := by decide +kernel
theorem td_R_placesUnlike_4 : tz_dk prog_7_method_16_code 4 (.iload_n 3) 1 5 := by decide +kernel
theorem td_R_placesUnlike_5 : tz_dk prog_7_method_16_code 5 (.aload_n 0) 1 6 := by decide +kernel
theorem td_R_placesUnlike_6 : tz_dk prog_7_method_16_code 6 (.getfield 15) 3 9 := by decide +kernel
theorem td_R_placesUnlike_9 : tz_dj prog_7_method_16_code 9 (.if_icmp .ge 33) (33) 12 42 := by decide +kernel
theorem td_R_placesUnlike_12 : tz_dk prog_7_method_16_code 12 (.aload_n 1) 1 13 := by decide +kernel
theorem td_R_placesUnlike_13 : tz_dk prog_7_method_16_code 13 (.iload_n 3) 1 14 := by decide +kernel
theorem td_R_placesUnlike_14 : tz_dk prog_7_method_16_code 14 (.invokevirtual 20) 3 17 := by decide +kernel
theorem td_R_placesUnlike_17 : tz_dj prog_7_method_16_code 17 (.ifCond .eq 16) (16) 20 33 := by decide +kernel
theorem td_R_placesUnlike_20 : tz_dk prog_7_method_16_code 20 (.aload_n 0) 1 21 := by decide +kernel
theorem td_R_placesUnlike_21 : tz_dk prog_7_method_16_code 21 (.iload_n 3) 1 22 := by decide +kernel
theorem td_R_placesUnlike_22 : tz_dk prog_7_method_16_code 22 (.invokevirtual 45) 3 25 := by decide +kernel
theorem td_R_placesUnlike_25 : tz_dk prog_7_method_16_code 25 (.aload_n 1) 1 26 := by decide +kernel
theorem td_R_placesUnlike_26 : tz_dk prog_7_method_16_code 26 (.iload_n 3) 1 27 := by decide +kernel
theorem td_R_placesUnlike_27 : tz_dk prog_7_method_16_code 27 (.invokevirtual 45) 3 30 := by decide +kernel
theorem td_R_placesUnlike_30 : tz_dj prog_7_method_16_code 30 (.if_icmp .eq 6) (6) 33 36 := by decide +kernel
theorem td_R_placesUnlike_33 : tz_dk prog_7_method_16_code 33 (.iinc 2 1) 3 36 := by decide +kernel
theorem td_R_placesUnlike_36 : tz_dk prog_7_method_16_code 36 (.iinc 3 1) 3 39 := by decide +kernel
theorem td_R_placesUnlike_39 : tz_dj prog_7_method_16_code 39 (.goto (-35)) (-35) 42 4 := by decide +kernel
theorem td_R_placesUnlike_42 : tz_dk prog_7_method_16_code 42 (.iload_n 2) 1 43 := by decide +kernel
theorem td_R_placesUnlike_43 : tz_dk prog_7_method_16_code 43 (.ireturn) 1 44 := by decide +kernel
theorem td_X_power_0 : tz_dk prog_1_method_21_code 0 (.aload_n 0) 1 1 := by decide +kernel
theorem td_X_power_1 : tz_dk prog_1_method_21_code 1 (.getfield 10) 3 4 := by decide +kernel
theorem td_X_power_4 : tz_dk prog_1_method_21_code 4 (.iload_n 1) 1 5 := by decide +kernel
theorem td_X_power_5 : tz_dk prog_1_method_21_code 5 (.invokevirtual 62) 3 8 := by decide +kernel
theorem td_X_power_8 : tz_dk prog_1_method_21_code 8 (.astore_n 2) 1 9 := by decide +kernel
theorem td_X_power_9 : tz_dk prog_1_method_21_code 9 (.aload_n 2) 1 10 := by decide +kernel
theorem td_X_power_10 : tz_dj prog_1_method_21_code 10 (.ifnonnull 11) (11) 13 21 := by decide +kernel
theorem td_X_power_13 : tz_dk prog_1_method_21_code 13 (.aload_n 0) 1 14 := by decide +kernel
theorem td_X_power_14 : tz_dk prog_1_method_21_code 14 (.ldc 66) 2 16 := by decide +kernel
theorem td_X_power_16 : tz_dk prog_1_method_21_code 16 (.invokevirtual 67) 3 19 := by decide +kernel
theorem td_X_power_19 : tz_dk prog_1_method_21_code 19 (.i2l) 1 20 := by decide +kernel
theorem td_X_power_20 : tz_dk prog_1_method_21_code 20 (.lreturn) 1 21 := by decide +kernel
theorem td_X_power_21 : tz_dk prog_1_method_21_code 21 (.aload_n 0) 1 22 := by decide +kernel
theorem td_X_power_22 : tz_dk prog_1_method_21_code 22 (.getfield 47) 3 25 := by decide +kernel
theorem td_X_power_25 : tz_dk prog_1_method_21_code 25 (.aload_n 0) 1 26 := by decide +kernel
theorem td_X_power_26 : tz_dk prog_1_method_21_code 26 (.getfield 10) 3 29 := by decide +kernel
theorem td_X_power_29 : tz_dk prog_1_method_21_code 29 (.aload_n 2) 1 30 := by decide +kernel
theorem td_X_power_30 : tz_dk prog_1_method_21_code 30 (.iconst (-1)) 1 31 := by decide +kernel
theorem td_X_power_31 : tz_dk prog_1_method_21_code 31 (.invokevirtual 203) 3 34 := by decide +kernel
theorem td_X_power_34 : tz_dk prog_1_method_21_code 34 (.invokevirtual 214) 3 37 := by decide +kernel
theorem td_X_power_37 : tz_dk prog_1_method_21_code 37 (.lreturn) 1 38 := by decide +kernel
theorem td_R_sumOfSquares_0 : tz_dk prog_7_method_15_code 0 (.lconst 0) 1 1 := by decide +kernel
theorem td_R_sumOfSquares_1 : tz_dk prog_7_method_15_code 1 (.lstore_n 1) 1 2 := by decide +kernel
theorem td_R_sumOfSquares_2 : tz_dk prog_7_method_15_code 2 (.iconst 0) 1 3 := by decide +kernel
theorem td_R_sumOfSquares_3 : tz_dk prog_7_method_15_code 3 (.istore_n 3) 1 4 := by decide +kernel
theorem td_R_sumOfSquares_4 : tz_dk prog_7_method_15_code 4 (.iload_n 3) 1 5 := by decide +kernel
theorem td_R_sumOfSquares_5 : tz_dk prog_7_method_15_code 5 (.aload_n 0) 1 6 := by decide +kernel
theorem td_R_sumOfSquares_6 : tz_dk prog_7_method_15_code 6 (.getfield 15) 3 9 := by decide +kernel
theorem td_R_sumOfSquares_9 : tz_dj prog_7_method_15_code 9 (.if_icmp .ge 35) (35) 12 44 := by decide +kernel
theorem td_R_sumOfSquares_12 : tz_dk prog_7_method_15_code 12 (.aload_n 0) 1 13 := by decide +kernel
theorem td_R_sumOfSquares_13 : tz_dk prog_7_method_15_code 13 (.iload_n 3) 1 14 := by decide +kernel
theorem td_R_sumOfSquares_14 : tz_dk prog_7_method_15_code 14 (.invokevirtual 45) 3 17 := by decide +kernel
theorem td_R_sumOfSquares_17 : tz_dk prog_7_method_15_code 17 (.ldc 19) 2 19 := by decide +kernel
theorem td_R_sumOfSquares_19 : tz_dj prog_7_method_15_code 19 (.if_icmp .eq 19) (19) 22 38 := by decide +kernel
theorem td_R_sumOfSquares_22 : tz_dk prog_7_method_15_code 22 (.lload_n 1) 1 23 := by decide +kernel
theorem td_R_sumOfSquares_23 : tz_dk prog_7_method_15_code 23 (.aload_n 0) 1 24 := by decide +kernel
theorem td_R_sumOfSquares_24 : tz_dk prog_7_method_15_code 24 (.iload_n 3) 1 25 := by decide +kernel
theorem td_R_sumOfSquares_25 : tz_dk prog_7_method_15_code 25 (.invokevirtual 45) 3 28 := by decide +kernel
theorem td_R_sumOfSquares_28 : tz_dk prog_7_method_15_code 28 (.i2l) 1 29 := by decide +kernel
theorem td_R_sumOfSquares_29 : tz_dk prog_7_method_15_code 29 (.aload_n 0) 1 30 := by decide +kernel
theorem td_R_sumOfSquares_30 : tz_dk prog_7_method_15_code 30 (.iload_n 3) 1 31 := by decide +kernel
theorem td_R_sumOfSquares_31 : tz_dk prog_7_method_15_code 31 (.invokevirtual 45) 3 34 := by decide +kernel
theorem td_R_sumOfSquares_34 : tz_dk prog_7_method_15_code 34 (.i2l) 1 35 := by decide +kernel
theorem td_R_sumOfSquares_35 : tz_dk prog_7_method_15_code 35 (.lmul) 1 36 := by decide +kernel
theorem td_R_sumOfSquares_36 : tz_dk prog_7_method_15_code 36 (.ladd) 1 37 := by decide +kernel
theorem td_R_sumOfSquares_37 : tz_dk prog_7_method_15_code 37 (.lstore_n 1) 1 38 := by decide +kernel
theorem td_R_sumOfSquares_38 : tz_dk prog_7_method_15_code 38 (.iinc 3 1) 3 41 := by decide +kernel
theorem td_R_sumOfSquares_41 : tz_dj prog_7_method_15_code 41 (.goto (-37)) (-37) 44 4 := by decide +kernel
theorem td_R_sumOfSquares_44 : tz_dk prog_7_method_15_code 44 (.lload_n 1) 1 45 := by decide +kernel
theorem td_R_sumOfSquares_45 : tz_dk prog_7_method_15_code 45 (.lreturn) 1 46 := by decide +kernel
theorem td_X_bake_0 : tz_dk prog_1_method_22_code 0 (.aload_n 0) 1 1 := by decide +kernel
theorem td_X_bake_1 : tz_dk prog_1_method_22_code 1 (.getfield 10) 3 4 := by decide +kernel
theorem td_X_bake_4 : tz_dk prog_1_method_22_code 4 (.iload_n 1) 1 5 := by decide +kernel
theorem td_X_bake_5 : tz_dk prog_1_method_22_code 5 (.invokevirtual 62) 3 8 := by decide +kernel
theorem td_X_bake_8 : tz_dk prog_1_method_22_code 8 (.astore_n 3) 1 9 := by decide +kernel
theorem td_X_bake_9 : tz_dk prog_1_method_22_code 9 (.aload_n 0) 1 10 := by decide +kernel
theorem td_X_bake_10 : tz_dk prog_1_method_22_code 10 (.getfield 10) 3 13 := by decide +kernel
theorem td_X_bake_13 : tz_dk prog_1_method_22_code 13 (.iload_n 2) 1 14 := by decide +kernel
theorem td_X_bake_14 : tz_dk prog_1_method_22_code 14 (.invokevirtual 62) 3 17 := by decide +kernel
theorem td_X_bake_17 : tz_dk prog_1_method_22_code 17 (.astore 4) 2 19 := by decide +kernel
theorem td_X_bake_19 : tz_dk prog_1_method_22_code 19 (.aload_n 3) 1 20 := by decide +kernel
theorem td_X_bake_20 : tz_dj prog_1_method_22_code 20 (.ifnull 8) (8) 23 28 := by decide +kernel
theorem td_X_bake_23 : tz_dk prog_1_method_22_code 23 (.aload 4) 2 25 := by decide +kernel
theorem td_X_bake_25 : tz_dj prog_1_method_22_code 25 (.ifnonnull 10) (10) 28 35 := by decide +kernel
theorem td_X_bake_28 : tz_dk prog_1_method_22_code 28 (.aload_n 0) 1 29 := by decide +kernel
theorem td_X_bake_29 : tz_dk prog_1_method_22_code 29 (.ldc 66) 2 31 := by decide +kernel
theorem td_X_bake_31 : tz_dk prog_1_method_22_code 31 (.invokevirtual 67) 3 34 := by decide +kernel
theorem td_X_bake_34 : tz_dk prog_1_method_22_code 34 (.ireturn) 1 35 := by decide +kernel
theorem td_X_bake_35 : tz_dk prog_1_method_22_code 35 (.aload_n 0) 1 36 := by decide +kernel
theorem td_X_bake_36 : tz_dk prog_1_method_22_code 36 (.getfield 19) 3 39 := by decide +kernel
theorem td_X_bake_39 : tz_dk prog_1_method_22_code 39 (.aload_n 0) 1 40 := by decide +kernel
theorem td_X_bake_40 : tz_dk prog_1_method_22_code 40 (.getfield 10) 3 43 := by decide +kernel
theorem td_X_bake_43 : tz_dk prog_1_method_22_code 43 (.iload_n 2) 1 44 := by decide +kernel
theorem td_X_bake_44 : tz_dk prog_1_method_22_code 44 (.invokevirtual 71) 3 47 := by decide +kernel
theorem td_X_bake_47 : tz_dk prog_1_method_22_code 47 (.aload 4) 2 49 := by decide +kernel
theorem td_X_bake_49 : tz_dk prog_1_method_22_code 49 (.aload_n 0) 1 50 := by decide +kernel
theorem td_X_bake_50 : tz_dk prog_1_method_22_code 50 (.getfield 47) 3 53 := by decide +kernel
theorem td_X_bake_53 : tz_dk prog_1_method_22_code 53 (.aload_n 0) 1 54 := by decide +kernel
theorem td_X_bake_54 : tz_dk prog_1_method_22_code 54 (.getfield 10) 3 57 := by decide +kernel
theorem td_X_bake_57 : tz_dk prog_1_method_22_code 57 (.aload_n 3) 1 58 := by decide +kernel
theorem td_X_bake_58 : tz_dk prog_1_method_22_code 58 (.iconst (-1)) 1 59 := by decide +kernel
theorem td_X_bake_59 : tz_dk prog_1_method_22_code 59 (.invokevirtual 203) 3 62 := by decide +kernel
theorem td_X_bake_62 : tz_dk prog_1_method_22_code 62 (.invokevirtual 218) 3 65 := by decide +kernel
theorem td_X_bake_65 : tz_dk prog_1_method_22_code 65 (.aload 4) 2 67 := by decide +kernel
theorem td_X_bake_67 : tz_dk prog_1_method_22_code 67 (.invokevirtual 75) 3 70 := by decide +kernel
theorem td_X_bake_70 : tz_dk prog_1_method_22_code 70 (.ireturn) 1 71 := by decide +kernel
theorem td_X_align_0 : tz_dk prog_1_method_23_code 0 (.aload_n 0) 1 1 := by decide +kernel
theorem td_X_align_1 : tz_dk prog_1_method_23_code 1 (.getfield 10) 3 4 := by decide +kernel
theorem td_X_align_4 : tz_dk prog_1_method_23_code 4 (.iload_n 1) 1 5 := by decide +kernel
theorem td_X_align_5 : tz_dk prog_1_method_23_code 5 (.invokevirtual 62) 3 8 := by decide +kernel
theorem td_X_align_8 : tz_dk prog_1_method_23_code 8 (.astore 4) 2 10 := by decide +kernel
theorem td_X_align_10 : tz_dk prog_1_method_23_code 10 (.aload_n 0) 1 11 := by decide +kernel
theorem td_X_align_11 : tz_dk prog_1_method_23_code 11 (.getfield 10) 3 14 := by decide +kernel
theorem td_X_align_14 : tz_dk prog_1_method_23_code 14 (.iload_n 2) 1 15 := by decide +kernel
theorem td_X_align_15 : tz_dk prog_1_method_23_code 15 (.invokevirtual 62) 3 18 := by decide +kernel
theorem td_X_align_18 : tz_dk prog_1_method_23_code 18 (.astore 5) 2 20 := by decide +kernel
theorem td_X_align_20 : tz_dk prog_1_method_23_code 20 (.aload 4) 2 22 := by decide +kernel
theorem td_X_align_22 : tz_dj prog_1_method_23_code 22 (.ifnull 18) (18) 25 40 := by decide +kernel
theorem td_X_align_25 : tz_dk prog_1_method_23_code 25 (.aload 5) 2 27 := by decide +kernel
theorem td_X_align_27 : tz_dj prog_1_method_23_code 27 (.ifnull 13) (13) 30 40 := by decide +kernel
theorem td_X_align_30 : tz_dk prog_1_method_23_code 30 (.iload_n 3) 1 31 := by decide +kernel
theorem td_X_align_31 : tz_dj prog_1_method_23_code 31 (.ifCond .lt 9) (9) 34 40 := by decide +kernel
theorem td_X_align_34 : tz_dk prog_1_method_23_code 34 (.iload_n 3) 1 35 := by decide +kernel
theorem td_X_align_35 : tz_dk prog_1_method_23_code 35 (.bipush 9) 2 37 := by decide +kernel
theorem td_X_align_37 : tz_dj prog_1_method_23_code 37 (.if_icmp .le 10) (10) 40 47 := by decide +kernel
theorem td_X_align_40 : tz_dk prog_1_method_23_code 40 (.aload_n 0) 1 41 := by decide +kernel
theorem td_X_align_41 : tz_dk prog_1_method_23_code 41 (.ldc 66) 2 43 := by decide +kernel
theorem td_X_align_43 : tz_dk prog_1_method_23_code 43 (.invokevirtual 67) 3 46 := by decide +kernel
theorem td_X_align_46 : tz_dk prog_1_method_23_code 46 (.ireturn) 1 47 := by decide +kernel
theorem td_X_align_47 : tz_dk prog_1_method_23_code 47 (.aload_n 0) 1 48 := by decide +kernel
theorem td_X_align_48 : tz_dk prog_1_method_23_code 48 (.aload_n 0) 1 49 := by decide +kernel
theorem td_X_align_49 : tz_dk prog_1_method_23_code 49 (.getfield 40) 3 52 := by decide +kernel
theorem td_X_align_52 : tz_dk prog_1_method_23_code 52 (.aload 4) 2 54 := by decide +kernel
theorem td_X_align_54 : tz_dk prog_1_method_23_code 54 (.aload 5) 2 56 := by decide +kernel
theorem td_X_align_56 : tz_dk prog_1_method_23_code 56 (.iload_n 3) 1 57 := by decide +kernel
theorem td_X_align_57 : tz_dk prog_1_method_23_code 57 (.invokevirtual 221) 3 60 := by decide +kernel
theorem td_X_align_60 : tz_dk prog_1_method_23_code 60 (.invokevirtual 67) 3 63 := by decide +kernel
theorem td_X_align_63 : tz_dk prog_1_method_23_code 63 (.ireturn) 1 64 := by decide +kernel
theorem td_X_differ_0 : tz_dk prog_1_method_24_code 0 (.aload_n 0) 1 1 := by decide +kernel
theorem td_X_differ_1 : tz_dk prog_1_method_24_code 1 (.getfield 10) 3 4 := by decide +kernel
theorem td_X_differ_4 : tz_dk prog_1_method_24_code 4 (.iload_n 1) 1 5 := by decide +kernel
theorem td_X_differ_5 : tz_dk prog_1_method_24_code 5 (.invokevirtual 62) 3 8 := by decide +kernel
theorem td_X_differ_8 : tz_dk prog_1_method_24_code 8 (.astore 5) 2 10 := by decide +kernel
theorem td_X_differ_10 : tz_dk prog_1_method_24_code 10 (.aload_n 0) 1 11 := by decide +kernel
theorem td_X_differ_11 : tz_dk prog_1_method_24_code 11 (.getfield 10) 3 14 := by decide +kernel
theorem td_X_differ_14 : tz_dk prog_1_method_24_code 14 (.iload_n 2) 1 15 := by decide +kernel
theorem td_X_differ_15 : tz_dk prog_1_method_24_code 15 (.invokevirtual 62) 3 18 := by decide +kernel
theorem td_X_differ_18 : tz_dk prog_1_method_24_code 18 (.astore 6) 2 20 := by decide +kernel
theorem td_X_differ_20 : tz_dk prog_1_method_24_code 20 (.aload 5) 2 22 := by decide +kernel
theorem td_X_differ_22 : tz_dj prog_1_method_24_code 22 (.ifnull 20) (20) 25 42 := by decide +kernel
theorem td_X_differ_25 : tz_dk prog_1_method_24_code 25 (.aload 6) 2 27 := by decide +kernel
theorem td_X_differ_27 : tz_dj prog_1_method_24_code 27 (.ifnull 15) (15) 30 42 := by decide +kernel
theorem td_X_differ_30 : tz_dk prog_1_method_24_code 30 (.iload_n 3) 1 31 := by decide +kernel
theorem td_X_differ_31 : tz_dk prog_1_method_24_code 31 (.bipush (-9)) 2 33 := by decide +kernel
theorem td_X_differ_33 : tz_dj prog_1_method_24_code 33 (.if_icmp .lt 9) (9) 36 42 := by decide +kernel
theorem td_X_differ_36 : tz_dk prog_1_method_24_code 36 (.iload_n 3) 1 37 := by decide +kernel
theorem td_X_differ_37 : tz_dk prog_1_method_24_code 37 (.bipush 9) 2 39 := by decide +kernel
theorem td_X_differ_39 : tz_dj prog_1_method_24_code 39 (.if_icmp .le 10) (10) 42 49 := by decide +kernel
theorem td_X_differ_42 : tz_dk prog_1_method_24_code 42 (.aload_n 0) 1 43 := by decide +kernel
theorem td_X_differ_43 : tz_dk prog_1_method_24_code 43 (.ldc 66) 2 45 := by decide +kernel
theorem td_X_differ_45 : tz_dk prog_1_method_24_code 45 (.invokevirtual 67) 3 48 := by decide +kernel
theorem td_X_differ_48 : tz_dk prog_1_method_24_code 48 (.ireturn) 1 49 := by decide +kernel
theorem td_X_differ_49 : tz_dk prog_1_method_24_code 49 (.aload_n 0) 1 50 := by decide +kernel
theorem td_X_differ_50 : tz_dk prog_1_method_24_code 50 (.getfield 40) 3 53 := by decide +kernel
theorem td_X_differ_53 : tz_dk prog_1_method_24_code 53 (.aload 5) 2 55 := by decide +kernel
theorem td_X_differ_55 : tz_dk prog_1_method_24_code 55 (.aload 6) 2 57 := by decide +kernel
theorem td_X_differ_57 : tz_dk prog_1_method_24_code 57 (.iload_n 3) 1 58 := by decide +kernel
theorem td_X_differ_58 : tz_dk prog_1_method_24_code 58 (.invokevirtual 225) 3 61 := by decide +kernel
theorem td_X_differ_61 : tz_dk prog_1_method_24_code 61 (.iload 4) 2 63 := by decide +kernel
theorem td_X_differ_63 : tz_dj prog_1_method_24_code 63 (.ifCond .eq 13) (13) 66 76 := by decide +kernel
theorem td_X_differ_66 : tz_dk prog_1_method_24_code 66 (.aload_n 0) 1 67 := by decide +kernel
theorem td_X_differ_67 : tz_dk prog_1_method_24_code 67 (.getfield 40) 3 70 := by decide +kernel
theorem td_X_differ_70 : tz_dk prog_1_method_24_code 70 (.invokevirtual 229) 3 73 := by decide +kernel
theorem td_X_differ_73 : tz_dj prog_1_method_24_code 73 (.goto 10) (10) 76 83 := by decide +kernel
theorem td_X_differ_76 : tz_dk prog_1_method_24_code 76 (.aload_n 0) 1 77 := by decide +kernel
theorem td_X_differ_77 : tz_dk prog_1_method_24_code 77 (.getfield 40) 3 80 := by decide +kernel
theorem td_X_differ_80 : tz_dk prog_1_method_24_code 80 (.invokevirtual 232) 3 83 := by decide +kernel
theorem td_X_differ_83 : tz_dk prog_1_method_24_code 83 (.ireturn) 1 84 := by decide +kernel
theorem td_A_places_0 : tz_dk prog_2_method_3_code 0 (.aload_n 0) 1 1 := by decide +kernel
theorem td_A_places_1 : tz_dk prog_2_method_3_code 1 (.getfield 15) 3 4 := by decide +kernel
theorem td_A_places_4 : tz_dk prog_2_method_3_code 4 (.ireturn) 1 5 := by decide +kernel
theorem td_A_sum_0 : tz_dk prog_2_method_2_code 0 (.aload_n 0) 1 1 := by decide +kernel
theorem td_A_sum_1 : tz_dk prog_2_method_2_code 1 (.getfield 9) 3 4 := by decide +kernel
theorem td_A_sum_4 : tz_dk prog_2_method_2_code 4 (.ireturn) 1 5 := by decide +kernel
theorem td_X_seam_0 : tz_dk prog_1_method_25_code 0 (.aload_n 0) 1 1 := by decide +kernel
theorem td_X_seam_1 : tz_dk prog_1_method_25_code 1 (.getfield 10) 3 4 := by decide +kernel
theorem td_X_seam_4 : tz_dk prog_1_method_25_code 4 (.iload_n 1) 1 5 := by decide +kernel
theorem td_X_seam_5 : tz_dk prog_1_method_25_code 5 (.invokevirtual 62) 3 8 := by decide +kernel
theorem td_X_seam_8 : tz_dk prog_1_method_25_code 8 (.astore 5) 2 10 := by decide +kernel
theorem td_X_seam_10 : tz_dk prog_1_method_25_code 10 (.aload_n 0) 1 11 := by decide +kernel
theorem td_X_seam_11 : tz_dk prog_1_method_25_code 11 (.getfield 10) 3 14 := by decide +kernel
theorem td_X_seam_14 : tz_dk prog_1_method_25_code 14 (.iload_n 2) 1 15 := by decide +kernel
theorem td_X_seam_15 : tz_dk prog_1_method_25_code 15 (.invokevirtual 62) 3 18 := by decide +kernel
theorem td_X_seam_18 : tz_dk prog_1_method_25_code 18 (.astore 6) 2 20 := by decide +kernel
theorem td_X_seam_20 : tz_dk prog_1_method_25_code 20 (.aload 5) 2 22 := by decide +kernel
theorem td_X_seam_22 : tz_dj prog_1_method_25_code 22 (.ifnull 18) (18) 25 40 := by decide +kernel
theorem td_X_seam_25 : tz_dk prog_1_method_25_code 25 (.aload 6) 2 27 := by decide +kernel
theorem td_X_seam_27 : tz_dj prog_1_method_25_code 27 (.ifnull 13) (13) 30 40 := by decide +kernel
theorem td_X_seam_30 : tz_dk prog_1_method_25_code 30 (.iload_n 3) 1 31 := by decide +kernel
theorem td_X_seam_31 : tz_dj prog_1_method_25_code 31 (.ifCond .lt 9) (9) 34 40 := by decide +kernel
theorem td_X_seam_34 : tz_dk prog_1_method_25_code 34 (.iload 4) 2 36 := by decide +kernel
theorem td_X_seam_36 : tz_dk prog_1_method_25_code 36 (.iload_n 3) 1 37 := by decide +kernel
theorem td_X_seam_37 : tz_dj prog_1_method_25_code 37 (.if_icmp .ge 10) (10) 40 47 := by decide +kernel
theorem td_X_seam_40 : tz_dk prog_1_method_25_code 40 (.aload_n 0) 1 41 := by decide +kernel
theorem td_X_seam_41 : tz_dk prog_1_method_25_code 41 (.ldc 66) 2 43 := by decide +kernel
theorem td_X_seam_43 : tz_dk prog_1_method_25_code 43 (.invokevirtual 67) 3 46 := by decide +kernel
theorem td_X_seam_46 : tz_dk prog_1_method_25_code 46 (.ireturn) 1 47 := by decide +kernel
theorem td_X_seam_47 : tz_dk prog_1_method_25_code 47 (.iload 4) 2 49 := by decide +kernel
theorem td_X_seam_49 : tz_dk prog_1_method_25_code 49 (.aload 5) 2 51 := by decide +kernel
theorem td_X_seam_51 : tz_dk prog_1_method_25_code 51 (.invokevirtual 75) 3 54 := by decide +kernel
theorem td_X_seam_54 : tz_dk prog_1_method_25_code 54 (.iconst 1) 1 55 := by decide +kernel
theorem td_X_seam_55 : tz_dk prog_1_method_25_code 55 (.isub) 1 56 := by decide +kernel
theorem td_X_seam_56 : tz_dk prog_1_method_25_code 56 (.invokestatic 235) 3 59 := by decide +kernel
theorem td_X_seam_59 : tz_dk prog_1_method_25_code 59 (.istore 7) 2 61 := by decide +kernel
theorem td_X_seam_61 : tz_dk prog_1_method_25_code 61 (.ldc 241) 2 63 := by decide +kernel
theorem td_X_seam_63 : tz_dk prog_1_method_25_code 63 (.istore 8) 2 65 := by decide +kernel
theorem td_X_seam_65 : tz_dk prog_1_method_25_code 65 (.iconst 0) 1 66 := by decide +kernel
theorem td_X_seam_66 : tz_dk prog_1_method_25_code 66 (.istore 9) 2 68 := by decide +kernel
theorem td_X_seam_68 : tz_dk prog_1_method_25_code 68 (.iload_n 3) 1 69 := by decide +kernel
theorem td_X_seam_69 : tz_dk prog_1_method_25_code 69 (.istore 10) 2 71 := by decide +kernel
theorem td_X_seam_71 : tz_dk prog_1_method_25_code 71 (.iload 10) 2 73 := by decide +kernel
theorem td_X_seam_73 : tz_dk prog_1_method_25_code 73 (.iload 7) 2 75 := by decide +kernel
theorem td_X_seam_75 : tz_dj prog_1_method_25_code 75 (.if_icmp .gt 78) (78) 78 153 := by decide +kernel
theorem td_X_seam_78 : tz_dk prog_1_method_25_code 78 (.aload 5) 2 80 := by decide +kernel
theorem td_X_seam_80 : tz_dk prog_1_method_25_code 80 (.iload 10) 2 82 := by decide +kernel
theorem td_X_seam_82 : tz_dk prog_1_method_25_code 82 (.invokevirtual 90) 3 85 := by decide +kernel
theorem td_X_seam_85 : tz_dk prog_1_method_25_code 85 (.ldc 93) 2 87 := by decide +kernel
theorem td_X_seam_87 : tz_dj prog_1_method_25_code 87 (.if_icmp .eq 60) (60) 90 147 := by decide +kernel
theorem td_X_seam_90 : tz_dk prog_1_method_25_code 90 (.aload 6) 2 92 := by decide +kernel
theorem td_X_seam_92 : tz_dk prog_1_method_25_code 92 (.iload 10) 2 94 := by decide +kernel
theorem td_X_seam_94 : tz_dk prog_1_method_25_code 94 (.invokevirtual 90) 3 97 := by decide +kernel
theorem td_X_seam_97 : tz_dk prog_1_method_25_code 97 (.ldc 93) 2 99 := by decide +kernel
theorem td_X_seam_99 : tz_dj prog_1_method_25_code 99 (.if_icmp .ne 6) (6) 102 105 := by decide +kernel
theorem td_X_seam_102 : tz_dj prog_1_method_25_code 102 (.goto 45) (45) 105 147 := by decide +kernel
theorem td_X_seam_105 : tz_dk prog_1_method_25_code 105 (.aload 5) 2 107 := by decide +kernel
theorem td_X_seam_107 : tz_dk prog_1_method_25_code 107 (.iload 10) 2 109 := by decide +kernel
theorem td_X_seam_109 : tz_dk prog_1_method_25_code 109 (.invokevirtual 90) 3 112 := by decide +kernel
theorem td_X_seam_112 : tz_dk prog_1_method_25_code 112 (.aload 6) 2 114 := by decide +kernel
theorem td_X_seam_114 : tz_dk prog_1_method_25_code 114 (.iload 10) 2 116 := by decide +kernel
theorem td_X_seam_116 : tz_dk prog_1_method_25_code 116 (.invokevirtual 90) 3 119 := by decide +kernel
theorem td_X_seam_119 : tz_dk prog_1_method_25_code 119 (.isub) 1 120 := by decide +kernel
theorem td_X_seam_120 : tz_dk prog_1_method_25_code 120 (.invokestatic 242) 3 123 := by decide +kernel
theorem td_X_seam_123 : tz_dk prog_1_method_25_code 123 (.istore 11) 2 125 := by decide +kernel
theorem td_X_seam_125 : tz_dk prog_1_method_25_code 125 (.iload 8) 2 127 := by decide +kernel
theorem td_X_seam_127 : tz_dk prog_1_method_25_code 127 (.ldc 241) 2 129 := by decide +kernel
theorem td_X_seam_129 : tz_dj prog_1_method_25_code 129 (.if_icmp .eq 10) (10) 132 139 := by decide +kernel
theorem td_X_seam_132 : tz_dk prog_1_method_25_code 132 (.iload 11) 2 134 := by decide +kernel
theorem td_X_seam_134 : tz_dk prog_1_method_25_code 134 (.iload 9) 2 136 := by decide +kernel
theorem td_X_seam_136 : tz_dj prog_1_method_25_code 136 (.if_icmp .ge 11) (11) 139 147 := by decide +kernel
theorem td_X_seam_139 : tz_dk prog_1_method_25_code 139 (.iload 10) 2 141 := by decide +kernel
theorem td_X_seam_141 : tz_dk prog_1_method_25_code 141 (.istore 8) 2 143 := by decide +kernel
theorem td_X_seam_143 : tz_dk prog_1_method_25_code 143 (.iload 11) 2 145 := by decide +kernel
theorem td_X_seam_145 : tz_dk prog_1_method_25_code 145 (.istore 9) 2 147 := by decide +kernel
theorem td_X_seam_147 : tz_dk prog_1_method_25_code 147 (.iinc 10 1) 3 150 := by decide +kernel
theorem td_X_seam_150 : tz_dj prog_1_method_25_code 150 (.goto (-79)) (-79) 153 71 := by decide +kernel
theorem td_X_seam_153 : tz_dk prog_1_method_25_code 153 (.aload_n 0) 1 154 := by decide +kernel
theorem td_X_seam_154 : tz_dk prog_1_method_25_code 154 (.iload 8) 2 156 := by decide +kernel
theorem td_X_seam_156 : tz_dk prog_1_method_25_code 156 (.invokevirtual 67) 3 159 := by decide +kernel
theorem td_X_seam_159 : tz_dk prog_1_method_25_code 159 (.ireturn) 1 160 := by decide +kernel
theorem td_X_join_0 : tz_dk prog_1_method_26_code 0 (.aload_n 0) 1 1 := by decide +kernel
theorem td_X_join_1 : tz_dk prog_1_method_26_code 1 (.getfield 10) 3 4 := by decide +kernel
theorem td_X_join_4 : tz_dk prog_1_method_26_code 4 (.iload_n 1) 1 5 := by decide +kernel
theorem td_X_join_5 : tz_dk prog_1_method_26_code 5 (.invokevirtual 62) 3 8 := by decide +kernel
theorem td_X_join_8 : tz_dk prog_1_method_26_code 8 (.astore 5) 2 10 := by decide +kernel
theorem td_X_join_10 : tz_dk prog_1_method_26_code 10 (.aload_n 0) 1 11 := by decide +kernel
theorem td_X_join_11 : tz_dk prog_1_method_26_code 11 (.getfield 10) 3 14 := by decide +kernel
theorem td_X_join_14 : tz_dk prog_1_method_26_code 14 (.iload_n 2) 1 15 := by decide +kernel
theorem td_X_join_15 : tz_dk prog_1_method_26_code 15 (.invokevirtual 62) 3 18 := by decide +kernel
theorem td_X_join_18 : tz_dk prog_1_method_26_code 18 (.astore 6) 2 20 := by decide +kernel
theorem td_X_join_20 : tz_dk prog_1_method_26_code 20 (.aload_n 0) 1 21 := by decide +kernel
theorem td_X_join_21 : tz_dk prog_1_method_26_code 21 (.getfield 10) 3 24 := by decide +kernel
theorem td_X_join_24 : tz_dk prog_1_method_26_code 24 (.iload 4) 2 26 := by decide +kernel
theorem td_X_join_26 : tz_dk prog_1_method_26_code 26 (.invokevirtual 62) 3 29 := by decide +kernel
theorem td_X_join_29 : tz_dk prog_1_method_26_code 29 (.astore 7) 2 31 := by decide +kernel
theorem td_X_join_31 : tz_dk prog_1_method_26_code 31 (.aload 5) 2 33 := by decide +kernel
theorem td_X_join_33 : tz_dj prog_1_method_26_code 33 (.ifnull 13) (13) 36 46 := by decide +kernel
theorem td_X_join_36 : tz_dk prog_1_method_26_code 36 (.aload 6) 2 38 := by decide +kernel
theorem td_X_join_38 : tz_dj prog_1_method_26_code 38 (.ifnull 8) (8) 41 46 := by decide +kernel
theorem td_X_join_41 : tz_dk prog_1_method_26_code 41 (.aload 7) 2 43 := by decide +kernel
theorem td_X_join_43 : tz_dj prog_1_method_26_code 43 (.ifnonnull 10) (10) 46 53 := by decide +kernel
theorem td_X_join_46 : tz_dk prog_1_method_26_code 46 (.aload_n 0) 1 47 := by decide +kernel
theorem td_X_join_47 : tz_dk prog_1_method_26_code 47 (.ldc 66) 2 49 := by decide +kernel
theorem td_X_join_49 : tz_dk prog_1_method_26_code 49 (.invokevirtual 67) 3 52 := by decide +kernel
theorem td_X_join_52 : tz_dk prog_1_method_26_code 52 (.ireturn) 1 53 := by decide +kernel
theorem td_X_join_53 : tz_dk prog_1_method_26_code 53 (.iload_n 3) 1 54 := by decide +kernel
theorem td_X_join_54 : tz_dj prog_1_method_26_code 54 (.ifCond .lt 12) (12) 57 66 := by decide +kernel
theorem td_X_join_57 : tz_dk prog_1_method_26_code 57 (.iload_n 3) 1 58 := by decide +kernel
theorem td_X_join_58 : tz_dk prog_1_method_26_code 58 (.aload 5) 2 60 := by decide +kernel
theorem td_X_join_60 : tz_dk prog_1_method_26_code 60 (.invokevirtual 75) 3 63 := by decide +kernel
theorem td_X_join_63 : tz_dj prog_1_method_26_code 63 (.if_icmp .le 10) (10) 66 73 := by decide +kernel
theorem td_X_join_66 : tz_dk prog_1_method_26_code 66 (.aload_n 0) 1 67 := by decide +kernel
theorem td_X_join_67 : tz_dk prog_1_method_26_code 67 (.ldc 66) 2 69 := by decide +kernel
theorem td_X_join_69 : tz_dk prog_1_method_26_code 69 (.invokevirtual 67) 3 72 := by decide +kernel
theorem td_X_join_72 : tz_dk prog_1_method_26_code 72 (.ireturn) 1 73 := by decide +kernel
theorem td_X_join_73 : tz_dk prog_1_method_26_code 73 (.aload_n 0) 1 74 := by decide +kernel
theorem td_X_join_74 : tz_dk prog_1_method_26_code 74 (.getfield 19) 3 77 := by decide +kernel
theorem td_X_join_77 : tz_dk prog_1_method_26_code 77 (.aload_n 0) 1 78 := by decide +kernel
theorem td_X_join_78 : tz_dk prog_1_method_26_code 78 (.getfield 10) 3 81 := by decide +kernel
theorem td_X_join_81 : tz_dk prog_1_method_26_code 81 (.iload 4) 2 83 := by decide +kernel
theorem td_X_join_83 : tz_dk prog_1_method_26_code 83 (.invokevirtual 71) 3 86 := by decide +kernel
theorem td_X_join_86 : tz_dk prog_1_method_26_code 86 (.aload_n 0) 1 87 := by decide +kernel
theorem td_X_join_87 : tz_dk prog_1_method_26_code 87 (.getfield 54) 3 90 := by decide +kernel
theorem td_X_join_90 : tz_dk prog_1_method_26_code 90 (.invokevirtual 144) 3 93 := by decide +kernel
theorem td_X_join_93 : tz_dk prog_1_method_26_code 93 (.iconst 0) 1 94 := by decide +kernel
theorem td_X_join_94 : tz_dk prog_1_method_26_code 94 (.istore 8) 2 96 := by decide +kernel
theorem td_X_join_96 : tz_dk prog_1_method_26_code 96 (.iload 8) 2 98 := by decide +kernel
theorem td_X_join_98 : tz_dk prog_1_method_26_code 98 (.iload_n 3) 1 99 := by decide +kernel
theorem td_X_join_99 : tz_dj prog_1_method_26_code 99 (.if_icmp .ge 23) (23) 102 122 := by decide +kernel
theorem td_X_join_102 : tz_dk prog_1_method_26_code 102 (.aload_n 0) 1 103 := by decide +kernel
theorem td_X_join_103 : tz_dk prog_1_method_26_code 103 (.getfield 54) 3 106 := by decide +kernel
theorem td_X_join_106 : tz_dk prog_1_method_26_code 106 (.aload 5) 2 108 := by decide +kernel
theorem td_X_join_108 : tz_dk prog_1_method_26_code 108 (.iload 8) 2 110 := by decide +kernel
theorem td_X_join_110 : tz_dk prog_1_method_26_code 110 (.invokevirtual 90) 3 113 := by decide +kernel
theorem td_X_join_113 : tz_dk prog_1_method_26_code 113 (.invokevirtual 150) 3 116 := by decide +kernel
theorem td_X_join_116 : tz_dk prog_1_method_26_code 116 (.iinc 8 1) 3 119 := by decide +kernel
theorem td_X_join_119 : tz_dj prog_1_method_26_code 119 (.goto (-23)) (-23) 122 96 := by decide +kernel
theorem td_X_join_122 : tz_dk prog_1_method_26_code 122 (.iload_n 3) 1 123 := by decide +kernel
theorem td_X_join_123 : tz_dk prog_1_method_26_code 123 (.istore 8) 2 125 := by decide +kernel
theorem td_X_join_125 : tz_dk prog_1_method_26_code 125 (.iload 8) 2 127 := by decide +kernel
theorem td_X_join_127 : tz_dk prog_1_method_26_code 127 (.aload 6) 2 129 := by decide +kernel
theorem td_X_join_129 : tz_dk prog_1_method_26_code 129 (.invokevirtual 75) 3 132 := by decide +kernel
theorem td_X_join_132 : tz_dj prog_1_method_26_code 132 (.if_icmp .ge 23) (23) 135 155 := by decide +kernel
theorem td_X_join_135 : tz_dk prog_1_method_26_code 135 (.aload_n 0) 1 136 := by decide +kernel
theorem td_X_join_136 : tz_dk prog_1_method_26_code 136 (.getfield 54) 3 139 := by decide +kernel
theorem td_X_join_139 : tz_dk prog_1_method_26_code 139 (.aload 6) 2 141 := by decide +kernel
theorem td_X_join_141 : tz_dk prog_1_method_26_code 141 (.iload 8) 2 143 := by decide +kernel
theorem td_X_join_143 : tz_dk prog_1_method_26_code 143 (.invokevirtual 90) 3 146 := by decide +kernel
theorem td_X_join_146 : tz_dk prog_1_method_26_code 146 (.invokevirtual 150) 3 149 := by decide +kernel
theorem td_X_join_149 : tz_dk prog_1_method_26_code 149 (.iinc 8 1) 3 152 := by decide +kernel
theorem td_X_join_152 : tz_dj prog_1_method_26_code 152 (.goto (-27)) (-27) 155 125 := by decide +kernel
theorem td_X_join_155 : tz_dk prog_1_method_26_code 155 (.aload 7) 2 157 := by decide +kernel
theorem td_X_join_157 : tz_dk prog_1_method_26_code 157 (.aload_n 0) 1 158 := by decide +kernel
theorem td_X_join_158 : tz_dk prog_1_method_26_code 158 (.getfield 54) 3 161 := by decide +kernel
theorem td_X_join_161 : tz_dk prog_1_method_26_code 161 (.invokevirtual 218) 3 164 := by decide +kernel
theorem td_X_join_164 : tz_dk prog_1_method_26_code 164 (.aload 7) 2 166 := by decide +kernel
theorem td_X_join_166 : tz_dk prog_1_method_26_code 166 (.invokevirtual 75) 3 169 := by decide +kernel
theorem td_X_join_169 : tz_dk prog_1_method_26_code 169 (.ireturn) 1 170 := by decide +kernel
end
section
theorem td_X_mark_0 : tz_dk prog_1_method_27_code 0 (.aload_n 0) 1 1 := by decide +kernel
theorem td_X_mark_1 : tz_dk prog_1_method_27_code 1 (.getfield 10) 3 4 := by decide +kernel
theorem td_X_mark_4 : tz_dk prog_1_method_27_code 4 (.iload_n 2) 1 5 := by decide +kernel
theorem td_X_mark_5 : tz_dk prog_1_method_27_code 5 (.invokevirtual 62) 3 8 := by decide +kernel
theorem td_X_mark_8 : tz_dk prog_1_method_27_code 8 (.astore 4) 2 10 := by decide +kernel
theorem td_X_mark_10 : tz_dk prog_1_method_27_code 10 (.iload_n 1) 1 11 := by decide +kernel
theorem td_X_mark_11 : tz_dk prog_1_method_27_code 11 (.invokestatic 245) 3 14 := by decide +kernel
theorem td_X_mark_14 : tz_dj prog_1_method_27_code 14 (.ifCond .eq 22) (22) 17 36 := by decide +kernel
theorem td_X_mark_17 : tz_dk prog_1_method_27_code 17 (.aload 4) 2 19 := by decide +kernel
theorem td_X_mark_19 : tz_dj prog_1_method_27_code 19 (.ifnull 17) (17) 22 36 := by decide +kernel
theorem td_X_mark_22 : tz_dk prog_1_method_27_code 22 (.iload_n 3) 1 23 := by decide +kernel
theorem td_X_mark_23 : tz_dk prog_1_method_27_code 23 (.iconst (-1)) 1 24 := by decide +kernel
theorem td_X_mark_24 : tz_dj prog_1_method_27_code 24 (.if_icmp .eq 19) (19) 27 43 := by decide +kernel
theorem td_X_mark_27 : tz_dk prog_1_method_27_code 27 (.aload 4) 2 29 := by decide +kernel
theorem td_X_mark_29 : tz_dk prog_1_method_27_code 29 (.iload_n 3) 1 30 := by decide +kernel
theorem td_X_mark_30 : tz_dk prog_1_method_27_code 30 (.invokevirtual 83) 3 33 := by decide +kernel
theorem td_X_mark_33 : tz_dj prog_1_method_27_code 33 (.ifCond .ne 10) (10) 36 43 := by decide +kernel
theorem td_X_mark_36 : tz_dk prog_1_method_27_code 36 (.aload_n 0) 1 37 := by decide +kernel
theorem td_X_mark_37 : tz_dk prog_1_method_27_code 37 (.ldc 66) 2 39 := by decide +kernel
theorem td_X_mark_39 : tz_dk prog_1_method_27_code 39 (.invokevirtual 67) 3 42 := by decide +kernel
theorem td_X_mark_42 : tz_dk prog_1_method_27_code 42 (.ireturn) 1 43 := by decide +kernel
theorem td_X_mark_43 : tz_dk prog_1_method_27_code 43 (.aload_n 0) 1 44 := by decide +kernel
theorem td_X_mark_44 : tz_dk prog_1_method_27_code 44 (.getfield 19) 3 47 := by decide +kernel
theorem td_X_mark_47 : tz_dk prog_1_method_27_code 47 (.aload_n 0) 1 48 := by decide +kernel
theorem td_X_mark_48 : tz_dk prog_1_method_27_code 48 (.getfield 10) 3 51 := by decide +kernel
theorem td_X_mark_51 : tz_dk prog_1_method_27_code 51 (.iconst (-1)) 1 52 := by decide +kernel
theorem td_X_mark_52 : tz_dk prog_1_method_27_code 52 (.invokevirtual 71) 3 55 := by decide +kernel
theorem td_X_mark_55 : tz_dk prog_1_method_27_code 55 (.aload_n 0) 1 56 := by decide +kernel
theorem td_X_mark_56 : tz_dk prog_1_method_27_code 56 (.getfield 10) 3 59 := by decide +kernel
theorem td_X_mark_59 : tz_dk prog_1_method_27_code 59 (.getfield 248) 3 62 := by decide +kernel
theorem td_X_mark_62 : tz_dk prog_1_method_27_code 62 (.iload_n 1) 1 63 := by decide +kernel
theorem td_X_mark_63 : tz_dk prog_1_method_27_code 63 (.iload_n 2) 1 64 := by decide +kernel
theorem td_X_mark_64 : tz_dk prog_1_method_27_code 64 (.iastore) 1 65 := by decide +kernel
theorem td_X_mark_65 : tz_dk prog_1_method_27_code 65 (.aload_n 0) 1 66 := by decide +kernel
theorem td_X_mark_66 : tz_dk prog_1_method_27_code 66 (.getfield 10) 3 69 := by decide +kernel
theorem td_X_mark_69 : tz_dk prog_1_method_27_code 69 (.getfield 252) 3 72 := by decide +kernel
theorem td_X_mark_72 : tz_dk prog_1_method_27_code 72 (.iload_n 1) 1 73 := by decide +kernel
theorem td_X_mark_73 : tz_dk prog_1_method_27_code 73 (.iload_n 3) 1 74 := by decide +kernel
theorem td_X_mark_74 : tz_dk prog_1_method_27_code 74 (.iastore) 1 75 := by decide +kernel
theorem td_X_mark_75 : tz_dk prog_1_method_27_code 75 (.iconst 1) 1 76 := by decide +kernel
theorem td_X_mark_76 : tz_dk prog_1_method_27_code 76 (.ireturn) 1 77 := by decide +kernel
theorem td_X_isMark_0 : tz_dk prog_1_method_33_code 0 (.iload_n 0) 1 1 := by decide +kernel
theorem td_X_isMark_1 : tz_dj prog_1_method_33_code 1 (.ifCond .lt 13) (13) 4 14 := by decide +kernel
theorem td_X_isMark_4 : tz_dk prog_1_method_33_code 4 (.iload_n 0) 1 5 := by decide +kernel
theorem td_X_isMark_5 : tz_dk prog_1_method_33_code 5 (.bipush 6) 2 7 := by decide +kernel
theorem td_X_isMark_7 : tz_dj prog_1_method_33_code 7 (.if_icmp .ge 7) (7) 10 14 := by decide +kernel
theorem td_X_isMark_10 : tz_dk prog_1_method_33_code 10 (.iconst 1) 1 11 := by decide +kernel
theorem td_X_isMark_11 : tz_dj prog_1_method_33_code 11 (.goto 4) (4) 14 15 := by decide +kernel
theorem td_X_isMark_14 : tz_dk prog_1_method_33_code 14 (.iconst 0) 1 15 := by decide +kernel
theorem td_X_isMark_15 : tz_dk prog_1_method_33_code 15 (.ireturn) 1 16 := by decide +kernel
theorem td_X_moment_0 : tz_dk prog_1_method_28_code 0 (.iload_n 1) 1 1 := by decide +kernel
theorem td_X_moment_1 : tz_dk prog_1_method_28_code 1 (.invokestatic 245) 3 4 := by decide +kernel
theorem td_X_moment_4 : tz_dj prog_1_method_28_code 4 (.ifCond .ne 10) (10) 7 14 := by decide +kernel
theorem td_X_moment_7 : tz_dk prog_1_method_28_code 7 (.aload_n 0) 1 8 := by decide +kernel
theorem td_X_moment_8 : tz_dk prog_1_method_28_code 8 (.ldc 66) 2 10 := by decide +kernel
theorem td_X_moment_10 : tz_dk prog_1_method_28_code 10 (.invokevirtual 67) 3 13 := by decide +kernel
theorem td_X_moment_13 : tz_dk prog_1_method_28_code 13 (.ireturn) 1 14 := by decide +kernel
theorem td_X_moment_14 : tz_dk prog_1_method_28_code 14 (.aload_n 0) 1 15 := by decide +kernel
theorem td_X_moment_15 : tz_dk prog_1_method_28_code 15 (.getfield 10) 3 18 := by decide +kernel
theorem td_X_moment_18 : tz_dk prog_1_method_28_code 18 (.aload_n 0) 1 19 := by decide +kernel
theorem td_X_moment_19 : tz_dk prog_1_method_28_code 19 (.getfield 10) 3 22 := by decide +kernel
theorem td_X_moment_22 : tz_dk prog_1_method_28_code 22 (.getfield 248) 3 25 := by decide +kernel
theorem td_X_moment_25 : tz_dk prog_1_method_28_code 25 (.iload_n 1) 1 26 := by decide +kernel
theorem td_X_moment_26 : tz_dk prog_1_method_28_code 26 (.iaload) 1 27 := by decide +kernel
theorem td_X_moment_27 : tz_dk prog_1_method_28_code 27 (.invokevirtual 62) 3 30 := by decide +kernel
theorem td_X_moment_30 : tz_dk prog_1_method_28_code 30 (.astore_n 2) 1 31 := by decide +kernel
theorem td_X_moment_31 : tz_dk prog_1_method_28_code 31 (.aload_n 0) 1 32 := by decide +kernel
theorem td_X_moment_32 : tz_dk prog_1_method_28_code 32 (.getfield 10) 3 35 := by decide +kernel
theorem td_X_moment_35 : tz_dk prog_1_method_28_code 35 (.getfield 252) 3 38 := by decide +kernel
theorem td_X_moment_38 : tz_dk prog_1_method_28_code 38 (.iload_n 1) 1 39 := by decide +kernel
theorem td_X_moment_39 : tz_dk prog_1_method_28_code 39 (.iaload) 1 40 := by decide +kernel
theorem td_X_moment_40 : tz_dk prog_1_method_28_code 40 (.istore_n 3) 1 41 := by decide +kernel
theorem td_X_moment_41 : tz_dk prog_1_method_28_code 41 (.aload_n 2) 1 42 := by decide +kernel
theorem td_X_moment_42 : tz_dj prog_1_method_28_code 42 (.ifnull 11) (11) 45 53 := by decide +kernel
theorem td_X_moment_45 : tz_dk prog_1_method_28_code 45 (.aload_n 2) 1 46 := by decide +kernel
theorem td_X_moment_46 : tz_dk prog_1_method_28_code 46 (.iload_n 3) 1 47 := by decide +kernel
theorem td_X_moment_47 : tz_dk prog_1_method_28_code 47 (.invokevirtual 83) 3 50 := by decide +kernel
theorem td_X_moment_50 : tz_dj prog_1_method_28_code 50 (.ifCond .ne 10) (10) 53 60 := by decide +kernel
theorem td_X_moment_53 : tz_dk prog_1_method_28_code 53 (.aload_n 0) 1 54 := by decide +kernel
theorem td_X_moment_54 : tz_dk prog_1_method_28_code 54 (.ldc 241) 2 56 := by decide +kernel
theorem td_X_moment_56 : tz_dk prog_1_method_28_code 56 (.invokevirtual 67) 3 59 := by decide +kernel
theorem td_X_moment_59 : tz_dk prog_1_method_28_code 59 (.ireturn) 1 60 := by decide +kernel
theorem td_X_moment_60 : tz_dk prog_1_method_28_code 60 (.aload_n 0) 1 61 := by decide +kernel
theorem td_X_moment_61 : tz_dk prog_1_method_28_code 61 (.getfield 47) 3 64 := by decide +kernel
theorem td_X_moment_64 : tz_dk prog_1_method_28_code 64 (.aload_n 0) 1 65 := by decide +kernel
theorem td_X_moment_65 : tz_dk prog_1_method_28_code 65 (.getfield 10) 3 68 := by decide +kernel
theorem td_X_moment_68 : tz_dk prog_1_method_28_code 68 (.aload_n 2) 1 69 := by decide +kernel
theorem td_X_moment_69 : tz_dk prog_1_method_28_code 69 (.iload_n 3) 1 70 := by decide +kernel
theorem td_X_moment_70 : tz_dk prog_1_method_28_code 70 (.invokevirtual 203) 3 73 := by decide +kernel
theorem td_X_moment_73 : tz_dk prog_1_method_28_code 73 (.pop) 1 74 := by decide +kernel
theorem td_X_moment_74 : tz_dk prog_1_method_28_code 74 (.aload_n 0) 1 75 := by decide +kernel
theorem td_X_moment_75 : tz_dk prog_1_method_28_code 75 (.getfield 47) 3 78 := by decide +kernel
theorem td_X_moment_78 : tz_dk prog_1_method_28_code 78 (.invokevirtual 255) 3 81 := by decide +kernel
theorem td_X_moment_81 : tz_dk prog_1_method_28_code 81 (.iconst (-1)) 1 82 := by decide +kernel
theorem td_X_moment_82 : tz_dj prog_1_method_28_code 82 (.if_icmp .ne 12) (12) 85 94 := by decide +kernel
theorem td_X_moment_85 : tz_dk prog_1_method_28_code 85 (.aload_n 0) 1 86 := by decide +kernel
theorem td_X_moment_86 : tz_dk prog_1_method_28_code 86 (.ldc 93) 2 88 := by decide +kernel
theorem td_X_moment_88 : tz_dk prog_1_method_28_code 88 (.invokevirtual 67) 3 91 := by decide +kernel
theorem td_X_moment_91 : tz_dj prog_1_method_28_code 91 (.goto 10) (10) 94 101 := by decide +kernel
theorem td_X_moment_94 : tz_dk prog_1_method_28_code 94 (.aload_n 0) 1 95 := by decide +kernel
theorem td_X_moment_95 : tz_dk prog_1_method_28_code 95 (.getfield 47) 3 98 := by decide +kernel
theorem td_X_moment_98 : tz_dk prog_1_method_28_code 98 (.invokevirtual 255) 3 101 := by decide +kernel
theorem td_X_moment_101 : tz_dk prog_1_method_28_code 101 (.ireturn) 1 102 := by decide +kernel
theorem td_P_followed_0 : tz_dk prog_6_method_2_code 0 (.aload_n 0) 1 1 := by decide +kernel
theorem td_P_followed_1 : tz_dk prog_6_method_2_code 1 (.getfield 35) 3 4 := by decide +kernel
theorem td_P_followed_4 : tz_dk prog_6_method_2_code 4 (.ireturn) 1 5 := by decide +kernel
theorem td_X_undo_0 : tz_dk prog_1_method_29_code 0 (.aload_n 0) 1 1 := by decide +kernel
theorem td_X_undo_1 : tz_dk prog_1_method_29_code 1 (.aload_n 0) 1 2 := by decide +kernel
theorem td_X_undo_2 : tz_dk prog_1_method_29_code 2 (.getfield 19) 3 5 := by decide +kernel
theorem td_X_undo_5 : tz_dk prog_1_method_29_code 5 (.aload_n 0) 1 6 := by decide +kernel
theorem td_X_undo_6 : tz_dk prog_1_method_29_code 6 (.getfield 10) 3 9 := by decide +kernel
theorem td_X_undo_9 : tz_dk prog_1_method_29_code 9 (.invokevirtual 258) 3 12 := by decide +kernel
theorem td_X_undo_12 : tz_dk prog_1_method_29_code 12 (.invokevirtual 67) 3 15 := by decide +kernel
theorem td_X_undo_15 : tz_dk prog_1_method_29_code 15 (.ireturn) 1 16 := by decide +kernel
theorem td_H_restore_0 : tz_dk prog_3_method_3_code 0 (.aload_n 0) 1 1 := by decide +kernel
theorem td_H_restore_1 : tz_dk prog_3_method_3_code 1 (.getfield 17) 3 4 := by decide +kernel
theorem td_H_restore_4 : tz_dk prog_3_method_3_code 4 (.bipush 20) 2 6 := by decide +kernel
theorem td_H_restore_6 : tz_dk prog_3_method_3_code 6 (.iadd) 1 7 := by decide +kernel
theorem td_H_restore_7 : tz_dk prog_3_method_3_code 7 (.iconst 1) 1 8 := by decide +kernel
theorem td_H_restore_8 : tz_dk prog_3_method_3_code 8 (.isub) 1 9 := by decide +kernel
theorem td_H_restore_9 : tz_dk prog_3_method_3_code 9 (.bipush 20) 2 11 := by decide +kernel
theorem td_H_restore_11 : tz_dk prog_3_method_3_code 11 (.irem) 1 12 := by decide +kernel
theorem td_H_restore_12 : tz_dk prog_3_method_3_code 12 (.istore_n 2) 1 13 := by decide +kernel
theorem td_H_restore_13 : tz_dk prog_3_method_3_code 13 (.aload_n 0) 1 14 := by decide +kernel
theorem td_H_restore_14 : tz_dk prog_3_method_3_code 14 (.iload_n 2) 1 15 := by decide +kernel
theorem td_H_restore_15 : tz_dk prog_3_method_3_code 15 (.invokevirtual 25) 3 18 := by decide +kernel
theorem td_H_restore_18 : tz_dk prog_3_method_3_code 18 (.astore_n 3) 1 19 := by decide +kernel
theorem td_H_restore_19 : tz_dk prog_3_method_3_code 19 (.aload_n 0) 1 20 := by decide +kernel
theorem td_H_restore_20 : tz_dk prog_3_method_3_code 20 (.getfield 21) 3 23 := by decide +kernel
theorem td_H_restore_23 : tz_dj prog_3_method_3_code 23 (.ifCond .eq 7) (7) 26 30 := by decide +kernel
theorem td_H_restore_26 : tz_dk prog_3_method_3_code 26 (.aload_n 3) 1 27 := by decide +kernel
theorem td_H_restore_27 : tz_dj prog_3_method_3_code 27 (.ifnonnull 6) (6) 30 33 := by decide +kernel
theorem td_H_restore_30 : tz_dk prog_3_method_3_code 30 (.ldc 39) 2 32 := by decide +kernel
theorem td_H_restore_32 : tz_dk prog_3_method_3_code 32 (.ireturn) 1 33 := by decide +kernel
theorem td_H_restore_33 : tz_dk prog_3_method_3_code 33 (.aload_n 3) 1 34 := by decide +kernel
theorem td_H_restore_34 : tz_dk prog_3_method_3_code 34 (.aload_n 1) 1 35 := by decide +kernel
theorem td_H_restore_35 : tz_dk prog_3_method_3_code 35 (.invokevirtual 40) 3 38 := by decide +kernel
theorem td_H_restore_38 : tz_dk prog_3_method_3_code 38 (.aload_n 0) 1 39 := by decide +kernel
theorem td_H_restore_39 : tz_dk prog_3_method_3_code 39 (.iload_n 2) 1 40 := by decide +kernel
theorem td_H_restore_40 : tz_dk prog_3_method_3_code 40 (.putfield 17) 3 43 := by decide +kernel
theorem td_H_restore_43 : tz_dk prog_3_method_3_code 43 (.aload_n 0) 1 44 := by decide +kernel
theorem td_H_restore_44 : tz_dk prog_3_method_3_code 44 (.dup) 1 45 := by decide +kernel
theorem td_H_restore_45 : tz_dk prog_3_method_3_code 45 (.getfield 21) 3 48 := by decide +kernel
theorem td_H_restore_48 : tz_dk prog_3_method_3_code 48 (.iconst 1) 1 49 := by decide +kernel
theorem td_H_restore_49 : tz_dk prog_3_method_3_code 49 (.isub) 1 50 := by decide +kernel
theorem td_H_restore_50 : tz_dk prog_3_method_3_code 50 (.putfield 21) 3 53 := by decide +kernel
theorem td_H_restore_53 : tz_dk prog_3_method_3_code 53 (.aload_n 0) 1 54 := by decide +kernel
theorem td_H_restore_54 : tz_dk prog_3_method_3_code 54 (.getfield 21) 3 57 := by decide +kernel
theorem td_H_restore_57 : tz_dk prog_3_method_3_code 57 (.ireturn) 1 58 := by decide +kernel
theorem td_E_bringBack_0 : tz_dk prog_9_method_3_code 0 (.aload_n 1) 1 1 := by decide +kernel
theorem td_E_bringBack_1 : tz_dk prog_9_method_3_code 1 (.aload_n 0) 1 2 := by decide +kernel
theorem td_E_bringBack_2 : tz_dk prog_9_method_3_code 2 (.getfield 32) 3 5 := by decide +kernel
theorem td_E_bringBack_5 : tz_dk prog_9_method_3_code 5 (.invokevirtual 36) 3 8 := by decide +kernel
theorem td_E_bringBack_8 : tz_dk prog_9_method_3_code 8 (.astore_n 2) 1 9 := by decide +kernel
theorem td_E_bringBack_9 : tz_dk prog_9_method_3_code 9 (.aload_n 2) 1 10 := by decide +kernel
theorem td_E_bringBack_10 : tz_dj prog_9_method_3_code 10 (.ifnull 11) (11) 13 21 := by decide +kernel
theorem td_E_bringBack_13 : tz_dk prog_9_method_3_code 13 (.aload_n 2) 1 14 := by decide +kernel
theorem td_E_bringBack_14 : tz_dk prog_9_method_3_code 14 (.aload_n 0) 1 15 := by decide +kernel
theorem td_E_bringBack_15 : tz_dk prog_9_method_3_code 15 (.getfield 12) 3 18 := by decide +kernel
theorem td_E_bringBack_18 : tz_dk prog_9_method_3_code 18 (.invokevirtual 42) 3 21 := by decide +kernel
theorem td_E_bringBack_21 : tz_dk prog_9_method_3_code 21 (.aload_n 1) 1 22 := by decide +kernel
theorem td_E_bringBack_22 : tz_dk prog_9_method_3_code 22 (.getfield 46) 3 25 := by decide +kernel
theorem td_E_bringBack_25 : tz_dk prog_9_method_3_code 25 (.aload_n 0) 1 26 := by decide +kernel
theorem td_E_bringBack_26 : tz_dk prog_9_method_3_code 26 (.getfield 21) 3 29 := by decide +kernel
theorem td_E_bringBack_29 : tz_dk prog_9_method_3_code 29 (.invokevirtual 47) 3 32 := by decide +kernel
theorem td_E_bringBack_32 : tz_dk prog_9_method_3_code 32 (.aload_n 0) 1 33 := by decide +kernel
theorem td_E_bringBack_33 : tz_dk prog_9_method_3_code 33 (.getfield 25) 3 36 := by decide +kernel
theorem td_E_bringBack_36 : tz_dk prog_9_method_3_code 36 (.iconst 0) 1 37 := by decide +kernel
theorem td_E_bringBack_37 : tz_dk prog_9_method_3_code 37 (.aload_n 1) 1 38 := by decide +kernel
theorem td_E_bringBack_38 : tz_dk prog_9_method_3_code 38 (.getfield 50) 3 41 := by decide +kernel
theorem td_E_bringBack_41 : tz_dk prog_9_method_3_code 41 (.iconst 0) 1 42 := by decide +kernel
theorem td_E_bringBack_42 : tz_dk prog_9_method_3_code 42 (.bipush 6) 2 44 := by decide +kernel
theorem td_E_bringBack_44 : tz_dk prog_9_method_3_code 44 (.invokestatic 51) 3 47 := by decide +kernel
theorem td_E_bringBack_47 : tz_dk prog_9_method_3_code 47 (.aload_n 0) 1 48 := by decide +kernel
theorem td_E_bringBack_48 : tz_dk prog_9_method_3_code 48 (.getfield 29) 3 51 := by decide +kernel
theorem td_E_bringBack_51 : tz_dk prog_9_method_3_code 51 (.iconst 0) 1 52 := by decide +kernel
theorem td_E_bringBack_52 : tz_dk prog_9_method_3_code 52 (.aload_n 1) 1 53 := by decide +kernel
theorem td_E_bringBack_53 : tz_dk prog_9_method_3_code 53 (.getfield 57) 3 56 := by decide +kernel
theorem td_E_bringBack_56 : tz_dk prog_9_method_3_code 56 (.iconst 0) 1 57 := by decide +kernel
theorem td_E_bringBack_57 : tz_dk prog_9_method_3_code 57 (.bipush 6) 2 59 := by decide +kernel
theorem td_E_bringBack_59 : tz_dk prog_9_method_3_code 59 (.invokestatic 51) 3 62 := by decide +kernel
theorem td_E_bringBack_62 : tz_dk prog_9_method_3_code 62 (.return_) 1 63 := by decide +kernel
theorem td_X_count_0 : tz_dk prog_1_method_30_code 0 (.iload_n 1) 1 1 := by decide +kernel
theorem td_X_count_1 : decode prog_1_method_30_code 1 = .ok (.tableswitch 66 0 3 #[31, 42, 53, 61], 31) := by decide +kernel
theorem td_X_count_32 : tz_dk prog_1_method_30_code 32 (.aload_n 0) 1 33 := by decide +kernel
theorem td_X_count_33 : tz_dk prog_1_method_30_code 33 (.getfield 10) 3 36 := by decide +kernel
theorem td_X_count_36 : tz_dk prog_1_method_30_code 36 (.getfield 158) 3 39 := by decide +kernel
theorem td_X_count_39 : tz_dk prog_1_method_30_code 39 (.invokevirtual 162) 3 42 := by decide +kernel
theorem td_X_count_42 : tz_dk prog_1_method_30_code 42 (.ireturn) 1 43 := by decide +kernel
theorem td_X_count_43 : tz_dk prog_1_method_30_code 43 (.aload_n 0) 1 44 := by decide +kernel
theorem td_X_count_44 : tz_dk prog_1_method_30_code 44 (.getfield 10) 3 47 := by decide +kernel
theorem td_X_count_47 : tz_dk prog_1_method_30_code 47 (.getfield 158) 3 50 := by decide +kernel
theorem td_X_count_50 : tz_dk prog_1_method_30_code 50 (.invokevirtual 262) 3 53 := by decide +kernel
theorem td_X_count_53 : tz_dk prog_1_method_30_code 53 (.ireturn) 1 54 := by decide +kernel
theorem td_X_count_54 : tz_dk prog_1_method_30_code 54 (.aload_n 0) 1 55 := by decide +kernel
theorem td_X_count_55 : tz_dk prog_1_method_30_code 55 (.getfield 10) 3 58 := by decide +kernel
theorem td_X_count_58 : tz_dk prog_1_method_30_code 58 (.invokevirtual 265) 3 61 := by decide +kernel
theorem td_X_count_61 : tz_dk prog_1_method_30_code 61 (.ireturn) 1 62 := by decide +kernel
theorem td_X_count_62 : tz_dk prog_1_method_30_code 62 (.aload_n 0) 1 63 := by decide +kernel
theorem td_X_count_63 : tz_dk prog_1_method_30_code 63 (.getfield 58) 3 66 := by decide +kernel
theorem td_X_count_66 : tz_dk prog_1_method_30_code 66 (.ireturn) 1 67 := by decide +kernel
theorem td_X_count_67 : tz_dk prog_1_method_30_code 67 (.aload_n 0) 1 68 := by decide +kernel
theorem td_X_count_68 : tz_dk prog_1_method_30_code 68 (.ldc 66) 2 70 := by decide +kernel
theorem td_X_count_70 : tz_dk prog_1_method_30_code 70 (.invokevirtual 67) 3 73 := by decide +kernel
theorem td_X_count_73 : tz_dk prog_1_method_30_code 73 (.ireturn) 1 74 := by decide +kernel
theorem td_S_onesOn_0 : tz_dk prog_5_method_4_code 0 (.iconst 0) 1 1 := by decide +kernel
theorem td_S_onesOn_1 : tz_dk prog_5_method_4_code 1 (.istore_n 1) 1 2 := by decide +kernel
theorem td_S_onesOn_2 : tz_dk prog_5_method_4_code 2 (.iconst 0) 1 3 := by decide +kernel
theorem td_S_onesOn_3 : tz_dk prog_5_method_4_code 3 (.istore_n 2) 1 4 := by decide +kernel
theorem td_S_onesOn_4 : tz_dk prog_5_method_4_code 4 (.iload_n 2) 1 5 := by decide +kernel
theorem td_S_onesOn_5 : tz_dk prog_5_method_4_code 5 (.aload_n 0) 1 6 := by decide +kernel
theorem td_S_onesOn_6 : tz_dk prog_5_method_4_code 6 (.getfield 17) 3 9 := by decide +kernel
theorem td_S_onesOn_9 : tz_dj prog_5_method_4_code 9 (.if_icmp .ge 29) (29) 12 38 := by decide +kernel
theorem td_S_onesOn_12 : tz_dk prog_5_method_4_code 12 (.aload_n 0) 1 13 := by decide +kernel
theorem td_S_onesOn_13 : tz_dk prog_5_method_4_code 13 (.iload_n 2) 1 14 := by decide +kernel
theorem td_S_onesOn_14 : tz_dk prog_5_method_4_code 14 (.invokevirtual 21) 3 17 := by decide +kernel
theorem td_S_onesOn_17 : tz_dk prog_5_method_4_code 17 (.astore_n 3) 1 18 := by decide +kernel
theorem td_S_onesOn_18 : tz_dk prog_5_method_4_code 18 (.aload_n 3) 1 19 := by decide +kernel
theorem td_S_onesOn_19 : tz_dj prog_5_method_4_code 19 (.ifnull 13) (13) 22 32 := by decide +kernel
theorem td_S_onesOn_22 : tz_dk prog_5_method_4_code 22 (.aload_n 3) 1 23 := by decide +kernel
theorem td_S_onesOn_23 : tz_dk prog_5_method_4_code 23 (.getfield 25) 3 26 := by decide +kernel
theorem td_S_onesOn_26 : tz_dj prog_5_method_4_code 26 (.ifCond .eq 6) (6) 29 32 := by decide +kernel
theorem td_S_onesOn_29 : tz_dk prog_5_method_4_code 29 (.iinc 1 1) 3 32 := by decide +kernel
theorem td_S_onesOn_32 : tz_dk prog_5_method_4_code 32 (.iinc 2 1) 3 35 := by decide +kernel
theorem td_S_onesOn_35 : tz_dj prog_5_method_4_code 35 (.goto (-31)) (-31) 38 4 := by decide +kernel
theorem td_S_onesOn_38 : tz_dk prog_5_method_4_code 38 (.iload_n 1) 1 39 := by decide +kernel
theorem td_S_onesOn_39 : tz_dk prog_5_method_4_code 39 (.ireturn) 1 40 := by decide +kernel
theorem td_T_marksSomewhere_0 : tz_dk prog_10_method_3_code 0 (.iconst 0) 1 1 := by decide +kernel
theorem td_T_marksSomewhere_1 : tz_dk prog_10_method_3_code 1 (.istore_n 1) 1 2 := by decide +kernel
theorem td_T_marksSomewhere_2 : tz_dk prog_10_method_3_code 2 (.iconst 0) 1 3 := by decide +kernel
theorem td_T_marksSomewhere_3 : tz_dk prog_10_method_3_code 3 (.istore_n 2) 1 4 := by decide +kernel
theorem td_T_marksSomewhere_4 : tz_dk prog_10_method_3_code 4 (.iload_n 2) 1 5 := by decide +kernel
theorem td_T_marksSomewhere_5 : tz_dk prog_10_method_3_code 5 (.bipush 6) 2 7 := by decide +kernel
theorem td_T_marksSomewhere_7 : tz_dj prog_10_method_3_code 7 (.if_icmp .ge 22) (22) 10 29 := by decide +kernel
theorem td_T_marksSomewhere_10 : tz_dk prog_10_method_3_code 10 (.aload_n 0) 1 11 := by decide +kernel
theorem td_T_marksSomewhere_11 : tz_dk prog_10_method_3_code 11 (.getfield 28) 3 14 := by decide +kernel
theorem td_T_marksSomewhere_14 : tz_dk prog_10_method_3_code 14 (.iload_n 2) 1 15 := by decide +kernel
theorem td_T_marksSomewhere_15 : tz_dk prog_10_method_3_code 15 (.iaload) 1 16 := by decide +kernel
theorem td_T_marksSomewhere_16 : tz_dk prog_10_method_3_code 16 (.iconst (-1)) 1 17 := by decide +kernel
theorem td_T_marksSomewhere_17 : tz_dj prog_10_method_3_code 17 (.if_icmp .eq 6) (6) 20 23 := by decide +kernel
theorem td_T_marksSomewhere_20 : tz_dk prog_10_method_3_code 20 (.iinc 1 1) 3 23 := by decide +kernel
theorem td_T_marksSomewhere_23 : tz_dk prog_10_method_3_code 23 (.iinc 2 1) 3 26 := by decide +kernel
theorem td_T_marksSomewhere_26 : tz_dj prog_10_method_3_code 26 (.goto (-22)) (-22) 29 4 := by decide +kernel
theorem td_T_marksSomewhere_29 : tz_dk prog_10_method_3_code 29 (.iload_n 1) 1 30 := by decide +kernel
theorem td_T_marksSomewhere_30 : tz_dk prog_10_method_3_code 30 (.ireturn) 1 31 := by decide +kernel
theorem td_M_init_0 : tz_dk prog_13_method_1_code 0 (.aload_n 0) 1 1 := by decide +kernel
theorem td_M_init_1 : tz_dk prog_13_method_1_code 1 (.invokespecial 1) 3 4 := by decide +kernel
theorem td_M_init_4 : tz_dk prog_13_method_1_code 4 (.aload_n 0) 1 5 := by decide +kernel
theorem td_M_init_5 : tz_dk prog_13_method_1_code 5 (.sipush 532) 3 8 := by decide +kernel
theorem td_M_init_8 : tz_dk prog_13_method_1_code 8 (.newarray .int) 2 10 := by decide +kernel
theorem td_M_init_10 : tz_dk prog_13_method_1_code 10 (.putfield 9) 3 13 := by decide +kernel
theorem td_M_init_13 : tz_dk prog_13_method_1_code 13 (.aload_n 0) 1 14 := by decide +kernel
theorem td_M_init_14 : tz_dk prog_13_method_1_code 14 (.sipush 10640) 3 17 := by decide +kernel
theorem td_M_init_17 : tz_dk prog_13_method_1_code 17 (.newarray .int) 2 19 := by decide +kernel
theorem td_M_init_19 : tz_dk prog_13_method_1_code 19 (.putfield 13) 3 22 := by decide +kernel
theorem td_M_init_22 : tz_dk prog_13_method_1_code 22 (.aload_n 0) 1 23 := by decide +kernel
theorem td_M_init_23 : tz_dk prog_13_method_1_code 23 (.iconst 4) 1 24 := by decide +kernel
theorem td_M_init_24 : tz_dk prog_13_method_1_code 24 (.newarray .int) 2 26 := by decide +kernel
theorem td_M_init_26 : tz_dk prog_13_method_1_code 26 (.putfield 16) 3 29 := by decide +kernel
theorem td_M_init_29 : tz_dk prog_13_method_1_code 29 (.aload_n 0) 1 30 := by decide +kernel
theorem td_M_init_30 : tz_dk prog_13_method_1_code 30 (.iconst 4) 1 31 := by decide +kernel
theorem td_M_init_31 : tz_dk prog_13_method_1_code 31 (.newarray .int) 2 33 := by decide +kernel
theorem td_M_init_33 : tz_dk prog_13_method_1_code 33 (.putfield 19) 3 36 := by decide +kernel
theorem td_M_init_36 : tz_dk prog_13_method_1_code 36 (.aload_n 0) 1 37 := by decide +kernel
theorem td_M_init_37 : tz_dk prog_13_method_1_code 37 (.sipush 480) 3 40 := by decide +kernel
theorem td_M_init_40 : tz_dk prog_13_method_1_code 40 (.newarray .int) 2 42 := by decide +kernel
theorem td_M_init_42 : tz_dk prog_13_method_1_code 42 (.putfield 22) 3 45 := by decide +kernel
theorem td_M_init_45 : tz_dk prog_13_method_1_code 45 (.aload_n 0) 1 46 := by decide +kernel
theorem td_M_init_46 : tz_dk prog_13_method_1_code 46 (.bipush 120) 2 48 := by decide +kernel
theorem td_M_init_48 : tz_dk prog_13_method_1_code 48 (.newarray .int) 2 50 := by decide +kernel
theorem td_M_init_50 : tz_dk prog_13_method_1_code 50 (.putfield 25) 3 53 := by decide +kernel
theorem td_M_init_53 : tz_dk prog_13_method_1_code 53 (.aload_n 0) 1 54 := by decide +kernel
theorem td_M_init_54 : tz_dk prog_13_method_1_code 54 (.bipush 120) 2 56 := by decide +kernel
theorem td_M_init_56 : tz_dk prog_13_method_1_code 56 (.newarray .int) 2 58 := by decide +kernel
theorem td_M_init_58 : tz_dk prog_13_method_1_code 58 (.putfield 28) 3 61 := by decide +kernel
theorem td_M_init_61 : tz_dk prog_13_method_1_code 61 (.aload_n 0) 1 62 := by decide +kernel
theorem td_M_init_62 : tz_dk prog_13_method_1_code 62 (.bipush 120) 2 64 := by decide +kernel
theorem td_M_init_64 : tz_dk prog_13_method_1_code 64 (.newarray .int) 2 66 := by decide +kernel
theorem td_M_init_66 : tz_dk prog_13_method_1_code 66 (.putfield 31) 3 69 := by decide +kernel
theorem td_M_init_69 : tz_dk prog_13_method_1_code 69 (.iconst 0) 1 70 := by decide +kernel
theorem td_M_init_70 : tz_dk prog_13_method_1_code 70 (.istore_n 1) 1 71 := by decide +kernel
theorem td_M_init_71 : tz_dk prog_13_method_1_code 71 (.iload_n 1) 1 72 := by decide +kernel
theorem td_M_init_72 : tz_dk prog_13_method_1_code 72 (.bipush 6) 2 74 := by decide +kernel
theorem td_M_init_74 : tz_dj prog_13_method_1_code 74 (.if_icmp .ge 20) (20) 77 94 := by decide +kernel
theorem td_M_init_77 : tz_dk prog_13_method_1_code 77 (.aload_n 0) 1 78 := by decide +kernel
theorem td_M_init_78 : tz_dk prog_13_method_1_code 78 (.getfield 9) 3 81 := by decide +kernel
theorem td_M_init_81 : tz_dk prog_13_method_1_code 81 (.sipush 526) 3 84 := by decide +kernel
theorem td_M_init_84 : tz_dk prog_13_method_1_code 84 (.iload_n 1) 1 85 := by decide +kernel
theorem td_M_init_85 : tz_dk prog_13_method_1_code 85 (.iadd) 1 86 := by decide +kernel
theorem td_M_init_86 : tz_dk prog_13_method_1_code 86 (.iconst (-1)) 1 87 := by decide +kernel
theorem td_M_init_87 : tz_dk prog_13_method_1_code 87 (.iastore) 1 88 := by decide +kernel
theorem td_M_init_88 : tz_dk prog_13_method_1_code 88 (.iinc 1 1) 3 91 := by decide +kernel
theorem td_M_init_91 : tz_dj prog_13_method_1_code 91 (.goto (-20)) (-20) 94 71 := by decide +kernel
theorem td_M_init_94 : tz_dk prog_13_method_1_code 94 (.return_) 1 95 := by decide +kernel
theorem td_M_undo_0 : tz_dk prog_13_method_8_code 0 (.aload_n 0) 1 1 := by decide +kernel
theorem td_M_undo_1 : tz_dk prog_13_method_8_code 1 (.getfield 46) 3 4 := by decide +kernel
theorem td_M_undo_4 : tz_dj prog_13_method_8_code 4 (.ifCond .ne 10) (10) 7 14 := by decide +kernel
theorem td_M_undo_7 : tz_dk prog_13_method_8_code 7 (.aload_n 0) 1 8 := by decide +kernel
theorem td_M_undo_8 : tz_dk prog_13_method_8_code 8 (.ldc 49) 2 10 := by decide +kernel
theorem td_M_undo_10 : tz_dk prog_13_method_8_code 10 (.invokevirtual 50) 3 13 := by decide +kernel
theorem td_M_undo_13 : tz_dk prog_13_method_8_code 13 (.ireturn) 1 14 := by decide +kernel
theorem td_M_undo_14 : tz_dk prog_13_method_8_code 14 (.aload_n 0) 1 15 := by decide +kernel
theorem td_M_undo_15 : tz_dk prog_13_method_8_code 15 (.dup) 1 16 := by decide +kernel
theorem td_M_undo_16 : tz_dk prog_13_method_8_code 16 (.getfield 46) 3 19 := by decide +kernel
theorem td_M_undo_19 : tz_dk prog_13_method_8_code 19 (.iconst 1) 1 20 := by decide +kernel
theorem td_M_undo_20 : tz_dk prog_13_method_8_code 20 (.isub) 1 21 := by decide +kernel
theorem td_M_undo_21 : tz_dk prog_13_method_8_code 21 (.putfield 46) 3 24 := by decide +kernel
theorem td_M_undo_24 : tz_dk prog_13_method_8_code 24 (.iconst 0) 1 25 := by decide +kernel
theorem td_M_undo_25 : tz_dk prog_13_method_8_code 25 (.istore_n 1) 1 26 := by decide +kernel
theorem td_M_undo_26 : tz_dk prog_13_method_8_code 26 (.iload_n 1) 1 27 := by decide +kernel
theorem td_M_undo_27 : tz_dk prog_13_method_8_code 27 (.sipush 532) 3 30 := by decide +kernel
theorem td_M_undo_30 : tz_dj prog_13_method_8_code 30 (.if_icmp .ge 30) (30) 33 60 := by decide +kernel
theorem td_M_undo_33 : tz_dk prog_13_method_8_code 33 (.aload_n 0) 1 34 := by decide +kernel
theorem td_M_undo_34 : tz_dk prog_13_method_8_code 34 (.getfield 9) 3 37 := by decide +kernel
theorem td_M_undo_37 : tz_dk prog_13_method_8_code 37 (.iload_n 1) 1 38 := by decide +kernel
theorem td_M_undo_38 : tz_dk prog_13_method_8_code 38 (.aload_n 0) 1 39 := by decide +kernel
theorem td_M_undo_39 : tz_dk prog_13_method_8_code 39 (.getfield 13) 3 42 := by decide +kernel
theorem td_M_undo_42 : tz_dk prog_13_method_8_code 42 (.aload_n 0) 1 43 := by decide +kernel
theorem td_M_undo_43 : tz_dk prog_13_method_8_code 43 (.getfield 46) 3 46 := by decide +kernel
theorem td_M_undo_46 : tz_dk prog_13_method_8_code 46 (.sipush 532) 3 49 := by decide +kernel
theorem td_M_undo_49 : tz_dk prog_13_method_8_code 49 (.imul) 1 50 := by decide +kernel
theorem td_M_undo_50 : tz_dk prog_13_method_8_code 50 (.iload_n 1) 1 51 := by decide +kernel
theorem td_M_undo_51 : tz_dk prog_13_method_8_code 51 (.iadd) 1 52 := by decide +kernel
theorem td_M_undo_52 : tz_dk prog_13_method_8_code 52 (.iaload) 1 53 := by decide +kernel
theorem td_M_undo_53 : tz_dk prog_13_method_8_code 53 (.iastore) 1 54 := by decide +kernel
theorem td_M_undo_54 : tz_dk prog_13_method_8_code 54 (.iinc 1 1) 3 57 := by decide +kernel
theorem td_M_undo_57 : tz_dj prog_13_method_8_code 57 (.goto (-31)) (-31) 60 26 := by decide +kernel
theorem td_M_undo_60 : tz_dk prog_13_method_8_code 60 (.aload_n 0) 1 61 := by decide +kernel
theorem td_M_undo_61 : tz_dk prog_13_method_8_code 61 (.getfield 46) 3 64 := by decide +kernel
theorem td_M_undo_64 : tz_dk prog_13_method_8_code 64 (.ireturn) 1 65 := by decide +kernel
theorem td_M_finding_0 : tz_dk prog_13_method_2_code 0 (.aload_n 0) 1 1 := by decide +kernel
theorem td_M_finding_1 : tz_dk prog_13_method_2_code 1 (.dup) 1 2 := by decide +kernel
theorem td_M_finding_2 : tz_dk prog_13_method_2_code 2 (.getfield 34) 3 5 := by decide +kernel
theorem td_M_finding_5 : tz_dk prog_13_method_2_code 5 (.iconst 1) 1 6 := by decide +kernel
theorem td_M_finding_6 : tz_dk prog_13_method_2_code 6 (.iadd) 1 7 := by decide +kernel
theorem td_M_finding_7 : tz_dk prog_13_method_2_code 7 (.putfield 34) 3 10 := by decide +kernel
theorem td_M_finding_10 : tz_dk prog_13_method_2_code 10 (.iload_n 1) 1 11 := by decide +kernel
theorem td_M_finding_11 : tz_dk prog_13_method_2_code 11 (.ireturn) 1 12 := by decide +kernel
theorem td_M_pass_0 : tz_dk prog_13_method_11_code 0 (.iload_n 1) 1 1 := by decide +kernel
theorem td_M_pass_1 : tz_dk prog_13_method_11_code 1 (.invokestatic 42) 3 4 := by decide +kernel
theorem td_M_pass_4 : tz_dj prog_13_method_11_code 4 (.ifCond .eq 13) (13) 7 17 := by decide +kernel
theorem td_M_pass_7 : tz_dk prog_13_method_11_code 7 (.iload_n 2) 1 8 := by decide +kernel
theorem td_M_pass_8 : tz_dk prog_13_method_11_code 8 (.iconst 0) 1 9 := by decide +kernel
theorem td_M_pass_9 : tz_dk prog_13_method_11_code 9 (.bipush 120) 2 11 := by decide +kernel
theorem td_M_pass_11 : tz_dk prog_13_method_11_code 11 (.invokestatic 38) 3 14 := by decide +kernel
theorem td_M_pass_14 : tz_dj prog_13_method_11_code 14 (.ifCond .ne 10) (10) 17 24 := by decide +kernel
theorem td_M_pass_17 : tz_dk prog_13_method_11_code 17 (.aload_n 0) 1 18 := by decide +kernel
theorem td_M_pass_18 : tz_dk prog_13_method_11_code 18 (.ldc 61) 2 20 := by decide +kernel
theorem td_M_pass_20 : tz_dk prog_13_method_11_code 20 (.invokevirtual 50) 3 23 := by decide +kernel
theorem td_M_pass_23 : tz_dk prog_13_method_11_code 23 (.ireturn) 1 24 := by decide +kernel
theorem td_M_pass_24 : tz_dk prog_13_method_11_code 24 (.aload_n 0) 1 25 := by decide +kernel
theorem td_M_pass_25 : tz_dk prog_13_method_11_code 25 (.invokevirtual 62) 3 28 := by decide +kernel
theorem td_M_pass_28 : tz_dk prog_13_method_11_code 28 (.aload_n 0) 1 29 := by decide +kernel
theorem td_M_pass_29 : tz_dk prog_13_method_11_code 29 (.getfield 9) 3 32 := by decide +kernel
theorem td_M_pass_32 : tz_dk prog_13_method_11_code 32 (.iconst 0) 1 33 := by decide +kernel
theorem td_M_pass_33 : tz_dk prog_13_method_11_code 33 (.iload_n 1) 1 34 := by decide +kernel
theorem td_M_pass_34 : tz_dk prog_13_method_11_code 34 (.iadd) 1 35 := by decide +kernel
theorem td_M_pass_35 : tz_dk prog_13_method_11_code 35 (.iaload) 1 36 := by decide +kernel
theorem td_M_pass_36 : tz_dk prog_13_method_11_code 36 (.istore_n 3) 1 37 := by decide +kernel
theorem td_M_pass_37 : tz_dk prog_13_method_11_code 37 (.aload_n 0) 1 38 := by decide +kernel
theorem td_M_pass_38 : tz_dk prog_13_method_11_code 38 (.getfield 9) 3 41 := by decide +kernel
theorem td_M_pass_41 : tz_dk prog_13_method_11_code 41 (.iconst 0) 1 42 := by decide +kernel
theorem td_M_pass_42 : tz_dk prog_13_method_11_code 42 (.iload_n 1) 1 43 := by decide +kernel
theorem td_M_pass_43 : tz_dk prog_13_method_11_code 43 (.iadd) 1 44 := by decide +kernel
theorem td_M_pass_44 : tz_dk prog_13_method_11_code 44 (.iload_n 2) 1 45 := by decide +kernel
theorem td_M_pass_45 : tz_dk prog_13_method_11_code 45 (.iastore) 1 46 := by decide +kernel
theorem td_M_pass_46 : tz_dk prog_13_method_11_code 46 (.iconst 0) 1 47 := by decide +kernel
theorem td_M_pass_47 : tz_dk prog_13_method_11_code 47 (.istore 4) 2 49 := by decide +kernel
theorem td_M_pass_49 : tz_dk prog_13_method_11_code 49 (.iload 4) 2 51 := by decide +kernel
theorem td_M_pass_51 : tz_dk prog_13_method_11_code 51 (.iload_n 2) 1 52 := by decide +kernel
theorem td_M_pass_52 : tz_dj prog_13_method_11_code 52 (.if_icmp .ge 24) (24) 55 76 := by decide +kernel
theorem td_M_pass_55 : tz_dk prog_13_method_11_code 55 (.aload_n 0) 1 56 := by decide +kernel
theorem td_M_pass_56 : tz_dk prog_13_method_11_code 56 (.getfield 9) 3 59 := by decide +kernel
theorem td_M_pass_59 : tz_dk prog_13_method_11_code 59 (.iconst 4) 1 60 := by decide +kernel
theorem td_M_pass_60 : tz_dk prog_13_method_11_code 60 (.bipush 120) 2 62 := by decide +kernel
theorem td_M_pass_62 : tz_dk prog_13_method_11_code 62 (.iload_n 1) 1 63 := by decide +kernel
theorem td_M_pass_63 : tz_dk prog_13_method_11_code 63 (.imul) 1 64 := by decide +kernel
theorem td_M_pass_64 : tz_dk prog_13_method_11_code 64 (.iadd) 1 65 := by decide +kernel
theorem td_M_pass_65 : tz_dk prog_13_method_11_code 65 (.iload 4) 2 67 := by decide +kernel
theorem td_M_pass_67 : tz_dk prog_13_method_11_code 67 (.iadd) 1 68 := by decide +kernel
theorem td_M_pass_68 : tz_dk prog_13_method_11_code 68 (.iconst 0) 1 69 := by decide +kernel
theorem td_M_pass_69 : tz_dk prog_13_method_11_code 69 (.iastore) 1 70 := by decide +kernel
theorem td_M_pass_70 : tz_dk prog_13_method_11_code 70 (.iinc 4 1) 3 73 := by decide +kernel
theorem td_M_pass_73 : tz_dj prog_13_method_11_code 73 (.goto (-24)) (-24) 76 49 := by decide +kernel
theorem td_M_pass_76 : tz_dk prog_13_method_11_code 76 (.iload_n 3) 1 77 := by decide +kernel
theorem td_M_pass_77 : tz_dk prog_13_method_11_code 77 (.ireturn) 1 78 := by decide +kernel
theorem td_M_isPass_0 : tz_dk prog_13_method_4_code 0 (.iload_n 0) 1 1 := by decide +kernel
theorem td_M_isPass_1 : tz_dk prog_13_method_4_code 1 (.iconst 0) 1 2 := by decide +kernel
theorem td_M_isPass_2 : tz_dk prog_13_method_4_code 2 (.iconst 3) 1 3 := by decide +kernel
theorem td_M_isPass_3 : tz_dk prog_13_method_4_code 3 (.invokestatic 38) 3 6 := by decide +kernel
theorem td_M_isPass_6 : tz_dk prog_13_method_4_code 6 (.ireturn) 1 7 := by decide +kernel
theorem td_M_in_0 : tz_dk prog_13_method_3_code 0 (.iload_n 0) 1 1 := by decide +kernel
theorem td_M_in_1 : tz_dk prog_13_method_3_code 1 (.iload_n 1) 1 2 := by decide +kernel
theorem td_M_in_2 : tz_dj prog_13_method_3_code 2 (.if_icmp .lt 12) (12) 5 14 := by decide +kernel
theorem td_M_in_5 : tz_dk prog_13_method_3_code 5 (.iload_n 0) 1 6 := by decide +kernel
theorem td_M_in_6 : tz_dk prog_13_method_3_code 6 (.iload_n 2) 1 7 := by decide +kernel
theorem td_M_in_7 : tz_dj prog_13_method_3_code 7 (.if_icmp .gt 7) (7) 10 14 := by decide +kernel
theorem td_M_in_10 : tz_dk prog_13_method_3_code 10 (.iconst 1) 1 11 := by decide +kernel
theorem td_M_in_11 : tz_dj prog_13_method_3_code 11 (.goto 4) (4) 14 15 := by decide +kernel
theorem td_M_in_14 : tz_dk prog_13_method_3_code 14 (.iconst 0) 1 15 := by decide +kernel
theorem td_M_in_15 : tz_dk prog_13_method_3_code 15 (.ireturn) 1 16 := by decide +kernel
theorem td_M_keep_0 : tz_dk prog_13_method_7_code 0 (.aload_n 0) 1 1 := by decide +kernel
theorem td_M_keep_1 : tz_dk prog_13_method_7_code 1 (.getfield 46) 3 4 := by decide +kernel
theorem td_M_keep_4 : tz_dk prog_13_method_7_code 4 (.bipush 20) 2 6 := by decide +kernel
theorem td_M_keep_6 : tz_dj prog_13_method_7_code 6 (.if_icmp .ne 44) (44) 9 50 := by decide +kernel
theorem td_M_keep_9 : tz_dk prog_13_method_7_code 9 (.iconst 0) 1 10 := by decide +kernel
theorem td_M_keep_10 : tz_dk prog_13_method_7_code 10 (.istore_n 1) 1 11 := by decide +kernel
theorem td_M_keep_11 : tz_dk prog_13_method_7_code 11 (.iload_n 1) 1 12 := by decide +kernel
theorem td_M_keep_12 : tz_dk prog_13_method_7_code 12 (.sipush 10108) 3 15 := by decide +kernel
theorem td_M_keep_15 : tz_dj prog_13_method_7_code 15 (.if_icmp .ge 25) (25) 18 40 := by decide +kernel
theorem td_M_keep_18 : tz_dk prog_13_method_7_code 18 (.aload_n 0) 1 19 := by decide +kernel
theorem td_M_keep_19 : tz_dk prog_13_method_7_code 19 (.getfield 13) 3 22 := by decide +kernel
theorem td_M_keep_22 : tz_dk prog_13_method_7_code 22 (.iload_n 1) 1 23 := by decide +kernel
theorem td_M_keep_23 : tz_dk prog_13_method_7_code 23 (.aload_n 0) 1 24 := by decide +kernel
theorem td_M_keep_24 : tz_dk prog_13_method_7_code 24 (.getfield 13) 3 27 := by decide +kernel
theorem td_M_keep_27 : tz_dk prog_13_method_7_code 27 (.iload_n 1) 1 28 := by decide +kernel
theorem td_M_keep_28 : tz_dk prog_13_method_7_code 28 (.sipush 532) 3 31 := by decide +kernel
theorem td_M_keep_31 : tz_dk prog_13_method_7_code 31 (.iadd) 1 32 := by decide +kernel
theorem td_M_keep_32 : tz_dk prog_13_method_7_code 32 (.iaload) 1 33 := by decide +kernel
theorem td_M_keep_33 : tz_dk prog_13_method_7_code 33 (.iastore) 1 34 := by decide +kernel
theorem td_M_keep_34 : tz_dk prog_13_method_7_code 34 (.iinc 1 1) 3 37 := by decide +kernel
theorem td_M_keep_37 : tz_dj prog_13_method_7_code 37 (.goto (-26)) (-26) 40 11 := by decide +kernel
theorem td_M_keep_40 : tz_dk prog_13_method_7_code 40 (.aload_n 0) 1 41 := by decide +kernel
theorem td_M_keep_41 : tz_dk prog_13_method_7_code 41 (.dup) 1 42 := by decide +kernel
theorem td_M_keep_42 : tz_dk prog_13_method_7_code 42 (.getfield 46) 3 45 := by decide +kernel
theorem td_M_keep_45 : tz_dk prog_13_method_7_code 45 (.iconst 1) 1 46 := by decide +kernel
theorem td_M_keep_46 : tz_dk prog_13_method_7_code 46 (.isub) 1 47 := by decide +kernel
theorem td_M_keep_47 : tz_dk prog_13_method_7_code 47 (.putfield 46) 3 50 := by decide +kernel
theorem td_M_keep_50 : tz_dk prog_13_method_7_code 50 (.iconst 0) 1 51 := by decide +kernel
theorem td_M_keep_51 : tz_dk prog_13_method_7_code 51 (.istore_n 1) 1 52 := by decide +kernel
theorem td_M_keep_52 : tz_dk prog_13_method_7_code 52 (.iload_n 1) 1 53 := by decide +kernel
theorem td_M_keep_53 : tz_dk prog_13_method_7_code 53 (.sipush 532) 3 56 := by decide +kernel
theorem td_M_keep_56 : tz_dj prog_13_method_7_code 56 (.if_icmp .ge 30) (30) 59 86 := by decide +kernel
theorem td_M_keep_59 : tz_dk prog_13_method_7_code 59 (.aload_n 0) 1 60 := by decide +kernel
theorem td_M_keep_60 : tz_dk prog_13_method_7_code 60 (.getfield 13) 3 63 := by decide +kernel
theorem td_M_keep_63 : tz_dk prog_13_method_7_code 63 (.aload_n 0) 1 64 := by decide +kernel
theorem td_M_keep_64 : tz_dk prog_13_method_7_code 64 (.getfield 46) 3 67 := by decide +kernel
theorem td_M_keep_67 : tz_dk prog_13_method_7_code 67 (.sipush 532) 3 70 := by decide +kernel
theorem td_M_keep_70 : tz_dk prog_13_method_7_code 70 (.imul) 1 71 := by decide +kernel
theorem td_M_keep_71 : tz_dk prog_13_method_7_code 71 (.iload_n 1) 1 72 := by decide +kernel
theorem td_M_keep_72 : tz_dk prog_13_method_7_code 72 (.iadd) 1 73 := by decide +kernel
theorem td_M_keep_73 : tz_dk prog_13_method_7_code 73 (.aload_n 0) 1 74 := by decide +kernel
theorem td_M_keep_74 : tz_dk prog_13_method_7_code 74 (.getfield 9) 3 77 := by decide +kernel
theorem td_M_keep_77 : tz_dk prog_13_method_7_code 77 (.iload_n 1) 1 78 := by decide +kernel
theorem td_M_keep_78 : tz_dk prog_13_method_7_code 78 (.iaload) 1 79 := by decide +kernel
theorem td_M_keep_79 : tz_dk prog_13_method_7_code 79 (.iastore) 1 80 := by decide +kernel
theorem td_M_keep_80 : tz_dk prog_13_method_7_code 80 (.iinc 1 1) 3 83 := by decide +kernel
theorem td_M_keep_83 : tz_dj prog_13_method_7_code 83 (.goto (-31)) (-31) 86 52 := by decide +kernel
theorem td_M_keep_86 : tz_dk prog_13_method_7_code 86 (.aload_n 0) 1 87 := by decide +kernel
theorem td_M_keep_87 : tz_dk prog_13_method_7_code 87 (.dup) 1 88 := by decide +kernel
theorem td_M_keep_88 : tz_dk prog_13_method_7_code 88 (.getfield 46) 3 91 := by decide +kernel
theorem td_M_keep_91 : tz_dk prog_13_method_7_code 91 (.iconst 1) 1 92 := by decide +kernel
theorem td_M_keep_92 : tz_dk prog_13_method_7_code 92 (.iadd) 1 93 := by decide +kernel
theorem td_M_keep_93 : tz_dk prog_13_method_7_code 93 (.putfield 46) 3 96 := by decide +kernel
theorem td_M_keep_96 : tz_dk prog_13_method_7_code 96 (.return_) 1 97 := by decide +kernel
theorem td_M_put_0 : tz_dk prog_13_method_12_code 0 (.aload_n 0) 1 1 := by decide +kernel
theorem td_M_put_1 : tz_dk prog_13_method_12_code 1 (.iload_n 1) 1 2 := by decide +kernel
theorem td_M_put_2 : tz_dk prog_13_method_12_code 2 (.iload_n 2) 1 3 := by decide +kernel
theorem td_M_put_3 : tz_dk prog_13_method_12_code 3 (.invokevirtual 65) 3 6 := by decide +kernel
theorem td_M_put_6 : tz_dj prog_13_method_12_code 6 (.ifCond .eq 16) (16) 9 22 := by decide +kernel
theorem td_M_put_9 : tz_dk prog_13_method_12_code 9 (.iload_n 3) 1 10 := by decide +kernel
theorem td_M_put_10 : tz_dk prog_13_method_12_code 10 (.sipush (-10000)) 3 13 := by decide +kernel
theorem td_M_put_13 : tz_dk prog_13_method_12_code 13 (.sipush 10000) 3 16 := by decide +kernel
theorem td_M_put_16 : tz_dk prog_13_method_12_code 16 (.invokestatic 38) 3 19 := by decide +kernel
theorem td_M_put_19 : tz_dj prog_13_method_12_code 19 (.ifCond .ne 10) (10) 22 29 := by decide +kernel
theorem td_M_put_22 : tz_dk prog_13_method_12_code 22 (.aload_n 0) 1 23 := by decide +kernel
theorem td_M_put_23 : tz_dk prog_13_method_12_code 23 (.ldc 61) 2 25 := by decide +kernel
theorem td_M_put_25 : tz_dk prog_13_method_12_code 25 (.invokevirtual 50) 3 28 := by decide +kernel
theorem td_M_put_28 : tz_dk prog_13_method_12_code 28 (.ireturn) 1 29 := by decide +kernel
theorem td_M_put_29 : tz_dk prog_13_method_12_code 29 (.aload_n 0) 1 30 := by decide +kernel
theorem td_M_put_30 : tz_dk prog_13_method_12_code 30 (.invokevirtual 62) 3 33 := by decide +kernel
theorem td_M_put_33 : tz_dk prog_13_method_12_code 33 (.aload_n 0) 1 34 := by decide +kernel
theorem td_M_put_34 : tz_dk prog_13_method_12_code 34 (.iload_n 1) 1 35 := by decide +kernel
theorem td_M_put_35 : tz_dk prog_13_method_12_code 35 (.iload_n 2) 1 36 := by decide +kernel
theorem td_M_put_36 : tz_dk prog_13_method_12_code 36 (.invokevirtual 57) 3 39 := by decide +kernel
theorem td_M_put_39 : tz_dk prog_13_method_12_code 39 (.istore 4) 2 41 := by decide +kernel
theorem td_M_put_41 : tz_dk prog_13_method_12_code 41 (.aload_n 0) 1 42 := by decide +kernel
theorem td_M_put_42 : tz_dk prog_13_method_12_code 42 (.getfield 9) 3 45 := by decide +kernel
theorem td_M_put_45 : tz_dk prog_13_method_12_code 45 (.iconst 4) 1 46 := by decide +kernel
theorem td_M_put_46 : tz_dk prog_13_method_12_code 46 (.bipush 120) 2 48 := by decide +kernel
theorem td_M_put_48 : tz_dk prog_13_method_12_code 48 (.iload_n 1) 1 49 := by decide +kernel
theorem td_M_put_49 : tz_dk prog_13_method_12_code 49 (.imul) 1 50 := by decide +kernel
theorem td_M_put_50 : tz_dk prog_13_method_12_code 50 (.iadd) 1 51 := by decide +kernel
theorem td_M_put_51 : tz_dk prog_13_method_12_code 51 (.iload_n 2) 1 52 := by decide +kernel
theorem td_M_put_52 : tz_dk prog_13_method_12_code 52 (.iadd) 1 53 := by decide +kernel
theorem td_M_put_53 : tz_dk prog_13_method_12_code 53 (.iload_n 3) 1 54 := by decide +kernel
theorem td_M_put_54 : tz_dk prog_13_method_12_code 54 (.iastore) 1 55 := by decide +kernel
theorem td_M_put_55 : tz_dk prog_13_method_12_code 55 (.iload 4) 2 57 := by decide +kernel
theorem td_M_put_57 : tz_dk prog_13_method_12_code 57 (.ldc 69) 2 59 := by decide +kernel
theorem td_M_put_59 : tz_dj prog_13_method_12_code 59 (.if_icmp .ne 7) (7) 62 66 := by decide +kernel
theorem td_M_put_62 : tz_dk prog_13_method_12_code 62 (.iconst 1) 1 63 := by decide +kernel
theorem td_M_put_63 : tz_dj prog_13_method_12_code 63 (.goto 4) (4) 66 67 := by decide +kernel
theorem td_M_put_66 : tz_dk prog_13_method_12_code 66 (.iconst 0) 1 67 := by decide +kernel
theorem td_M_put_67 : tz_dk prog_13_method_12_code 67 (.ireturn) 1 68 := by decide +kernel
theorem td_M_isSample_0 : tz_dk prog_13_method_5_code 0 (.iload_n 1) 1 1 := by decide +kernel
theorem td_M_isSample_1 : tz_dk prog_13_method_5_code 1 (.invokestatic 42) 3 4 := by decide +kernel
theorem td_M_isSample_4 : tz_dj prog_13_method_5_code 4 (.ifCond .eq 25) (25) 7 29 := by decide +kernel
theorem td_M_isSample_7 : tz_dk prog_13_method_5_code 7 (.iload_n 2) 1 8 := by decide +kernel
theorem td_M_isSample_8 : tz_dk prog_13_method_5_code 8 (.iconst 0) 1 9 := by decide +kernel
theorem td_M_isSample_9 : tz_dk prog_13_method_5_code 9 (.aload_n 0) 1 10 := by decide +kernel
theorem td_M_isSample_10 : tz_dk prog_13_method_5_code 10 (.getfield 9) 3 13 := by decide +kernel
theorem td_M_isSample_13 : tz_dk prog_13_method_5_code 13 (.iconst 0) 1 14 := by decide +kernel
theorem td_M_isSample_14 : tz_dk prog_13_method_5_code 14 (.iload_n 1) 1 15 := by decide +kernel
theorem td_M_isSample_15 : tz_dk prog_13_method_5_code 15 (.iadd) 1 16 := by decide +kernel
theorem td_M_isSample_16 : tz_dk prog_13_method_5_code 16 (.iaload) 1 17 := by decide +kernel
theorem td_M_isSample_17 : tz_dk prog_13_method_5_code 17 (.iconst 1) 1 18 := by decide +kernel
theorem td_M_isSample_18 : tz_dk prog_13_method_5_code 18 (.isub) 1 19 := by decide +kernel
theorem td_M_isSample_19 : tz_dk prog_13_method_5_code 19 (.invokestatic 38) 3 22 := by decide +kernel
theorem td_M_isSample_22 : tz_dj prog_13_method_5_code 22 (.ifCond .eq 7) (7) 25 29 := by decide +kernel
theorem td_M_isSample_25 : tz_dk prog_13_method_5_code 25 (.iconst 1) 1 26 := by decide +kernel
theorem td_M_isSample_26 : tz_dj prog_13_method_5_code 26 (.goto 4) (4) 29 30 := by decide +kernel
theorem td_M_isSample_29 : tz_dk prog_13_method_5_code 29 (.iconst 0) 1 30 := by decide +kernel
theorem td_M_isSample_30 : tz_dk prog_13_method_5_code 30 (.ireturn) 1 31 := by decide +kernel
theorem td_M_at_0 : tz_dk prog_13_method_6_code 0 (.aload_n 0) 1 1 := by decide +kernel
theorem td_M_at_1 : tz_dk prog_13_method_6_code 1 (.getfield 9) 3 4 := by decide +kernel
theorem td_M_at_4 : tz_dk prog_13_method_6_code 4 (.iconst 4) 1 5 := by decide +kernel
theorem td_M_at_5 : tz_dk prog_13_method_6_code 5 (.bipush 120) 2 7 := by decide +kernel
theorem td_M_at_7 : tz_dk prog_13_method_6_code 7 (.iload_n 1) 1 8 := by decide +kernel
theorem td_M_at_8 : tz_dk prog_13_method_6_code 8 (.imul) 1 9 := by decide +kernel
theorem td_M_at_9 : tz_dk prog_13_method_6_code 9 (.iadd) 1 10 := by decide +kernel
theorem td_M_at_10 : tz_dk prog_13_method_6_code 10 (.iload_n 2) 1 11 := by decide +kernel
theorem td_M_at_11 : tz_dk prog_13_method_6_code 11 (.iadd) 1 12 := by decide +kernel
theorem td_M_at_12 : tz_dk prog_13_method_6_code 12 (.iaload) 1 13 := by decide +kernel
theorem td_M_at_13 : tz_dk prog_13_method_6_code 13 (.ireturn) 1 14 := by decide +kernel
theorem td_M_lose_0 : tz_dk prog_13_method_13_code 0 (.iload_n 1) 1 1 := by decide +kernel
theorem td_M_lose_1 : tz_dk prog_13_method_13_code 1 (.invokestatic 42) 3 4 := by decide +kernel
theorem td_M_lose_4 : tz_dj prog_13_method_13_code 4 (.ifCond .eq 29) (29) 7 33 := by decide +kernel
theorem td_M_lose_7 : tz_dk prog_13_method_13_code 7 (.iload_n 3) 1 8 := by decide +kernel
theorem td_M_lose_8 : tz_dj prog_13_method_13_code 8 (.ifCond .lt 25) (25) 11 33 := by decide +kernel
theorem td_M_lose_11 : tz_dk prog_13_method_13_code 11 (.iload_n 2) 1 12 := by decide +kernel
theorem td_M_lose_12 : tz_dj prog_13_method_13_code 12 (.ifCond .lt 21) (21) 15 33 := by decide +kernel
theorem td_M_lose_15 : tz_dk prog_13_method_13_code 15 (.iload_n 2) 1 16 := by decide +kernel
theorem td_M_lose_16 : tz_dk prog_13_method_13_code 16 (.i2l) 1 17 := by decide +kernel
theorem td_M_lose_17 : tz_dk prog_13_method_13_code 17 (.iload_n 3) 1 18 := by decide +kernel
theorem td_M_lose_18 : tz_dk prog_13_method_13_code 18 (.i2l) 1 19 := by decide +kernel
theorem td_M_lose_19 : tz_dk prog_13_method_13_code 19 (.ladd) 1 20 := by decide +kernel
theorem td_M_lose_20 : tz_dk prog_13_method_13_code 20 (.aload_n 0) 1 21 := by decide +kernel
theorem td_M_lose_21 : tz_dk prog_13_method_13_code 21 (.getfield 9) 3 24 := by decide +kernel
theorem td_M_lose_24 : tz_dk prog_13_method_13_code 24 (.iconst 0) 1 25 := by decide +kernel
theorem td_M_lose_25 : tz_dk prog_13_method_13_code 25 (.iload_n 1) 1 26 := by decide +kernel
theorem td_M_lose_26 : tz_dk prog_13_method_13_code 26 (.iadd) 1 27 := by decide +kernel
theorem td_M_lose_27 : tz_dk prog_13_method_13_code 27 (.iaload) 1 28 := by decide +kernel
theorem td_M_lose_28 : tz_dk prog_13_method_13_code 28 (.i2l) 1 29 := by decide +kernel
theorem td_M_lose_29 : tz_dk prog_13_method_13_code 29 (.lcmp) 1 30 := by decide +kernel
theorem td_M_lose_30 : tz_dj prog_13_method_13_code 30 (.ifCond .le 10) (10) 33 40 := by decide +kernel
theorem td_M_lose_33 : tz_dk prog_13_method_13_code 33 (.aload_n 0) 1 34 := by decide +kernel
theorem td_M_lose_34 : tz_dk prog_13_method_13_code 34 (.ldc 61) 2 36 := by decide +kernel
theorem td_M_lose_36 : tz_dk prog_13_method_13_code 36 (.invokevirtual 50) 3 39 := by decide +kernel
theorem td_M_lose_39 : tz_dk prog_13_method_13_code 39 (.ireturn) 1 40 := by decide +kernel
theorem td_M_lose_40 : tz_dk prog_13_method_13_code 40 (.aload_n 0) 1 41 := by decide +kernel
theorem td_M_lose_41 : tz_dk prog_13_method_13_code 41 (.invokevirtual 62) 3 44 := by decide +kernel
theorem td_M_lose_44 : tz_dk prog_13_method_13_code 44 (.iconst 0) 1 45 := by decide +kernel
theorem td_M_lose_45 : tz_dk prog_13_method_13_code 45 (.istore 4) 2 47 := by decide +kernel
theorem td_M_lose_47 : tz_dk prog_13_method_13_code 47 (.iload_n 2) 1 48 := by decide +kernel
theorem td_M_lose_48 : tz_dk prog_13_method_13_code 48 (.istore 5) 2 50 := by decide +kernel
theorem td_M_lose_50 : tz_dk prog_13_method_13_code 50 (.iload 5) 2 52 := by decide +kernel
theorem td_M_lose_52 : tz_dk prog_13_method_13_code 52 (.iload_n 2) 1 53 := by decide +kernel
theorem td_M_lose_53 : tz_dk prog_13_method_13_code 53 (.iload_n 3) 1 54 := by decide +kernel
theorem td_M_lose_54 : tz_dk prog_13_method_13_code 54 (.iadd) 1 55 := by decide +kernel
theorem td_M_lose_55 : tz_dj prog_13_method_13_code 55 (.if_icmp .ge 47) (47) 58 102 := by decide +kernel
theorem td_M_lose_58 : tz_dk prog_13_method_13_code 58 (.iload 4) 2 60 := by decide +kernel
theorem td_M_lose_60 : tz_dk prog_13_method_13_code 60 (.aload_n 0) 1 61 := by decide +kernel
theorem td_M_lose_61 : tz_dk prog_13_method_13_code 61 (.iload_n 1) 1 62 := by decide +kernel
theorem td_M_lose_62 : tz_dk prog_13_method_13_code 62 (.iload 5) 2 64 := by decide +kernel
theorem td_M_lose_64 : tz_dk prog_13_method_13_code 64 (.invokevirtual 57) 3 67 := by decide +kernel
theorem td_M_lose_67 : tz_dk prog_13_method_13_code 67 (.ldc 69) 2 69 := by decide +kernel
theorem td_M_lose_69 : tz_dj prog_13_method_13_code 69 (.if_icmp .ne 7) (7) 72 76 := by decide +kernel
theorem td_M_lose_72 : tz_dk prog_13_method_13_code 72 (.iconst 0) 1 73 := by decide +kernel
theorem td_M_lose_73 : tz_dj prog_13_method_13_code 73 (.goto 4) (4) 76 77 := by decide +kernel
theorem td_M_lose_76 : tz_dk prog_13_method_13_code 76 (.iconst 1) 1 77 := by decide +kernel
theorem td_M_lose_77 : tz_dk prog_13_method_13_code 77 (.iadd) 1 78 := by decide +kernel
theorem td_M_lose_78 : tz_dk prog_13_method_13_code 78 (.istore 4) 2 80 := by decide +kernel
theorem td_M_lose_80 : tz_dk prog_13_method_13_code 80 (.aload_n 0) 1 81 := by decide +kernel
theorem td_M_lose_81 : tz_dk prog_13_method_13_code 81 (.getfield 9) 3 84 := by decide +kernel
theorem td_M_lose_84 : tz_dk prog_13_method_13_code 84 (.iconst 4) 1 85 := by decide +kernel
theorem td_M_lose_85 : tz_dk prog_13_method_13_code 85 (.bipush 120) 2 87 := by decide +kernel
theorem td_M_lose_87 : tz_dk prog_13_method_13_code 87 (.iload_n 1) 1 88 := by decide +kernel
theorem td_M_lose_88 : tz_dk prog_13_method_13_code 88 (.imul) 1 89 := by decide +kernel
theorem td_M_lose_89 : tz_dk prog_13_method_13_code 89 (.iadd) 1 90 := by decide +kernel
theorem td_M_lose_90 : tz_dk prog_13_method_13_code 90 (.iload 5) 2 92 := by decide +kernel
theorem td_M_lose_92 : tz_dk prog_13_method_13_code 92 (.iadd) 1 93 := by decide +kernel
theorem td_M_lose_93 : tz_dk prog_13_method_13_code 93 (.ldc 69) 2 95 := by decide +kernel
theorem td_M_lose_95 : tz_dk prog_13_method_13_code 95 (.iastore) 1 96 := by decide +kernel
theorem td_M_lose_96 : tz_dk prog_13_method_13_code 96 (.iinc 5 1) 3 99 := by decide +kernel
theorem td_M_lose_99 : tz_dj prog_13_method_13_code 99 (.goto (-49)) (-49) 102 50 := by decide +kernel
theorem td_M_lose_102 : tz_dk prog_13_method_13_code 102 (.iload 4) 2 104 := by decide +kernel
theorem td_M_lose_104 : tz_dk prog_13_method_13_code 104 (.ireturn) 1 105 := by decide +kernel
theorem td_M_sample_0 : tz_dk prog_13_method_14_code 0 (.aload_n 0) 1 1 := by decide +kernel
theorem td_M_sample_1 : tz_dk prog_13_method_14_code 1 (.iload_n 1) 1 2 := by decide +kernel
theorem td_M_sample_2 : tz_dk prog_13_method_14_code 2 (.iload_n 2) 1 3 := by decide +kernel
theorem td_M_sample_3 : tz_dk prog_13_method_14_code 3 (.invokevirtual 65) 3 6 := by decide +kernel
theorem td_M_sample_6 : tz_dj prog_13_method_14_code 6 (.ifCond .ne 10) (10) 9 16 := by decide +kernel
theorem td_M_sample_9 : tz_dk prog_13_method_14_code 9 (.aload_n 0) 1 10 := by decide +kernel
theorem td_M_sample_10 : tz_dk prog_13_method_14_code 10 (.ldc 61) 2 12 := by decide +kernel
theorem td_M_sample_12 : tz_dk prog_13_method_14_code 12 (.invokevirtual 50) 3 15 := by decide +kernel
theorem td_M_sample_15 : tz_dk prog_13_method_14_code 15 (.ireturn) 1 16 := by decide +kernel
theorem td_M_sample_16 : tz_dk prog_13_method_14_code 16 (.aload_n 0) 1 17 := by decide +kernel
theorem td_M_sample_17 : tz_dk prog_13_method_14_code 17 (.iload_n 1) 1 18 := by decide +kernel
theorem td_M_sample_18 : tz_dk prog_13_method_14_code 18 (.iload_n 2) 1 19 := by decide +kernel
theorem td_M_sample_19 : tz_dk prog_13_method_14_code 19 (.invokevirtual 57) 3 22 := by decide +kernel
theorem td_M_sample_22 : tz_dk prog_13_method_14_code 22 (.ldc 69) 2 24 := by decide +kernel
theorem td_M_sample_24 : tz_dj prog_13_method_14_code 24 (.if_icmp .ne 12) (12) 27 36 := by decide +kernel
theorem td_M_sample_27 : tz_dk prog_13_method_14_code 27 (.aload_n 0) 1 28 := by decide +kernel
theorem td_M_sample_28 : tz_dk prog_13_method_14_code 28 (.ldc 70) 2 30 := by decide +kernel
theorem td_M_sample_30 : tz_dk prog_13_method_14_code 30 (.invokevirtual 50) 3 33 := by decide +kernel
theorem td_M_sample_33 : tz_dj prog_13_method_14_code 33 (.goto 9) (9) 36 42 := by decide +kernel
theorem td_M_sample_36 : tz_dk prog_13_method_14_code 36 (.aload_n 0) 1 37 := by decide +kernel
theorem td_M_sample_37 : tz_dk prog_13_method_14_code 37 (.iload_n 1) 1 38 := by decide +kernel
theorem td_M_sample_38 : tz_dk prog_13_method_14_code 38 (.iload_n 2) 1 39 := by decide +kernel
theorem td_M_sample_39 : tz_dk prog_13_method_14_code 39 (.invokevirtual 57) 3 42 := by decide +kernel
theorem td_M_sample_42 : tz_dk prog_13_method_14_code 42 (.ireturn) 1 43 := by decide +kernel
theorem td_M_about_0 : tz_dk prog_13_method_20_code 0 (.iload_n 1) 1 1 := by decide +kernel
theorem td_M_about_1 : tz_dk prog_13_method_20_code 1 (.invokestatic 42) 3 4 := by decide +kernel
theorem td_M_about_4 : tz_dj prog_13_method_20_code 4 (.ifCond .eq 12) (12) 7 16 := by decide +kernel
theorem td_M_about_7 : tz_dk prog_13_method_20_code 7 (.iload_n 2) 1 8 := by decide +kernel
theorem td_M_about_8 : tz_dk prog_13_method_20_code 8 (.iconst 0) 1 9 := by decide +kernel
theorem td_M_about_9 : tz_dk prog_13_method_20_code 9 (.iconst 3) 1 10 := by decide +kernel
theorem td_M_about_10 : tz_dk prog_13_method_20_code 10 (.invokestatic 38) 3 13 := by decide +kernel
theorem td_M_about_13 : tz_dj prog_13_method_20_code 13 (.ifCond .ne 10) (10) 16 23 := by decide +kernel
theorem td_M_about_16 : tz_dk prog_13_method_20_code 16 (.aload_n 0) 1 17 := by decide +kernel
theorem td_M_about_17 : tz_dk prog_13_method_20_code 17 (.ldc 61) 2 19 := by decide +kernel
theorem td_M_about_19 : tz_dk prog_13_method_20_code 19 (.invokevirtual 50) 3 22 := by decide +kernel
theorem td_M_about_22 : tz_dk prog_13_method_20_code 22 (.ireturn) 1 23 := by decide +kernel
theorem td_M_about_23 : tz_dk prog_13_method_20_code 23 (.aload_n 0) 1 24 := by decide +kernel
theorem td_M_about_24 : tz_dk prog_13_method_20_code 24 (.iload_n 1) 1 25 := by decide +kernel
theorem td_M_about_25 : tz_dk prog_13_method_20_code 25 (.invokevirtual 74) 3 28 := by decide +kernel
theorem td_M_about_28 : tz_dk prog_13_method_20_code 28 (.iload_n 2) 1 29 := by decide +kernel
theorem td_M_about_29 : tz_dk prog_13_method_20_code 29 (.iconst 3) 1 30 := by decide +kernel
theorem td_M_about_30 : tz_dj prog_13_method_20_code 30 (.if_icmp .ge 31) (31) 33 61 := by decide +kernel
theorem td_M_about_33 : tz_dk prog_13_method_20_code 33 (.iload_n 2) 1 34 := by decide +kernel
theorem td_M_about_34 : tz_dj prog_13_method_20_code 34 (.ifCond .ne 10) (10) 37 44 := by decide +kernel
theorem td_M_about_37 : tz_dk prog_13_method_20_code 37 (.aload_n 0) 1 38 := by decide +kernel
theorem td_M_about_38 : tz_dk prog_13_method_20_code 38 (.getfield 54) 3 41 := by decide +kernel
theorem td_M_about_41 : tz_dj prog_13_method_20_code 41 (.goto 19) (19) 44 60 := by decide +kernel
theorem td_M_about_44 : tz_dk prog_13_method_20_code 44 (.iload_n 2) 1 45 := by decide +kernel
theorem td_M_about_45 : tz_dk prog_13_method_20_code 45 (.iconst 1) 1 46 := by decide +kernel
theorem td_M_about_46 : tz_dj prog_13_method_20_code 46 (.if_icmp .ne 10) (10) 49 56 := by decide +kernel
theorem td_M_about_49 : tz_dk prog_13_method_20_code 49 (.aload_n 0) 1 50 := by decide +kernel
theorem td_M_about_50 : tz_dk prog_13_method_20_code 50 (.invokevirtual 78) 3 53 := by decide +kernel
theorem td_M_about_53 : tz_dj prog_13_method_20_code 53 (.goto 7) (7) 56 60 := by decide +kernel
theorem td_M_about_56 : tz_dk prog_13_method_20_code 56 (.aload_n 0) 1 57 := by decide +kernel
theorem td_M_about_57 : tz_dk prog_13_method_20_code 57 (.invokevirtual 82) 3 60 := by decide +kernel
theorem td_M_about_60 : tz_dk prog_13_method_20_code 60 (.ireturn) 1 61 := by decide +kernel
theorem td_M_about_61 : tz_dk prog_13_method_20_code 61 (.iconst 0) 1 62 := by decide +kernel
theorem td_M_about_62 : tz_dk prog_13_method_20_code 62 (.istore_n 3) 1 63 := by decide +kernel
theorem td_M_about_63 : tz_dk prog_13_method_20_code 63 (.iconst 0) 1 64 := by decide +kernel
theorem td_M_about_64 : tz_dk prog_13_method_20_code 64 (.istore 4) 2 66 := by decide +kernel
theorem td_M_about_66 : tz_dk prog_13_method_20_code 66 (.iload 4) 2 68 := by decide +kernel
theorem td_M_about_68 : tz_dk prog_13_method_20_code 68 (.aload_n 0) 1 69 := by decide +kernel
theorem td_M_about_69 : tz_dk prog_13_method_20_code 69 (.getfield 54) 3 72 := by decide +kernel
theorem td_M_about_72 : tz_dj prog_13_method_20_code 72 (.if_icmp .ge 28) (28) 75 100 := by decide +kernel
theorem td_M_about_75 : tz_dk prog_13_method_20_code 75 (.iload_n 3) 1 76 := by decide +kernel
theorem td_M_about_76 : tz_dk prog_13_method_20_code 76 (.aload_n 0) 1 77 := by decide +kernel
theorem td_M_about_77 : tz_dk prog_13_method_20_code 77 (.iload 4) 2 79 := by decide +kernel
theorem td_M_about_79 : tz_dk prog_13_method_20_code 79 (.bipush 100) 2 81 := by decide +kernel
theorem td_M_about_81 : tz_dk prog_13_method_20_code 81 (.invokevirtual 85) 3 84 := by decide +kernel
theorem td_M_about_84 : tz_dj prog_13_method_20_code 84 (.ifCond .eq 7) (7) 87 91 := by decide +kernel
theorem td_M_about_87 : tz_dk prog_13_method_20_code 87 (.iconst 1) 1 88 := by decide +kernel
theorem td_M_about_88 : tz_dj prog_13_method_20_code 88 (.goto 4) (4) 91 92 := by decide +kernel
theorem td_M_about_91 : tz_dk prog_13_method_20_code 91 (.iconst 0) 1 92 := by decide +kernel
theorem td_M_about_92 : tz_dk prog_13_method_20_code 92 (.iadd) 1 93 := by decide +kernel
theorem td_M_about_93 : tz_dk prog_13_method_20_code 93 (.istore_n 3) 1 94 := by decide +kernel
theorem td_M_about_94 : tz_dk prog_13_method_20_code 94 (.iinc 4 1) 3 97 := by decide +kernel
theorem td_M_about_97 : tz_dj prog_13_method_20_code 97 (.goto (-31)) (-31) 100 66 := by decide +kernel
theorem td_M_about_100 : tz_dk prog_13_method_20_code 100 (.iload_n 3) 1 101 := by decide +kernel
theorem td_M_about_101 : tz_dk prog_13_method_20_code 101 (.ireturn) 1 102 := by decide +kernel
theorem td_M_takePass_0 : tz_dk prog_13_method_9_code 0 (.aload_n 0) 1 1 := by decide +kernel
theorem td_M_takePass_1 : tz_dk prog_13_method_9_code 1 (.aload_n 0) 1 2 := by decide +kernel
theorem td_M_takePass_2 : tz_dk prog_13_method_9_code 2 (.getfield 9) 3 5 := by decide +kernel
theorem td_M_takePass_5 : tz_dk prog_13_method_9_code 5 (.iconst 0) 1 6 := by decide +kernel
theorem td_M_takePass_6 : tz_dk prog_13_method_9_code 6 (.iload_n 1) 1 7 := by decide +kernel
theorem td_M_takePass_7 : tz_dk prog_13_method_9_code 7 (.iadd) 1 8 := by decide +kernel
theorem td_M_takePass_8 : tz_dk prog_13_method_9_code 8 (.iaload) 1 9 := by decide +kernel
theorem td_M_takePass_9 : tz_dk prog_13_method_9_code 9 (.putfield 54) 3 12 := by decide +kernel
theorem td_M_takePass_12 : tz_dk prog_13_method_9_code 12 (.iconst 0) 1 13 := by decide +kernel
theorem td_M_takePass_13 : tz_dk prog_13_method_9_code 13 (.istore_n 2) 1 14 := by decide +kernel
theorem td_M_takePass_14 : tz_dk prog_13_method_9_code 14 (.iload_n 2) 1 15 := by decide +kernel
theorem td_M_takePass_15 : tz_dk prog_13_method_9_code 15 (.aload_n 0) 1 16 := by decide +kernel
theorem td_M_takePass_16 : tz_dk prog_13_method_9_code 16 (.getfield 54) 3 19 := by decide +kernel
theorem td_M_takePass_19 : tz_dj prog_13_method_9_code 19 (.if_icmp .ge 21) (21) 22 40 := by decide +kernel
theorem td_M_takePass_22 : tz_dk prog_13_method_9_code 22 (.aload_n 0) 1 23 := by decide +kernel
theorem td_M_takePass_23 : tz_dk prog_13_method_9_code 23 (.getfield 25) 3 26 := by decide +kernel
theorem td_M_takePass_26 : tz_dk prog_13_method_9_code 26 (.iload_n 2) 1 27 := by decide +kernel
theorem td_M_takePass_27 : tz_dk prog_13_method_9_code 27 (.aload_n 0) 1 28 := by decide +kernel
theorem td_M_takePass_28 : tz_dk prog_13_method_9_code 28 (.iload_n 1) 1 29 := by decide +kernel
theorem td_M_takePass_29 : tz_dk prog_13_method_9_code 29 (.iload_n 2) 1 30 := by decide +kernel
theorem td_M_takePass_30 : tz_dk prog_13_method_9_code 30 (.invokevirtual 57) 3 33 := by decide +kernel
theorem td_M_takePass_33 : tz_dk prog_13_method_9_code 33 (.iastore) 1 34 := by decide +kernel
theorem td_M_takePass_34 : tz_dk prog_13_method_9_code 34 (.iinc 2 1) 3 37 := by decide +kernel
theorem td_M_takePass_37 : tz_dj prog_13_method_9_code 37 (.goto (-23)) (-23) 40 14 := by decide +kernel
theorem td_M_takePass_40 : tz_dk prog_13_method_9_code 40 (.return_) 1 41 := by decide +kernel
theorem td_M_lostMany_0 : tz_dk prog_13_method_19_code 0 (.iconst 0) 1 1 := by decide +kernel
theorem td_M_lostMany_1 : tz_dk prog_13_method_19_code 1 (.istore_n 1) 1 2 := by decide +kernel
theorem td_M_lostMany_2 : tz_dk prog_13_method_19_code 2 (.iconst 0) 1 3 := by decide +kernel
theorem td_M_lostMany_3 : tz_dk prog_13_method_19_code 3 (.istore_n 2) 1 4 := by decide +kernel
theorem td_M_lostMany_4 : tz_dk prog_13_method_19_code 4 (.iload_n 2) 1 5 := by decide +kernel
theorem td_M_lostMany_5 : tz_dk prog_13_method_19_code 5 (.aload_n 0) 1 6 := by decide +kernel
theorem td_M_lostMany_6 : tz_dk prog_13_method_19_code 6 (.getfield 54) 3 9 := by decide +kernel
theorem td_M_lostMany_9 : tz_dj prog_13_method_19_code 9 (.if_icmp .ge 28) (28) 12 37 := by decide +kernel
theorem td_M_lostMany_12 : tz_dk prog_13_method_19_code 12 (.iload_n 1) 1 13 := by decide +kernel
theorem td_M_lostMany_13 : tz_dk prog_13_method_19_code 13 (.aload_n 0) 1 14 := by decide +kernel
theorem td_M_lostMany_14 : tz_dk prog_13_method_19_code 14 (.getfield 25) 3 17 := by decide +kernel
theorem td_M_lostMany_17 : tz_dk prog_13_method_19_code 17 (.iload_n 2) 1 18 := by decide +kernel
theorem td_M_lostMany_18 : tz_dk prog_13_method_19_code 18 (.iaload) 1 19 := by decide +kernel
theorem td_M_lostMany_19 : tz_dk prog_13_method_19_code 19 (.ldc 69) 2 21 := by decide +kernel
theorem td_M_lostMany_21 : tz_dj prog_13_method_19_code 21 (.if_icmp .ne 7) (7) 24 28 := by decide +kernel
theorem td_M_lostMany_24 : tz_dk prog_13_method_19_code 24 (.iconst 1) 1 25 := by decide +kernel
theorem td_M_lostMany_25 : tz_dj prog_13_method_19_code 25 (.goto 4) (4) 28 29 := by decide +kernel
theorem td_M_lostMany_28 : tz_dk prog_13_method_19_code 28 (.iconst 0) 1 29 := by decide +kernel
theorem td_M_lostMany_29 : tz_dk prog_13_method_19_code 29 (.iadd) 1 30 := by decide +kernel
theorem td_M_lostMany_30 : tz_dk prog_13_method_19_code 30 (.istore_n 1) 1 31 := by decide +kernel
theorem td_M_lostMany_31 : tz_dk prog_13_method_19_code 31 (.iinc 2 1) 3 34 := by decide +kernel
theorem td_M_lostMany_34 : tz_dj prog_13_method_19_code 34 (.goto (-30)) (-30) 37 4 := by decide +kernel
theorem td_M_lostMany_37 : tz_dk prog_13_method_19_code 37 (.iload_n 1) 1 38 := by decide +kernel
theorem td_M_lostMany_38 : tz_dk prog_13_method_19_code 38 (.ireturn) 1 39 := by decide +kernel
theorem td_M_turns_0 : tz_dk prog_13_method_16_code 0 (.iconst 0) 1 1 := by decide +kernel
theorem td_M_turns_1 : tz_dk prog_13_method_16_code 1 (.istore_n 1) 1 2 := by decide +kernel
theorem td_M_turns_2 : tz_dk prog_13_method_16_code 2 (.iconst 0) 1 3 := by decide +kernel
theorem td_M_turns_3 : tz_dk prog_13_method_16_code 3 (.istore_n 2) 1 4 := by decide +kernel
theorem td_M_turns_4 : tz_dk prog_13_method_16_code 4 (.iload_n 2) 1 5 := by decide +kernel
theorem td_M_turns_5 : tz_dk prog_13_method_16_code 5 (.aload_n 0) 1 6 := by decide +kernel
theorem td_M_turns_6 : tz_dk prog_13_method_16_code 6 (.getfield 54) 3 9 := by decide +kernel
theorem td_M_turns_9 : tz_dj prog_13_method_16_code 9 (.if_icmp .ge 25) (25) 12 34 := by decide +kernel
theorem td_M_turns_12 : tz_dk prog_13_method_16_code 12 (.iload_n 1) 1 13 := by decide +kernel
theorem td_M_turns_13 : tz_dk prog_13_method_16_code 13 (.aload_n 0) 1 14 := by decide +kernel
theorem td_M_turns_14 : tz_dk prog_13_method_16_code 14 (.iload_n 2) 1 15 := by decide +kernel
theorem td_M_turns_15 : tz_dk prog_13_method_16_code 15 (.invokevirtual 71) 3 18 := by decide +kernel
theorem td_M_turns_18 : tz_dj prog_13_method_16_code 18 (.ifCond .eq 7) (7) 21 25 := by decide +kernel
theorem td_M_turns_21 : tz_dk prog_13_method_16_code 21 (.iconst 1) 1 22 := by decide +kernel
theorem td_M_turns_22 : tz_dj prog_13_method_16_code 22 (.goto 4) (4) 25 26 := by decide +kernel
theorem td_M_turns_25 : tz_dk prog_13_method_16_code 25 (.iconst 0) 1 26 := by decide +kernel
theorem td_M_turns_26 : tz_dk prog_13_method_16_code 26 (.iadd) 1 27 := by decide +kernel
theorem td_M_turns_27 : tz_dk prog_13_method_16_code 27 (.istore_n 1) 1 28 := by decide +kernel
theorem td_M_turns_28 : tz_dk prog_13_method_16_code 28 (.iinc 2 1) 3 31 := by decide +kernel
theorem td_M_turns_31 : tz_dj prog_13_method_16_code 31 (.goto (-27)) (-27) 34 4 := by decide +kernel
theorem td_M_turns_34 : tz_dk prog_13_method_16_code 34 (.iload_n 1) 1 35 := by decide +kernel
theorem td_M_turns_35 : tz_dk prog_13_method_16_code 35 (.ireturn) 1 36 := by decide +kernel
theorem td_M_isTurn_0 : tz_dk prog_13_method_15_code 0 (.iload_n 1) 1 1 := by decide +kernel
theorem td_M_isTurn_1 : tz_dj prog_13_method_15_code 1 (.ifCond .le 51) (51) 4 52 := by decide +kernel
theorem td_M_isTurn_4 : tz_dk prog_13_method_15_code 4 (.aload_n 0) 1 5 := by decide +kernel
theorem td_M_isTurn_5 : tz_dk prog_13_method_15_code 5 (.getfield 25) 3 8 := by decide +kernel
theorem td_M_isTurn_8 : tz_dk prog_13_method_15_code 8 (.iload_n 1) 1 9 := by decide +kernel
theorem td_M_isTurn_9 : tz_dk prog_13_method_15_code 9 (.iconst 1) 1 10 := by decide +kernel
theorem td_M_isTurn_10 : tz_dk prog_13_method_15_code 10 (.isub) 1 11 := by decide +kernel
theorem td_M_isTurn_11 : tz_dk prog_13_method_15_code 11 (.iaload) 1 12 := by decide +kernel
theorem td_M_isTurn_12 : tz_dk prog_13_method_15_code 12 (.ldc 69) 2 14 := by decide +kernel
theorem td_M_isTurn_14 : tz_dj prog_13_method_15_code 14 (.if_icmp .eq 38) (38) 17 52 := by decide +kernel
theorem td_M_isTurn_17 : tz_dk prog_13_method_15_code 17 (.aload_n 0) 1 18 := by decide +kernel
theorem td_M_isTurn_18 : tz_dk prog_13_method_15_code 18 (.getfield 25) 3 21 := by decide +kernel
theorem td_M_isTurn_21 : tz_dk prog_13_method_15_code 21 (.iload_n 1) 1 22 := by decide +kernel
theorem td_M_isTurn_22 : tz_dk prog_13_method_15_code 22 (.iaload) 1 23 := by decide +kernel
theorem td_M_isTurn_23 : tz_dk prog_13_method_15_code 23 (.ldc 69) 2 25 := by decide +kernel
theorem td_M_isTurn_25 : tz_dj prog_13_method_15_code 25 (.if_icmp .eq 27) (27) 28 52 := by decide +kernel
theorem td_M_isTurn_28 : tz_dk prog_13_method_15_code 28 (.aload_n 0) 1 29 := by decide +kernel
theorem td_M_isTurn_29 : tz_dk prog_13_method_15_code 29 (.getfield 25) 3 32 := by decide +kernel
theorem td_M_isTurn_32 : tz_dk prog_13_method_15_code 32 (.iload_n 1) 1 33 := by decide +kernel
theorem td_M_isTurn_33 : tz_dk prog_13_method_15_code 33 (.iconst 1) 1 34 := by decide +kernel
theorem td_M_isTurn_34 : tz_dk prog_13_method_15_code 34 (.isub) 1 35 := by decide +kernel
theorem td_M_isTurn_35 : tz_dk prog_13_method_15_code 35 (.iaload) 1 36 := by decide +kernel
theorem td_M_isTurn_36 : tz_dj prog_13_method_15_code 36 (.ifCond .ge 16) (16) 39 52 := by decide +kernel
theorem td_M_isTurn_39 : tz_dk prog_13_method_15_code 39 (.aload_n 0) 1 40 := by decide +kernel
theorem td_M_isTurn_40 : tz_dk prog_13_method_15_code 40 (.getfield 25) 3 43 := by decide +kernel
theorem td_M_isTurn_43 : tz_dk prog_13_method_15_code 43 (.iload_n 1) 1 44 := by decide +kernel
theorem td_M_isTurn_44 : tz_dk prog_13_method_15_code 44 (.iaload) 1 45 := by decide +kernel
theorem td_M_isTurn_45 : tz_dj prog_13_method_15_code 45 (.ifCond .lt 7) (7) 48 52 := by decide +kernel
theorem td_M_isTurn_48 : tz_dk prog_13_method_15_code 48 (.iconst 1) 1 49 := by decide +kernel
theorem td_M_isTurn_49 : tz_dj prog_13_method_15_code 49 (.goto 4) (4) 52 53 := by decide +kernel
theorem td_M_isTurn_52 : tz_dk prog_13_method_15_code 52 (.iconst 0) 1 53 := by decide +kernel
theorem td_M_isTurn_53 : tz_dk prog_13_method_15_code 53 (.ireturn) 1 54 := by decide +kernel
theorem td_M_isClick_0 : tz_dk prog_13_method_18_code 0 (.iload_n 1) 1 1 := by decide +kernel
theorem td_M_isClick_1 : tz_dk prog_13_method_18_code 1 (.iconst 1) 1 2 := by decide +kernel
theorem td_M_isClick_2 : tz_dj prog_13_method_18_code 2 (.if_icmp .lt 50) (50) 5 52 := by decide +kernel
theorem td_M_isClick_5 : tz_dk prog_13_method_18_code 5 (.iload_n 1) 1 6 := by decide +kernel
theorem td_M_isClick_6 : tz_dk prog_13_method_18_code 6 (.iconst 1) 1 7 := by decide +kernel
theorem td_M_isClick_7 : tz_dk prog_13_method_18_code 7 (.iadd) 1 8 := by decide +kernel
theorem td_M_isClick_8 : tz_dk prog_13_method_18_code 8 (.aload_n 0) 1 9 := by decide +kernel
theorem td_M_isClick_9 : tz_dk prog_13_method_18_code 9 (.getfield 54) 3 12 := by decide +kernel
theorem td_M_isClick_12 : tz_dj prog_13_method_18_code 12 (.if_icmp .ge 40) (40) 15 52 := by decide +kernel
theorem td_M_isClick_15 : tz_dk prog_13_method_18_code 15 (.aload_n 0) 1 16 := by decide +kernel
theorem td_M_isClick_16 : tz_dk prog_13_method_18_code 16 (.getfield 25) 3 19 := by decide +kernel
theorem td_M_isClick_19 : tz_dk prog_13_method_18_code 19 (.iload_n 1) 1 20 := by decide +kernel
theorem td_M_isClick_20 : tz_dk prog_13_method_18_code 20 (.iconst 1) 1 21 := by decide +kernel
theorem td_M_isClick_21 : tz_dk prog_13_method_18_code 21 (.isub) 1 22 := by decide +kernel
theorem td_M_isClick_22 : tz_dk prog_13_method_18_code 22 (.iaload) 1 23 := by decide +kernel
theorem td_M_isClick_23 : tz_dk prog_13_method_18_code 23 (.ldc 69) 2 25 := by decide +kernel
theorem td_M_isClick_25 : tz_dj prog_13_method_18_code 25 (.if_icmp .eq 27) (27) 28 52 := by decide +kernel
theorem td_M_isClick_28 : tz_dk prog_13_method_18_code 28 (.aload_n 0) 1 29 := by decide +kernel
theorem td_M_isClick_29 : tz_dk prog_13_method_18_code 29 (.getfield 25) 3 32 := by decide +kernel
theorem td_M_isClick_32 : tz_dk prog_13_method_18_code 32 (.iload_n 1) 1 33 := by decide +kernel
theorem td_M_isClick_33 : tz_dk prog_13_method_18_code 33 (.iaload) 1 34 := by decide +kernel
theorem td_M_isClick_34 : tz_dk prog_13_method_18_code 34 (.ldc 69) 2 36 := by decide +kernel
theorem td_M_isClick_36 : tz_dj prog_13_method_18_code 36 (.if_icmp .eq 16) (16) 39 52 := by decide +kernel
theorem td_M_isClick_39 : tz_dk prog_13_method_18_code 39 (.aload_n 0) 1 40 := by decide +kernel
theorem td_M_isClick_40 : tz_dk prog_13_method_18_code 40 (.getfield 25) 3 43 := by decide +kernel
theorem td_M_isClick_43 : tz_dk prog_13_method_18_code 43 (.iload_n 1) 1 44 := by decide +kernel
theorem td_M_isClick_44 : tz_dk prog_13_method_18_code 44 (.iconst 1) 1 45 := by decide +kernel
theorem td_M_isClick_45 : tz_dk prog_13_method_18_code 45 (.iadd) 1 46 := by decide +kernel
theorem td_M_isClick_46 : tz_dk prog_13_method_18_code 46 (.iaload) 1 47 := by decide +kernel
theorem td_M_isClick_47 : tz_dk prog_13_method_18_code 47 (.ldc 69) 2 49 := by decide +kernel
theorem td_M_isClick_49 : tz_dj prog_13_method_18_code 49 (.if_icmp .ne 5) (5) 52 54 := by decide +kernel
theorem td_M_isClick_52 : tz_dk prog_13_method_18_code 52 (.iconst 0) 1 53 := by decide +kernel
theorem td_M_isClick_53 : tz_dk prog_13_method_18_code 53 (.ireturn) 1 54 := by decide +kernel
theorem td_M_isClick_54 : tz_dk prog_13_method_18_code 54 (.iconst 2) 1 55 := by decide +kernel
theorem td_M_isClick_55 : tz_dk prog_13_method_18_code 55 (.aload_n 0) 1 56 := by decide +kernel
theorem td_M_isClick_56 : tz_dk prog_13_method_18_code 56 (.getfield 25) 3 59 := by decide +kernel
theorem td_M_isClick_59 : tz_dk prog_13_method_18_code 59 (.iload_n 1) 1 60 := by decide +kernel
theorem td_M_isClick_60 : tz_dk prog_13_method_18_code 60 (.iaload) 1 61 := by decide +kernel
theorem td_M_isClick_61 : tz_dk prog_13_method_18_code 61 (.imul) 1 62 := by decide +kernel
theorem td_M_isClick_62 : tz_dk prog_13_method_18_code 62 (.aload_n 0) 1 63 := by decide +kernel
theorem td_M_isClick_63 : tz_dk prog_13_method_18_code 63 (.getfield 25) 3 66 := by decide +kernel
theorem td_M_isClick_66 : tz_dk prog_13_method_18_code 66 (.iload_n 1) 1 67 := by decide +kernel
theorem td_M_isClick_67 : tz_dk prog_13_method_18_code 67 (.iconst 1) 1 68 := by decide +kernel
theorem td_M_isClick_68 : tz_dk prog_13_method_18_code 68 (.isub) 1 69 := by decide +kernel
theorem td_M_isClick_69 : tz_dk prog_13_method_18_code 69 (.iaload) 1 70 := by decide +kernel
theorem td_M_isClick_70 : tz_dk prog_13_method_18_code 70 (.isub) 1 71 := by decide +kernel
theorem td_M_isClick_71 : tz_dk prog_13_method_18_code 71 (.aload_n 0) 1 72 := by decide +kernel
theorem td_M_isClick_72 : tz_dk prog_13_method_18_code 72 (.getfield 25) 3 75 := by decide +kernel
theorem td_M_isClick_75 : tz_dk prog_13_method_18_code 75 (.iload_n 1) 1 76 := by decide +kernel
theorem td_M_isClick_76 : tz_dk prog_13_method_18_code 76 (.iconst 1) 1 77 := by decide +kernel
theorem td_M_isClick_77 : tz_dk prog_13_method_18_code 77 (.iadd) 1 78 := by decide +kernel
theorem td_M_isClick_78 : tz_dk prog_13_method_18_code 78 (.iaload) 1 79 := by decide +kernel
theorem td_M_isClick_79 : tz_dk prog_13_method_18_code 79 (.isub) 1 80 := by decide +kernel
theorem td_M_isClick_80 : tz_dk prog_13_method_18_code 80 (.istore_n 3) 1 81 := by decide +kernel
theorem td_M_isClick_81 : tz_dk prog_13_method_18_code 81 (.iload_n 3) 1 82 := by decide +kernel
theorem td_M_isClick_82 : tz_dk prog_13_method_18_code 82 (.iload_n 2) 1 83 := by decide +kernel
theorem td_M_isClick_83 : tz_dj prog_13_method_18_code 83 (.if_icmp .gt 9) (9) 86 92 := by decide +kernel
theorem td_M_isClick_86 : tz_dk prog_13_method_18_code 86 (.iload_n 3) 1 87 := by decide +kernel
theorem td_M_isClick_87 : tz_dk prog_13_method_18_code 87 (.iload_n 2) 1 88 := by decide +kernel
theorem td_M_isClick_88 : tz_dk prog_13_method_18_code 88 (.ineg) 1 89 := by decide +kernel
theorem td_M_isClick_89 : tz_dj prog_13_method_18_code 89 (.if_icmp .ge 7) (7) 92 96 := by decide +kernel
theorem td_M_isClick_92 : tz_dk prog_13_method_18_code 92 (.iconst 1) 1 93 := by decide +kernel
theorem td_M_isClick_93 : tz_dj prog_13_method_18_code 93 (.goto 4) (4) 96 97 := by decide +kernel
theorem td_M_isClick_96 : tz_dk prog_13_method_18_code 96 (.iconst 0) 1 97 := by decide +kernel
theorem td_M_isClick_97 : tz_dk prog_13_method_18_code 97 (.ireturn) 1 98 := by decide +kernel
theorem td_M_turn_0 : tz_dk prog_13_method_21_code 0 (.iload_n 1) 1 1 := by decide +kernel
theorem td_M_turn_1 : tz_dk prog_13_method_21_code 1 (.invokestatic 42) 3 4 := by decide +kernel
theorem td_M_turn_4 : tz_dj prog_13_method_21_code 4 (.ifCond .ne 10) (10) 7 14 := by decide +kernel
theorem td_M_turn_7 : tz_dk prog_13_method_21_code 7 (.aload_n 0) 1 8 := by decide +kernel
theorem td_M_turn_8 : tz_dk prog_13_method_21_code 8 (.ldc 61) 2 10 := by decide +kernel
theorem td_M_turn_10 : tz_dk prog_13_method_21_code 10 (.invokevirtual 50) 3 13 := by decide +kernel
theorem td_M_turn_13 : tz_dk prog_13_method_21_code 13 (.ireturn) 1 14 := by decide +kernel
theorem td_M_turn_14 : tz_dk prog_13_method_21_code 14 (.aload_n 0) 1 15 := by decide +kernel
theorem td_M_turn_15 : tz_dk prog_13_method_21_code 15 (.iload_n 1) 1 16 := by decide +kernel
theorem td_M_turn_16 : tz_dk prog_13_method_21_code 16 (.invokevirtual 74) 3 19 := by decide +kernel
theorem td_M_turn_19 : tz_dk prog_13_method_21_code 19 (.iload_n 2) 1 20 := by decide +kernel
theorem td_M_turn_20 : tz_dj prog_13_method_21_code 20 (.ifCond .ge 7) (7) 23 27 := by decide +kernel
theorem td_M_turn_23 : tz_dk prog_13_method_21_code 23 (.iconst (-1)) 1 24 := by decide +kernel
theorem td_M_turn_24 : tz_dj prog_13_method_21_code 24 (.goto 8) (8) 27 32 := by decide +kernel
theorem td_M_turn_27 : tz_dk prog_13_method_21_code 27 (.aload_n 0) 1 28 := by decide +kernel
theorem td_M_turn_28 : tz_dk prog_13_method_21_code 28 (.iload_n 2) 1 29 := by decide +kernel
theorem td_M_turn_29 : tz_dk prog_13_method_21_code 29 (.invokevirtual 88) 3 32 := by decide +kernel
theorem td_M_turn_32 : tz_dk prog_13_method_21_code 32 (.istore_n 3) 1 33 := by decide +kernel
theorem td_M_turn_33 : tz_dk prog_13_method_21_code 33 (.iload_n 3) 1 34 := by decide +kernel
theorem td_M_turn_34 : tz_dj prog_13_method_21_code 34 (.ifCond .ge 12) (12) 37 46 := by decide +kernel
theorem td_M_turn_37 : tz_dk prog_13_method_21_code 37 (.aload_n 0) 1 38 := by decide +kernel
theorem td_M_turn_38 : tz_dk prog_13_method_21_code 38 (.ldc 49) 2 40 := by decide +kernel
theorem td_M_turn_40 : tz_dk prog_13_method_21_code 40 (.invokevirtual 50) 3 43 := by decide +kernel
theorem td_M_turn_43 : tz_dj prog_13_method_21_code 43 (.goto 4) (4) 46 47 := by decide +kernel
theorem td_M_turn_46 : tz_dk prog_13_method_21_code 46 (.iload_n 3) 1 47 := by decide +kernel
theorem td_M_turn_47 : tz_dk prog_13_method_21_code 47 (.ireturn) 1 48 := by decide +kernel
theorem td_M_turnAt_0 : tz_dk prog_13_method_17_code 0 (.iload_n 1) 1 1 := by decide +kernel
theorem td_M_turnAt_1 : tz_dk prog_13_method_17_code 1 (.istore_n 2) 1 2 := by decide +kernel
theorem td_M_turnAt_2 : tz_dk prog_13_method_17_code 2 (.iconst 0) 1 3 := by decide +kernel
theorem td_M_turnAt_3 : tz_dk prog_13_method_17_code 3 (.istore_n 3) 1 4 := by decide +kernel
theorem td_M_turnAt_4 : tz_dk prog_13_method_17_code 4 (.iload_n 3) 1 5 := by decide +kernel
theorem td_M_turnAt_5 : tz_dk prog_13_method_17_code 5 (.aload_n 0) 1 6 := by decide +kernel
theorem td_M_turnAt_6 : tz_dk prog_13_method_17_code 6 (.getfield 54) 3 9 := by decide +kernel
theorem td_M_turnAt_9 : tz_dj prog_13_method_17_code 9 (.if_icmp .ge 26) (26) 12 35 := by decide +kernel
theorem td_M_turnAt_12 : tz_dk prog_13_method_17_code 12 (.aload_n 0) 1 13 := by decide +kernel
theorem td_M_turnAt_13 : tz_dk prog_13_method_17_code 13 (.iload_n 3) 1 14 := by decide +kernel
theorem td_M_turnAt_14 : tz_dk prog_13_method_17_code 14 (.invokevirtual 71) 3 17 := by decide +kernel
theorem td_M_turnAt_17 : tz_dj prog_13_method_17_code 17 (.ifCond .eq 12) (12) 20 29 := by decide +kernel
theorem td_M_turnAt_20 : tz_dk prog_13_method_17_code 20 (.iload_n 2) 1 21 := by decide +kernel
theorem td_M_turnAt_21 : tz_dj prog_13_method_17_code 21 (.ifCond .ne 5) (5) 24 26 := by decide +kernel
theorem td_M_turnAt_24 : tz_dk prog_13_method_17_code 24 (.iload_n 3) 1 25 := by decide +kernel
theorem td_M_turnAt_25 : tz_dk prog_13_method_17_code 25 (.ireturn) 1 26 := by decide +kernel
theorem td_M_turnAt_26 : tz_dk prog_13_method_17_code 26 (.iinc 2 (-1)) 3 29 := by decide +kernel
theorem td_M_turnAt_29 : tz_dk prog_13_method_17_code 29 (.iinc 3 1) 3 32 := by decide +kernel
theorem td_M_turnAt_32 : tz_dj prog_13_method_17_code 32 (.goto (-28)) (-28) 35 4 := by decide +kernel
theorem td_M_turnAt_35 : tz_dk prog_13_method_17_code 35 (.iconst (-1)) 1 36 := by decide +kernel
theorem td_M_turnAt_36 : tz_dk prog_13_method_17_code 36 (.ireturn) 1 37 := by decide +kernel
theorem td_M_sheet_0 : tz_dk prog_13_method_23_code 0 (.iload_n 1) 1 1 := by decide +kernel
theorem td_M_sheet_1 : tz_dk prog_13_method_23_code 1 (.invokestatic 91) 3 4 := by decide +kernel
theorem td_M_sheet_4 : tz_dj prog_13_method_23_code 4 (.ifCond .eq 25) (25) 7 29 := by decide +kernel
theorem td_M_sheet_7 : tz_dk prog_13_method_23_code 7 (.iload_n 2) 1 8 := by decide +kernel
theorem td_M_sheet_8 : tz_dj prog_13_method_23_code 8 (.ifCond .eq 28) (28) 11 36 := by decide +kernel
theorem td_M_sheet_11 : tz_dk prog_13_method_23_code 11 (.iload_n 2) 1 12 := by decide +kernel
theorem td_M_sheet_12 : tz_dk prog_13_method_23_code 12 (.bipush 8) 2 14 := by decide +kernel
theorem td_M_sheet_14 : tz_dj prog_13_method_23_code 14 (.if_icmp .eq 22) (22) 17 36 := by decide +kernel
theorem td_M_sheet_17 : tz_dk prog_13_method_23_code 17 (.iload_n 2) 1 18 := by decide +kernel
theorem td_M_sheet_18 : tz_dk prog_13_method_23_code 18 (.bipush 16) 2 20 := by decide +kernel
theorem td_M_sheet_20 : tz_dj prog_13_method_23_code 20 (.if_icmp .eq 16) (16) 23 36 := by decide +kernel
theorem td_M_sheet_23 : tz_dk prog_13_method_23_code 23 (.iload_n 2) 1 24 := by decide +kernel
theorem td_M_sheet_24 : tz_dk prog_13_method_23_code 24 (.bipush 32) 2 26 := by decide +kernel
theorem td_M_sheet_26 : tz_dj prog_13_method_23_code 26 (.if_icmp .eq 10) (10) 29 36 := by decide +kernel
theorem td_M_sheet_29 : tz_dk prog_13_method_23_code 29 (.aload_n 0) 1 30 := by decide +kernel
theorem td_M_sheet_30 : tz_dk prog_13_method_23_code 30 (.ldc 61) 2 32 := by decide +kernel
theorem td_M_sheet_32 : tz_dk prog_13_method_23_code 32 (.invokevirtual 50) 3 35 := by decide +kernel
theorem td_M_sheet_35 : tz_dk prog_13_method_23_code 35 (.ireturn) 1 36 := by decide +kernel
theorem td_M_sheet_36 : tz_dk prog_13_method_23_code 36 (.iload_n 3) 1 37 := by decide +kernel
theorem td_M_sheet_37 : tz_dj prog_13_method_23_code 37 (.ifCond .ge 10) (10) 40 47 := by decide +kernel
theorem td_M_sheet_40 : tz_dk prog_13_method_23_code 40 (.aload_n 0) 1 41 := by decide +kernel
theorem td_M_sheet_41 : tz_dk prog_13_method_23_code 41 (.ldc 94) 2 43 := by decide +kernel
theorem td_M_sheet_43 : tz_dk prog_13_method_23_code 43 (.invokevirtual 50) 3 46 := by decide +kernel
theorem td_M_sheet_46 : tz_dk prog_13_method_23_code 46 (.ireturn) 1 47 := by decide +kernel
theorem td_M_sheet_47 : tz_dk prog_13_method_23_code 47 (.iload_n 3) 1 48 := by decide +kernel
theorem td_M_sheet_48 : tz_dk prog_13_method_23_code 48 (.bipush 120) 2 50 := by decide +kernel
theorem td_M_sheet_50 : tz_dj prog_13_method_23_code 50 (.if_icmp .le 10) (10) 53 60 := by decide +kernel
theorem td_M_sheet_53 : tz_dk prog_13_method_23_code 53 (.aload_n 0) 1 54 := by decide +kernel
theorem td_M_sheet_54 : tz_dk prog_13_method_23_code 54 (.ldc 61) 2 56 := by decide +kernel
theorem td_M_sheet_56 : tz_dk prog_13_method_23_code 56 (.invokevirtual 50) 3 59 := by decide +kernel
theorem td_M_sheet_59 : tz_dk prog_13_method_23_code 59 (.ireturn) 1 60 := by decide +kernel
theorem td_M_sheet_60 : tz_dk prog_13_method_23_code 60 (.aload_n 0) 1 61 := by decide +kernel
theorem td_M_sheet_61 : tz_dk prog_13_method_23_code 61 (.getfield 16) 3 64 := by decide +kernel
theorem td_M_sheet_64 : tz_dk prog_13_method_23_code 64 (.iload_n 1) 1 65 := by decide +kernel
theorem td_M_sheet_65 : tz_dk prog_13_method_23_code 65 (.iload_n 2) 1 66 := by decide +kernel
theorem td_M_sheet_66 : tz_dk prog_13_method_23_code 66 (.iastore) 1 67 := by decide +kernel
theorem td_M_sheet_67 : tz_dk prog_13_method_23_code 67 (.aload_n 0) 1 68 := by decide +kernel
theorem td_M_sheet_68 : tz_dk prog_13_method_23_code 68 (.getfield 19) 3 71 := by decide +kernel
theorem td_M_sheet_71 : tz_dk prog_13_method_23_code 71 (.iload_n 1) 1 72 := by decide +kernel
theorem td_M_sheet_72 : tz_dk prog_13_method_23_code 72 (.iload_n 2) 1 73 := by decide +kernel
theorem td_M_sheet_73 : tz_dj prog_13_method_23_code 73 (.ifCond .ne 7) (7) 76 80 := by decide +kernel
theorem td_M_sheet_76 : tz_dk prog_13_method_23_code 76 (.iconst 0) 1 77 := by decide +kernel
theorem td_M_sheet_77 : tz_dj prog_13_method_23_code 77 (.goto 4) (4) 80 81 := by decide +kernel
theorem td_M_sheet_80 : tz_dk prog_13_method_23_code 80 (.iload_n 3) 1 81 := by decide +kernel
theorem td_M_sheet_81 : tz_dk prog_13_method_23_code 81 (.iastore) 1 82 := by decide +kernel
theorem td_M_sheet_82 : tz_dk prog_13_method_23_code 82 (.iconst 0) 1 83 := by decide +kernel
theorem td_M_sheet_83 : tz_dk prog_13_method_23_code 83 (.istore 4) 2 85 := by decide +kernel
theorem td_M_sheet_85 : tz_dk prog_13_method_23_code 85 (.iload 4) 2 87 := by decide +kernel
theorem td_M_sheet_87 : tz_dk prog_13_method_23_code 87 (.bipush 120) 2 89 := by decide +kernel
theorem td_M_sheet_89 : tz_dj prog_13_method_23_code 89 (.if_icmp .ge 22) (22) 92 111 := by decide +kernel
theorem td_M_sheet_92 : tz_dk prog_13_method_23_code 92 (.aload_n 0) 1 93 := by decide +kernel
theorem td_M_sheet_93 : tz_dk prog_13_method_23_code 93 (.getfield 22) 3 96 := by decide +kernel
theorem td_M_sheet_96 : tz_dk prog_13_method_23_code 96 (.bipush 120) 2 98 := by decide +kernel
theorem td_M_sheet_98 : tz_dk prog_13_method_23_code 98 (.iload_n 1) 1 99 := by decide +kernel
theorem td_M_sheet_99 : tz_dk prog_13_method_23_code 99 (.imul) 1 100 := by decide +kernel
theorem td_M_sheet_100 : tz_dk prog_13_method_23_code 100 (.iload 4) 2 102 := by decide +kernel
theorem td_M_sheet_102 : tz_dk prog_13_method_23_code 102 (.iadd) 1 103 := by decide +kernel
theorem td_M_sheet_103 : tz_dk prog_13_method_23_code 103 (.iconst 0) 1 104 := by decide +kernel
theorem td_M_sheet_104 : tz_dk prog_13_method_23_code 104 (.iastore) 1 105 := by decide +kernel
theorem td_M_sheet_105 : tz_dk prog_13_method_23_code 105 (.iinc 4 1) 3 108 := by decide +kernel
theorem td_M_sheet_108 : tz_dj prog_13_method_23_code 108 (.goto (-23)) (-23) 111 85 := by decide +kernel
theorem td_M_sheet_111 : tz_dk prog_13_method_23_code 111 (.aload_n 0) 1 112 := by decide +kernel
theorem td_M_sheet_112 : tz_dk prog_13_method_23_code 112 (.getfield 19) 3 115 := by decide +kernel
theorem td_M_sheet_115 : tz_dk prog_13_method_23_code 115 (.iload_n 1) 1 116 := by decide +kernel
theorem td_M_sheet_116 : tz_dk prog_13_method_23_code 116 (.iaload) 1 117 := by decide +kernel
theorem td_M_sheet_117 : tz_dk prog_13_method_23_code 117 (.ireturn) 1 118 := by decide +kernel
end
section
theorem td_M_isSheet_0 : tz_dk prog_13_method_22_code 0 (.iload_n 0) 1 1 := by decide +kernel
theorem td_M_isSheet_1 : tz_dk prog_13_method_22_code 1 (.iconst 0) 1 2 := by decide +kernel
theorem td_M_isSheet_2 : tz_dk prog_13_method_22_code 2 (.iconst 3) 1 3 := by decide +kernel
theorem td_M_isSheet_3 : tz_dk prog_13_method_22_code 3 (.invokestatic 38) 3 6 := by decide +kernel
theorem td_M_isSheet_6 : tz_dk prog_13_method_22_code 6 (.ireturn) 1 7 := by decide +kernel
theorem td_M_write_0 : tz_dk prog_13_method_25_code 0 (.iload_n 1) 1 1 := by decide +kernel
theorem td_M_write_1 : tz_dk prog_13_method_25_code 1 (.invokestatic 91) 3 4 := by decide +kernel
theorem td_M_write_4 : tz_dj prog_13_method_25_code 4 (.ifCond .ne 10) (10) 7 14 := by decide +kernel
theorem td_M_write_7 : tz_dk prog_13_method_25_code 7 (.aload_n 0) 1 8 := by decide +kernel
theorem td_M_write_8 : tz_dk prog_13_method_25_code 8 (.ldc 61) 2 10 := by decide +kernel
theorem td_M_write_10 : tz_dk prog_13_method_25_code 10 (.invokevirtual 50) 3 13 := by decide +kernel
theorem td_M_write_13 : tz_dk prog_13_method_25_code 13 (.ireturn) 1 14 := by decide +kernel
theorem td_M_write_14 : tz_dk prog_13_method_25_code 14 (.aload_n 0) 1 15 := by decide +kernel
theorem td_M_write_15 : tz_dk prog_13_method_25_code 15 (.getfield 16) 3 18 := by decide +kernel
theorem td_M_write_18 : tz_dk prog_13_method_25_code 18 (.iload_n 1) 1 19 := by decide +kernel
theorem td_M_write_19 : tz_dk prog_13_method_25_code 19 (.iaload) 1 20 := by decide +kernel
theorem td_M_write_20 : tz_dj prog_13_method_25_code 20 (.ifCond .ne 10) (10) 23 30 := by decide +kernel
theorem td_M_write_23 : tz_dk prog_13_method_25_code 23 (.aload_n 0) 1 24 := by decide +kernel
theorem td_M_write_24 : tz_dk prog_13_method_25_code 24 (.ldc 95) 2 26 := by decide +kernel
theorem td_M_write_26 : tz_dk prog_13_method_25_code 26 (.invokevirtual 50) 3 29 := by decide +kernel
theorem td_M_write_29 : tz_dk prog_13_method_25_code 29 (.ireturn) 1 30 := by decide +kernel
theorem td_M_write_30 : tz_dk prog_13_method_25_code 30 (.iload_n 2) 1 31 := by decide +kernel
theorem td_M_write_31 : tz_dk prog_13_method_25_code 31 (.iconst 0) 1 32 := by decide +kernel
theorem td_M_write_32 : tz_dk prog_13_method_25_code 32 (.aload_n 0) 1 33 := by decide +kernel
theorem td_M_write_33 : tz_dk prog_13_method_25_code 33 (.getfield 19) 3 36 := by decide +kernel
theorem td_M_write_36 : tz_dk prog_13_method_25_code 36 (.iload_n 1) 1 37 := by decide +kernel
theorem td_M_write_37 : tz_dk prog_13_method_25_code 37 (.iaload) 1 38 := by decide +kernel
theorem td_M_write_38 : tz_dk prog_13_method_25_code 38 (.iconst 1) 1 39 := by decide +kernel
theorem td_M_write_39 : tz_dk prog_13_method_25_code 39 (.isub) 1 40 := by decide +kernel
theorem td_M_write_40 : tz_dk prog_13_method_25_code 40 (.invokestatic 38) 3 43 := by decide +kernel
theorem td_M_write_43 : tz_dj prog_13_method_25_code 43 (.ifCond .ne 10) (10) 46 53 := by decide +kernel
theorem td_M_write_46 : tz_dk prog_13_method_25_code 46 (.aload_n 0) 1 47 := by decide +kernel
theorem td_M_write_47 : tz_dk prog_13_method_25_code 47 (.ldc 61) 2 49 := by decide +kernel
theorem td_M_write_49 : tz_dk prog_13_method_25_code 49 (.invokevirtual 50) 3 52 := by decide +kernel
theorem td_M_write_52 : tz_dk prog_13_method_25_code 52 (.ireturn) 1 53 := by decide +kernel
theorem td_M_write_53 : tz_dk prog_13_method_25_code 53 (.aload_n 0) 1 54 := by decide +kernel
theorem td_M_write_54 : tz_dk prog_13_method_25_code 54 (.getfield 22) 3 57 := by decide +kernel
theorem td_M_write_57 : tz_dk prog_13_method_25_code 57 (.bipush 120) 2 59 := by decide +kernel
theorem td_M_write_59 : tz_dk prog_13_method_25_code 59 (.iload_n 1) 1 60 := by decide +kernel
theorem td_M_write_60 : tz_dk prog_13_method_25_code 60 (.imul) 1 61 := by decide +kernel
theorem td_M_write_61 : tz_dk prog_13_method_25_code 61 (.iload_n 2) 1 62 := by decide +kernel
theorem td_M_write_62 : tz_dk prog_13_method_25_code 62 (.iadd) 1 63 := by decide +kernel
theorem td_M_write_63 : tz_dk prog_13_method_25_code 63 (.aload_n 0) 1 64 := by decide +kernel
theorem td_M_write_64 : tz_dk prog_13_method_25_code 64 (.getfield 16) 3 67 := by decide +kernel
theorem td_M_write_67 : tz_dk prog_13_method_25_code 67 (.iload_n 1) 1 68 := by decide +kernel
theorem td_M_write_68 : tz_dk prog_13_method_25_code 68 (.iaload) 1 69 := by decide +kernel
theorem td_M_write_69 : tz_dk prog_13_method_25_code 69 (.iload_n 3) 1 70 := by decide +kernel
theorem td_M_write_70 : tz_dk prog_13_method_25_code 70 (.invokestatic 96) 3 73 := by decide +kernel
theorem td_M_write_73 : tz_dk prog_13_method_25_code 73 (.iastore) 1 74 := by decide +kernel
theorem td_M_write_74 : tz_dk prog_13_method_25_code 74 (.iconst 0) 1 75 := by decide +kernel
theorem td_M_write_75 : tz_dk prog_13_method_25_code 75 (.ireturn) 1 76 := by decide +kernel
theorem td_M_lowest_0 : tz_dk prog_13_method_24_code 0 (.iload_n 0) 1 1 := by decide +kernel
theorem td_M_lowest_1 : tz_dk prog_13_method_24_code 1 (.bipush 8) 2 3 := by decide +kernel
theorem td_M_lowest_3 : tz_dj prog_13_method_24_code 3 (.if_icmp .ne 13) (13) 6 16 := by decide +kernel
theorem td_M_lowest_6 : tz_dk prog_13_method_24_code 6 (.iload_n 1) 1 7 := by decide +kernel
theorem td_M_lowest_7 : tz_dk prog_13_method_24_code 7 (.bipush 24) 2 9 := by decide +kernel
theorem td_M_lowest_9 : tz_dk prog_13_method_24_code 9 (.ishl) 1 10 := by decide +kernel
theorem td_M_lowest_10 : tz_dk prog_13_method_24_code 10 (.bipush 24) 2 12 := by decide +kernel
theorem td_M_lowest_12 : tz_dk prog_13_method_24_code 12 (.ishr) 1 13 := by decide +kernel
theorem td_M_lowest_13 : tz_dj prog_13_method_24_code 13 (.goto 20) (20) 16 33 := by decide +kernel
theorem td_M_lowest_16 : tz_dk prog_13_method_24_code 16 (.iload_n 0) 1 17 := by decide +kernel
theorem td_M_lowest_17 : tz_dk prog_13_method_24_code 17 (.bipush 16) 2 19 := by decide +kernel
theorem td_M_lowest_19 : tz_dj prog_13_method_24_code 19 (.if_icmp .ne 13) (13) 22 32 := by decide +kernel
theorem td_M_lowest_22 : tz_dk prog_13_method_24_code 22 (.iload_n 1) 1 23 := by decide +kernel
theorem td_M_lowest_23 : tz_dk prog_13_method_24_code 23 (.bipush 16) 2 25 := by decide +kernel
theorem td_M_lowest_25 : tz_dk prog_13_method_24_code 25 (.ishl) 1 26 := by decide +kernel
theorem td_M_lowest_26 : tz_dk prog_13_method_24_code 26 (.bipush 16) 2 28 := by decide +kernel
theorem td_M_lowest_28 : tz_dk prog_13_method_24_code 28 (.ishr) 1 29 := by decide +kernel
theorem td_M_lowest_29 : tz_dj prog_13_method_24_code 29 (.goto 4) (4) 32 33 := by decide +kernel
theorem td_M_lowest_32 : tz_dk prog_13_method_24_code 32 (.iload_n 1) 1 33 := by decide +kernel
theorem td_M_lowest_33 : tz_dk prog_13_method_24_code 33 (.ireturn) 1 34 := by decide +kernel
theorem td_M_copy_0 : tz_dk prog_13_method_26_code 0 (.iload_n 1) 1 1 := by decide +kernel
theorem td_M_copy_1 : tz_dk prog_13_method_26_code 1 (.invokestatic 91) 3 4 := by decide +kernel
theorem td_M_copy_4 : tz_dj prog_13_method_26_code 4 (.ifCond .eq 10) (10) 7 14 := by decide +kernel
theorem td_M_copy_7 : tz_dk prog_13_method_26_code 7 (.iload_n 3) 1 8 := by decide +kernel
theorem td_M_copy_8 : tz_dk prog_13_method_26_code 8 (.invokestatic 91) 3 11 := by decide +kernel
theorem td_M_copy_11 : tz_dj prog_13_method_26_code 11 (.ifCond .ne 10) (10) 14 21 := by decide +kernel
theorem td_M_copy_14 : tz_dk prog_13_method_26_code 14 (.aload_n 0) 1 15 := by decide +kernel
theorem td_M_copy_15 : tz_dk prog_13_method_26_code 15 (.ldc 61) 2 17 := by decide +kernel
theorem td_M_copy_17 : tz_dk prog_13_method_26_code 17 (.invokevirtual 50) 3 20 := by decide +kernel
theorem td_M_copy_20 : tz_dk prog_13_method_26_code 20 (.ireturn) 1 21 := by decide +kernel
theorem td_M_copy_21 : tz_dk prog_13_method_26_code 21 (.aload_n 0) 1 22 := by decide +kernel
theorem td_M_copy_22 : tz_dk prog_13_method_26_code 22 (.getfield 16) 3 25 := by decide +kernel
theorem td_M_copy_25 : tz_dk prog_13_method_26_code 25 (.iload_n 1) 1 26 := by decide +kernel
theorem td_M_copy_26 : tz_dk prog_13_method_26_code 26 (.iaload) 1 27 := by decide +kernel
theorem td_M_copy_27 : tz_dj prog_13_method_26_code 27 (.ifCond .eq 12) (12) 30 39 := by decide +kernel
theorem td_M_copy_30 : tz_dk prog_13_method_26_code 30 (.aload_n 0) 1 31 := by decide +kernel
theorem td_M_copy_31 : tz_dk prog_13_method_26_code 31 (.getfield 16) 3 34 := by decide +kernel
theorem td_M_copy_34 : tz_dk prog_13_method_26_code 34 (.iload_n 3) 1 35 := by decide +kernel
theorem td_M_copy_35 : tz_dk prog_13_method_26_code 35 (.iaload) 1 36 := by decide +kernel
theorem td_M_copy_36 : tz_dj prog_13_method_26_code 36 (.ifCond .ne 10) (10) 39 46 := by decide +kernel
theorem td_M_copy_39 : tz_dk prog_13_method_26_code 39 (.aload_n 0) 1 40 := by decide +kernel
theorem td_M_copy_40 : tz_dk prog_13_method_26_code 40 (.ldc 95) 2 42 := by decide +kernel
theorem td_M_copy_42 : tz_dk prog_13_method_26_code 42 (.invokevirtual 50) 3 45 := by decide +kernel
theorem td_M_copy_45 : tz_dk prog_13_method_26_code 45 (.ireturn) 1 46 := by decide +kernel
theorem td_M_copy_46 : tz_dk prog_13_method_26_code 46 (.aload_n 0) 1 47 := by decide +kernel
theorem td_M_copy_47 : tz_dk prog_13_method_26_code 47 (.getfield 16) 3 50 := by decide +kernel
theorem td_M_copy_50 : tz_dk prog_13_method_26_code 50 (.iload_n 1) 1 51 := by decide +kernel
theorem td_M_copy_51 : tz_dk prog_13_method_26_code 51 (.iaload) 1 52 := by decide +kernel
theorem td_M_copy_52 : tz_dk prog_13_method_26_code 52 (.aload_n 0) 1 53 := by decide +kernel
theorem td_M_copy_53 : tz_dk prog_13_method_26_code 53 (.getfield 16) 3 56 := by decide +kernel
theorem td_M_copy_56 : tz_dk prog_13_method_26_code 56 (.iload_n 3) 1 57 := by decide +kernel
theorem td_M_copy_57 : tz_dk prog_13_method_26_code 57 (.iaload) 1 58 := by decide +kernel
theorem td_M_copy_58 : tz_dj prog_13_method_26_code 58 (.if_icmp .eq 10) (10) 61 68 := by decide +kernel
theorem td_M_copy_61 : tz_dk prog_13_method_26_code 61 (.aload_n 0) 1 62 := by decide +kernel
theorem td_M_copy_62 : tz_dk prog_13_method_26_code 62 (.ldc 99) 2 64 := by decide +kernel
theorem td_M_copy_64 : tz_dk prog_13_method_26_code 64 (.invokevirtual 50) 3 67 := by decide +kernel
theorem td_M_copy_67 : tz_dk prog_13_method_26_code 67 (.ireturn) 1 68 := by decide +kernel
theorem td_M_copy_68 : tz_dk prog_13_method_26_code 68 (.iload_n 2) 1 69 := by decide +kernel
theorem td_M_copy_69 : tz_dj prog_13_method_26_code 69 (.ifCond .lt 48) (48) 72 117 := by decide +kernel
theorem td_M_copy_72 : tz_dk prog_13_method_26_code 72 (.iload 4) 2 74 := by decide +kernel
theorem td_M_copy_74 : tz_dj prog_13_method_26_code 74 (.ifCond .lt 43) (43) 77 117 := by decide +kernel
theorem td_M_copy_77 : tz_dk prog_13_method_26_code 77 (.iload 5) 2 79 := by decide +kernel
theorem td_M_copy_79 : tz_dj prog_13_method_26_code 79 (.ifCond .lt 38) (38) 82 117 := by decide +kernel
theorem td_M_copy_82 : tz_dk prog_13_method_26_code 82 (.iload_n 2) 1 83 := by decide +kernel
theorem td_M_copy_83 : tz_dk prog_13_method_26_code 83 (.i2l) 1 84 := by decide +kernel
theorem td_M_copy_84 : tz_dk prog_13_method_26_code 84 (.iload 5) 2 86 := by decide +kernel
theorem td_M_copy_86 : tz_dk prog_13_method_26_code 86 (.i2l) 1 87 := by decide +kernel
theorem td_M_copy_87 : tz_dk prog_13_method_26_code 87 (.ladd) 1 88 := by decide +kernel
theorem td_M_copy_88 : tz_dk prog_13_method_26_code 88 (.aload_n 0) 1 89 := by decide +kernel
theorem td_M_copy_89 : tz_dk prog_13_method_26_code 89 (.getfield 19) 3 92 := by decide +kernel
theorem td_M_copy_92 : tz_dk prog_13_method_26_code 92 (.iload_n 1) 1 93 := by decide +kernel
theorem td_M_copy_93 : tz_dk prog_13_method_26_code 93 (.iaload) 1 94 := by decide +kernel
theorem td_M_copy_94 : tz_dk prog_13_method_26_code 94 (.i2l) 1 95 := by decide +kernel
theorem td_M_copy_95 : tz_dk prog_13_method_26_code 95 (.lcmp) 1 96 := by decide +kernel
theorem td_M_copy_96 : tz_dj prog_13_method_26_code 96 (.ifCond .gt 21) (21) 99 117 := by decide +kernel
theorem td_M_copy_99 : tz_dk prog_13_method_26_code 99 (.iload 4) 2 101 := by decide +kernel
theorem td_M_copy_101 : tz_dk prog_13_method_26_code 101 (.i2l) 1 102 := by decide +kernel
theorem td_M_copy_102 : tz_dk prog_13_method_26_code 102 (.iload 5) 2 104 := by decide +kernel
theorem td_M_copy_104 : tz_dk prog_13_method_26_code 104 (.i2l) 1 105 := by decide +kernel
theorem td_M_copy_105 : tz_dk prog_13_method_26_code 105 (.ladd) 1 106 := by decide +kernel
theorem td_M_copy_106 : tz_dk prog_13_method_26_code 106 (.aload_n 0) 1 107 := by decide +kernel
theorem td_M_copy_107 : tz_dk prog_13_method_26_code 107 (.getfield 19) 3 110 := by decide +kernel
theorem td_M_copy_110 : tz_dk prog_13_method_26_code 110 (.iload_n 3) 1 111 := by decide +kernel
theorem td_M_copy_111 : tz_dk prog_13_method_26_code 111 (.iaload) 1 112 := by decide +kernel
theorem td_M_copy_112 : tz_dk prog_13_method_26_code 112 (.i2l) 1 113 := by decide +kernel
theorem td_M_copy_113 : tz_dk prog_13_method_26_code 113 (.lcmp) 1 114 := by decide +kernel
theorem td_M_copy_114 : tz_dj prog_13_method_26_code 114 (.ifCond .le 10) (10) 117 124 := by decide +kernel
theorem td_M_copy_117 : tz_dk prog_13_method_26_code 117 (.aload_n 0) 1 118 := by decide +kernel
theorem td_M_copy_118 : tz_dk prog_13_method_26_code 118 (.ldc 61) 2 120 := by decide +kernel
theorem td_M_copy_120 : tz_dk prog_13_method_26_code 120 (.invokevirtual 50) 3 123 := by decide +kernel
theorem td_M_copy_123 : tz_dk prog_13_method_26_code 123 (.ireturn) 1 124 := by decide +kernel
theorem td_M_copy_124 : tz_dk prog_13_method_26_code 124 (.iconst 0) 1 125 := by decide +kernel
theorem td_M_copy_125 : tz_dk prog_13_method_26_code 125 (.istore 6) 2 127 := by decide +kernel
theorem td_M_copy_127 : tz_dk prog_13_method_26_code 127 (.iload 6) 2 129 := by decide +kernel
theorem td_M_copy_129 : tz_dk prog_13_method_26_code 129 (.iload 5) 2 131 := by decide +kernel
theorem td_M_copy_131 : tz_dj prog_13_method_26_code 131 (.if_icmp .ge 30) (30) 134 161 := by decide +kernel
theorem td_M_copy_134 : tz_dk prog_13_method_26_code 134 (.aload_n 0) 1 135 := by decide +kernel
theorem td_M_copy_135 : tz_dk prog_13_method_26_code 135 (.getfield 31) 3 138 := by decide +kernel
theorem td_M_copy_138 : tz_dk prog_13_method_26_code 138 (.iload 6) 2 140 := by decide +kernel
theorem td_M_copy_140 : tz_dk prog_13_method_26_code 140 (.aload_n 0) 1 141 := by decide +kernel
theorem td_M_copy_141 : tz_dk prog_13_method_26_code 141 (.getfield 22) 3 144 := by decide +kernel
theorem td_M_copy_144 : tz_dk prog_13_method_26_code 144 (.bipush 120) 2 146 := by decide +kernel
theorem td_M_copy_146 : tz_dk prog_13_method_26_code 146 (.iload_n 1) 1 147 := by decide +kernel
theorem td_M_copy_147 : tz_dk prog_13_method_26_code 147 (.imul) 1 148 := by decide +kernel
theorem td_M_copy_148 : tz_dk prog_13_method_26_code 148 (.iload_n 2) 1 149 := by decide +kernel
theorem td_M_copy_149 : tz_dk prog_13_method_26_code 149 (.iadd) 1 150 := by decide +kernel
theorem td_M_copy_150 : tz_dk prog_13_method_26_code 150 (.iload 6) 2 152 := by decide +kernel
theorem td_M_copy_152 : tz_dk prog_13_method_26_code 152 (.iadd) 1 153 := by decide +kernel
theorem td_M_copy_153 : tz_dk prog_13_method_26_code 153 (.iaload) 1 154 := by decide +kernel
theorem td_M_copy_154 : tz_dk prog_13_method_26_code 154 (.iastore) 1 155 := by decide +kernel
theorem td_M_copy_155 : tz_dk prog_13_method_26_code 155 (.iinc 6 1) 3 158 := by decide +kernel
theorem td_M_copy_158 : tz_dj prog_13_method_26_code 158 (.goto (-31)) (-31) 161 127 := by decide +kernel
theorem td_M_copy_161 : tz_dk prog_13_method_26_code 161 (.iconst 0) 1 162 := by decide +kernel
theorem td_M_copy_162 : tz_dk prog_13_method_26_code 162 (.istore 6) 2 164 := by decide +kernel
theorem td_M_copy_164 : tz_dk prog_13_method_26_code 164 (.iload 6) 2 166 := by decide +kernel
theorem td_M_copy_166 : tz_dk prog_13_method_26_code 166 (.iload 5) 2 168 := by decide +kernel
theorem td_M_copy_168 : tz_dj prog_13_method_26_code 168 (.if_icmp .ge 31) (31) 171 199 := by decide +kernel
theorem td_M_copy_171 : tz_dk prog_13_method_26_code 171 (.aload_n 0) 1 172 := by decide +kernel
theorem td_M_copy_172 : tz_dk prog_13_method_26_code 172 (.getfield 22) 3 175 := by decide +kernel
theorem td_M_copy_175 : tz_dk prog_13_method_26_code 175 (.bipush 120) 2 177 := by decide +kernel
theorem td_M_copy_177 : tz_dk prog_13_method_26_code 177 (.iload_n 3) 1 178 := by decide +kernel
theorem td_M_copy_178 : tz_dk prog_13_method_26_code 178 (.imul) 1 179 := by decide +kernel
theorem td_M_copy_179 : tz_dk prog_13_method_26_code 179 (.iload 4) 2 181 := by decide +kernel
theorem td_M_copy_181 : tz_dk prog_13_method_26_code 181 (.iadd) 1 182 := by decide +kernel
theorem td_M_copy_182 : tz_dk prog_13_method_26_code 182 (.iload 6) 2 184 := by decide +kernel
theorem td_M_copy_184 : tz_dk prog_13_method_26_code 184 (.iadd) 1 185 := by decide +kernel
theorem td_M_copy_185 : tz_dk prog_13_method_26_code 185 (.aload_n 0) 1 186 := by decide +kernel
theorem td_M_copy_186 : tz_dk prog_13_method_26_code 186 (.getfield 31) 3 189 := by decide +kernel
theorem td_M_copy_189 : tz_dk prog_13_method_26_code 189 (.iload 6) 2 191 := by decide +kernel
theorem td_M_copy_191 : tz_dk prog_13_method_26_code 191 (.iaload) 1 192 := by decide +kernel
theorem td_M_copy_192 : tz_dk prog_13_method_26_code 192 (.iastore) 1 193 := by decide +kernel
theorem td_M_copy_193 : tz_dk prog_13_method_26_code 193 (.iinc 6 1) 3 196 := by decide +kernel
theorem td_M_copy_196 : tz_dj prog_13_method_26_code 196 (.goto (-32)) (-32) 199 164 := by decide +kernel
theorem td_M_copy_199 : tz_dk prog_13_method_26_code 199 (.iload 5) 2 201 := by decide +kernel
theorem td_M_copy_201 : tz_dk prog_13_method_26_code 201 (.ireturn) 1 202 := by decide +kernel
theorem td_M_lay_0 : tz_dk prog_13_method_27_code 0 (.iload_n 1) 1 1 := by decide +kernel
theorem td_M_lay_1 : tz_dk prog_13_method_27_code 1 (.invokestatic 42) 3 4 := by decide +kernel
theorem td_M_lay_4 : tz_dj prog_13_method_27_code 4 (.ifCond .eq 10) (10) 7 14 := by decide +kernel
theorem td_M_lay_7 : tz_dk prog_13_method_27_code 7 (.iload_n 2) 1 8 := by decide +kernel
theorem td_M_lay_8 : tz_dk prog_13_method_27_code 8 (.invokestatic 91) 3 11 := by decide +kernel
theorem td_M_lay_11 : tz_dj prog_13_method_27_code 11 (.ifCond .ne 10) (10) 14 21 := by decide +kernel
theorem td_M_lay_14 : tz_dk prog_13_method_27_code 14 (.aload_n 0) 1 15 := by decide +kernel
theorem td_M_lay_15 : tz_dk prog_13_method_27_code 15 (.ldc 61) 2 17 := by decide +kernel
theorem td_M_lay_17 : tz_dk prog_13_method_27_code 17 (.invokevirtual 50) 3 20 := by decide +kernel
theorem td_M_lay_20 : tz_dk prog_13_method_27_code 20 (.ireturn) 1 21 := by decide +kernel
theorem td_M_lay_21 : tz_dk prog_13_method_27_code 21 (.aload_n 0) 1 22 := by decide +kernel
theorem td_M_lay_22 : tz_dk prog_13_method_27_code 22 (.getfield 16) 3 25 := by decide +kernel
theorem td_M_lay_25 : tz_dk prog_13_method_27_code 25 (.iload_n 2) 1 26 := by decide +kernel
theorem td_M_lay_26 : tz_dk prog_13_method_27_code 26 (.iaload) 1 27 := by decide +kernel
theorem td_M_lay_27 : tz_dj prog_13_method_27_code 27 (.ifCond .ne 10) (10) 30 37 := by decide +kernel
theorem td_M_lay_30 : tz_dk prog_13_method_27_code 30 (.aload_n 0) 1 31 := by decide +kernel
theorem td_M_lay_31 : tz_dk prog_13_method_27_code 31 (.ldc 95) 2 33 := by decide +kernel
theorem td_M_lay_33 : tz_dk prog_13_method_27_code 33 (.invokevirtual 50) 3 36 := by decide +kernel
theorem td_M_lay_36 : tz_dk prog_13_method_27_code 36 (.ireturn) 1 37 := by decide +kernel
theorem td_M_lay_37 : tz_dk prog_13_method_27_code 37 (.aload_n 0) 1 38 := by decide +kernel
theorem td_M_lay_38 : tz_dk prog_13_method_27_code 38 (.invokevirtual 62) 3 41 := by decide +kernel
theorem td_M_lay_41 : tz_dk prog_13_method_27_code 41 (.aload_n 0) 1 42 := by decide +kernel
theorem td_M_lay_42 : tz_dk prog_13_method_27_code 42 (.aload_n 0) 1 43 := by decide +kernel
theorem td_M_lay_43 : tz_dk prog_13_method_27_code 43 (.getfield 19) 3 46 := by decide +kernel
theorem td_M_lay_46 : tz_dk prog_13_method_27_code 46 (.iload_n 2) 1 47 := by decide +kernel
theorem td_M_lay_47 : tz_dk prog_13_method_27_code 47 (.iaload) 1 48 := by decide +kernel
theorem td_M_lay_48 : tz_dk prog_13_method_27_code 48 (.putfield 54) 3 51 := by decide +kernel
theorem td_M_lay_51 : tz_dk prog_13_method_27_code 51 (.iconst 0) 1 52 := by decide +kernel
theorem td_M_lay_52 : tz_dk prog_13_method_27_code 52 (.istore_n 3) 1 53 := by decide +kernel
theorem td_M_lay_53 : tz_dk prog_13_method_27_code 53 (.iload_n 3) 1 54 := by decide +kernel
theorem td_M_lay_54 : tz_dk prog_13_method_27_code 54 (.aload_n 0) 1 55 := by decide +kernel
theorem td_M_lay_55 : tz_dk prog_13_method_27_code 55 (.getfield 54) 3 58 := by decide +kernel
theorem td_M_lay_58 : tz_dj prog_13_method_27_code 58 (.if_icmp .ge 67) (67) 61 125 := by decide +kernel
theorem td_M_lay_61 : tz_dk prog_13_method_27_code 61 (.aload_n 0) 1 62 := by decide +kernel
theorem td_M_lay_62 : tz_dk prog_13_method_27_code 62 (.getfield 22) 3 65 := by decide +kernel
theorem td_M_lay_65 : tz_dk prog_13_method_27_code 65 (.bipush 120) 2 67 := by decide +kernel
theorem td_M_lay_67 : tz_dk prog_13_method_27_code 67 (.iload_n 2) 1 68 := by decide +kernel
theorem td_M_lay_68 : tz_dk prog_13_method_27_code 68 (.imul) 1 69 := by decide +kernel
theorem td_M_lay_69 : tz_dk prog_13_method_27_code 69 (.iload_n 3) 1 70 := by decide +kernel
theorem td_M_lay_70 : tz_dk prog_13_method_27_code 70 (.iadd) 1 71 := by decide +kernel
theorem td_M_lay_71 : tz_dk prog_13_method_27_code 71 (.iaload) 1 72 := by decide +kernel
theorem td_M_lay_72 : tz_dk prog_13_method_27_code 72 (.istore 4) 2 74 := by decide +kernel
theorem td_M_lay_74 : tz_dk prog_13_method_27_code 74 (.aload_n 0) 1 75 := by decide +kernel
theorem td_M_lay_75 : tz_dk prog_13_method_27_code 75 (.getfield 25) 3 78 := by decide +kernel
theorem td_M_lay_78 : tz_dk prog_13_method_27_code 78 (.iload_n 3) 1 79 := by decide +kernel
theorem td_M_lay_79 : tz_dk prog_13_method_27_code 79 (.iload 4) 2 81 := by decide +kernel
theorem td_M_lay_81 : tz_dk prog_13_method_27_code 81 (.sipush (-10000)) 3 84 := by decide +kernel
theorem td_M_lay_84 : tz_dk prog_13_method_27_code 84 (.sipush 10000) 3 87 := by decide +kernel
theorem td_M_lay_87 : tz_dk prog_13_method_27_code 87 (.invokestatic 38) 3 90 := by decide +kernel
theorem td_M_lay_90 : tz_dj prog_13_method_27_code 90 (.ifCond .eq 21) (21) 93 111 := by decide +kernel
theorem td_M_lay_93 : tz_dk prog_13_method_27_code 93 (.aload_n 0) 1 94 := by decide +kernel
theorem td_M_lay_94 : tz_dk prog_13_method_27_code 94 (.getfield 16) 3 97 := by decide +kernel
theorem td_M_lay_97 : tz_dk prog_13_method_27_code 97 (.iload_n 2) 1 98 := by decide +kernel
theorem td_M_lay_98 : tz_dk prog_13_method_27_code 98 (.iaload) 1 99 := by decide +kernel
theorem td_M_lay_99 : tz_dk prog_13_method_27_code 99 (.bipush 8) 2 101 := by decide +kernel
theorem td_M_lay_101 : tz_dj prog_13_method_27_code 101 (.if_icmp .ne 15) (15) 104 116 := by decide +kernel
theorem td_M_lay_104 : tz_dk prog_13_method_27_code 104 (.iload 4) 2 106 := by decide +kernel
theorem td_M_lay_106 : tz_dk prog_13_method_27_code 106 (.bipush (-128)) 2 108 := by decide +kernel
theorem td_M_lay_108 : tz_dj prog_13_method_27_code 108 (.if_icmp .ne 8) (8) 111 116 := by decide +kernel
theorem td_M_lay_111 : tz_dk prog_13_method_27_code 111 (.ldc 69) 2 113 := by decide +kernel
theorem td_M_lay_113 : tz_dj prog_13_method_27_code 113 (.goto 5) (5) 116 118 := by decide +kernel
theorem td_M_lay_116 : tz_dk prog_13_method_27_code 116 (.iload 4) 2 118 := by decide +kernel
theorem td_M_lay_118 : tz_dk prog_13_method_27_code 118 (.iastore) 1 119 := by decide +kernel
theorem td_M_lay_119 : tz_dk prog_13_method_27_code 119 (.iinc 3 1) 3 122 := by decide +kernel
theorem td_M_lay_122 : tz_dj prog_13_method_27_code 122 (.goto (-69)) (-69) 125 53 := by decide +kernel
theorem td_M_lay_125 : tz_dk prog_13_method_27_code 125 (.aload_n 0) 1 126 := by decide +kernel
theorem td_M_lay_126 : tz_dk prog_13_method_27_code 126 (.iload_n 1) 1 127 := by decide +kernel
theorem td_M_lay_127 : tz_dk prog_13_method_27_code 127 (.invokevirtual 100) 3 130 := by decide +kernel
theorem td_M_lay_130 : tz_dk prog_13_method_27_code 130 (.aload_n 0) 1 131 := by decide +kernel
theorem td_M_lay_131 : tz_dk prog_13_method_27_code 131 (.getfield 54) 3 134 := by decide +kernel
theorem td_M_lay_134 : tz_dk prog_13_method_27_code 134 (.aload_n 0) 1 135 := by decide +kernel
theorem td_M_lay_135 : tz_dk prog_13_method_27_code 135 (.invokevirtual 78) 3 138 := by decide +kernel
theorem td_M_lay_138 : tz_dk prog_13_method_27_code 138 (.isub) 1 139 := by decide +kernel
theorem td_M_lay_139 : tz_dk prog_13_method_27_code 139 (.ireturn) 1 140 := by decide +kernel
theorem td_M_laysDown_0 : tz_dk prog_13_method_10_code 0 (.aload_n 0) 1 1 := by decide +kernel
theorem td_M_laysDown_1 : tz_dk prog_13_method_10_code 1 (.getfield 9) 3 4 := by decide +kernel
theorem td_M_laysDown_4 : tz_dk prog_13_method_10_code 4 (.iconst 0) 1 5 := by decide +kernel
theorem td_M_laysDown_5 : tz_dk prog_13_method_10_code 5 (.iload_n 1) 1 6 := by decide +kernel
theorem td_M_laysDown_6 : tz_dk prog_13_method_10_code 6 (.iadd) 1 7 := by decide +kernel
theorem td_M_laysDown_7 : tz_dk prog_13_method_10_code 7 (.aload_n 0) 1 8 := by decide +kernel
theorem td_M_laysDown_8 : tz_dk prog_13_method_10_code 8 (.getfield 54) 3 11 := by decide +kernel
theorem td_M_laysDown_11 : tz_dk prog_13_method_10_code 11 (.iastore) 1 12 := by decide +kernel
theorem td_M_laysDown_12 : tz_dk prog_13_method_10_code 12 (.iconst 0) 1 13 := by decide +kernel
theorem td_M_laysDown_13 : tz_dk prog_13_method_10_code 13 (.istore_n 2) 1 14 := by decide +kernel
theorem td_M_laysDown_14 : tz_dk prog_13_method_10_code 14 (.iload_n 2) 1 15 := by decide +kernel
theorem td_M_laysDown_15 : tz_dk prog_13_method_10_code 15 (.aload_n 0) 1 16 := by decide +kernel
theorem td_M_laysDown_16 : tz_dk prog_13_method_10_code 16 (.getfield 54) 3 19 := by decide +kernel
theorem td_M_laysDown_19 : tz_dj prog_13_method_10_code 19 (.if_icmp .ge 28) (28) 22 47 := by decide +kernel
theorem td_M_laysDown_22 : tz_dk prog_13_method_10_code 22 (.aload_n 0) 1 23 := by decide +kernel
theorem td_M_laysDown_23 : tz_dk prog_13_method_10_code 23 (.getfield 9) 3 26 := by decide +kernel
theorem td_M_laysDown_26 : tz_dk prog_13_method_10_code 26 (.iconst 4) 1 27 := by decide +kernel
theorem td_M_laysDown_27 : tz_dk prog_13_method_10_code 27 (.bipush 120) 2 29 := by decide +kernel
theorem td_M_laysDown_29 : tz_dk prog_13_method_10_code 29 (.iload_n 1) 1 30 := by decide +kernel
theorem td_M_laysDown_30 : tz_dk prog_13_method_10_code 30 (.imul) 1 31 := by decide +kernel
theorem td_M_laysDown_31 : tz_dk prog_13_method_10_code 31 (.iadd) 1 32 := by decide +kernel
theorem td_M_laysDown_32 : tz_dk prog_13_method_10_code 32 (.iload_n 2) 1 33 := by decide +kernel
theorem td_M_laysDown_33 : tz_dk prog_13_method_10_code 33 (.iadd) 1 34 := by decide +kernel
theorem td_M_laysDown_34 : tz_dk prog_13_method_10_code 34 (.aload_n 0) 1 35 := by decide +kernel
theorem td_M_laysDown_35 : tz_dk prog_13_method_10_code 35 (.getfield 25) 3 38 := by decide +kernel
theorem td_M_laysDown_38 : tz_dk prog_13_method_10_code 38 (.iload_n 2) 1 39 := by decide +kernel
theorem td_M_laysDown_39 : tz_dk prog_13_method_10_code 39 (.iaload) 1 40 := by decide +kernel
theorem td_M_laysDown_40 : tz_dk prog_13_method_10_code 40 (.iastore) 1 41 := by decide +kernel
theorem td_M_laysDown_41 : tz_dk prog_13_method_10_code 41 (.iinc 2 1) 3 44 := by decide +kernel
theorem td_M_laysDown_44 : tz_dj prog_13_method_10_code 44 (.goto (-30)) (-30) 47 14 := by decide +kernel
theorem td_M_laysDown_47 : tz_dk prog_13_method_10_code 47 (.return_) 1 48 := by decide +kernel
theorem td_M_layer_0 : tz_dk prog_13_method_33_code 0 (.iload_n 1) 1 1 := by decide +kernel
theorem td_M_layer_1 : tz_dk prog_13_method_33_code 1 (.iload_n 2) 1 2 := by decide +kernel
theorem td_M_layer_2 : tz_dk prog_13_method_33_code 2 (.iload_n 3) 1 3 := by decide +kernel
theorem td_M_layer_3 : tz_dk prog_13_method_33_code 3 (.invokestatic 108) 3 6 := by decide +kernel
theorem td_M_layer_6 : tz_dj prog_13_method_33_code 6 (.ifCond .ne 10) (10) 9 16 := by decide +kernel
theorem td_M_layer_9 : tz_dk prog_13_method_33_code 9 (.aload_n 0) 1 10 := by decide +kernel
theorem td_M_layer_10 : tz_dk prog_13_method_33_code 10 (.ldc 61) 2 12 := by decide +kernel
theorem td_M_layer_12 : tz_dk prog_13_method_33_code 12 (.invokevirtual 50) 3 15 := by decide +kernel
theorem td_M_layer_15 : tz_dk prog_13_method_33_code 15 (.ireturn) 1 16 := by decide +kernel
theorem td_M_layer_16 : tz_dk prog_13_method_33_code 16 (.aload_n 0) 1 17 := by decide +kernel
theorem td_M_layer_17 : tz_dk prog_13_method_33_code 17 (.getfield 9) 3 20 := by decide +kernel
theorem td_M_layer_20 : tz_dk prog_13_method_33_code 20 (.sipush 484) 3 23 := by decide +kernel
theorem td_M_layer_23 : tz_dk prog_13_method_33_code 23 (.iaload) 1 24 := by decide +kernel
theorem td_M_layer_24 : tz_dk prog_13_method_33_code 24 (.istore 4) 2 26 := by decide +kernel
theorem td_M_layer_26 : tz_dk prog_13_method_33_code 26 (.iload 4) 2 28 := by decide +kernel
theorem td_M_layer_28 : tz_dk prog_13_method_33_code 28 (.bipush 8) 2 30 := by decide +kernel
theorem td_M_layer_30 : tz_dj prog_13_method_33_code 30 (.if_icmp .ne 10) (10) 33 40 := by decide +kernel
theorem td_M_layer_33 : tz_dk prog_13_method_33_code 33 (.aload_n 0) 1 34 := by decide +kernel
theorem td_M_layer_34 : tz_dk prog_13_method_33_code 34 (.ldc 111) 2 36 := by decide +kernel
theorem td_M_layer_36 : tz_dk prog_13_method_33_code 36 (.invokevirtual 50) 3 39 := by decide +kernel
theorem td_M_layer_39 : tz_dk prog_13_method_33_code 39 (.ireturn) 1 40 := by decide +kernel
theorem td_M_layer_40 : tz_dk prog_13_method_33_code 40 (.aload_n 0) 1 41 := by decide +kernel
theorem td_M_layer_41 : tz_dk prog_13_method_33_code 41 (.invokevirtual 62) 3 44 := by decide +kernel
theorem td_M_layer_44 : tz_dk prog_13_method_33_code 44 (.aload_n 0) 1 45 := by decide +kernel
theorem td_M_layer_45 : tz_dk prog_13_method_33_code 45 (.iload 4) 2 47 := by decide +kernel
theorem td_M_layer_47 : tz_dk prog_13_method_33_code 47 (.iload_n 1) 1 48 := by decide +kernel
theorem td_M_layer_48 : tz_dk prog_13_method_33_code 48 (.iload_n 2) 1 49 := by decide +kernel
theorem td_M_layer_49 : tz_dk prog_13_method_33_code 49 (.iload_n 1) 1 50 := by decide +kernel
theorem td_M_layer_50 : tz_dk prog_13_method_33_code 50 (.invokestatic 112) 3 53 := by decide +kernel
theorem td_M_layer_53 : tz_dj prog_13_method_33_code 53 (.ifCond .eq 7) (7) 56 60 := by decide +kernel
theorem td_M_layer_56 : tz_dk prog_13_method_33_code 56 (.iload_n 3) 1 57 := by decide +kernel
theorem td_M_layer_57 : tz_dj prog_13_method_33_code 57 (.goto 4) (4) 60 61 := by decide +kernel
theorem td_M_layer_60 : tz_dk prog_13_method_33_code 60 (.iconst 0) 1 61 := by decide +kernel
theorem td_M_layer_61 : tz_dk prog_13_method_33_code 61 (.iconst 1) 1 62 := by decide +kernel
theorem td_M_layer_62 : tz_dk prog_13_method_33_code 62 (.invokevirtual 104) 3 65 := by decide +kernel
theorem td_M_layer_65 : tz_dk prog_13_method_33_code 65 (.aload_n 0) 1 66 := by decide +kernel
theorem td_M_layer_66 : tz_dk prog_13_method_33_code 66 (.getfield 9) 3 69 := by decide +kernel
theorem td_M_layer_69 : tz_dk prog_13_method_33_code 69 (.sipush 484) 3 72 := by decide +kernel
theorem td_M_layer_72 : tz_dk prog_13_method_33_code 72 (.dup2) 1 73 := by decide +kernel
theorem td_M_layer_73 : tz_dk prog_13_method_33_code 73 (.iaload) 1 74 := by decide +kernel
theorem td_M_layer_74 : tz_dk prog_13_method_33_code 74 (.iconst 1) 1 75 := by decide +kernel
theorem td_M_layer_75 : tz_dk prog_13_method_33_code 75 (.iadd) 1 76 := by decide +kernel
theorem td_M_layer_76 : tz_dk prog_13_method_33_code 76 (.iastore) 1 77 := by decide +kernel
theorem td_M_layer_77 : tz_dk prog_13_method_33_code 77 (.iload 4) 2 79 := by decide +kernel
theorem td_M_layer_79 : tz_dk prog_13_method_33_code 79 (.ireturn) 1 80 := by decide +kernel
theorem td_M_isTold_0 : tz_dk prog_13_method_29_code 0 (.iload_n 0) 1 1 := by decide +kernel
theorem td_M_isTold_1 : decode prog_13_method_29_code 1 = .ok (.tableswitch 135 0 6 #[43, 54, 62, 85, 93, 101, 127], 43) := by decide +kernel
theorem td_M_isTold_44 : tz_dk prog_13_method_29_code 44 (.iload_n 1) 1 45 := by decide +kernel
theorem td_M_isTold_45 : tz_dk prog_13_method_29_code 45 (.sipush (-400)) 3 48 := by decide +kernel
theorem td_M_isTold_48 : tz_dk prog_13_method_29_code 48 (.sipush 400) 3 51 := by decide +kernel
theorem td_M_isTold_51 : tz_dk prog_13_method_29_code 51 (.invokestatic 38) 3 54 := by decide +kernel
theorem td_M_isTold_54 : tz_dk prog_13_method_29_code 54 (.ireturn) 1 55 := by decide +kernel
theorem td_M_isTold_55 : tz_dk prog_13_method_29_code 55 (.iload_n 1) 1 56 := by decide +kernel
theorem td_M_isTold_56 : tz_dk prog_13_method_29_code 56 (.iconst 1) 1 57 := by decide +kernel
theorem td_M_isTold_57 : tz_dk prog_13_method_29_code 57 (.ldc 103) 2 59 := by decide +kernel
theorem td_M_isTold_59 : tz_dk prog_13_method_29_code 59 (.invokestatic 38) 3 62 := by decide +kernel
theorem td_M_isTold_62 : tz_dk prog_13_method_29_code 62 (.ireturn) 1 63 := by decide +kernel
theorem td_M_isTold_63 : tz_dk prog_13_method_29_code 63 (.iload_n 1) 1 64 := by decide +kernel
theorem td_M_isTold_64 : tz_dk prog_13_method_29_code 64 (.invokestatic 42) 3 67 := by decide +kernel
theorem td_M_isTold_67 : tz_dj prog_13_method_29_code 67 (.ifCond .eq 17) (17) 70 84 := by decide +kernel
theorem td_M_isTold_70 : tz_dk prog_13_method_29_code 70 (.iload_n 2) 1 71 := by decide +kernel
theorem td_M_isTold_71 : tz_dk prog_13_method_29_code 71 (.iconst 0) 1 72 := by decide +kernel
theorem td_M_isTold_72 : tz_dk prog_13_method_29_code 72 (.bipush 9) 2 74 := by decide +kernel
theorem td_M_isTold_74 : tz_dk prog_13_method_29_code 74 (.invokestatic 38) 3 77 := by decide +kernel
theorem td_M_isTold_77 : tz_dj prog_13_method_29_code 77 (.ifCond .eq 7) (7) 80 84 := by decide +kernel
theorem td_M_isTold_80 : tz_dk prog_13_method_29_code 80 (.iconst 1) 1 81 := by decide +kernel
theorem td_M_isTold_81 : tz_dj prog_13_method_29_code 81 (.goto 4) (4) 84 85 := by decide +kernel
theorem td_M_isTold_84 : tz_dk prog_13_method_29_code 84 (.iconst 0) 1 85 := by decide +kernel
theorem td_M_isTold_85 : tz_dk prog_13_method_29_code 85 (.ireturn) 1 86 := by decide +kernel
theorem td_M_isTold_86 : tz_dk prog_13_method_29_code 86 (.iload_n 1) 1 87 := by decide +kernel
theorem td_M_isTold_87 : tz_dk prog_13_method_29_code 87 (.iconst 1) 1 88 := by decide +kernel
theorem td_M_isTold_88 : tz_dk prog_13_method_29_code 88 (.bipush 20) 2 90 := by decide +kernel
theorem td_M_isTold_90 : tz_dk prog_13_method_29_code 90 (.invokestatic 38) 3 93 := by decide +kernel
theorem td_M_isTold_93 : tz_dk prog_13_method_29_code 93 (.ireturn) 1 94 := by decide +kernel
theorem td_M_isTold_94 : tz_dk prog_13_method_29_code 94 (.iload_n 1) 1 95 := by decide +kernel
theorem td_M_isTold_95 : tz_dk prog_13_method_29_code 95 (.iconst 1) 1 96 := by decide +kernel
theorem td_M_isTold_96 : tz_dk prog_13_method_29_code 96 (.bipush 30) 2 98 := by decide +kernel
theorem td_M_isTold_98 : tz_dk prog_13_method_29_code 98 (.invokestatic 38) 3 101 := by decide +kernel
theorem td_M_isTold_101 : tz_dk prog_13_method_29_code 101 (.ireturn) 1 102 := by decide +kernel
theorem td_M_isTold_102 : tz_dk prog_13_method_29_code 102 (.iload_n 1) 1 103 := by decide +kernel
theorem td_M_isTold_103 : tz_dk prog_13_method_29_code 103 (.iconst 0) 1 104 := by decide +kernel
theorem td_M_isTold_104 : tz_dk prog_13_method_29_code 104 (.bipush 119) 2 106 := by decide +kernel
theorem td_M_isTold_106 : tz_dk prog_13_method_29_code 106 (.invokestatic 38) 3 109 := by decide +kernel
theorem td_M_isTold_109 : tz_dj prog_13_method_29_code 109 (.ifCond .eq 17) (17) 112 126 := by decide +kernel
theorem td_M_isTold_112 : tz_dk prog_13_method_29_code 112 (.iload_n 2) 1 113 := by decide +kernel
theorem td_M_isTold_113 : tz_dk prog_13_method_29_code 113 (.iconst 1) 1 114 := by decide +kernel
theorem td_M_isTold_114 : tz_dk prog_13_method_29_code 114 (.bipush 120) 2 116 := by decide +kernel
theorem td_M_isTold_116 : tz_dk prog_13_method_29_code 116 (.invokestatic 38) 3 119 := by decide +kernel
theorem td_M_isTold_119 : tz_dj prog_13_method_29_code 119 (.ifCond .eq 7) (7) 122 126 := by decide +kernel
theorem td_M_isTold_122 : tz_dk prog_13_method_29_code 122 (.iconst 1) 1 123 := by decide +kernel
theorem td_M_isTold_123 : tz_dj prog_13_method_29_code 123 (.goto 4) (4) 126 127 := by decide +kernel
theorem td_M_isTold_126 : tz_dk prog_13_method_29_code 126 (.iconst 0) 1 127 := by decide +kernel
theorem td_M_isTold_127 : tz_dk prog_13_method_29_code 127 (.ireturn) 1 128 := by decide +kernel
theorem td_M_isTold_128 : tz_dk prog_13_method_29_code 128 (.iload_n 1) 1 129 := by decide +kernel
theorem td_M_isTold_129 : tz_dk prog_13_method_29_code 129 (.iconst 1) 1 130 := by decide +kernel
theorem td_M_isTold_130 : tz_dk prog_13_method_29_code 130 (.bipush 120) 2 132 := by decide +kernel
theorem td_M_isTold_132 : tz_dk prog_13_method_29_code 132 (.invokestatic 38) 3 135 := by decide +kernel
theorem td_M_isTold_135 : tz_dk prog_13_method_29_code 135 (.ireturn) 1 136 := by decide +kernel
theorem td_M_isTold_136 : tz_dk prog_13_method_29_code 136 (.iconst 0) 1 137 := by decide +kernel
theorem td_M_isTold_137 : tz_dk prog_13_method_29_code 137 (.ireturn) 1 138 := by decide +kernel
theorem td_M_hasB_0 : tz_dk prog_13_method_28_code 0 (.iload_n 0) 1 1 := by decide +kernel
theorem td_M_hasB_1 : tz_dk prog_13_method_28_code 1 (.iconst 2) 1 2 := by decide +kernel
theorem td_M_hasB_2 : tz_dj prog_13_method_28_code 2 (.if_icmp .eq 8) (8) 5 10 := by decide +kernel
theorem td_M_hasB_5 : tz_dk prog_13_method_28_code 5 (.iload_n 0) 1 6 := by decide +kernel
theorem td_M_hasB_6 : tz_dk prog_13_method_28_code 6 (.iconst 5) 1 7 := by decide +kernel
theorem td_M_hasB_7 : tz_dj prog_13_method_28_code 7 (.if_icmp .ne 7) (7) 10 14 := by decide +kernel
theorem td_M_hasB_10 : tz_dk prog_13_method_28_code 10 (.iconst 1) 1 11 := by decide +kernel
theorem td_M_hasB_11 : tz_dj prog_13_method_28_code 11 (.goto 4) (4) 14 15 := by decide +kernel
theorem td_M_hasB_14 : tz_dk prog_13_method_28_code 14 (.iconst 0) 1 15 := by decide +kernel
theorem td_M_hasB_15 : tz_dk prog_13_method_28_code 15 (.ireturn) 1 16 := by decide +kernel
theorem td_M_setLayer_0 : tz_dk prog_13_method_31_code 0 (.aload_n 0) 1 1 := by decide +kernel
theorem td_M_setLayer_1 : tz_dk prog_13_method_31_code 1 (.getfield 9) 3 4 := by decide +kernel
theorem td_M_setLayer_4 : tz_dk prog_13_method_31_code 4 (.sipush 488) 3 7 := by decide +kernel
theorem td_M_setLayer_7 : tz_dk prog_13_method_31_code 7 (.iload_n 1) 1 8 := by decide +kernel
theorem td_M_setLayer_8 : tz_dk prog_13_method_31_code 8 (.iadd) 1 9 := by decide +kernel
theorem td_M_setLayer_9 : tz_dk prog_13_method_31_code 9 (.iload_n 2) 1 10 := by decide +kernel
theorem td_M_setLayer_10 : tz_dk prog_13_method_31_code 10 (.iastore) 1 11 := by decide +kernel
theorem td_M_setLayer_11 : tz_dk prog_13_method_31_code 11 (.aload_n 0) 1 12 := by decide +kernel
theorem td_M_setLayer_12 : tz_dk prog_13_method_31_code 12 (.getfield 9) 3 15 := by decide +kernel
theorem td_M_setLayer_15 : tz_dk prog_13_method_31_code 15 (.sipush 496) 3 18 := by decide +kernel
theorem td_M_setLayer_18 : tz_dk prog_13_method_31_code 18 (.iload_n 1) 1 19 := by decide +kernel
theorem td_M_setLayer_19 : tz_dk prog_13_method_31_code 19 (.iadd) 1 20 := by decide +kernel
theorem td_M_setLayer_20 : tz_dk prog_13_method_31_code 20 (.iload_n 3) 1 21 := by decide +kernel
theorem td_M_setLayer_21 : tz_dk prog_13_method_31_code 21 (.iastore) 1 22 := by decide +kernel
theorem td_M_setLayer_22 : tz_dk prog_13_method_31_code 22 (.aload_n 0) 1 23 := by decide +kernel
theorem td_M_setLayer_23 : tz_dk prog_13_method_31_code 23 (.getfield 9) 3 26 := by decide +kernel
theorem td_M_setLayer_26 : tz_dk prog_13_method_31_code 26 (.sipush 504) 3 29 := by decide +kernel
theorem td_M_setLayer_29 : tz_dk prog_13_method_31_code 29 (.iload_n 1) 1 30 := by decide +kernel
theorem td_M_setLayer_30 : tz_dk prog_13_method_31_code 30 (.iadd) 1 31 := by decide +kernel
theorem td_M_setLayer_31 : tz_dk prog_13_method_31_code 31 (.iload 4) 2 33 := by decide +kernel
theorem td_M_setLayer_33 : tz_dk prog_13_method_31_code 33 (.iastore) 1 34 := by decide +kernel
theorem td_M_setLayer_34 : tz_dk prog_13_method_31_code 34 (.aload_n 0) 1 35 := by decide +kernel
theorem td_M_setLayer_35 : tz_dk prog_13_method_31_code 35 (.getfield 9) 3 38 := by decide +kernel
theorem td_M_setLayer_38 : tz_dk prog_13_method_31_code 38 (.sipush 512) 3 41 := by decide +kernel
theorem td_M_setLayer_41 : tz_dk prog_13_method_31_code 41 (.iload_n 1) 1 42 := by decide +kernel
theorem td_M_setLayer_42 : tz_dk prog_13_method_31_code 42 (.iadd) 1 43 := by decide +kernel
theorem td_M_setLayer_43 : tz_dk prog_13_method_31_code 43 (.iload 5) 2 45 := by decide +kernel
theorem td_M_setLayer_45 : tz_dk prog_13_method_31_code 45 (.iastore) 1 46 := by decide +kernel
theorem td_M_setLayer_46 : tz_dk prog_13_method_31_code 46 (.return_) 1 47 := by decide +kernel
theorem td_M_turnOn_0 : tz_dk prog_13_method_34_code 0 (.aload_n 0) 1 1 := by decide +kernel
theorem td_M_turnOn_1 : tz_dk prog_13_method_34_code 1 (.iload_n 1) 1 2 := by decide +kernel
theorem td_M_turnOn_2 : tz_dk prog_13_method_34_code 2 (.invokevirtual 115) 3 5 := by decide +kernel
theorem td_M_turnOn_5 : tz_dj prog_13_method_34_code 5 (.ifCond .ne 10) (10) 8 15 := by decide +kernel
theorem td_M_turnOn_8 : tz_dk prog_13_method_34_code 8 (.aload_n 0) 1 9 := by decide +kernel
theorem td_M_turnOn_9 : tz_dk prog_13_method_34_code 9 (.ldc 61) 2 11 := by decide +kernel
theorem td_M_turnOn_11 : tz_dk prog_13_method_34_code 11 (.invokevirtual 50) 3 14 := by decide +kernel
theorem td_M_turnOn_14 : tz_dk prog_13_method_34_code 14 (.ireturn) 1 15 := by decide +kernel
theorem td_M_turnOn_15 : tz_dk prog_13_method_34_code 15 (.aload_n 0) 1 16 := by decide +kernel
theorem td_M_turnOn_16 : tz_dk prog_13_method_34_code 16 (.invokevirtual 62) 3 19 := by decide +kernel
theorem td_M_turnOn_19 : tz_dk prog_13_method_34_code 19 (.aload_n 0) 1 20 := by decide +kernel
theorem td_M_turnOn_20 : tz_dk prog_13_method_34_code 20 (.getfield 9) 3 23 := by decide +kernel
theorem td_M_turnOn_23 : tz_dk prog_13_method_34_code 23 (.sipush 512) 3 26 := by decide +kernel
theorem td_M_turnOn_26 : tz_dk prog_13_method_34_code 26 (.iload_n 1) 1 27 := by decide +kernel
theorem td_M_turnOn_27 : tz_dk prog_13_method_34_code 27 (.iadd) 1 28 := by decide +kernel
theorem td_M_turnOn_28 : tz_dk prog_13_method_34_code 28 (.iaload) 1 29 := by decide +kernel
theorem td_M_turnOn_29 : tz_dk prog_13_method_34_code 29 (.iconst 1) 1 30 := by decide +kernel
theorem td_M_turnOn_30 : tz_dj prog_13_method_34_code 30 (.if_icmp .ne 7) (7) 33 37 := by decide +kernel
theorem td_M_turnOn_33 : tz_dk prog_13_method_34_code 33 (.iconst 1) 1 34 := by decide +kernel
theorem td_M_turnOn_34 : tz_dj prog_13_method_34_code 34 (.goto 4) (4) 37 38 := by decide +kernel
theorem td_M_turnOn_37 : tz_dk prog_13_method_34_code 37 (.iconst 0) 1 38 := by decide +kernel
theorem td_M_turnOn_38 : tz_dk prog_13_method_34_code 38 (.istore_n 3) 1 39 := by decide +kernel
theorem td_M_turnOn_39 : tz_dk prog_13_method_34_code 39 (.aload_n 0) 1 40 := by decide +kernel
theorem td_M_turnOn_40 : tz_dk prog_13_method_34_code 40 (.getfield 9) 3 43 := by decide +kernel
theorem td_M_turnOn_43 : tz_dk prog_13_method_34_code 43 (.sipush 512) 3 46 := by decide +kernel
theorem td_M_turnOn_46 : tz_dk prog_13_method_34_code 46 (.iload_n 1) 1 47 := by decide +kernel
theorem td_M_turnOn_47 : tz_dk prog_13_method_34_code 47 (.iadd) 1 48 := by decide +kernel
theorem td_M_turnOn_48 : tz_dk prog_13_method_34_code 48 (.iload_n 2) 1 49 := by decide +kernel
theorem td_M_turnOn_49 : tz_dj prog_13_method_34_code 49 (.ifCond .eq 7) (7) 52 56 := by decide +kernel
theorem td_M_turnOn_52 : tz_dk prog_13_method_34_code 52 (.iconst 1) 1 53 := by decide +kernel
theorem td_M_turnOn_53 : tz_dj prog_13_method_34_code 53 (.goto 4) (4) 56 57 := by decide +kernel
theorem td_M_turnOn_56 : tz_dk prog_13_method_34_code 56 (.iconst 0) 1 57 := by decide +kernel
theorem td_M_turnOn_57 : tz_dk prog_13_method_34_code 57 (.iastore) 1 58 := by decide +kernel
theorem td_M_turnOn_58 : tz_dk prog_13_method_34_code 58 (.iload_n 3) 1 59 := by decide +kernel
theorem td_M_turnOn_59 : tz_dk prog_13_method_34_code 59 (.iload_n 2) 1 60 := by decide +kernel
theorem td_M_turnOn_60 : tz_dj prog_13_method_34_code 60 (.if_icmp .ne 7) (7) 63 67 := by decide +kernel
theorem td_M_turnOn_63 : tz_dk prog_13_method_34_code 63 (.iconst 0) 1 64 := by decide +kernel
theorem td_M_turnOn_64 : tz_dj prog_13_method_34_code 64 (.goto 4) (4) 67 68 := by decide +kernel
theorem td_M_turnOn_67 : tz_dk prog_13_method_34_code 67 (.iconst 1) 1 68 := by decide +kernel
theorem td_M_turnOn_68 : tz_dk prog_13_method_34_code 68 (.ireturn) 1 69 := by decide +kernel
theorem td_M_isLayer_0 : tz_dk prog_13_method_30_code 0 (.iload_n 1) 1 1 := by decide +kernel
theorem td_M_isLayer_1 : tz_dk prog_13_method_30_code 1 (.iconst 0) 1 2 := by decide +kernel
theorem td_M_isLayer_2 : tz_dk prog_13_method_30_code 2 (.aload_n 0) 1 3 := by decide +kernel
theorem td_M_isLayer_3 : tz_dk prog_13_method_30_code 3 (.getfield 9) 3 6 := by decide +kernel
theorem td_M_isLayer_6 : tz_dk prog_13_method_30_code 6 (.sipush 484) 3 9 := by decide +kernel
theorem td_M_isLayer_9 : tz_dk prog_13_method_30_code 9 (.iaload) 1 10 := by decide +kernel
theorem td_M_isLayer_10 : tz_dk prog_13_method_30_code 10 (.iconst 1) 1 11 := by decide +kernel
theorem td_M_isLayer_11 : tz_dk prog_13_method_30_code 11 (.isub) 1 12 := by decide +kernel
theorem td_M_isLayer_12 : tz_dk prog_13_method_30_code 12 (.invokestatic 38) 3 15 := by decide +kernel
theorem td_M_isLayer_15 : tz_dk prog_13_method_30_code 15 (.ireturn) 1 16 := by decide +kernel
theorem td_M_move_0 : tz_dk prog_13_method_35_code 0 (.aload_n 0) 1 1 := by decide +kernel
theorem td_M_move_1 : tz_dk prog_13_method_35_code 1 (.iload_n 1) 1 2 := by decide +kernel
theorem td_M_move_2 : tz_dk prog_13_method_35_code 2 (.invokevirtual 115) 3 5 := by decide +kernel
theorem td_M_move_5 : tz_dj prog_13_method_35_code 5 (.ifCond .eq 11) (11) 8 16 := by decide +kernel
theorem td_M_move_8 : tz_dk prog_13_method_35_code 8 (.aload_n 0) 1 9 := by decide +kernel
theorem td_M_move_9 : tz_dk prog_13_method_35_code 9 (.iload_n 2) 1 10 := by decide +kernel
theorem td_M_move_10 : tz_dk prog_13_method_35_code 10 (.invokevirtual 115) 3 13 := by decide +kernel
theorem td_M_move_13 : tz_dj prog_13_method_35_code 13 (.ifCond .ne 10) (10) 16 23 := by decide +kernel
theorem td_M_move_16 : tz_dk prog_13_method_35_code 16 (.aload_n 0) 1 17 := by decide +kernel
theorem td_M_move_17 : tz_dk prog_13_method_35_code 17 (.ldc 61) 2 19 := by decide +kernel
theorem td_M_move_19 : tz_dk prog_13_method_35_code 19 (.invokevirtual 50) 3 22 := by decide +kernel
theorem td_M_move_22 : tz_dk prog_13_method_35_code 22 (.ireturn) 1 23 := by decide +kernel
theorem td_M_move_23 : tz_dk prog_13_method_35_code 23 (.aload_n 0) 1 24 := by decide +kernel
theorem td_M_move_24 : tz_dk prog_13_method_35_code 24 (.invokevirtual 62) 3 27 := by decide +kernel
theorem td_M_move_27 : tz_dk prog_13_method_35_code 27 (.aload_n 0) 1 28 := by decide +kernel
theorem td_M_move_28 : tz_dk prog_13_method_35_code 28 (.getfield 9) 3 31 := by decide +kernel
theorem td_M_move_31 : tz_dk prog_13_method_35_code 31 (.sipush 488) 3 34 := by decide +kernel
theorem td_M_move_34 : tz_dk prog_13_method_35_code 34 (.iload_n 1) 1 35 := by decide +kernel
theorem td_M_move_35 : tz_dk prog_13_method_35_code 35 (.iadd) 1 36 := by decide +kernel
theorem td_M_move_36 : tz_dk prog_13_method_35_code 36 (.iaload) 1 37 := by decide +kernel
theorem td_M_move_37 : tz_dk prog_13_method_35_code 37 (.istore_n 3) 1 38 := by decide +kernel
theorem td_M_move_38 : tz_dk prog_13_method_35_code 38 (.aload_n 0) 1 39 := by decide +kernel
theorem td_M_move_39 : tz_dk prog_13_method_35_code 39 (.getfield 9) 3 42 := by decide +kernel
theorem td_M_move_42 : tz_dk prog_13_method_35_code 42 (.sipush 496) 3 45 := by decide +kernel
theorem td_M_move_45 : tz_dk prog_13_method_35_code 45 (.iload_n 1) 1 46 := by decide +kernel
theorem td_M_move_46 : tz_dk prog_13_method_35_code 46 (.iadd) 1 47 := by decide +kernel
theorem td_M_move_47 : tz_dk prog_13_method_35_code 47 (.iaload) 1 48 := by decide +kernel
theorem td_M_move_48 : tz_dk prog_13_method_35_code 48 (.istore 4) 2 50 := by decide +kernel
theorem td_M_move_50 : tz_dk prog_13_method_35_code 50 (.aload_n 0) 1 51 := by decide +kernel
theorem td_M_move_51 : tz_dk prog_13_method_35_code 51 (.getfield 9) 3 54 := by decide +kernel
theorem td_M_move_54 : tz_dk prog_13_method_35_code 54 (.sipush 504) 3 57 := by decide +kernel
theorem td_M_move_57 : tz_dk prog_13_method_35_code 57 (.iload_n 1) 1 58 := by decide +kernel
theorem td_M_move_58 : tz_dk prog_13_method_35_code 58 (.iadd) 1 59 := by decide +kernel
theorem td_M_move_59 : tz_dk prog_13_method_35_code 59 (.iaload) 1 60 := by decide +kernel
theorem td_M_move_60 : tz_dk prog_13_method_35_code 60 (.istore 5) 2 62 := by decide +kernel
theorem td_M_move_62 : tz_dk prog_13_method_35_code 62 (.aload_n 0) 1 63 := by decide +kernel
theorem td_M_move_63 : tz_dk prog_13_method_35_code 63 (.getfield 9) 3 66 := by decide +kernel
theorem td_M_move_66 : tz_dk prog_13_method_35_code 66 (.sipush 512) 3 69 := by decide +kernel
theorem td_M_move_69 : tz_dk prog_13_method_35_code 69 (.iload_n 1) 1 70 := by decide +kernel
theorem td_M_move_70 : tz_dk prog_13_method_35_code 70 (.iadd) 1 71 := by decide +kernel
theorem td_M_move_71 : tz_dk prog_13_method_35_code 71 (.iaload) 1 72 := by decide +kernel
theorem td_M_move_72 : tz_dk prog_13_method_35_code 72 (.istore 6) 2 74 := by decide +kernel
theorem td_M_move_74 : tz_dk prog_13_method_35_code 74 (.iload_n 1) 1 75 := by decide +kernel
theorem td_M_move_75 : tz_dk prog_13_method_35_code 75 (.istore 7) 2 77 := by decide +kernel
theorem td_M_move_77 : tz_dk prog_13_method_35_code 77 (.iload 7) 2 79 := by decide +kernel
theorem td_M_move_79 : tz_dk prog_13_method_35_code 79 (.iload_n 2) 1 80 := by decide +kernel
theorem td_M_move_80 : tz_dj prog_13_method_35_code 80 (.if_icmp .ge 19) (19) 83 99 := by decide +kernel
theorem td_M_move_83 : tz_dk prog_13_method_35_code 83 (.aload_n 0) 1 84 := by decide +kernel
theorem td_M_move_84 : tz_dk prog_13_method_35_code 84 (.iload 7) 2 86 := by decide +kernel
theorem td_M_move_86 : tz_dk prog_13_method_35_code 86 (.iconst 1) 1 87 := by decide +kernel
theorem td_M_move_87 : tz_dk prog_13_method_35_code 87 (.iadd) 1 88 := by decide +kernel
theorem td_M_move_88 : tz_dk prog_13_method_35_code 88 (.iload 7) 2 90 := by decide +kernel
theorem td_M_move_90 : tz_dk prog_13_method_35_code 90 (.invokevirtual 118) 3 93 := by decide +kernel
theorem td_M_move_93 : tz_dk prog_13_method_35_code 93 (.iinc 7 1) 3 96 := by decide +kernel
theorem td_M_move_96 : tz_dj prog_13_method_35_code 96 (.goto (-19)) (-19) 99 77 := by decide +kernel
theorem td_M_move_99 : tz_dk prog_13_method_35_code 99 (.iload_n 1) 1 100 := by decide +kernel
theorem td_M_move_100 : tz_dk prog_13_method_35_code 100 (.istore 7) 2 102 := by decide +kernel
theorem td_M_move_102 : tz_dk prog_13_method_35_code 102 (.iload 7) 2 104 := by decide +kernel
theorem td_M_move_104 : tz_dk prog_13_method_35_code 104 (.iload_n 2) 1 105 := by decide +kernel
theorem td_M_move_105 : tz_dj prog_13_method_35_code 105 (.if_icmp .le 19) (19) 108 124 := by decide +kernel
theorem td_M_move_108 : tz_dk prog_13_method_35_code 108 (.aload_n 0) 1 109 := by decide +kernel
theorem td_M_move_109 : tz_dk prog_13_method_35_code 109 (.iload 7) 2 111 := by decide +kernel
theorem td_M_move_111 : tz_dk prog_13_method_35_code 111 (.iconst 1) 1 112 := by decide +kernel
theorem td_M_move_112 : tz_dk prog_13_method_35_code 112 (.isub) 1 113 := by decide +kernel
theorem td_M_move_113 : tz_dk prog_13_method_35_code 113 (.iload 7) 2 115 := by decide +kernel
theorem td_M_move_115 : tz_dk prog_13_method_35_code 115 (.invokevirtual 118) 3 118 := by decide +kernel
theorem td_M_move_118 : tz_dk prog_13_method_35_code 118 (.iinc 7 (-1)) 3 121 := by decide +kernel
theorem td_M_move_121 : tz_dj prog_13_method_35_code 121 (.goto (-19)) (-19) 124 102 := by decide +kernel
theorem td_M_move_124 : tz_dk prog_13_method_35_code 124 (.aload_n 0) 1 125 := by decide +kernel
theorem td_M_move_125 : tz_dk prog_13_method_35_code 125 (.iload_n 2) 1 126 := by decide +kernel
theorem td_M_move_126 : tz_dk prog_13_method_35_code 126 (.iload_n 3) 1 127 := by decide +kernel
theorem td_M_move_127 : tz_dk prog_13_method_35_code 127 (.iload 4) 2 129 := by decide +kernel
theorem td_M_move_129 : tz_dk prog_13_method_35_code 129 (.iload 5) 2 131 := by decide +kernel
theorem td_M_move_131 : tz_dk prog_13_method_35_code 131 (.iload 6) 2 133 := by decide +kernel
theorem td_M_move_133 : tz_dk prog_13_method_35_code 133 (.invokevirtual 104) 3 136 := by decide +kernel
theorem td_M_move_136 : tz_dk prog_13_method_35_code 136 (.iconst 1) 1 137 := by decide +kernel
theorem td_M_move_137 : tz_dk prog_13_method_35_code 137 (.ireturn) 1 138 := by decide +kernel
theorem td_M_copyLayer_0 : tz_dk prog_13_method_32_code 0 (.aload_n 0) 1 1 := by decide +kernel
theorem td_M_copyLayer_1 : tz_dk prog_13_method_32_code 1 (.iload_n 2) 1 2 := by decide +kernel
theorem td_M_copyLayer_2 : tz_dk prog_13_method_32_code 2 (.aload_n 0) 1 3 := by decide +kernel
theorem td_M_copyLayer_3 : tz_dk prog_13_method_32_code 3 (.getfield 9) 3 6 := by decide +kernel
theorem td_M_copyLayer_6 : tz_dk prog_13_method_32_code 6 (.sipush 488) 3 9 := by decide +kernel
theorem td_M_copyLayer_9 : tz_dk prog_13_method_32_code 9 (.iload_n 1) 1 10 := by decide +kernel
theorem td_M_copyLayer_10 : tz_dk prog_13_method_32_code 10 (.iadd) 1 11 := by decide +kernel
theorem td_M_copyLayer_11 : tz_dk prog_13_method_32_code 11 (.iaload) 1 12 := by decide +kernel
theorem td_M_copyLayer_12 : tz_dk prog_13_method_32_code 12 (.aload_n 0) 1 13 := by decide +kernel
theorem td_M_copyLayer_13 : tz_dk prog_13_method_32_code 13 (.getfield 9) 3 16 := by decide +kernel
theorem td_M_copyLayer_16 : tz_dk prog_13_method_32_code 16 (.sipush 496) 3 19 := by decide +kernel
theorem td_M_copyLayer_19 : tz_dk prog_13_method_32_code 19 (.iload_n 1) 1 20 := by decide +kernel
theorem td_M_copyLayer_20 : tz_dk prog_13_method_32_code 20 (.iadd) 1 21 := by decide +kernel
theorem td_M_copyLayer_21 : tz_dk prog_13_method_32_code 21 (.iaload) 1 22 := by decide +kernel
theorem td_M_copyLayer_22 : tz_dk prog_13_method_32_code 22 (.aload_n 0) 1 23 := by decide +kernel
theorem td_M_copyLayer_23 : tz_dk prog_13_method_32_code 23 (.getfield 9) 3 26 := by decide +kernel
theorem td_M_copyLayer_26 : tz_dk prog_13_method_32_code 26 (.sipush 504) 3 29 := by decide +kernel
theorem td_M_copyLayer_29 : tz_dk prog_13_method_32_code 29 (.iload_n 1) 1 30 := by decide +kernel
theorem td_M_copyLayer_30 : tz_dk prog_13_method_32_code 30 (.iadd) 1 31 := by decide +kernel
theorem td_M_copyLayer_31 : tz_dk prog_13_method_32_code 31 (.iaload) 1 32 := by decide +kernel
theorem td_M_copyLayer_32 : tz_dk prog_13_method_32_code 32 (.aload_n 0) 1 33 := by decide +kernel
theorem td_M_copyLayer_33 : tz_dk prog_13_method_32_code 33 (.getfield 9) 3 36 := by decide +kernel
theorem td_M_copyLayer_36 : tz_dk prog_13_method_32_code 36 (.sipush 512) 3 39 := by decide +kernel
theorem td_M_copyLayer_39 : tz_dk prog_13_method_32_code 39 (.iload_n 1) 1 40 := by decide +kernel
theorem td_M_copyLayer_40 : tz_dk prog_13_method_32_code 40 (.iadd) 1 41 := by decide +kernel
theorem td_M_copyLayer_41 : tz_dk prog_13_method_32_code 41 (.iaload) 1 42 := by decide +kernel
theorem td_M_copyLayer_42 : tz_dk prog_13_method_32_code 42 (.invokevirtual 104) 3 45 := by decide +kernel
theorem td_M_copyLayer_45 : tz_dk prog_13_method_32_code 45 (.return_) 1 46 := by decide +kernel
theorem td_M_drop_0 : tz_dk prog_13_method_36_code 0 (.aload_n 0) 1 1 := by decide +kernel
theorem td_M_drop_1 : tz_dk prog_13_method_36_code 1 (.iload_n 1) 1 2 := by decide +kernel
theorem td_M_drop_2 : tz_dk prog_13_method_36_code 2 (.invokevirtual 115) 3 5 := by decide +kernel
theorem td_M_drop_5 : tz_dj prog_13_method_36_code 5 (.ifCond .ne 10) (10) 8 15 := by decide +kernel
theorem td_M_drop_8 : tz_dk prog_13_method_36_code 8 (.aload_n 0) 1 9 := by decide +kernel
theorem td_M_drop_9 : tz_dk prog_13_method_36_code 9 (.ldc 61) 2 11 := by decide +kernel
theorem td_M_drop_11 : tz_dk prog_13_method_36_code 11 (.invokevirtual 50) 3 14 := by decide +kernel
theorem td_M_drop_14 : tz_dk prog_13_method_36_code 14 (.ireturn) 1 15 := by decide +kernel
theorem td_M_drop_15 : tz_dk prog_13_method_36_code 15 (.aload_n 0) 1 16 := by decide +kernel
theorem td_M_drop_16 : tz_dk prog_13_method_36_code 16 (.invokevirtual 62) 3 19 := by decide +kernel
theorem td_M_drop_19 : tz_dk prog_13_method_36_code 19 (.aload_n 0) 1 20 := by decide +kernel
theorem td_M_drop_20 : tz_dk prog_13_method_36_code 20 (.getfield 9) 3 23 := by decide +kernel
theorem td_M_drop_23 : tz_dk prog_13_method_36_code 23 (.sipush 484) 3 26 := by decide +kernel
theorem td_M_drop_26 : tz_dk prog_13_method_36_code 26 (.dup2) 1 27 := by decide +kernel
theorem td_M_drop_27 : tz_dk prog_13_method_36_code 27 (.iaload) 1 28 := by decide +kernel
theorem td_M_drop_28 : tz_dk prog_13_method_36_code 28 (.iconst 1) 1 29 := by decide +kernel
theorem td_M_drop_29 : tz_dk prog_13_method_36_code 29 (.isub) 1 30 := by decide +kernel
theorem td_M_drop_30 : tz_dk prog_13_method_36_code 30 (.iastore) 1 31 := by decide +kernel
theorem td_M_drop_31 : tz_dk prog_13_method_36_code 31 (.iload_n 1) 1 32 := by decide +kernel
theorem td_M_drop_32 : tz_dk prog_13_method_36_code 32 (.istore_n 2) 1 33 := by decide +kernel
theorem td_M_drop_33 : tz_dk prog_13_method_36_code 33 (.iload_n 2) 1 34 := by decide +kernel
theorem td_M_drop_34 : tz_dk prog_13_method_36_code 34 (.aload_n 0) 1 35 := by decide +kernel
theorem td_M_drop_35 : tz_dk prog_13_method_36_code 35 (.getfield 9) 3 38 := by decide +kernel
theorem td_M_drop_38 : tz_dk prog_13_method_36_code 38 (.sipush 484) 3 41 := by decide +kernel
theorem td_M_drop_41 : tz_dk prog_13_method_36_code 41 (.iaload) 1 42 := by decide +kernel
theorem td_M_drop_42 : tz_dj prog_13_method_36_code 42 (.if_icmp .ge 17) (17) 45 59 := by decide +kernel
theorem td_M_drop_45 : tz_dk prog_13_method_36_code 45 (.aload_n 0) 1 46 := by decide +kernel
theorem td_M_drop_46 : tz_dk prog_13_method_36_code 46 (.iload_n 2) 1 47 := by decide +kernel
theorem td_M_drop_47 : tz_dk prog_13_method_36_code 47 (.iconst 1) 1 48 := by decide +kernel
theorem td_M_drop_48 : tz_dk prog_13_method_36_code 48 (.iadd) 1 49 := by decide +kernel
theorem td_M_drop_49 : tz_dk prog_13_method_36_code 49 (.iload_n 2) 1 50 := by decide +kernel
theorem td_M_drop_50 : tz_dk prog_13_method_36_code 50 (.invokevirtual 118) 3 53 := by decide +kernel
theorem td_M_drop_53 : tz_dk prog_13_method_36_code 53 (.iinc 2 1) 3 56 := by decide +kernel
theorem td_M_drop_56 : tz_dj prog_13_method_36_code 56 (.goto (-23)) (-23) 59 33 := by decide +kernel
theorem td_M_drop_59 : tz_dk prog_13_method_36_code 59 (.aload_n 0) 1 60 := by decide +kernel
theorem td_M_drop_60 : tz_dk prog_13_method_36_code 60 (.getfield 9) 3 63 := by decide +kernel
theorem td_M_drop_63 : tz_dk prog_13_method_36_code 63 (.sipush 484) 3 66 := by decide +kernel
theorem td_M_drop_66 : tz_dk prog_13_method_36_code 66 (.iaload) 1 67 := by decide +kernel
theorem td_M_drop_67 : tz_dk prog_13_method_36_code 67 (.ireturn) 1 68 := by decide +kernel
theorem td_M_told_0 : tz_dk prog_13_method_37_code 0 (.aload_n 0) 1 1 := by decide +kernel
theorem td_M_told_1 : tz_dk prog_13_method_37_code 1 (.iload_n 1) 1 2 := by decide +kernel
theorem td_M_told_2 : tz_dk prog_13_method_37_code 2 (.invokevirtual 115) 3 5 := by decide +kernel
theorem td_M_told_5 : tz_dj prog_13_method_37_code 5 (.ifCond .eq 12) (12) 8 17 := by decide +kernel
theorem td_M_told_8 : tz_dk prog_13_method_37_code 8 (.iload_n 2) 1 9 := by decide +kernel
theorem td_M_told_9 : tz_dk prog_13_method_37_code 9 (.iconst 0) 1 10 := by decide +kernel
theorem td_M_told_10 : tz_dk prog_13_method_37_code 10 (.iconst 3) 1 11 := by decide +kernel
theorem td_M_told_11 : tz_dk prog_13_method_37_code 11 (.invokestatic 38) 3 14 := by decide +kernel
theorem td_M_told_14 : tz_dj prog_13_method_37_code 14 (.ifCond .ne 10) (10) 17 24 := by decide +kernel
theorem td_M_told_17 : tz_dk prog_13_method_37_code 17 (.aload_n 0) 1 18 := by decide +kernel
theorem td_M_told_18 : tz_dk prog_13_method_37_code 18 (.ldc 61) 2 20 := by decide +kernel
theorem td_M_told_20 : tz_dk prog_13_method_37_code 20 (.invokevirtual 50) 3 23 := by decide +kernel
theorem td_M_told_23 : tz_dk prog_13_method_37_code 23 (.ireturn) 1 24 := by decide +kernel
theorem td_M_told_24 : tz_dk prog_13_method_37_code 24 (.aload_n 0) 1 25 := by decide +kernel
theorem td_M_told_25 : tz_dk prog_13_method_37_code 25 (.getfield 9) 3 28 := by decide +kernel
theorem td_M_told_28 : tz_dk prog_13_method_37_code 28 (.sipush 488) 3 31 := by decide +kernel
theorem td_M_told_31 : tz_dk prog_13_method_37_code 31 (.bipush 8) 2 33 := by decide +kernel
theorem td_M_told_33 : tz_dk prog_13_method_37_code 33 (.iload_n 2) 1 34 := by decide +kernel
theorem td_M_told_34 : tz_dk prog_13_method_37_code 34 (.imul) 1 35 := by decide +kernel
theorem td_M_told_35 : tz_dk prog_13_method_37_code 35 (.iadd) 1 36 := by decide +kernel
theorem td_M_told_36 : tz_dk prog_13_method_37_code 36 (.iload_n 1) 1 37 := by decide +kernel
theorem td_M_told_37 : tz_dk prog_13_method_37_code 37 (.iadd) 1 38 := by decide +kernel
theorem td_M_told_38 : tz_dk prog_13_method_37_code 38 (.iaload) 1 39 := by decide +kernel
theorem td_M_told_39 : tz_dk prog_13_method_37_code 39 (.ireturn) 1 40 := by decide +kernel
theorem td_M_as_0 : tz_dk prog_13_method_38_code 0 (.aload_n 0) 1 1 := by decide +kernel
theorem td_M_as_1 : tz_dk prog_13_method_38_code 1 (.iload_n 1) 1 2 := by decide +kernel
theorem td_M_as_2 : tz_dk prog_13_method_38_code 2 (.invokevirtual 115) 3 5 := by decide +kernel
theorem td_M_as_5 : tz_dj prog_13_method_38_code 5 (.ifCond .eq 13) (13) 8 18 := by decide +kernel
theorem td_M_as_8 : tz_dk prog_13_method_38_code 8 (.iload_n 2) 1 9 := by decide +kernel
theorem td_M_as_9 : tz_dk prog_13_method_38_code 9 (.iconst (-1)) 1 10 := by decide +kernel
theorem td_M_as_10 : tz_dk prog_13_method_38_code 10 (.bipush 6) 2 12 := by decide +kernel
theorem td_M_as_12 : tz_dk prog_13_method_38_code 12 (.invokestatic 38) 3 15 := by decide +kernel
theorem td_M_as_15 : tz_dj prog_13_method_38_code 15 (.ifCond .ne 10) (10) 18 25 := by decide +kernel
theorem td_M_as_18 : tz_dk prog_13_method_38_code 18 (.aload_n 0) 1 19 := by decide +kernel
theorem td_M_as_19 : tz_dk prog_13_method_38_code 19 (.ldc 61) 2 21 := by decide +kernel
theorem td_M_as_21 : tz_dk prog_13_method_38_code 21 (.invokevirtual 50) 3 24 := by decide +kernel
theorem td_M_as_24 : tz_dk prog_13_method_38_code 24 (.ireturn) 1 25 := by decide +kernel
theorem td_M_as_25 : tz_dk prog_13_method_38_code 25 (.aload_n 0) 1 26 := by decide +kernel
theorem td_M_as_26 : tz_dk prog_13_method_38_code 26 (.getfield 9) 3 29 := by decide +kernel
theorem td_M_as_29 : tz_dk prog_13_method_38_code 29 (.sipush 488) 3 32 := by decide +kernel
theorem td_M_as_32 : tz_dk prog_13_method_38_code 32 (.iload_n 1) 1 33 := by decide +kernel
theorem td_M_as_33 : tz_dk prog_13_method_38_code 33 (.iadd) 1 34 := by decide +kernel
theorem td_M_as_34 : tz_dk prog_13_method_38_code 34 (.iaload) 1 35 := by decide +kernel
theorem td_M_as_35 : tz_dk prog_13_method_38_code 35 (.istore_n 3) 1 36 := by decide +kernel
theorem td_M_as_36 : tz_dk prog_13_method_38_code 36 (.iload_n 2) 1 37 := by decide +kernel
theorem td_M_as_37 : tz_dk prog_13_method_38_code 37 (.iconst (-1)) 1 38 := by decide +kernel
theorem td_M_as_38 : tz_dj prog_13_method_38_code 38 (.if_icmp .eq 33) (33) 41 71 := by decide +kernel
theorem td_M_as_41 : tz_dk prog_13_method_38_code 41 (.iload_n 3) 1 42 := by decide +kernel
theorem td_M_as_42 : tz_dk prog_13_method_38_code 42 (.iload_n 2) 1 43 := by decide +kernel
theorem td_M_as_43 : tz_dj prog_13_method_38_code 43 (.if_icmp .eq 28) (28) 46 71 := by decide +kernel
theorem td_M_as_46 : tz_dk prog_13_method_38_code 46 (.iload_n 2) 1 47 := by decide +kernel
theorem td_M_as_47 : tz_dk prog_13_method_38_code 47 (.iconst 1) 1 48 := by decide +kernel
theorem td_M_as_48 : tz_dj prog_13_method_38_code 48 (.if_icmp .ne 13) (13) 51 61 := by decide +kernel
theorem td_M_as_51 : tz_dk prog_13_method_38_code 51 (.iload_n 3) 1 52 := by decide +kernel
theorem td_M_as_52 : tz_dk prog_13_method_38_code 52 (.iconst 2) 1 53 := by decide +kernel
theorem td_M_as_53 : tz_dj prog_13_method_38_code 53 (.if_icmp .eq 18) (18) 56 71 := by decide +kernel
theorem td_M_as_56 : tz_dk prog_13_method_38_code 56 (.iload_n 3) 1 57 := by decide +kernel
theorem td_M_as_57 : tz_dk prog_13_method_38_code 57 (.iconst 3) 1 58 := by decide +kernel
theorem td_M_as_58 : tz_dj prog_13_method_38_code 58 (.if_icmp .eq 13) (13) 61 71 := by decide +kernel
theorem td_M_as_61 : tz_dk prog_13_method_38_code 61 (.iload_n 2) 1 62 := by decide +kernel
theorem td_M_as_62 : tz_dk prog_13_method_38_code 62 (.iconst 4) 1 63 := by decide +kernel
theorem td_M_as_63 : tz_dj prog_13_method_38_code 63 (.if_icmp .ne 12) (12) 66 75 := by decide +kernel
theorem td_M_as_66 : tz_dk prog_13_method_38_code 66 (.iload_n 3) 1 67 := by decide +kernel
theorem td_M_as_67 : tz_dk prog_13_method_38_code 67 (.iconst 5) 1 68 := by decide +kernel
theorem td_M_as_68 : tz_dj prog_13_method_38_code 68 (.if_icmp .ne 7) (7) 71 75 := by decide +kernel
theorem td_M_as_71 : tz_dk prog_13_method_38_code 71 (.iconst 1) 1 72 := by decide +kernel
theorem td_M_as_72 : tz_dj prog_13_method_38_code 72 (.goto 4) (4) 75 76 := by decide +kernel
theorem td_M_as_75 : tz_dk prog_13_method_38_code 75 (.iconst 0) 1 76 := by decide +kernel
theorem td_M_as_76 : tz_dk prog_13_method_38_code 76 (.istore 4) 2 78 := by decide +kernel
theorem td_M_as_78 : tz_dk prog_13_method_38_code 78 (.iload 4) 2 80 := by decide +kernel
theorem td_M_as_80 : tz_dj prog_13_method_38_code 80 (.ifCond .eq 7) (7) 83 87 := by decide +kernel
theorem td_M_as_83 : tz_dk prog_13_method_38_code 83 (.iload_n 1) 1 84 := by decide +kernel
theorem td_M_as_84 : tz_dj prog_13_method_38_code 84 (.goto 9) (9) 87 93 := by decide +kernel
theorem td_M_as_87 : tz_dk prog_13_method_38_code 87 (.aload_n 0) 1 88 := by decide +kernel
theorem td_M_as_88 : tz_dk prog_13_method_38_code 88 (.ldc 99) 2 90 := by decide +kernel
theorem td_M_as_90 : tz_dk prog_13_method_38_code 90 (.invokevirtual 50) 3 93 := by decide +kernel
theorem td_M_as_93 : tz_dk prog_13_method_38_code 93 (.ireturn) 1 94 := by decide +kernel
theorem td_M_size_0 : tz_dk prog_13_method_52_code 0 (.iload_n 1) 1 1 := by decide +kernel
theorem td_M_size_1 : tz_dk prog_13_method_52_code 1 (.invokestatic 42) 3 4 := by decide +kernel
theorem td_M_size_4 : tz_dj prog_13_method_52_code 4 (.ifCond .ne 10) (10) 7 14 := by decide +kernel
theorem td_M_size_7 : tz_dk prog_13_method_52_code 7 (.aload_n 0) 1 8 := by decide +kernel
theorem td_M_size_8 : tz_dk prog_13_method_52_code 8 (.ldc 61) 2 10 := by decide +kernel
theorem td_M_size_10 : tz_dk prog_13_method_52_code 10 (.invokevirtual 50) 3 13 := by decide +kernel
theorem td_M_size_13 : tz_dk prog_13_method_52_code 13 (.ireturn) 1 14 := by decide +kernel
theorem td_M_size_14 : tz_dk prog_13_method_52_code 14 (.aload_n 0) 1 15 := by decide +kernel
theorem td_M_size_15 : tz_dk prog_13_method_52_code 15 (.iload_n 1) 1 16 := by decide +kernel
theorem td_M_size_16 : tz_dk prog_13_method_52_code 16 (.invokevirtual 177) 3 19 := by decide +kernel
theorem td_M_size_19 : tz_dk prog_13_method_52_code 19 (.aload_n 0) 1 20 := by decide +kernel
theorem td_M_size_20 : tz_dk prog_13_method_52_code 20 (.getfield 54) 3 23 := by decide +kernel
theorem td_M_size_23 : tz_dk prog_13_method_52_code 23 (.ireturn) 1 24 := by decide +kernel
theorem td_M_output_0 : tz_dk prog_13_method_51_code 0 (.aload_n 0) 1 1 := by decide +kernel
theorem td_M_output_1 : tz_dk prog_13_method_51_code 1 (.iload_n 1) 1 2 := by decide +kernel
theorem td_M_output_2 : tz_dk prog_13_method_51_code 2 (.invokevirtual 74) 3 5 := by decide +kernel
theorem td_M_output_5 : tz_dk prog_13_method_51_code 5 (.iconst 0) 1 6 := by decide +kernel
theorem td_M_output_6 : tz_dk prog_13_method_51_code 6 (.istore_n 2) 1 7 := by decide +kernel
theorem td_M_output_7 : tz_dk prog_13_method_51_code 7 (.iload_n 2) 1 8 := by decide +kernel
theorem td_M_output_8 : tz_dk prog_13_method_51_code 8 (.aload_n 0) 1 9 := by decide +kernel
theorem td_M_output_9 : tz_dk prog_13_method_51_code 9 (.getfield 9) 3 12 := by decide +kernel
theorem td_M_output_12 : tz_dk prog_13_method_51_code 12 (.sipush 484) 3 15 := by decide +kernel
theorem td_M_output_15 : tz_dk prog_13_method_51_code 15 (.iaload) 1 16 := by decide +kernel
theorem td_M_output_16 : tz_dj prog_13_method_51_code 16 (.if_icmp .ge 28) (28) 19 44 := by decide +kernel
theorem td_M_output_19 : tz_dk prog_13_method_51_code 19 (.aload_n 0) 1 20 := by decide +kernel
theorem td_M_output_20 : tz_dk prog_13_method_51_code 20 (.getfield 9) 3 23 := by decide +kernel
theorem td_M_output_23 : tz_dk prog_13_method_51_code 23 (.sipush 512) 3 26 := by decide +kernel
theorem td_M_output_26 : tz_dk prog_13_method_51_code 26 (.iload_n 2) 1 27 := by decide +kernel
theorem td_M_output_27 : tz_dk prog_13_method_51_code 27 (.iadd) 1 28 := by decide +kernel
theorem td_M_output_28 : tz_dk prog_13_method_51_code 28 (.iaload) 1 29 := by decide +kernel
theorem td_M_output_29 : tz_dk prog_13_method_51_code 29 (.iconst 1) 1 30 := by decide +kernel
theorem td_M_output_30 : tz_dj prog_13_method_51_code 30 (.if_icmp .ne 8) (8) 33 38 := by decide +kernel
theorem td_M_output_33 : tz_dk prog_13_method_51_code 33 (.aload_n 0) 1 34 := by decide +kernel
theorem td_M_output_34 : tz_dk prog_13_method_51_code 34 (.iload_n 2) 1 35 := by decide +kernel
theorem td_M_output_35 : tz_dk prog_13_method_51_code 35 (.invokevirtual 174) 3 38 := by decide +kernel
theorem td_M_output_38 : tz_dk prog_13_method_51_code 38 (.iinc 2 1) 3 41 := by decide +kernel
theorem td_M_output_41 : tz_dj prog_13_method_51_code 41 (.goto (-34)) (-34) 44 7 := by decide +kernel
theorem td_M_output_44 : tz_dk prog_13_method_51_code 44 (.return_) 1 45 := by decide +kernel
theorem td_M_work_0 : tz_dk prog_13_method_50_code 0 (.aload_n 0) 1 1 := by decide +kernel
theorem td_M_work_1 : tz_dk prog_13_method_50_code 1 (.getfield 9) 3 4 := by decide +kernel
theorem td_M_work_4 : tz_dk prog_13_method_50_code 4 (.sipush 496) 3 7 := by decide +kernel
theorem td_M_work_7 : tz_dk prog_13_method_50_code 7 (.iload_n 1) 1 8 := by decide +kernel
theorem td_M_work_8 : tz_dk prog_13_method_50_code 8 (.iadd) 1 9 := by decide +kernel
theorem td_M_work_9 : tz_dk prog_13_method_50_code 9 (.iaload) 1 10 := by decide +kernel
theorem td_M_work_10 : tz_dk prog_13_method_50_code 10 (.istore_n 2) 1 11 := by decide +kernel
theorem td_M_work_11 : tz_dk prog_13_method_50_code 11 (.aload_n 0) 1 12 := by decide +kernel
theorem td_M_work_12 : tz_dk prog_13_method_50_code 12 (.getfield 9) 3 15 := by decide +kernel
theorem td_M_work_15 : tz_dk prog_13_method_50_code 15 (.sipush 488) 3 18 := by decide +kernel
theorem td_M_work_18 : tz_dk prog_13_method_50_code 18 (.iload_n 1) 1 19 := by decide +kernel
theorem td_M_work_19 : tz_dk prog_13_method_50_code 19 (.iadd) 1 20 := by decide +kernel
theorem td_M_work_20 : tz_dk prog_13_method_50_code 20 (.iaload) 1 21 := by decide +kernel
theorem td_M_work_21 : decode prog_13_method_50_code 21 = .ok (.tableswitch 107 0 5 #[39, 47, 55, 73, 81, 89], 39) := by decide +kernel
theorem td_M_work_60 : tz_dk prog_13_method_50_code 60 (.aload_n 0) 1 61 := by decide +kernel
theorem td_M_work_61 : tz_dk prog_13_method_50_code 61 (.iload_n 2) 1 62 := by decide +kernel
theorem td_M_work_62 : tz_dk prog_13_method_50_code 62 (.invokevirtual 153) 3 65 := by decide +kernel
theorem td_M_work_65 : tz_dj prog_13_method_50_code 65 (.goto 68) (68) 68 133 := by decide +kernel
theorem td_M_work_68 : tz_dk prog_13_method_50_code 68 (.aload_n 0) 1 69 := by decide +kernel
theorem td_M_work_69 : tz_dk prog_13_method_50_code 69 (.iload_n 2) 1 70 := by decide +kernel
theorem td_M_work_70 : tz_dk prog_13_method_50_code 70 (.invokevirtual 156) 3 73 := by decide +kernel
theorem td_M_work_73 : tz_dj prog_13_method_50_code 73 (.goto 60) (60) 76 133 := by decide +kernel
theorem td_M_work_76 : tz_dk prog_13_method_50_code 76 (.aload_n 0) 1 77 := by decide +kernel
theorem td_M_work_77 : tz_dk prog_13_method_50_code 77 (.iload_n 2) 1 78 := by decide +kernel
theorem td_M_work_78 : tz_dk prog_13_method_50_code 78 (.aload_n 0) 1 79 := by decide +kernel
theorem td_M_work_79 : tz_dk prog_13_method_50_code 79 (.getfield 9) 3 82 := by decide +kernel
theorem td_M_work_82 : tz_dk prog_13_method_50_code 82 (.sipush 504) 3 85 := by decide +kernel
theorem td_M_work_85 : tz_dk prog_13_method_50_code 85 (.iload_n 1) 1 86 := by decide +kernel
theorem td_M_work_86 : tz_dk prog_13_method_50_code 86 (.iadd) 1 87 := by decide +kernel
theorem td_M_work_87 : tz_dk prog_13_method_50_code 87 (.iaload) 1 88 := by decide +kernel
theorem td_M_work_88 : tz_dk prog_13_method_50_code 88 (.invokevirtual 159) 3 91 := by decide +kernel
theorem td_M_work_91 : tz_dj prog_13_method_50_code 91 (.goto 42) (42) 94 133 := by decide +kernel
theorem td_M_work_94 : tz_dk prog_13_method_50_code 94 (.aload_n 0) 1 95 := by decide +kernel
theorem td_M_work_95 : tz_dk prog_13_method_50_code 95 (.iload_n 2) 1 96 := by decide +kernel
theorem td_M_work_96 : tz_dk prog_13_method_50_code 96 (.invokevirtual 162) 3 99 := by decide +kernel
theorem td_M_work_99 : tz_dj prog_13_method_50_code 99 (.goto 34) (34) 102 133 := by decide +kernel
theorem td_M_work_102 : tz_dk prog_13_method_50_code 102 (.aload_n 0) 1 103 := by decide +kernel
theorem td_M_work_103 : tz_dk prog_13_method_50_code 103 (.iload_n 2) 1 104 := by decide +kernel
theorem td_M_work_104 : tz_dk prog_13_method_50_code 104 (.invokevirtual 165) 3 107 := by decide +kernel
theorem td_M_work_107 : tz_dj prog_13_method_50_code 107 (.goto 26) (26) 110 133 := by decide +kernel
theorem td_M_work_110 : tz_dk prog_13_method_50_code 110 (.aload_n 0) 1 111 := by decide +kernel
theorem td_M_work_111 : tz_dk prog_13_method_50_code 111 (.iload_n 2) 1 112 := by decide +kernel
theorem td_M_work_112 : tz_dk prog_13_method_50_code 112 (.aload_n 0) 1 113 := by decide +kernel
theorem td_M_work_113 : tz_dk prog_13_method_50_code 113 (.getfield 9) 3 116 := by decide +kernel
theorem td_M_work_116 : tz_dk prog_13_method_50_code 116 (.sipush 504) 3 119 := by decide +kernel
theorem td_M_work_119 : tz_dk prog_13_method_50_code 119 (.iload_n 1) 1 120 := by decide +kernel
theorem td_M_work_120 : tz_dk prog_13_method_50_code 120 (.iadd) 1 121 := by decide +kernel
theorem td_M_work_121 : tz_dk prog_13_method_50_code 121 (.iaload) 1 122 := by decide +kernel
theorem td_M_work_122 : tz_dk prog_13_method_50_code 122 (.invokevirtual 168) 3 125 := by decide +kernel
theorem td_M_work_125 : tz_dj prog_13_method_50_code 125 (.goto 8) (8) 128 133 := by decide +kernel
theorem td_M_work_128 : tz_dk prog_13_method_50_code 128 (.aload_n 0) 1 129 := by decide +kernel
theorem td_M_work_129 : tz_dk prog_13_method_50_code 129 (.iload_n 2) 1 130 := by decide +kernel
theorem td_M_work_130 : tz_dk prog_13_method_50_code 130 (.invokevirtual 171) 3 133 := by decide +kernel
theorem td_M_work_133 : tz_dk prog_13_method_50_code 133 (.return_) 1 134 := by decide +kernel
theorem td_M_gain_0 : tz_dk prog_13_method_42_code 0 (.iconst 0) 1 1 := by decide +kernel
theorem td_M_gain_1 : tz_dk prog_13_method_42_code 1 (.istore_n 2) 1 2 := by decide +kernel
theorem td_M_gain_2 : tz_dk prog_13_method_42_code 2 (.iload_n 2) 1 3 := by decide +kernel
theorem td_M_gain_3 : tz_dk prog_13_method_42_code 3 (.aload_n 0) 1 4 := by decide +kernel
theorem td_M_gain_4 : tz_dk prog_13_method_42_code 4 (.getfield 54) 3 7 := by decide +kernel
theorem td_M_gain_7 : tz_dj prog_13_method_42_code 7 (.if_icmp .ge 45) (45) 10 52 := by decide +kernel
theorem td_M_gain_10 : tz_dk prog_13_method_42_code 10 (.aload_n 0) 1 11 := by decide +kernel
theorem td_M_gain_11 : tz_dk prog_13_method_42_code 11 (.getfield 25) 3 14 := by decide +kernel
theorem td_M_gain_14 : tz_dk prog_13_method_42_code 14 (.iload_n 2) 1 15 := by decide +kernel
theorem td_M_gain_15 : tz_dk prog_13_method_42_code 15 (.aload_n 0) 1 16 := by decide +kernel
theorem td_M_gain_16 : tz_dk prog_13_method_42_code 16 (.getfield 25) 3 19 := by decide +kernel
theorem td_M_gain_19 : tz_dk prog_13_method_42_code 19 (.iload_n 2) 1 20 := by decide +kernel
theorem td_M_gain_20 : tz_dk prog_13_method_42_code 20 (.iaload) 1 21 := by decide +kernel
theorem td_M_gain_21 : tz_dk prog_13_method_42_code 21 (.ldc 69) 2 23 := by decide +kernel
theorem td_M_gain_23 : tz_dj prog_13_method_42_code 23 (.if_icmp .ne 8) (8) 26 31 := by decide +kernel
theorem td_M_gain_26 : tz_dk prog_13_method_42_code 26 (.ldc 69) 2 28 := by decide +kernel
theorem td_M_gain_28 : tz_dj prog_13_method_42_code 28 (.goto 17) (17) 31 45 := by decide +kernel
theorem td_M_gain_31 : tz_dk prog_13_method_42_code 31 (.aload_n 0) 1 32 := by decide +kernel
theorem td_M_gain_32 : tz_dk prog_13_method_42_code 32 (.getfield 25) 3 35 := by decide +kernel
theorem td_M_gain_35 : tz_dk prog_13_method_42_code 35 (.iload_n 2) 1 36 := by decide +kernel
theorem td_M_gain_36 : tz_dk prog_13_method_42_code 36 (.iaload) 1 37 := by decide +kernel
theorem td_M_gain_37 : tz_dk prog_13_method_42_code 37 (.iload_n 1) 1 38 := by decide +kernel
theorem td_M_gain_38 : tz_dk prog_13_method_42_code 38 (.imul) 1 39 := by decide +kernel
theorem td_M_gain_39 : tz_dk prog_13_method_42_code 39 (.bipush 100) 2 41 := by decide +kernel
theorem td_M_gain_41 : tz_dk prog_13_method_42_code 41 (.idiv) 1 42 := by decide +kernel
theorem td_M_gain_42 : tz_dk prog_13_method_42_code 42 (.invokestatic 135) 3 45 := by decide +kernel
theorem td_M_gain_45 : tz_dk prog_13_method_42_code 45 (.iastore) 1 46 := by decide +kernel
theorem td_M_gain_46 : tz_dk prog_13_method_42_code 46 (.iinc 2 1) 3 49 := by decide +kernel
theorem td_M_gain_49 : tz_dj prog_13_method_42_code 49 (.goto (-47)) (-47) 52 2 := by decide +kernel
theorem td_M_gain_52 : tz_dk prog_13_method_42_code 52 (.return_) 1 53 := by decide +kernel
theorem td_M_cutTop_0 : tz_dk prog_13_method_39_code 0 (.iload_n 0) 1 1 := by decide +kernel
theorem td_M_cutTop_1 : tz_dk prog_13_method_39_code 1 (.sipush 10000) 3 4 := by decide +kernel
theorem td_M_cutTop_4 : tz_dj prog_13_method_39_code 4 (.if_icmp .le 9) (9) 7 13 := by decide +kernel
theorem td_M_cutTop_7 : tz_dk prog_13_method_39_code 7 (.sipush 10000) 3 10 := by decide +kernel
theorem td_M_cutTop_10 : tz_dj prog_13_method_39_code 10 (.goto 17) (17) 13 27 := by decide +kernel
theorem td_M_cutTop_13 : tz_dk prog_13_method_39_code 13 (.iload_n 0) 1 14 := by decide +kernel
theorem td_M_cutTop_14 : tz_dk prog_13_method_39_code 14 (.sipush (-10000)) 3 17 := by decide +kernel
theorem td_M_cutTop_17 : tz_dj prog_13_method_39_code 17 (.if_icmp .ge 9) (9) 20 26 := by decide +kernel
theorem td_M_cutTop_20 : tz_dk prog_13_method_39_code 20 (.sipush (-10000)) 3 23 := by decide +kernel
theorem td_M_cutTop_23 : tz_dj prog_13_method_39_code 23 (.goto 4) (4) 26 27 := by decide +kernel
theorem td_M_cutTop_26 : tz_dk prog_13_method_39_code 26 (.iload_n 0) 1 27 := by decide +kernel
theorem td_M_cutTop_27 : tz_dk prog_13_method_39_code 27 (.ireturn) 1 28 := by decide +kernel
theorem td_M_mend_0 : tz_dk prog_13_method_43_code 0 (.iconst 0) 1 1 := by decide +kernel
theorem td_M_mend_1 : tz_dk prog_13_method_43_code 1 (.istore_n 2) 1 2 := by decide +kernel
theorem td_M_mend_2 : tz_dk prog_13_method_43_code 2 (.iload_n 2) 1 3 := by decide +kernel
theorem td_M_mend_3 : tz_dk prog_13_method_43_code 3 (.aload_n 0) 1 4 := by decide +kernel
theorem td_M_mend_4 : tz_dk prog_13_method_43_code 4 (.getfield 54) 3 7 := by decide +kernel
theorem td_M_mend_7 : tz_dj prog_13_method_43_code 7 (.if_icmp .ge 52) (52) 10 59 := by decide +kernel
theorem td_M_mend_10 : tz_dk prog_13_method_43_code 10 (.aload_n 0) 1 11 := by decide +kernel
theorem td_M_mend_11 : tz_dk prog_13_method_43_code 11 (.getfield 28) 3 14 := by decide +kernel
theorem td_M_mend_14 : tz_dk prog_13_method_43_code 14 (.iload_n 2) 1 15 := by decide +kernel
theorem td_M_mend_15 : tz_dk prog_13_method_43_code 15 (.aload_n 0) 1 16 := by decide +kernel
theorem td_M_mend_16 : tz_dk prog_13_method_43_code 16 (.iload_n 2) 1 17 := by decide +kernel
theorem td_M_mend_17 : tz_dk prog_13_method_43_code 17 (.iload_n 1) 1 18 := by decide +kernel
theorem td_M_mend_18 : tz_dk prog_13_method_43_code 18 (.invokevirtual 85) 3 21 := by decide +kernel
theorem td_M_mend_21 : tz_dj prog_13_method_43_code 21 (.ifCond .eq 25) (25) 24 46 := by decide +kernel
theorem td_M_mend_24 : tz_dk prog_13_method_43_code 24 (.aload_n 0) 1 25 := by decide +kernel
theorem td_M_mend_25 : tz_dk prog_13_method_43_code 25 (.getfield 25) 3 28 := by decide +kernel
theorem td_M_mend_28 : tz_dk prog_13_method_43_code 28 (.iload_n 2) 1 29 := by decide +kernel
theorem td_M_mend_29 : tz_dk prog_13_method_43_code 29 (.iconst 1) 1 30 := by decide +kernel
theorem td_M_mend_30 : tz_dk prog_13_method_43_code 30 (.isub) 1 31 := by decide +kernel
theorem td_M_mend_31 : tz_dk prog_13_method_43_code 31 (.iaload) 1 32 := by decide +kernel
theorem td_M_mend_32 : tz_dk prog_13_method_43_code 32 (.aload_n 0) 1 33 := by decide +kernel
theorem td_M_mend_33 : tz_dk prog_13_method_43_code 33 (.getfield 25) 3 36 := by decide +kernel
theorem td_M_mend_36 : tz_dk prog_13_method_43_code 36 (.iload_n 2) 1 37 := by decide +kernel
theorem td_M_mend_37 : tz_dk prog_13_method_43_code 37 (.iconst 1) 1 38 := by decide +kernel
theorem td_M_mend_38 : tz_dk prog_13_method_43_code 38 (.iadd) 1 39 := by decide +kernel
theorem td_M_mend_39 : tz_dk prog_13_method_43_code 39 (.iaload) 1 40 := by decide +kernel
theorem td_M_mend_40 : tz_dk prog_13_method_43_code 40 (.iadd) 1 41 := by decide +kernel
theorem td_M_mend_41 : tz_dk prog_13_method_43_code 41 (.iconst 2) 1 42 := by decide +kernel
theorem td_M_mend_42 : tz_dk prog_13_method_43_code 42 (.idiv) 1 43 := by decide +kernel
theorem td_M_mend_43 : tz_dj prog_13_method_43_code 43 (.goto 9) (9) 46 52 := by decide +kernel
theorem td_M_mend_46 : tz_dk prog_13_method_43_code 46 (.aload_n 0) 1 47 := by decide +kernel
theorem td_M_mend_47 : tz_dk prog_13_method_43_code 47 (.getfield 25) 3 50 := by decide +kernel
theorem td_M_mend_50 : tz_dk prog_13_method_43_code 50 (.iload_n 2) 1 51 := by decide +kernel
theorem td_M_mend_51 : tz_dk prog_13_method_43_code 51 (.iaload) 1 52 := by decide +kernel
theorem td_M_mend_52 : tz_dk prog_13_method_43_code 52 (.iastore) 1 53 := by decide +kernel
theorem td_M_mend_53 : tz_dk prog_13_method_43_code 53 (.iinc 2 1) 3 56 := by decide +kernel
theorem td_M_mend_56 : tz_dj prog_13_method_43_code 56 (.goto (-54)) (-54) 59 2 := by decide +kernel
theorem td_M_mend_59 : tz_dk prog_13_method_43_code 59 (.aload_n 0) 1 60 := by decide +kernel
theorem td_M_mend_60 : tz_dk prog_13_method_43_code 60 (.aload_n 0) 1 61 := by decide +kernel
theorem td_M_mend_61 : tz_dk prog_13_method_43_code 61 (.getfield 54) 3 64 := by decide +kernel
theorem td_M_mend_64 : tz_dk prog_13_method_43_code 64 (.putfield 138) 3 67 := by decide +kernel
theorem td_M_mend_67 : tz_dk prog_13_method_43_code 67 (.aload_n 0) 1 68 := by decide +kernel
theorem td_M_mend_68 : tz_dk prog_13_method_43_code 68 (.invokevirtual 141) 3 71 := by decide +kernel
theorem td_M_mend_71 : tz_dk prog_13_method_43_code 71 (.return_) 1 72 := by decide +kernel
theorem td_M_takeMade_0 : tz_dk prog_13_method_44_code 0 (.aload_n 0) 1 1 := by decide +kernel
theorem td_M_takeMade_1 : tz_dk prog_13_method_44_code 1 (.aload_n 0) 1 2 := by decide +kernel
theorem td_M_takeMade_2 : tz_dk prog_13_method_44_code 2 (.getfield 138) 3 5 := by decide +kernel
theorem td_M_takeMade_5 : tz_dk prog_13_method_44_code 5 (.putfield 54) 3 8 := by decide +kernel
theorem td_M_takeMade_8 : tz_dk prog_13_method_44_code 8 (.iconst 0) 1 9 := by decide +kernel
theorem td_M_takeMade_9 : tz_dk prog_13_method_44_code 9 (.istore_n 1) 1 10 := by decide +kernel
theorem td_M_takeMade_10 : tz_dk prog_13_method_44_code 10 (.iload_n 1) 1 11 := by decide +kernel
theorem td_M_takeMade_11 : tz_dk prog_13_method_44_code 11 (.aload_n 0) 1 12 := by decide +kernel
theorem td_M_takeMade_12 : tz_dk prog_13_method_44_code 12 (.getfield 54) 3 15 := by decide +kernel
theorem td_M_takeMade_15 : tz_dj prog_13_method_44_code 15 (.if_icmp .ge 21) (21) 18 36 := by decide +kernel
theorem td_M_takeMade_18 : tz_dk prog_13_method_44_code 18 (.aload_n 0) 1 19 := by decide +kernel
theorem td_M_takeMade_19 : tz_dk prog_13_method_44_code 19 (.getfield 25) 3 22 := by decide +kernel
theorem td_M_takeMade_22 : tz_dk prog_13_method_44_code 22 (.iload_n 1) 1 23 := by decide +kernel
theorem td_M_takeMade_23 : tz_dk prog_13_method_44_code 23 (.aload_n 0) 1 24 := by decide +kernel
theorem td_M_takeMade_24 : tz_dk prog_13_method_44_code 24 (.getfield 28) 3 27 := by decide +kernel
theorem td_M_takeMade_27 : tz_dk prog_13_method_44_code 27 (.iload_n 1) 1 28 := by decide +kernel
theorem td_M_takeMade_28 : tz_dk prog_13_method_44_code 28 (.iaload) 1 29 := by decide +kernel
theorem td_M_takeMade_29 : tz_dk prog_13_method_44_code 29 (.iastore) 1 30 := by decide +kernel
theorem td_M_takeMade_30 : tz_dk prog_13_method_44_code 30 (.iinc 1 1) 3 33 := by decide +kernel
theorem td_M_takeMade_33 : tz_dj prog_13_method_44_code 33 (.goto (-23)) (-23) 36 10 := by decide +kernel
theorem td_M_takeMade_36 : tz_dk prog_13_method_44_code 36 (.return_) 1 37 := by decide +kernel
theorem td_M_fill_0 : tz_dk prog_13_method_45_code 0 (.aload_n 0) 1 1 := by decide +kernel
theorem td_M_fill_1 : tz_dk prog_13_method_45_code 1 (.iload_n 1) 1 2 := by decide +kernel
theorem td_M_fill_2 : tz_dk prog_13_method_45_code 2 (.iload_n 2) 1 3 := by decide +kernel
theorem td_M_fill_3 : tz_dk prog_13_method_45_code 3 (.invokevirtual 144) 3 6 := by decide +kernel
theorem td_M_fill_6 : tz_dk prog_13_method_45_code 6 (.istore_n 3) 1 7 := by decide +kernel
theorem td_M_fill_7 : tz_dk prog_13_method_45_code 7 (.iconst 0) 1 8 := by decide +kernel
theorem td_M_fill_8 : tz_dk prog_13_method_45_code 8 (.istore 4) 2 10 := by decide +kernel
theorem td_M_fill_10 : tz_dk prog_13_method_45_code 10 (.iload 4) 2 12 := by decide +kernel
theorem td_M_fill_12 : tz_dk prog_13_method_45_code 12 (.aload_n 0) 1 13 := by decide +kernel
theorem td_M_fill_13 : tz_dk prog_13_method_45_code 13 (.getfield 54) 3 16 := by decide +kernel
theorem td_M_fill_16 : tz_dj prog_13_method_45_code 16 (.if_icmp .ge 55) (55) 19 71 := by decide +kernel
theorem td_M_fill_19 : tz_dk prog_13_method_45_code 19 (.iload_n 3) 1 20 := by decide +kernel
theorem td_M_fill_20 : tz_dk prog_13_method_45_code 20 (.bipush 100) 2 22 := by decide +kernel
theorem td_M_fill_22 : tz_dj prog_13_method_45_code 22 (.if_icmp .eq 49) (49) 25 71 := by decide +kernel
theorem td_M_fill_25 : tz_dk prog_13_method_45_code 25 (.aload_n 0) 1 26 := by decide +kernel
theorem td_M_fill_26 : tz_dk prog_13_method_45_code 26 (.getfield 25) 3 29 := by decide +kernel
theorem td_M_fill_29 : tz_dk prog_13_method_45_code 29 (.iload 4) 2 31 := by decide +kernel
theorem td_M_fill_31 : tz_dk prog_13_method_45_code 31 (.iaload) 1 32 := by decide +kernel
theorem td_M_fill_32 : tz_dk prog_13_method_45_code 32 (.ldc 69) 2 34 := by decide +kernel
theorem td_M_fill_34 : tz_dj prog_13_method_45_code 34 (.if_icmp .ne 31) (31) 37 65 := by decide +kernel
theorem td_M_fill_37 : tz_dk prog_13_method_45_code 37 (.aload_n 0) 1 38 := by decide +kernel
theorem td_M_fill_38 : tz_dk prog_13_method_45_code 38 (.iload_n 1) 1 39 := by decide +kernel
theorem td_M_fill_39 : tz_dk prog_13_method_45_code 39 (.iload 4) 2 41 := by decide +kernel
theorem td_M_fill_41 : tz_dk prog_13_method_45_code 41 (.iload_n 3) 1 42 := by decide +kernel
theorem td_M_fill_42 : tz_dk prog_13_method_45_code 42 (.iadd) 1 43 := by decide +kernel
theorem td_M_fill_43 : tz_dk prog_13_method_45_code 43 (.invokevirtual 65) 3 46 := by decide +kernel
theorem td_M_fill_46 : tz_dj prog_13_method_45_code 46 (.ifCond .eq 19) (19) 49 65 := by decide +kernel
theorem td_M_fill_49 : tz_dk prog_13_method_45_code 49 (.aload_n 0) 1 50 := by decide +kernel
theorem td_M_fill_50 : tz_dk prog_13_method_45_code 50 (.getfield 25) 3 53 := by decide +kernel
theorem td_M_fill_53 : tz_dk prog_13_method_45_code 53 (.iload 4) 2 55 := by decide +kernel
theorem td_M_fill_55 : tz_dk prog_13_method_45_code 55 (.aload_n 0) 1 56 := by decide +kernel
theorem td_M_fill_56 : tz_dk prog_13_method_45_code 56 (.iload_n 1) 1 57 := by decide +kernel
theorem td_M_fill_57 : tz_dk prog_13_method_45_code 57 (.iload 4) 2 59 := by decide +kernel
theorem td_M_fill_59 : tz_dk prog_13_method_45_code 59 (.iload_n 3) 1 60 := by decide +kernel
theorem td_M_fill_60 : tz_dk prog_13_method_45_code 60 (.iadd) 1 61 := by decide +kernel
theorem td_M_fill_61 : tz_dk prog_13_method_45_code 61 (.invokevirtual 57) 3 64 := by decide +kernel
theorem td_M_fill_64 : tz_dk prog_13_method_45_code 64 (.iastore) 1 65 := by decide +kernel
theorem td_M_fill_65 : tz_dk prog_13_method_45_code 65 (.iinc 4 1) 3 68 := by decide +kernel
theorem td_M_fill_68 : tz_dj prog_13_method_45_code 68 (.goto (-58)) (-58) 71 10 := by decide +kernel
theorem td_M_fill_71 : tz_dk prog_13_method_45_code 71 (.return_) 1 72 := by decide +kernel
end
section
theorem td_M_aligned_0 : tz_dk prog_13_method_40_code 0 (.bipush 100) 2 2 := by decide +kernel
theorem td_M_aligned_2 : tz_dk prog_13_method_40_code 2 (.istore_n 3) 1 3 := by decide +kernel
theorem td_M_aligned_3 : tz_dk prog_13_method_40_code 3 (.lconst 0) 1 4 := by decide +kernel
theorem td_M_aligned_4 : tz_dk prog_13_method_40_code 4 (.lstore 4) 2 6 := by decide +kernel
theorem td_M_aligned_6 : tz_dk prog_13_method_40_code 6 (.lconst 1) 1 7 := by decide +kernel
theorem td_M_aligned_7 : tz_dk prog_13_method_40_code 7 (.lstore 6) 2 9 := by decide +kernel
theorem td_M_aligned_9 : tz_dk prog_13_method_40_code 9 (.iconst 0) 1 10 := by decide +kernel
theorem td_M_aligned_10 : tz_dk prog_13_method_40_code 10 (.istore 8) 2 12 := by decide +kernel
theorem td_M_aligned_12 : tz_dk prog_13_method_40_code 12 (.iload 8) 2 14 := by decide +kernel
theorem td_M_aligned_14 : tz_dk prog_13_method_40_code 14 (.iconst 2) 1 15 := by decide +kernel
theorem td_M_aligned_15 : tz_dk prog_13_method_40_code 15 (.iload_n 2) 1 16 := by decide +kernel
theorem td_M_aligned_16 : tz_dk prog_13_method_40_code 16 (.imul) 1 17 := by decide +kernel
theorem td_M_aligned_17 : tz_dj prog_13_method_40_code 17 (.if_icmp .gt 90) (90) 20 107 := by decide +kernel
theorem td_M_aligned_20 : tz_dk prog_13_method_40_code 20 (.iload 8) 2 22 := by decide +kernel
theorem td_M_aligned_22 : tz_dk prog_13_method_40_code 22 (.iconst 2) 1 23 := by decide +kernel
theorem td_M_aligned_23 : tz_dk prog_13_method_40_code 23 (.irem) 1 24 := by decide +kernel
theorem td_M_aligned_24 : tz_dk prog_13_method_40_code 24 (.iconst 1) 1 25 := by decide +kernel
theorem td_M_aligned_25 : tz_dj prog_13_method_40_code 25 (.if_icmp .ne 13) (13) 28 38 := by decide +kernel
theorem td_M_aligned_28 : tz_dk prog_13_method_40_code 28 (.iload 8) 2 30 := by decide +kernel
theorem td_M_aligned_30 : tz_dk prog_13_method_40_code 30 (.iconst 1) 1 31 := by decide +kernel
theorem td_M_aligned_31 : tz_dk prog_13_method_40_code 31 (.iadd) 1 32 := by decide +kernel
theorem td_M_aligned_32 : tz_dk prog_13_method_40_code 32 (.ineg) 1 33 := by decide +kernel
theorem td_M_aligned_33 : tz_dk prog_13_method_40_code 33 (.iconst 2) 1 34 := by decide +kernel
theorem td_M_aligned_34 : tz_dk prog_13_method_40_code 34 (.idiv) 1 35 := by decide +kernel
theorem td_M_aligned_35 : tz_dj prog_13_method_40_code 35 (.goto 7) (7) 38 42 := by decide +kernel
theorem td_M_aligned_38 : tz_dk prog_13_method_40_code 38 (.iload 8) 2 40 := by decide +kernel
theorem td_M_aligned_40 : tz_dk prog_13_method_40_code 40 (.iconst 2) 1 41 := by decide +kernel
theorem td_M_aligned_41 : tz_dk prog_13_method_40_code 41 (.idiv) 1 42 := by decide +kernel
theorem td_M_aligned_42 : tz_dk prog_13_method_40_code 42 (.istore 9) 2 44 := by decide +kernel
theorem td_M_aligned_44 : tz_dk prog_13_method_40_code 44 (.aload_n 0) 1 45 := by decide +kernel
theorem td_M_aligned_45 : tz_dk prog_13_method_40_code 45 (.iload_n 1) 1 46 := by decide +kernel
theorem td_M_aligned_46 : tz_dk prog_13_method_40_code 46 (.iload 9) 2 48 := by decide +kernel
theorem td_M_aligned_48 : tz_dk prog_13_method_40_code 48 (.invokevirtual 122) 3 51 := by decide +kernel
theorem td_M_aligned_51 : tz_dk prog_13_method_40_code 51 (.i2l) 1 52 := by decide +kernel
theorem td_M_aligned_52 : tz_dk prog_13_method_40_code 52 (.lstore 10) 2 54 := by decide +kernel
theorem td_M_aligned_54 : tz_dk prog_13_method_40_code 54 (.aload_n 0) 1 55 := by decide +kernel
theorem td_M_aligned_55 : tz_dk prog_13_method_40_code 55 (.getfield 125) 3 58 := by decide +kernel
theorem td_M_aligned_58 : tz_dk prog_13_method_40_code 58 (.i2l) 1 59 := by decide +kernel
theorem td_M_aligned_59 : tz_dk prog_13_method_40_code 59 (.lstore 12) 2 61 := by decide +kernel
theorem td_M_aligned_61 : tz_dk prog_13_method_40_code 61 (.lload 12) 2 63 := by decide +kernel
theorem td_M_aligned_63 : tz_dk prog_13_method_40_code 63 (.ldc2_w 128) 3 66 := by decide +kernel
theorem td_M_aligned_66 : tz_dk prog_13_method_40_code 66 (.lcmp) 1 67 := by decide +kernel
theorem td_M_aligned_67 : tz_dj prog_13_method_40_code 67 (.ifCond .lt 34) (34) 70 101 := by decide +kernel
theorem td_M_aligned_70 : tz_dk prog_13_method_40_code 70 (.iload_n 3) 1 71 := by decide +kernel
theorem td_M_aligned_71 : tz_dk prog_13_method_40_code 71 (.bipush 100) 2 73 := by decide +kernel
theorem td_M_aligned_73 : tz_dj prog_13_method_40_code 73 (.if_icmp .eq 17) (17) 76 90 := by decide +kernel
theorem td_M_aligned_76 : tz_dk prog_13_method_40_code 76 (.lload 10) 2 78 := by decide +kernel
theorem td_M_aligned_78 : tz_dk prog_13_method_40_code 78 (.lload 6) 2 80 := by decide +kernel
theorem td_M_aligned_80 : tz_dk prog_13_method_40_code 80 (.lmul) 1 81 := by decide +kernel
theorem td_M_aligned_81 : tz_dk prog_13_method_40_code 81 (.lload 4) 2 83 := by decide +kernel
theorem td_M_aligned_83 : tz_dk prog_13_method_40_code 83 (.lload 12) 2 85 := by decide +kernel
theorem td_M_aligned_85 : tz_dk prog_13_method_40_code 85 (.lmul) 1 86 := by decide +kernel
theorem td_M_aligned_86 : tz_dk prog_13_method_40_code 86 (.lcmp) 1 87 := by decide +kernel
theorem td_M_aligned_87 : tz_dj prog_13_method_40_code 87 (.ifCond .ge 14) (14) 90 101 := by decide +kernel
theorem td_M_aligned_90 : tz_dk prog_13_method_40_code 90 (.iload 9) 2 92 := by decide +kernel
theorem td_M_aligned_92 : tz_dk prog_13_method_40_code 92 (.istore_n 3) 1 93 := by decide +kernel
theorem td_M_aligned_93 : tz_dk prog_13_method_40_code 93 (.lload 10) 2 95 := by decide +kernel
theorem td_M_aligned_95 : tz_dk prog_13_method_40_code 95 (.lstore 4) 2 97 := by decide +kernel
theorem td_M_aligned_97 : tz_dk prog_13_method_40_code 97 (.lload 12) 2 99 := by decide +kernel
theorem td_M_aligned_99 : tz_dk prog_13_method_40_code 99 (.lstore 6) 2 101 := by decide +kernel
theorem td_M_aligned_101 : tz_dk prog_13_method_40_code 101 (.iinc 8 1) 3 104 := by decide +kernel
theorem td_M_aligned_104 : tz_dj prog_13_method_40_code 104 (.goto (-92)) (-92) 107 12 := by decide +kernel
theorem td_M_aligned_107 : tz_dk prog_13_method_40_code 107 (.iload_n 3) 1 108 := by decide +kernel
theorem td_M_aligned_108 : tz_dk prog_13_method_40_code 108 (.ireturn) 1 109 := by decide +kernel
theorem td_M_differs_0 : tz_dk prog_13_method_41_code 0 (.aload_n 0) 1 1 := by decide +kernel
theorem td_M_differs_1 : tz_dk prog_13_method_41_code 1 (.iconst 0) 1 2 := by decide +kernel
theorem td_M_differs_2 : tz_dk prog_13_method_41_code 2 (.putfield 125) 3 5 := by decide +kernel
theorem td_M_differs_5 : tz_dk prog_13_method_41_code 5 (.iconst 0) 1 6 := by decide +kernel
theorem td_M_differs_6 : tz_dk prog_13_method_41_code 6 (.istore_n 3) 1 7 := by decide +kernel
theorem td_M_differs_7 : tz_dk prog_13_method_41_code 7 (.iconst 0) 1 8 := by decide +kernel
theorem td_M_differs_8 : tz_dk prog_13_method_41_code 8 (.istore 4) 2 10 := by decide +kernel
theorem td_M_differs_10 : tz_dk prog_13_method_41_code 10 (.iload 4) 2 12 := by decide +kernel
theorem td_M_differs_12 : tz_dk prog_13_method_41_code 12 (.aload_n 0) 1 13 := by decide +kernel
theorem td_M_differs_13 : tz_dk prog_13_method_41_code 13 (.getfield 54) 3 16 := by decide +kernel
theorem td_M_differs_16 : tz_dj prog_13_method_41_code 16 (.if_icmp .ge 83) (83) 19 99 := by decide +kernel
theorem td_M_differs_19 : tz_dk prog_13_method_41_code 19 (.aload_n 0) 1 20 := by decide +kernel
theorem td_M_differs_20 : tz_dk prog_13_method_41_code 20 (.getfield 25) 3 23 := by decide +kernel
theorem td_M_differs_23 : tz_dk prog_13_method_41_code 23 (.iload 4) 2 25 := by decide +kernel
theorem td_M_differs_25 : tz_dk prog_13_method_41_code 25 (.iaload) 1 26 := by decide +kernel
theorem td_M_differs_26 : tz_dk prog_13_method_41_code 26 (.ldc 69) 2 28 := by decide +kernel
theorem td_M_differs_28 : tz_dj prog_13_method_41_code 28 (.if_icmp .eq 65) (65) 31 93 := by decide +kernel
theorem td_M_differs_31 : tz_dk prog_13_method_41_code 31 (.aload_n 0) 1 32 := by decide +kernel
theorem td_M_differs_32 : tz_dk prog_13_method_41_code 32 (.iload_n 1) 1 33 := by decide +kernel
theorem td_M_differs_33 : tz_dk prog_13_method_41_code 33 (.iload 4) 2 35 := by decide +kernel
theorem td_M_differs_35 : tz_dk prog_13_method_41_code 35 (.iload_n 2) 1 36 := by decide +kernel
theorem td_M_differs_36 : tz_dk prog_13_method_41_code 36 (.iadd) 1 37 := by decide +kernel
theorem td_M_differs_37 : tz_dk prog_13_method_41_code 37 (.invokevirtual 65) 3 40 := by decide +kernel
theorem td_M_differs_40 : tz_dj prog_13_method_41_code 40 (.ifCond .eq 53) (53) 43 93 := by decide +kernel
theorem td_M_differs_43 : tz_dk prog_13_method_41_code 43 (.aload_n 0) 1 44 := by decide +kernel
theorem td_M_differs_44 : tz_dk prog_13_method_41_code 44 (.iload_n 1) 1 45 := by decide +kernel
theorem td_M_differs_45 : tz_dk prog_13_method_41_code 45 (.iload 4) 2 47 := by decide +kernel
theorem td_M_differs_47 : tz_dk prog_13_method_41_code 47 (.iload_n 2) 1 48 := by decide +kernel
theorem td_M_differs_48 : tz_dk prog_13_method_41_code 48 (.iadd) 1 49 := by decide +kernel
theorem td_M_differs_49 : tz_dk prog_13_method_41_code 49 (.invokevirtual 57) 3 52 := by decide +kernel
theorem td_M_differs_52 : tz_dk prog_13_method_41_code 52 (.ldc 69) 2 54 := by decide +kernel
theorem td_M_differs_54 : tz_dj prog_13_method_41_code 54 (.if_icmp .ne 6) (6) 57 60 := by decide +kernel
theorem td_M_differs_57 : tz_dj prog_13_method_41_code 57 (.goto 36) (36) 60 93 := by decide +kernel
theorem td_M_differs_60 : tz_dk prog_13_method_41_code 60 (.aload_n 0) 1 61 := by decide +kernel
theorem td_M_differs_61 : tz_dk prog_13_method_41_code 61 (.dup) 1 62 := by decide +kernel
theorem td_M_differs_62 : tz_dk prog_13_method_41_code 62 (.getfield 125) 3 65 := by decide +kernel
theorem td_M_differs_65 : tz_dk prog_13_method_41_code 65 (.iconst 1) 1 66 := by decide +kernel
theorem td_M_differs_66 : tz_dk prog_13_method_41_code 66 (.iadd) 1 67 := by decide +kernel
theorem td_M_differs_67 : tz_dk prog_13_method_41_code 67 (.putfield 125) 3 70 := by decide +kernel
theorem td_M_differs_70 : tz_dk prog_13_method_41_code 70 (.iload_n 3) 1 71 := by decide +kernel
theorem td_M_differs_71 : tz_dk prog_13_method_41_code 71 (.aload_n 0) 1 72 := by decide +kernel
theorem td_M_differs_72 : tz_dk prog_13_method_41_code 72 (.getfield 25) 3 75 := by decide +kernel
theorem td_M_differs_75 : tz_dk prog_13_method_41_code 75 (.iload 4) 2 77 := by decide +kernel
theorem td_M_differs_77 : tz_dk prog_13_method_41_code 77 (.iaload) 1 78 := by decide +kernel
theorem td_M_differs_78 : tz_dk prog_13_method_41_code 78 (.aload_n 0) 1 79 := by decide +kernel
theorem td_M_differs_79 : tz_dk prog_13_method_41_code 79 (.iload_n 1) 1 80 := by decide +kernel
theorem td_M_differs_80 : tz_dk prog_13_method_41_code 80 (.iload 4) 2 82 := by decide +kernel
theorem td_M_differs_82 : tz_dk prog_13_method_41_code 82 (.iload_n 2) 1 83 := by decide +kernel
theorem td_M_differs_83 : tz_dk prog_13_method_41_code 83 (.iadd) 1 84 := by decide +kernel
theorem td_M_differs_84 : tz_dk prog_13_method_41_code 84 (.invokevirtual 57) 3 87 := by decide +kernel
theorem td_M_differs_87 : tz_dk prog_13_method_41_code 87 (.isub) 1 88 := by decide +kernel
theorem td_M_differs_88 : tz_dk prog_13_method_41_code 88 (.invokestatic 130) 3 91 := by decide +kernel
theorem td_M_differs_91 : tz_dk prog_13_method_41_code 91 (.iadd) 1 92 := by decide +kernel
theorem td_M_differs_92 : tz_dk prog_13_method_41_code 92 (.istore_n 3) 1 93 := by decide +kernel
theorem td_M_differs_93 : tz_dk prog_13_method_41_code 93 (.iinc 4 1) 3 96 := by decide +kernel
theorem td_M_differs_96 : tz_dj prog_13_method_41_code 96 (.goto (-86)) (-86) 99 10 := by decide +kernel
theorem td_M_differs_99 : tz_dk prog_13_method_41_code 99 (.iload_n 3) 1 100 := by decide +kernel
theorem td_M_differs_100 : tz_dk prog_13_method_41_code 100 (.ireturn) 1 101 := by decide +kernel
theorem td_M_bridge_0 : tz_dk prog_13_method_46_code 0 (.iconst 0) 1 1 := by decide +kernel
theorem td_M_bridge_1 : tz_dk prog_13_method_46_code 1 (.istore_n 2) 1 2 := by decide +kernel
theorem td_M_bridge_2 : tz_dk prog_13_method_46_code 2 (.iload_n 2) 1 3 := by decide +kernel
theorem td_M_bridge_3 : tz_dk prog_13_method_46_code 3 (.aload_n 0) 1 4 := by decide +kernel
theorem td_M_bridge_4 : tz_dk prog_13_method_46_code 4 (.getfield 54) 3 7 := by decide +kernel
theorem td_M_bridge_7 : tz_dj prog_13_method_46_code 7 (.if_icmp .ge 162) (162) 10 169 := by decide +kernel
theorem td_M_bridge_10 : tz_dk prog_13_method_46_code 10 (.aload_n 0) 1 11 := by decide +kernel
theorem td_M_bridge_11 : tz_dk prog_13_method_46_code 11 (.getfield 25) 3 14 := by decide +kernel
theorem td_M_bridge_14 : tz_dk prog_13_method_46_code 14 (.iload_n 2) 1 15 := by decide +kernel
theorem td_M_bridge_15 : tz_dk prog_13_method_46_code 15 (.iaload) 1 16 := by decide +kernel
theorem td_M_bridge_16 : tz_dk prog_13_method_46_code 16 (.ldc 69) 2 18 := by decide +kernel
theorem td_M_bridge_18 : tz_dj prog_13_method_46_code 18 (.if_icmp .eq 9) (9) 21 27 := by decide +kernel
theorem td_M_bridge_21 : tz_dk prog_13_method_46_code 21 (.iinc 2 1) 3 24 := by decide +kernel
theorem td_M_bridge_24 : tz_dj prog_13_method_46_code 24 (.goto (-22)) (-22) 27 2 := by decide +kernel
theorem td_M_bridge_27 : tz_dk prog_13_method_46_code 27 (.iload_n 2) 1 28 := by decide +kernel
theorem td_M_bridge_28 : tz_dk prog_13_method_46_code 28 (.istore_n 3) 1 29 := by decide +kernel
theorem td_M_bridge_29 : tz_dk prog_13_method_46_code 29 (.iload_n 3) 1 30 := by decide +kernel
theorem td_M_bridge_30 : tz_dk prog_13_method_46_code 30 (.aload_n 0) 1 31 := by decide +kernel
theorem td_M_bridge_31 : tz_dk prog_13_method_46_code 31 (.getfield 54) 3 34 := by decide +kernel
theorem td_M_bridge_34 : tz_dj prog_13_method_46_code 34 (.if_icmp .ge 20) (20) 37 54 := by decide +kernel
theorem td_M_bridge_37 : tz_dk prog_13_method_46_code 37 (.aload_n 0) 1 38 := by decide +kernel
theorem td_M_bridge_38 : tz_dk prog_13_method_46_code 38 (.getfield 25) 3 41 := by decide +kernel
theorem td_M_bridge_41 : tz_dk prog_13_method_46_code 41 (.iload_n 3) 1 42 := by decide +kernel
theorem td_M_bridge_42 : tz_dk prog_13_method_46_code 42 (.iaload) 1 43 := by decide +kernel
theorem td_M_bridge_43 : tz_dk prog_13_method_46_code 43 (.ldc 69) 2 45 := by decide +kernel
theorem td_M_bridge_45 : tz_dj prog_13_method_46_code 45 (.if_icmp .ne 9) (9) 48 54 := by decide +kernel
theorem td_M_bridge_48 : tz_dk prog_13_method_46_code 48 (.iinc 3 1) 3 51 := by decide +kernel
theorem td_M_bridge_51 : tz_dj prog_13_method_46_code 51 (.goto (-22)) (-22) 54 29 := by decide +kernel
theorem td_M_bridge_54 : tz_dk prog_13_method_46_code 54 (.iload_n 2) 1 55 := by decide +kernel
theorem td_M_bridge_55 : tz_dj prog_13_method_46_code 55 (.ifCond .le 109) (109) 58 164 := by decide +kernel
theorem td_M_bridge_58 : tz_dk prog_13_method_46_code 58 (.iload_n 3) 1 59 := by decide +kernel
theorem td_M_bridge_59 : tz_dk prog_13_method_46_code 59 (.aload_n 0) 1 60 := by decide +kernel
theorem td_M_bridge_60 : tz_dk prog_13_method_46_code 60 (.getfield 54) 3 63 := by decide +kernel
theorem td_M_bridge_63 : tz_dj prog_13_method_46_code 63 (.if_icmp .ge 101) (101) 66 164 := by decide +kernel
theorem td_M_bridge_66 : tz_dk prog_13_method_46_code 66 (.iload_n 3) 1 67 := by decide +kernel
theorem td_M_bridge_67 : tz_dk prog_13_method_46_code 67 (.iload_n 2) 1 68 := by decide +kernel
theorem td_M_bridge_68 : tz_dk prog_13_method_46_code 68 (.isub) 1 69 := by decide +kernel
theorem td_M_bridge_69 : tz_dk prog_13_method_46_code 69 (.iload_n 1) 1 70 := by decide +kernel
theorem td_M_bridge_70 : tz_dj prog_13_method_46_code 70 (.if_icmp .gt 94) (94) 73 164 := by decide +kernel
theorem td_M_bridge_73 : tz_dk prog_13_method_46_code 73 (.iload_n 2) 1 74 := by decide +kernel
theorem td_M_bridge_74 : tz_dk prog_13_method_46_code 74 (.iconst 1) 1 75 := by decide +kernel
theorem td_M_bridge_75 : tz_dk prog_13_method_46_code 75 (.isub) 1 76 := by decide +kernel
theorem td_M_bridge_76 : tz_dk prog_13_method_46_code 76 (.istore 4) 2 78 := by decide +kernel
theorem td_M_bridge_78 : tz_dk prog_13_method_46_code 78 (.iload_n 2) 1 79 := by decide +kernel
theorem td_M_bridge_79 : tz_dk prog_13_method_46_code 79 (.istore 5) 2 81 := by decide +kernel
theorem td_M_bridge_81 : tz_dk prog_13_method_46_code 81 (.iload 5) 2 83 := by decide +kernel
theorem td_M_bridge_83 : tz_dk prog_13_method_46_code 83 (.iload_n 3) 1 84 := by decide +kernel
theorem td_M_bridge_84 : tz_dj prog_13_method_46_code 84 (.if_icmp .ge 51) (51) 87 135 := by decide +kernel
theorem td_M_bridge_87 : tz_dk prog_13_method_46_code 87 (.aload_n 0) 1 88 := by decide +kernel
theorem td_M_bridge_88 : tz_dk prog_13_method_46_code 88 (.getfield 28) 3 91 := by decide +kernel
theorem td_M_bridge_91 : tz_dk prog_13_method_46_code 91 (.iload 5) 2 93 := by decide +kernel
theorem td_M_bridge_93 : tz_dk prog_13_method_46_code 93 (.aload_n 0) 1 94 := by decide +kernel
theorem td_M_bridge_94 : tz_dk prog_13_method_46_code 94 (.getfield 25) 3 97 := by decide +kernel
theorem td_M_bridge_97 : tz_dk prog_13_method_46_code 97 (.iload 4) 2 99 := by decide +kernel
theorem td_M_bridge_99 : tz_dk prog_13_method_46_code 99 (.iaload) 1 100 := by decide +kernel
theorem td_M_bridge_100 : tz_dk prog_13_method_46_code 100 (.iload 5) 2 102 := by decide +kernel
theorem td_M_bridge_102 : tz_dk prog_13_method_46_code 102 (.iload 4) 2 104 := by decide +kernel
theorem td_M_bridge_104 : tz_dk prog_13_method_46_code 104 (.isub) 1 105 := by decide +kernel
theorem td_M_bridge_105 : tz_dk prog_13_method_46_code 105 (.aload_n 0) 1 106 := by decide +kernel
theorem td_M_bridge_106 : tz_dk prog_13_method_46_code 106 (.getfield 25) 3 109 := by decide +kernel
theorem td_M_bridge_109 : tz_dk prog_13_method_46_code 109 (.iload_n 3) 1 110 := by decide +kernel
theorem td_M_bridge_110 : tz_dk prog_13_method_46_code 110 (.iaload) 1 111 := by decide +kernel
theorem td_M_bridge_111 : tz_dk prog_13_method_46_code 111 (.aload_n 0) 1 112 := by decide +kernel
theorem td_M_bridge_112 : tz_dk prog_13_method_46_code 112 (.getfield 25) 3 115 := by decide +kernel
theorem td_M_bridge_115 : tz_dk prog_13_method_46_code 115 (.iload 4) 2 117 := by decide +kernel
theorem td_M_bridge_117 : tz_dk prog_13_method_46_code 117 (.iaload) 1 118 := by decide +kernel
theorem td_M_bridge_118 : tz_dk prog_13_method_46_code 118 (.isub) 1 119 := by decide +kernel
theorem td_M_bridge_119 : tz_dk prog_13_method_46_code 119 (.imul) 1 120 := by decide +kernel
theorem td_M_bridge_120 : tz_dk prog_13_method_46_code 120 (.iload_n 3) 1 121 := by decide +kernel
theorem td_M_bridge_121 : tz_dk prog_13_method_46_code 121 (.iload 4) 2 123 := by decide +kernel
theorem td_M_bridge_123 : tz_dk prog_13_method_46_code 123 (.isub) 1 124 := by decide +kernel
theorem td_M_bridge_124 : tz_dk prog_13_method_46_code 124 (.invokestatic 147) 3 127 := by decide +kernel
theorem td_M_bridge_127 : tz_dk prog_13_method_46_code 127 (.iadd) 1 128 := by decide +kernel
theorem td_M_bridge_128 : tz_dk prog_13_method_46_code 128 (.iastore) 1 129 := by decide +kernel
theorem td_M_bridge_129 : tz_dk prog_13_method_46_code 129 (.iinc 5 1) 3 132 := by decide +kernel
theorem td_M_bridge_132 : tz_dj prog_13_method_46_code 132 (.goto (-51)) (-51) 135 81 := by decide +kernel
theorem td_M_bridge_135 : tz_dk prog_13_method_46_code 135 (.iload_n 2) 1 136 := by decide +kernel
theorem td_M_bridge_136 : tz_dk prog_13_method_46_code 136 (.istore 5) 2 138 := by decide +kernel
theorem td_M_bridge_138 : tz_dk prog_13_method_46_code 138 (.iload 5) 2 140 := by decide +kernel
theorem td_M_bridge_140 : tz_dk prog_13_method_46_code 140 (.iload_n 3) 1 141 := by decide +kernel
theorem td_M_bridge_141 : tz_dj prog_13_method_46_code 141 (.if_icmp .ge 23) (23) 144 164 := by decide +kernel
theorem td_M_bridge_144 : tz_dk prog_13_method_46_code 144 (.aload_n 0) 1 145 := by decide +kernel
theorem td_M_bridge_145 : tz_dk prog_13_method_46_code 145 (.getfield 25) 3 148 := by decide +kernel
theorem td_M_bridge_148 : tz_dk prog_13_method_46_code 148 (.iload 5) 2 150 := by decide +kernel
theorem td_M_bridge_150 : tz_dk prog_13_method_46_code 150 (.aload_n 0) 1 151 := by decide +kernel
theorem td_M_bridge_151 : tz_dk prog_13_method_46_code 151 (.getfield 28) 3 154 := by decide +kernel
theorem td_M_bridge_154 : tz_dk prog_13_method_46_code 154 (.iload 5) 2 156 := by decide +kernel
theorem td_M_bridge_156 : tz_dk prog_13_method_46_code 156 (.iaload) 1 157 := by decide +kernel
theorem td_M_bridge_157 : tz_dk prog_13_method_46_code 157 (.iastore) 1 158 := by decide +kernel
theorem td_M_bridge_158 : tz_dk prog_13_method_46_code 158 (.iinc 5 1) 3 161 := by decide +kernel
theorem td_M_bridge_161 : tz_dj prog_13_method_46_code 161 (.goto (-23)) (-23) 164 138 := by decide +kernel
theorem td_M_bridge_164 : tz_dk prog_13_method_46_code 164 (.iload_n 3) 1 165 := by decide +kernel
theorem td_M_bridge_165 : tz_dk prog_13_method_46_code 165 (.istore_n 2) 1 166 := by decide +kernel
theorem td_M_bridge_166 : tz_dj prog_13_method_46_code 166 (.goto (-164)) (-164) 169 2 := by decide +kernel
theorem td_M_bridge_169 : tz_dk prog_13_method_46_code 169 (.return_) 1 170 := by decide +kernel
theorem td_M_warp_0 : tz_dk prog_13_method_47_code 0 (.aload_n 0) 1 1 := by decide +kernel
theorem td_M_warp_1 : tz_dk prog_13_method_47_code 1 (.invokevirtual 82) 3 4 := by decide +kernel
theorem td_M_warp_4 : tz_dk prog_13_method_47_code 4 (.istore_n 2) 1 5 := by decide +kernel
theorem td_M_warp_5 : tz_dk prog_13_method_47_code 5 (.iload_n 2) 1 6 := by decide +kernel
theorem td_M_warp_6 : tz_dk prog_13_method_47_code 6 (.iconst 2) 1 7 := by decide +kernel
theorem td_M_warp_7 : tz_dj prog_13_method_47_code 7 (.if_icmp .ge 4) (4) 10 11 := by decide +kernel
theorem td_M_warp_10 : tz_dk prog_13_method_47_code 10 (.return_) 1 11 := by decide +kernel
theorem td_M_warp_11 : tz_dk prog_13_method_47_code 11 (.aload_n 0) 1 12 := by decide +kernel
theorem td_M_warp_12 : tz_dk prog_13_method_47_code 12 (.bipush 120) 2 14 := by decide +kernel
theorem td_M_warp_14 : tz_dk prog_13_method_47_code 14 (.iload_n 1) 1 15 := by decide +kernel
theorem td_M_warp_15 : tz_dk prog_13_method_47_code 15 (.iload_n 2) 1 16 := by decide +kernel
theorem td_M_warp_16 : tz_dk prog_13_method_47_code 16 (.iconst 1) 1 17 := by decide +kernel
theorem td_M_warp_17 : tz_dk prog_13_method_47_code 17 (.isub) 1 18 := by decide +kernel
theorem td_M_warp_18 : tz_dk prog_13_method_47_code 18 (.imul) 1 19 := by decide +kernel
theorem td_M_warp_19 : tz_dk prog_13_method_47_code 19 (.iconst 1) 1 20 := by decide +kernel
theorem td_M_warp_20 : tz_dk prog_13_method_47_code 20 (.iadd) 1 21 := by decide +kernel
theorem td_M_warp_21 : tz_dk prog_13_method_47_code 21 (.invokestatic 150) 3 24 := by decide +kernel
theorem td_M_warp_24 : tz_dk prog_13_method_47_code 24 (.putfield 138) 3 27 := by decide +kernel
theorem td_M_warp_27 : tz_dk prog_13_method_47_code 27 (.iconst 0) 1 28 := by decide +kernel
theorem td_M_warp_28 : tz_dk prog_13_method_47_code 28 (.istore_n 3) 1 29 := by decide +kernel
theorem td_M_warp_29 : tz_dk prog_13_method_47_code 29 (.iload_n 3) 1 30 := by decide +kernel
theorem td_M_warp_30 : tz_dk prog_13_method_47_code 30 (.aload_n 0) 1 31 := by decide +kernel
theorem td_M_warp_31 : tz_dk prog_13_method_47_code 31 (.getfield 138) 3 34 := by decide +kernel
theorem td_M_warp_34 : tz_dj prog_13_method_47_code 34 (.if_icmp .ge 160) (160) 37 194 := by decide +kernel
theorem td_M_warp_37 : tz_dk prog_13_method_47_code 37 (.iload_n 3) 1 38 := by decide +kernel
theorem td_M_warp_38 : tz_dk prog_13_method_47_code 38 (.iload_n 1) 1 39 := by decide +kernel
theorem td_M_warp_39 : tz_dk prog_13_method_47_code 39 (.idiv) 1 40 := by decide +kernel
theorem td_M_warp_40 : tz_dk prog_13_method_47_code 40 (.istore 4) 2 42 := by decide +kernel
theorem td_M_warp_42 : tz_dk prog_13_method_47_code 42 (.aload_n 0) 1 43 := by decide +kernel
theorem td_M_warp_43 : tz_dk prog_13_method_47_code 43 (.iload 4) 2 45 := by decide +kernel
theorem td_M_warp_45 : tz_dk prog_13_method_47_code 45 (.invokevirtual 88) 3 48 := by decide +kernel
theorem td_M_warp_48 : tz_dk prog_13_method_47_code 48 (.istore 5) 2 50 := by decide +kernel
theorem td_M_warp_50 : tz_dk prog_13_method_47_code 50 (.iload_n 3) 1 51 := by decide +kernel
theorem td_M_warp_51 : tz_dk prog_13_method_47_code 51 (.iload_n 1) 1 52 := by decide +kernel
theorem td_M_warp_52 : tz_dk prog_13_method_47_code 52 (.irem) 1 53 := by decide +kernel
theorem td_M_warp_53 : tz_dj prog_13_method_47_code 53 (.ifCond .ne 7) (7) 56 60 := by decide +kernel
theorem td_M_warp_56 : tz_dk prog_13_method_47_code 56 (.iconst 0) 1 57 := by decide +kernel
theorem td_M_warp_57 : tz_dj prog_13_method_47_code 57 (.goto 18) (18) 60 75 := by decide +kernel
theorem td_M_warp_60 : tz_dk prog_13_method_47_code 60 (.iload_n 3) 1 61 := by decide +kernel
theorem td_M_warp_61 : tz_dk prog_13_method_47_code 61 (.iload_n 1) 1 62 := by decide +kernel
theorem td_M_warp_62 : tz_dk prog_13_method_47_code 62 (.irem) 1 63 := by decide +kernel
theorem td_M_warp_63 : tz_dk prog_13_method_47_code 63 (.aload_n 0) 1 64 := by decide +kernel
theorem td_M_warp_64 : tz_dk prog_13_method_47_code 64 (.iload 4) 2 66 := by decide +kernel
theorem td_M_warp_66 : tz_dk prog_13_method_47_code 66 (.iconst 1) 1 67 := by decide +kernel
theorem td_M_warp_67 : tz_dk prog_13_method_47_code 67 (.iadd) 1 68 := by decide +kernel
theorem td_M_warp_68 : tz_dk prog_13_method_47_code 68 (.invokevirtual 88) 3 71 := by decide +kernel
theorem td_M_warp_71 : tz_dk prog_13_method_47_code 71 (.iload 5) 2 73 := by decide +kernel
theorem td_M_warp_73 : tz_dk prog_13_method_47_code 73 (.isub) 1 74 := by decide +kernel
theorem td_M_warp_74 : tz_dk prog_13_method_47_code 74 (.imul) 1 75 := by decide +kernel
theorem td_M_warp_75 : tz_dk prog_13_method_47_code 75 (.istore 6) 2 77 := by decide +kernel
theorem td_M_warp_77 : tz_dk prog_13_method_47_code 77 (.iload 5) 2 79 := by decide +kernel
theorem td_M_warp_79 : tz_dk prog_13_method_47_code 79 (.iload 6) 2 81 := by decide +kernel
theorem td_M_warp_81 : tz_dk prog_13_method_47_code 81 (.iload_n 1) 1 82 := by decide +kernel
theorem td_M_warp_82 : tz_dk prog_13_method_47_code 82 (.idiv) 1 83 := by decide +kernel
theorem td_M_warp_83 : tz_dk prog_13_method_47_code 83 (.iadd) 1 84 := by decide +kernel
theorem td_M_warp_84 : tz_dk prog_13_method_47_code 84 (.istore 7) 2 86 := by decide +kernel
theorem td_M_warp_86 : tz_dk prog_13_method_47_code 86 (.iload 6) 2 88 := by decide +kernel
theorem td_M_warp_88 : tz_dk prog_13_method_47_code 88 (.iload_n 1) 1 89 := by decide +kernel
theorem td_M_warp_89 : tz_dk prog_13_method_47_code 89 (.irem) 1 90 := by decide +kernel
theorem td_M_warp_90 : tz_dk prog_13_method_47_code 90 (.istore 8) 2 92 := by decide +kernel
theorem td_M_warp_92 : tz_dk prog_13_method_47_code 92 (.iload 8) 2 94 := by decide +kernel
theorem td_M_warp_94 : tz_dj prog_13_method_47_code 94 (.ifCond .ne 19) (19) 97 113 := by decide +kernel
theorem td_M_warp_97 : tz_dk prog_13_method_47_code 97 (.aload_n 0) 1 98 := by decide +kernel
theorem td_M_warp_98 : tz_dk prog_13_method_47_code 98 (.getfield 28) 3 101 := by decide +kernel
theorem td_M_warp_101 : tz_dk prog_13_method_47_code 101 (.iload_n 3) 1 102 := by decide +kernel
theorem td_M_warp_102 : tz_dk prog_13_method_47_code 102 (.aload_n 0) 1 103 := by decide +kernel
theorem td_M_warp_103 : tz_dk prog_13_method_47_code 103 (.getfield 25) 3 106 := by decide +kernel
theorem td_M_warp_106 : tz_dk prog_13_method_47_code 106 (.iload 7) 2 108 := by decide +kernel
theorem td_M_warp_108 : tz_dk prog_13_method_47_code 108 (.iaload) 1 109 := by decide +kernel
theorem td_M_warp_109 : tz_dk prog_13_method_47_code 109 (.iastore) 1 110 := by decide +kernel
theorem td_M_warp_110 : tz_dj prog_13_method_47_code 110 (.goto 78) (78) 113 188 := by decide +kernel
theorem td_M_warp_113 : tz_dk prog_13_method_47_code 113 (.aload_n 0) 1 114 := by decide +kernel
theorem td_M_warp_114 : tz_dk prog_13_method_47_code 114 (.getfield 25) 3 117 := by decide +kernel
theorem td_M_warp_117 : tz_dk prog_13_method_47_code 117 (.iload 7) 2 119 := by decide +kernel
theorem td_M_warp_119 : tz_dk prog_13_method_47_code 119 (.iaload) 1 120 := by decide +kernel
theorem td_M_warp_120 : tz_dk prog_13_method_47_code 120 (.ldc 69) 2 122 := by decide +kernel
theorem td_M_warp_122 : tz_dj prog_13_method_47_code 122 (.if_icmp .eq 17) (17) 125 139 := by decide +kernel
theorem td_M_warp_125 : tz_dk prog_13_method_47_code 125 (.aload_n 0) 1 126 := by decide +kernel
theorem td_M_warp_126 : tz_dk prog_13_method_47_code 126 (.getfield 25) 3 129 := by decide +kernel
theorem td_M_warp_129 : tz_dk prog_13_method_47_code 129 (.iload 7) 2 131 := by decide +kernel
theorem td_M_warp_131 : tz_dk prog_13_method_47_code 131 (.iconst 1) 1 132 := by decide +kernel
theorem td_M_warp_132 : tz_dk prog_13_method_47_code 132 (.iadd) 1 133 := by decide +kernel
theorem td_M_warp_133 : tz_dk prog_13_method_47_code 133 (.iaload) 1 134 := by decide +kernel
theorem td_M_warp_134 : tz_dk prog_13_method_47_code 134 (.ldc 69) 2 136 := by decide +kernel
theorem td_M_warp_136 : tz_dj prog_13_method_47_code 136 (.if_icmp .ne 14) (14) 139 150 := by decide +kernel
theorem td_M_warp_139 : tz_dk prog_13_method_47_code 139 (.aload_n 0) 1 140 := by decide +kernel
theorem td_M_warp_140 : tz_dk prog_13_method_47_code 140 (.getfield 28) 3 143 := by decide +kernel
theorem td_M_warp_143 : tz_dk prog_13_method_47_code 143 (.iload_n 3) 1 144 := by decide +kernel
theorem td_M_warp_144 : tz_dk prog_13_method_47_code 144 (.ldc 69) 2 146 := by decide +kernel
theorem td_M_warp_146 : tz_dk prog_13_method_47_code 146 (.iastore) 1 147 := by decide +kernel
theorem td_M_warp_147 : tz_dj prog_13_method_47_code 147 (.goto 41) (41) 150 188 := by decide +kernel
theorem td_M_warp_150 : tz_dk prog_13_method_47_code 150 (.aload_n 0) 1 151 := by decide +kernel
theorem td_M_warp_151 : tz_dk prog_13_method_47_code 151 (.getfield 28) 3 154 := by decide +kernel
theorem td_M_warp_154 : tz_dk prog_13_method_47_code 154 (.iload_n 3) 1 155 := by decide +kernel
theorem td_M_warp_155 : tz_dk prog_13_method_47_code 155 (.aload_n 0) 1 156 := by decide +kernel
theorem td_M_warp_156 : tz_dk prog_13_method_47_code 156 (.getfield 25) 3 159 := by decide +kernel
theorem td_M_warp_159 : tz_dk prog_13_method_47_code 159 (.iload 7) 2 161 := by decide +kernel
theorem td_M_warp_161 : tz_dk prog_13_method_47_code 161 (.iaload) 1 162 := by decide +kernel
theorem td_M_warp_162 : tz_dk prog_13_method_47_code 162 (.iload 8) 2 164 := by decide +kernel
theorem td_M_warp_164 : tz_dk prog_13_method_47_code 164 (.aload_n 0) 1 165 := by decide +kernel
theorem td_M_warp_165 : tz_dk prog_13_method_47_code 165 (.getfield 25) 3 168 := by decide +kernel
theorem td_M_warp_168 : tz_dk prog_13_method_47_code 168 (.iload 7) 2 170 := by decide +kernel
theorem td_M_warp_170 : tz_dk prog_13_method_47_code 170 (.iconst 1) 1 171 := by decide +kernel
theorem td_M_warp_171 : tz_dk prog_13_method_47_code 171 (.iadd) 1 172 := by decide +kernel
theorem td_M_warp_172 : tz_dk prog_13_method_47_code 172 (.iaload) 1 173 := by decide +kernel
theorem td_M_warp_173 : tz_dk prog_13_method_47_code 173 (.aload_n 0) 1 174 := by decide +kernel
theorem td_M_warp_174 : tz_dk prog_13_method_47_code 174 (.getfield 25) 3 177 := by decide +kernel
theorem td_M_warp_177 : tz_dk prog_13_method_47_code 177 (.iload 7) 2 179 := by decide +kernel
theorem td_M_warp_179 : tz_dk prog_13_method_47_code 179 (.iaload) 1 180 := by decide +kernel
theorem td_M_warp_180 : tz_dk prog_13_method_47_code 180 (.isub) 1 181 := by decide +kernel
theorem td_M_warp_181 : tz_dk prog_13_method_47_code 181 (.imul) 1 182 := by decide +kernel
theorem td_M_warp_182 : tz_dk prog_13_method_47_code 182 (.iload_n 1) 1 183 := by decide +kernel
theorem td_M_warp_183 : tz_dk prog_13_method_47_code 183 (.invokestatic 147) 3 186 := by decide +kernel
theorem td_M_warp_186 : tz_dk prog_13_method_47_code 186 (.iadd) 1 187 := by decide +kernel
theorem td_M_warp_187 : tz_dk prog_13_method_47_code 187 (.iastore) 1 188 := by decide +kernel
theorem td_M_warp_188 : tz_dk prog_13_method_47_code 188 (.iinc 3 1) 3 191 := by decide +kernel
theorem td_M_warp_191 : tz_dj prog_13_method_47_code 191 (.goto (-162)) (-162) 194 29 := by decide +kernel
theorem td_M_warp_194 : tz_dk prog_13_method_47_code 194 (.aload_n 0) 1 195 := by decide +kernel
theorem td_M_warp_195 : tz_dk prog_13_method_47_code 195 (.invokevirtual 141) 3 198 := by decide +kernel
theorem td_M_warp_198 : tz_dk prog_13_method_47_code 198 (.return_) 1 199 := by decide +kernel
theorem td_M_cut_0 : tz_dk prog_13_method_48_code 0 (.aload_n 0) 1 1 := by decide +kernel
theorem td_M_cut_1 : tz_dk prog_13_method_48_code 1 (.iconst 0) 1 2 := by decide +kernel
theorem td_M_cut_2 : tz_dk prog_13_method_48_code 2 (.putfield 138) 3 5 := by decide +kernel
theorem td_M_cut_5 : tz_dk prog_13_method_48_code 5 (.iconst 0) 1 6 := by decide +kernel
theorem td_M_cut_6 : tz_dk prog_13_method_48_code 6 (.istore_n 3) 1 7 := by decide +kernel
theorem td_M_cut_7 : tz_dk prog_13_method_48_code 7 (.iload_n 3) 1 8 := by decide +kernel
theorem td_M_cut_8 : tz_dk prog_13_method_48_code 8 (.aload_n 0) 1 9 := by decide +kernel
theorem td_M_cut_9 : tz_dk prog_13_method_48_code 9 (.getfield 54) 3 12 := by decide +kernel
theorem td_M_cut_12 : tz_dj prog_13_method_48_code 12 (.if_icmp .ge 46) (46) 15 58 := by decide +kernel
theorem td_M_cut_15 : tz_dk prog_13_method_48_code 15 (.iload_n 3) 1 16 := by decide +kernel
theorem td_M_cut_16 : tz_dk prog_13_method_48_code 16 (.iload_n 1) 1 17 := by decide +kernel
theorem td_M_cut_17 : tz_dj prog_13_method_48_code 17 (.if_icmp .lt 10) (10) 20 27 := by decide +kernel
theorem td_M_cut_20 : tz_dk prog_13_method_48_code 20 (.iload_n 3) 1 21 := by decide +kernel
theorem td_M_cut_21 : tz_dk prog_13_method_48_code 21 (.iload_n 1) 1 22 := by decide +kernel
theorem td_M_cut_22 : tz_dk prog_13_method_48_code 22 (.iload_n 2) 1 23 := by decide +kernel
theorem td_M_cut_23 : tz_dk prog_13_method_48_code 23 (.iadd) 1 24 := by decide +kernel
theorem td_M_cut_24 : tz_dj prog_13_method_48_code 24 (.if_icmp .lt 28) (28) 27 52 := by decide +kernel
theorem td_M_cut_27 : tz_dk prog_13_method_48_code 27 (.aload_n 0) 1 28 := by decide +kernel
theorem td_M_cut_28 : tz_dk prog_13_method_48_code 28 (.getfield 28) 3 31 := by decide +kernel
theorem td_M_cut_31 : tz_dk prog_13_method_48_code 31 (.aload_n 0) 1 32 := by decide +kernel
theorem td_M_cut_32 : tz_dk prog_13_method_48_code 32 (.getfield 138) 3 35 := by decide +kernel
theorem td_M_cut_35 : tz_dk prog_13_method_48_code 35 (.aload_n 0) 1 36 := by decide +kernel
theorem td_M_cut_36 : tz_dk prog_13_method_48_code 36 (.getfield 25) 3 39 := by decide +kernel
theorem td_M_cut_39 : tz_dk prog_13_method_48_code 39 (.iload_n 3) 1 40 := by decide +kernel
theorem td_M_cut_40 : tz_dk prog_13_method_48_code 40 (.iaload) 1 41 := by decide +kernel
theorem td_M_cut_41 : tz_dk prog_13_method_48_code 41 (.iastore) 1 42 := by decide +kernel
theorem td_M_cut_42 : tz_dk prog_13_method_48_code 42 (.aload_n 0) 1 43 := by decide +kernel
theorem td_M_cut_43 : tz_dk prog_13_method_48_code 43 (.dup) 1 44 := by decide +kernel
theorem td_M_cut_44 : tz_dk prog_13_method_48_code 44 (.getfield 138) 3 47 := by decide +kernel
theorem td_M_cut_47 : tz_dk prog_13_method_48_code 47 (.iconst 1) 1 48 := by decide +kernel
theorem td_M_cut_48 : tz_dk prog_13_method_48_code 48 (.iadd) 1 49 := by decide +kernel
theorem td_M_cut_49 : tz_dk prog_13_method_48_code 49 (.putfield 138) 3 52 := by decide +kernel
theorem td_M_cut_52 : tz_dk prog_13_method_48_code 52 (.iinc 3 1) 3 55 := by decide +kernel
theorem td_M_cut_55 : tz_dj prog_13_method_48_code 55 (.goto (-48)) (-48) 58 7 := by decide +kernel
theorem td_M_cut_58 : tz_dk prog_13_method_48_code 58 (.aload_n 0) 1 59 := by decide +kernel
theorem td_M_cut_59 : tz_dk prog_13_method_48_code 59 (.invokevirtual 141) 3 62 := by decide +kernel
theorem td_M_cut_62 : tz_dk prog_13_method_48_code 62 (.return_) 1 63 := by decide +kernel
theorem td_M_fade_0 : tz_dk prog_13_method_49_code 0 (.iconst 0) 1 1 := by decide +kernel
theorem td_M_fade_1 : tz_dk prog_13_method_49_code 1 (.istore_n 2) 1 2 := by decide +kernel
theorem td_M_fade_2 : tz_dk prog_13_method_49_code 2 (.iload_n 2) 1 3 := by decide +kernel
theorem td_M_fade_3 : tz_dk prog_13_method_49_code 3 (.aload_n 0) 1 4 := by decide +kernel
theorem td_M_fade_4 : tz_dk prog_13_method_49_code 4 (.getfield 54) 3 7 := by decide +kernel
theorem td_M_fade_7 : tz_dj prog_13_method_49_code 7 (.if_icmp .ge 50) (50) 10 57 := by decide +kernel
theorem td_M_fade_10 : tz_dk prog_13_method_49_code 10 (.iload_n 2) 1 11 := by decide +kernel
theorem td_M_fade_11 : tz_dk prog_13_method_49_code 11 (.iload_n 1) 1 12 := by decide +kernel
theorem td_M_fade_12 : tz_dj prog_13_method_49_code 12 (.if_icmp .ge 45) (45) 15 57 := by decide +kernel
theorem td_M_fade_15 : tz_dk prog_13_method_49_code 15 (.aload_n 0) 1 16 := by decide +kernel
theorem td_M_fade_16 : tz_dk prog_13_method_49_code 16 (.getfield 25) 3 19 := by decide +kernel
theorem td_M_fade_19 : tz_dk prog_13_method_49_code 19 (.iload_n 2) 1 20 := by decide +kernel
theorem td_M_fade_20 : tz_dk prog_13_method_49_code 20 (.aload_n 0) 1 21 := by decide +kernel
theorem td_M_fade_21 : tz_dk prog_13_method_49_code 21 (.getfield 25) 3 24 := by decide +kernel
theorem td_M_fade_24 : tz_dk prog_13_method_49_code 24 (.iload_n 2) 1 25 := by decide +kernel
theorem td_M_fade_25 : tz_dk prog_13_method_49_code 25 (.iaload) 1 26 := by decide +kernel
theorem td_M_fade_26 : tz_dk prog_13_method_49_code 26 (.ldc 69) 2 28 := by decide +kernel
theorem td_M_fade_28 : tz_dj prog_13_method_49_code 28 (.if_icmp .ne 8) (8) 31 36 := by decide +kernel
theorem td_M_fade_31 : tz_dk prog_13_method_49_code 31 (.ldc 69) 2 33 := by decide +kernel
theorem td_M_fade_33 : tz_dj prog_13_method_49_code 33 (.goto 17) (17) 36 50 := by decide +kernel
theorem td_M_fade_36 : tz_dk prog_13_method_49_code 36 (.aload_n 0) 1 37 := by decide +kernel
theorem td_M_fade_37 : tz_dk prog_13_method_49_code 37 (.getfield 25) 3 40 := by decide +kernel
theorem td_M_fade_40 : tz_dk prog_13_method_49_code 40 (.iload_n 2) 1 41 := by decide +kernel
theorem td_M_fade_41 : tz_dk prog_13_method_49_code 41 (.iaload) 1 42 := by decide +kernel
theorem td_M_fade_42 : tz_dk prog_13_method_49_code 42 (.iload_n 2) 1 43 := by decide +kernel
theorem td_M_fade_43 : tz_dk prog_13_method_49_code 43 (.iconst 1) 1 44 := by decide +kernel
theorem td_M_fade_44 : tz_dk prog_13_method_49_code 44 (.iadd) 1 45 := by decide +kernel
theorem td_M_fade_45 : tz_dk prog_13_method_49_code 45 (.imul) 1 46 := by decide +kernel
theorem td_M_fade_46 : tz_dk prog_13_method_49_code 46 (.iload_n 1) 1 47 := by decide +kernel
theorem td_M_fade_47 : tz_dk prog_13_method_49_code 47 (.iconst 1) 1 48 := by decide +kernel
theorem td_M_fade_48 : tz_dk prog_13_method_49_code 48 (.iadd) 1 49 := by decide +kernel
theorem td_M_fade_49 : tz_dk prog_13_method_49_code 49 (.idiv) 1 50 := by decide +kernel
theorem td_M_fade_50 : tz_dk prog_13_method_49_code 50 (.iastore) 1 51 := by decide +kernel
theorem td_M_fade_51 : tz_dk prog_13_method_49_code 51 (.iinc 2 1) 3 54 := by decide +kernel
theorem td_M_fade_54 : tz_dj prog_13_method_49_code 54 (.goto (-52)) (-52) 57 2 := by decide +kernel
theorem td_M_fade_57 : tz_dk prog_13_method_49_code 57 (.return_) 1 58 := by decide +kernel
theorem td_M_out_0 : tz_dk prog_13_method_53_code 0 (.iload_n 1) 1 1 := by decide +kernel
theorem td_M_out_1 : tz_dk prog_13_method_53_code 1 (.invokestatic 42) 3 4 := by decide +kernel
theorem td_M_out_4 : tz_dj prog_13_method_53_code 4 (.ifCond .ne 10) (10) 7 14 := by decide +kernel
theorem td_M_out_7 : tz_dk prog_13_method_53_code 7 (.aload_n 0) 1 8 := by decide +kernel
theorem td_M_out_8 : tz_dk prog_13_method_53_code 8 (.ldc 61) 2 10 := by decide +kernel
theorem td_M_out_10 : tz_dk prog_13_method_53_code 10 (.invokevirtual 50) 3 13 := by decide +kernel
theorem td_M_out_13 : tz_dk prog_13_method_53_code 13 (.ireturn) 1 14 := by decide +kernel
theorem td_M_out_14 : tz_dk prog_13_method_53_code 14 (.aload_n 0) 1 15 := by decide +kernel
theorem td_M_out_15 : tz_dk prog_13_method_53_code 15 (.iload_n 1) 1 16 := by decide +kernel
theorem td_M_out_16 : tz_dk prog_13_method_53_code 16 (.invokevirtual 177) 3 19 := by decide +kernel
theorem td_M_out_19 : tz_dk prog_13_method_53_code 19 (.iload_n 2) 1 20 := by decide +kernel
theorem td_M_out_20 : tz_dk prog_13_method_53_code 20 (.iconst 0) 1 21 := by decide +kernel
theorem td_M_out_21 : tz_dk prog_13_method_53_code 21 (.aload_n 0) 1 22 := by decide +kernel
theorem td_M_out_22 : tz_dk prog_13_method_53_code 22 (.getfield 54) 3 25 := by decide +kernel
theorem td_M_out_25 : tz_dk prog_13_method_53_code 25 (.iconst 1) 1 26 := by decide +kernel
theorem td_M_out_26 : tz_dk prog_13_method_53_code 26 (.isub) 1 27 := by decide +kernel
theorem td_M_out_27 : tz_dk prog_13_method_53_code 27 (.invokestatic 38) 3 30 := by decide +kernel
theorem td_M_out_30 : tz_dj prog_13_method_53_code 30 (.ifCond .ne 10) (10) 33 40 := by decide +kernel
theorem td_M_out_33 : tz_dk prog_13_method_53_code 33 (.aload_n 0) 1 34 := by decide +kernel
theorem td_M_out_34 : tz_dk prog_13_method_53_code 34 (.ldc 61) 2 36 := by decide +kernel
theorem td_M_out_36 : tz_dk prog_13_method_53_code 36 (.invokevirtual 50) 3 39 := by decide +kernel
theorem td_M_out_39 : tz_dk prog_13_method_53_code 39 (.ireturn) 1 40 := by decide +kernel
theorem td_M_out_40 : tz_dk prog_13_method_53_code 40 (.aload_n 0) 1 41 := by decide +kernel
theorem td_M_out_41 : tz_dk prog_13_method_53_code 41 (.getfield 25) 3 44 := by decide +kernel
theorem td_M_out_44 : tz_dk prog_13_method_53_code 44 (.iload_n 2) 1 45 := by decide +kernel
theorem td_M_out_45 : tz_dk prog_13_method_53_code 45 (.iaload) 1 46 := by decide +kernel
theorem td_M_out_46 : tz_dk prog_13_method_53_code 46 (.ldc 69) 2 48 := by decide +kernel
theorem td_M_out_48 : tz_dj prog_13_method_53_code 48 (.if_icmp .ne 12) (12) 51 60 := by decide +kernel
theorem td_M_out_51 : tz_dk prog_13_method_53_code 51 (.aload_n 0) 1 52 := by decide +kernel
theorem td_M_out_52 : tz_dk prog_13_method_53_code 52 (.ldc 70) 2 54 := by decide +kernel
theorem td_M_out_54 : tz_dk prog_13_method_53_code 54 (.invokevirtual 50) 3 57 := by decide +kernel
theorem td_M_out_57 : tz_dj prog_13_method_53_code 57 (.goto 9) (9) 60 66 := by decide +kernel
theorem td_M_out_60 : tz_dk prog_13_method_53_code 60 (.aload_n 0) 1 61 := by decide +kernel
theorem td_M_out_61 : tz_dk prog_13_method_53_code 61 (.getfield 25) 3 64 := by decide +kernel
theorem td_M_out_64 : tz_dk prog_13_method_53_code 64 (.iload_n 2) 1 65 := by decide +kernel
theorem td_M_out_65 : tz_dk prog_13_method_53_code 65 (.iaload) 1 66 := by decide +kernel
theorem td_M_out_66 : tz_dk prog_13_method_53_code 66 (.ireturn) 1 67 := by decide +kernel
theorem td_M_heard_0 : tz_dk prog_13_method_54_code 0 (.iload_n 1) 1 1 := by decide +kernel
theorem td_M_heard_1 : tz_dk prog_13_method_54_code 1 (.invokestatic 42) 3 4 := by decide +kernel
theorem td_M_heard_4 : tz_dj prog_13_method_54_code 4 (.ifCond .eq 12) (12) 7 16 := by decide +kernel
theorem td_M_heard_7 : tz_dk prog_13_method_54_code 7 (.iload_n 2) 1 8 := by decide +kernel
theorem td_M_heard_8 : tz_dk prog_13_method_54_code 8 (.iconst 0) 1 9 := by decide +kernel
theorem td_M_heard_9 : tz_dk prog_13_method_54_code 9 (.iconst 2) 1 10 := by decide +kernel
theorem td_M_heard_10 : tz_dk prog_13_method_54_code 10 (.invokestatic 38) 3 13 := by decide +kernel
theorem td_M_heard_13 : tz_dj prog_13_method_54_code 13 (.ifCond .ne 10) (10) 16 23 := by decide +kernel
theorem td_M_heard_16 : tz_dk prog_13_method_54_code 16 (.aload_n 0) 1 17 := by decide +kernel
theorem td_M_heard_17 : tz_dk prog_13_method_54_code 17 (.ldc 61) 2 19 := by decide +kernel
theorem td_M_heard_19 : tz_dk prog_13_method_54_code 19 (.invokevirtual 50) 3 22 := by decide +kernel
theorem td_M_heard_22 : tz_dk prog_13_method_54_code 22 (.ireturn) 1 23 := by decide +kernel
theorem td_M_heard_23 : tz_dk prog_13_method_54_code 23 (.aload_n 0) 1 24 := by decide +kernel
theorem td_M_heard_24 : tz_dk prog_13_method_54_code 24 (.iload_n 1) 1 25 := by decide +kernel
theorem td_M_heard_25 : tz_dk prog_13_method_54_code 25 (.invokevirtual 177) 3 28 := by decide +kernel
theorem td_M_heard_28 : tz_dk prog_13_method_54_code 28 (.iload_n 2) 1 29 := by decide +kernel
theorem td_M_heard_29 : tz_dk prog_13_method_54_code 29 (.iconst 1) 1 30 := by decide +kernel
theorem td_M_heard_30 : tz_dj prog_13_method_54_code 30 (.if_icmp .ne 8) (8) 33 38 := by decide +kernel
theorem td_M_heard_33 : tz_dk prog_13_method_54_code 33 (.aload_n 0) 1 34 := by decide +kernel
theorem td_M_heard_34 : tz_dk prog_13_method_54_code 34 (.invokevirtual 78) 3 37 := by decide +kernel
theorem td_M_heard_37 : tz_dk prog_13_method_54_code 37 (.ireturn) 1 38 := by decide +kernel
theorem td_M_heard_38 : tz_dk prog_13_method_54_code 38 (.iconst 0) 1 39 := by decide +kernel
theorem td_M_heard_39 : tz_dk prog_13_method_54_code 39 (.istore_n 3) 1 40 := by decide +kernel
theorem td_M_heard_40 : tz_dk prog_13_method_54_code 40 (.iconst 0) 1 41 := by decide +kernel
theorem td_M_heard_41 : tz_dk prog_13_method_54_code 41 (.istore 4) 2 43 := by decide +kernel
theorem td_M_heard_43 : tz_dk prog_13_method_54_code 43 (.iconst 0) 1 44 := by decide +kernel
theorem td_M_heard_44 : tz_dk prog_13_method_54_code 44 (.istore 5) 2 46 := by decide +kernel
theorem td_M_heard_46 : tz_dk prog_13_method_54_code 46 (.iload 5) 2 48 := by decide +kernel
theorem td_M_heard_48 : tz_dk prog_13_method_54_code 48 (.aload_n 0) 1 49 := by decide +kernel
theorem td_M_heard_49 : tz_dk prog_13_method_54_code 49 (.getfield 54) 3 52 := by decide +kernel
theorem td_M_heard_52 : tz_dj prog_13_method_54_code 52 (.if_icmp .ge 77) (77) 55 129 := by decide +kernel
theorem td_M_heard_55 : tz_dk prog_13_method_54_code 55 (.aload_n 0) 1 56 := by decide +kernel
theorem td_M_heard_56 : tz_dk prog_13_method_54_code 56 (.getfield 25) 3 59 := by decide +kernel
theorem td_M_heard_59 : tz_dk prog_13_method_54_code 59 (.iload 5) 2 61 := by decide +kernel
theorem td_M_heard_61 : tz_dk prog_13_method_54_code 61 (.iaload) 1 62 := by decide +kernel
theorem td_M_heard_62 : tz_dk prog_13_method_54_code 62 (.ldc 69) 2 64 := by decide +kernel
theorem td_M_heard_64 : tz_dj prog_13_method_54_code 64 (.if_icmp .ne 7) (7) 67 71 := by decide +kernel
theorem td_M_heard_67 : tz_dk prog_13_method_54_code 67 (.iload_n 3) 1 68 := by decide +kernel
theorem td_M_heard_68 : tz_dj prog_13_method_54_code 68 (.goto 17) (17) 71 85 := by decide +kernel
theorem td_M_heard_71 : tz_dk prog_13_method_54_code 71 (.iload_n 3) 1 72 := by decide +kernel
theorem td_M_heard_72 : tz_dk prog_13_method_54_code 72 (.aload_n 0) 1 73 := by decide +kernel
theorem td_M_heard_73 : tz_dk prog_13_method_54_code 73 (.getfield 25) 3 76 := by decide +kernel
theorem td_M_heard_76 : tz_dk prog_13_method_54_code 76 (.iload 5) 2 78 := by decide +kernel
theorem td_M_heard_78 : tz_dk prog_13_method_54_code 78 (.iaload) 1 79 := by decide +kernel
theorem td_M_heard_79 : tz_dk prog_13_method_54_code 79 (.invokestatic 130) 3 82 := by decide +kernel
theorem td_M_heard_82 : tz_dk prog_13_method_54_code 82 (.invokestatic 180) 3 85 := by decide +kernel
theorem td_M_heard_85 : tz_dk prog_13_method_54_code 85 (.istore_n 3) 1 86 := by decide +kernel
theorem td_M_heard_86 : tz_dk prog_13_method_54_code 86 (.iload 4) 2 88 := by decide +kernel
theorem td_M_heard_88 : tz_dk prog_13_method_54_code 88 (.aload_n 0) 1 89 := by decide +kernel
theorem td_M_heard_89 : tz_dk prog_13_method_54_code 89 (.iload_n 1) 1 90 := by decide +kernel
theorem td_M_heard_90 : tz_dk prog_13_method_54_code 90 (.iload 5) 2 92 := by decide +kernel
theorem td_M_heard_92 : tz_dk prog_13_method_54_code 92 (.invokevirtual 65) 3 95 := by decide +kernel
theorem td_M_heard_95 : tz_dj prog_13_method_54_code 95 (.ifCond .eq 24) (24) 98 119 := by decide +kernel
theorem td_M_heard_98 : tz_dk prog_13_method_54_code 98 (.aload_n 0) 1 99 := by decide +kernel
theorem td_M_heard_99 : tz_dk prog_13_method_54_code 99 (.iload_n 1) 1 100 := by decide +kernel
theorem td_M_heard_100 : tz_dk prog_13_method_54_code 100 (.iload 5) 2 102 := by decide +kernel
theorem td_M_heard_102 : tz_dk prog_13_method_54_code 102 (.invokevirtual 57) 3 105 := by decide +kernel
theorem td_M_heard_105 : tz_dk prog_13_method_54_code 105 (.aload_n 0) 1 106 := by decide +kernel
theorem td_M_heard_106 : tz_dk prog_13_method_54_code 106 (.getfield 25) 3 109 := by decide +kernel
theorem td_M_heard_109 : tz_dk prog_13_method_54_code 109 (.iload 5) 2 111 := by decide +kernel
theorem td_M_heard_111 : tz_dk prog_13_method_54_code 111 (.iaload) 1 112 := by decide +kernel
theorem td_M_heard_112 : tz_dj prog_13_method_54_code 112 (.if_icmp .ne 7) (7) 115 119 := by decide +kernel
theorem td_M_heard_115 : tz_dk prog_13_method_54_code 115 (.iconst 0) 1 116 := by decide +kernel
theorem td_M_heard_116 : tz_dj prog_13_method_54_code 116 (.goto 4) (4) 119 120 := by decide +kernel
theorem td_M_heard_119 : tz_dk prog_13_method_54_code 119 (.iconst 1) 1 120 := by decide +kernel
theorem td_M_heard_120 : tz_dk prog_13_method_54_code 120 (.iadd) 1 121 := by decide +kernel
theorem td_M_heard_121 : tz_dk prog_13_method_54_code 121 (.istore 4) 2 123 := by decide +kernel
theorem td_M_heard_123 : tz_dk prog_13_method_54_code 123 (.iinc 5 1) 3 126 := by decide +kernel
theorem td_M_heard_126 : tz_dj prog_13_method_54_code 126 (.goto (-80)) (-80) 129 46 := by decide +kernel
theorem td_M_heard_129 : tz_dk prog_13_method_54_code 129 (.iload_n 2) 1 130 := by decide +kernel
theorem td_M_heard_130 : tz_dj prog_13_method_54_code 130 (.ifCond .ne 7) (7) 133 137 := by decide +kernel
theorem td_M_heard_133 : tz_dk prog_13_method_54_code 133 (.iload_n 3) 1 134 := by decide +kernel
theorem td_M_heard_134 : tz_dj prog_13_method_54_code 134 (.goto 5) (5) 137 139 := by decide +kernel
theorem td_M_heard_137 : tz_dk prog_13_method_54_code 137 (.iload 4) 2 139 := by decide +kernel
theorem td_M_heard_139 : tz_dk prog_13_method_54_code 139 (.ireturn) 1 140 := by decide +kernel
theorem td_M_power_0 : tz_dk prog_13_method_55_code 0 (.iload_n 1) 1 1 := by decide +kernel
theorem td_M_power_1 : tz_dk prog_13_method_55_code 1 (.invokestatic 42) 3 4 := by decide +kernel
theorem td_M_power_4 : tz_dj prog_13_method_55_code 4 (.ifCond .ne 11) (11) 7 15 := by decide +kernel
theorem td_M_power_7 : tz_dk prog_13_method_55_code 7 (.aload_n 0) 1 8 := by decide +kernel
theorem td_M_power_8 : tz_dk prog_13_method_55_code 8 (.ldc 61) 2 10 := by decide +kernel
theorem td_M_power_10 : tz_dk prog_13_method_55_code 10 (.invokevirtual 50) 3 13 := by decide +kernel
theorem td_M_power_13 : tz_dk prog_13_method_55_code 13 (.i2l) 1 14 := by decide +kernel
theorem td_M_power_14 : tz_dk prog_13_method_55_code 14 (.lreturn) 1 15 := by decide +kernel
theorem td_M_power_15 : tz_dk prog_13_method_55_code 15 (.aload_n 0) 1 16 := by decide +kernel
theorem td_M_power_16 : tz_dk prog_13_method_55_code 16 (.iload_n 1) 1 17 := by decide +kernel
theorem td_M_power_17 : tz_dk prog_13_method_55_code 17 (.invokevirtual 177) 3 20 := by decide +kernel
theorem td_M_power_20 : tz_dk prog_13_method_55_code 20 (.lconst 0) 1 21 := by decide +kernel
theorem td_M_power_21 : tz_dk prog_13_method_55_code 21 (.lstore_n 2) 1 22 := by decide +kernel
theorem td_M_power_22 : tz_dk prog_13_method_55_code 22 (.iconst 0) 1 23 := by decide +kernel
theorem td_M_power_23 : tz_dk prog_13_method_55_code 23 (.istore 4) 2 25 := by decide +kernel
theorem td_M_power_25 : tz_dk prog_13_method_55_code 25 (.iload 4) 2 27 := by decide +kernel
theorem td_M_power_27 : tz_dk prog_13_method_55_code 27 (.aload_n 0) 1 28 := by decide +kernel
theorem td_M_power_28 : tz_dk prog_13_method_55_code 28 (.getfield 54) 3 31 := by decide +kernel
theorem td_M_power_31 : tz_dj prog_13_method_55_code 31 (.if_icmp .ge 45) (45) 34 76 := by decide +kernel
theorem td_M_power_34 : tz_dk prog_13_method_55_code 34 (.lload_n 2) 1 35 := by decide +kernel
theorem td_M_power_35 : tz_dk prog_13_method_55_code 35 (.aload_n 0) 1 36 := by decide +kernel
theorem td_M_power_36 : tz_dk prog_13_method_55_code 36 (.getfield 25) 3 39 := by decide +kernel
theorem td_M_power_39 : tz_dk prog_13_method_55_code 39 (.iload 4) 2 41 := by decide +kernel
theorem td_M_power_41 : tz_dk prog_13_method_55_code 41 (.iaload) 1 42 := by decide +kernel
theorem td_M_power_42 : tz_dk prog_13_method_55_code 42 (.ldc 69) 2 44 := by decide +kernel
theorem td_M_power_44 : tz_dj prog_13_method_55_code 44 (.if_icmp .ne 7) (7) 47 51 := by decide +kernel
theorem td_M_power_47 : tz_dk prog_13_method_55_code 47 (.lconst 0) 1 48 := by decide +kernel
theorem td_M_power_48 : tz_dj prog_13_method_55_code 48 (.goto 20) (20) 51 68 := by decide +kernel
theorem td_M_power_51 : tz_dk prog_13_method_55_code 51 (.aload_n 0) 1 52 := by decide +kernel
theorem td_M_power_52 : tz_dk prog_13_method_55_code 52 (.getfield 25) 3 55 := by decide +kernel
theorem td_M_power_55 : tz_dk prog_13_method_55_code 55 (.iload 4) 2 57 := by decide +kernel
theorem td_M_power_57 : tz_dk prog_13_method_55_code 57 (.iaload) 1 58 := by decide +kernel
theorem td_M_power_58 : tz_dk prog_13_method_55_code 58 (.i2l) 1 59 := by decide +kernel
theorem td_M_power_59 : tz_dk prog_13_method_55_code 59 (.aload_n 0) 1 60 := by decide +kernel
theorem td_M_power_60 : tz_dk prog_13_method_55_code 60 (.getfield 25) 3 63 := by decide +kernel
theorem td_M_power_63 : tz_dk prog_13_method_55_code 63 (.iload 4) 2 65 := by decide +kernel
theorem td_M_power_65 : tz_dk prog_13_method_55_code 65 (.iaload) 1 66 := by decide +kernel
theorem td_M_power_66 : tz_dk prog_13_method_55_code 66 (.i2l) 1 67 := by decide +kernel
theorem td_M_power_67 : tz_dk prog_13_method_55_code 67 (.lmul) 1 68 := by decide +kernel
theorem td_M_power_68 : tz_dk prog_13_method_55_code 68 (.ladd) 1 69 := by decide +kernel
theorem td_M_power_69 : tz_dk prog_13_method_55_code 69 (.lstore_n 2) 1 70 := by decide +kernel
theorem td_M_power_70 : tz_dk prog_13_method_55_code 70 (.iinc 4 1) 3 73 := by decide +kernel
theorem td_M_power_73 : tz_dj prog_13_method_55_code 73 (.goto (-48)) (-48) 76 25 := by decide +kernel
theorem td_M_power_76 : tz_dk prog_13_method_55_code 76 (.lload_n 2) 1 77 := by decide +kernel
theorem td_M_power_77 : tz_dk prog_13_method_55_code 77 (.lreturn) 1 78 := by decide +kernel
theorem td_M_bake_0 : tz_dk prog_13_method_56_code 0 (.iload_n 1) 1 1 := by decide +kernel
theorem td_M_bake_1 : tz_dk prog_13_method_56_code 1 (.invokestatic 42) 3 4 := by decide +kernel
theorem td_M_bake_4 : tz_dj prog_13_method_56_code 4 (.ifCond .eq 10) (10) 7 14 := by decide +kernel
theorem td_M_bake_7 : tz_dk prog_13_method_56_code 7 (.iload_n 2) 1 8 := by decide +kernel
theorem td_M_bake_8 : tz_dk prog_13_method_56_code 8 (.invokestatic 42) 3 11 := by decide +kernel
theorem td_M_bake_11 : tz_dj prog_13_method_56_code 11 (.ifCond .ne 10) (10) 14 21 := by decide +kernel
theorem td_M_bake_14 : tz_dk prog_13_method_56_code 14 (.aload_n 0) 1 15 := by decide +kernel
theorem td_M_bake_15 : tz_dk prog_13_method_56_code 15 (.ldc 61) 2 17 := by decide +kernel
theorem td_M_bake_17 : tz_dk prog_13_method_56_code 17 (.invokevirtual 50) 3 20 := by decide +kernel
theorem td_M_bake_20 : tz_dk prog_13_method_56_code 20 (.ireturn) 1 21 := by decide +kernel
theorem td_M_bake_21 : tz_dk prog_13_method_56_code 21 (.aload_n 0) 1 22 := by decide +kernel
theorem td_M_bake_22 : tz_dk prog_13_method_56_code 22 (.invokevirtual 62) 3 25 := by decide +kernel
theorem td_M_bake_25 : tz_dk prog_13_method_56_code 25 (.aload_n 0) 1 26 := by decide +kernel
theorem td_M_bake_26 : tz_dk prog_13_method_56_code 26 (.iload_n 1) 1 27 := by decide +kernel
theorem td_M_bake_27 : tz_dk prog_13_method_56_code 27 (.invokevirtual 177) 3 30 := by decide +kernel
theorem td_M_bake_30 : tz_dk prog_13_method_56_code 30 (.aload_n 0) 1 31 := by decide +kernel
theorem td_M_bake_31 : tz_dk prog_13_method_56_code 31 (.iload_n 2) 1 32 := by decide +kernel
theorem td_M_bake_32 : tz_dk prog_13_method_56_code 32 (.invokevirtual 100) 3 35 := by decide +kernel
theorem td_M_bake_35 : tz_dk prog_13_method_56_code 35 (.aload_n 0) 1 36 := by decide +kernel
theorem td_M_bake_36 : tz_dk prog_13_method_56_code 36 (.getfield 54) 3 39 := by decide +kernel
theorem td_M_bake_39 : tz_dk prog_13_method_56_code 39 (.ireturn) 1 40 := by decide +kernel
theorem td_M_align_0 : tz_dk prog_13_method_57_code 0 (.iload_n 1) 1 1 := by decide +kernel
theorem td_M_align_1 : tz_dk prog_13_method_57_code 1 (.invokestatic 42) 3 4 := by decide +kernel
theorem td_M_align_4 : tz_dj prog_13_method_57_code 4 (.ifCond .eq 20) (20) 7 24 := by decide +kernel
theorem td_M_align_7 : tz_dk prog_13_method_57_code 7 (.iload_n 2) 1 8 := by decide +kernel
theorem td_M_align_8 : tz_dk prog_13_method_57_code 8 (.invokestatic 42) 3 11 := by decide +kernel
theorem td_M_align_11 : tz_dj prog_13_method_57_code 11 (.ifCond .eq 13) (13) 14 24 := by decide +kernel
theorem td_M_align_14 : tz_dk prog_13_method_57_code 14 (.iload_n 3) 1 15 := by decide +kernel
theorem td_M_align_15 : tz_dk prog_13_method_57_code 15 (.iconst 0) 1 16 := by decide +kernel
theorem td_M_align_16 : tz_dk prog_13_method_57_code 16 (.bipush 9) 2 18 := by decide +kernel
theorem td_M_align_18 : tz_dk prog_13_method_57_code 18 (.invokestatic 38) 3 21 := by decide +kernel
theorem td_M_align_21 : tz_dj prog_13_method_57_code 21 (.ifCond .ne 10) (10) 24 31 := by decide +kernel
theorem td_M_align_24 : tz_dk prog_13_method_57_code 24 (.aload_n 0) 1 25 := by decide +kernel
theorem td_M_align_25 : tz_dk prog_13_method_57_code 25 (.ldc 61) 2 27 := by decide +kernel
theorem td_M_align_27 : tz_dk prog_13_method_57_code 27 (.invokevirtual 50) 3 30 := by decide +kernel
theorem td_M_align_30 : tz_dk prog_13_method_57_code 30 (.ireturn) 1 31 := by decide +kernel
theorem td_M_align_31 : tz_dk prog_13_method_57_code 31 (.aload_n 0) 1 32 := by decide +kernel
theorem td_M_align_32 : tz_dk prog_13_method_57_code 32 (.iload_n 1) 1 33 := by decide +kernel
theorem td_M_align_33 : tz_dk prog_13_method_57_code 33 (.invokevirtual 74) 3 36 := by decide +kernel
theorem td_M_align_36 : tz_dk prog_13_method_57_code 36 (.aload_n 0) 1 37 := by decide +kernel
theorem td_M_align_37 : tz_dk prog_13_method_57_code 37 (.iload_n 2) 1 38 := by decide +kernel
theorem td_M_align_38 : tz_dk prog_13_method_57_code 38 (.iload_n 3) 1 39 := by decide +kernel
theorem td_M_align_39 : tz_dk prog_13_method_57_code 39 (.invokevirtual 144) 3 42 := by decide +kernel
theorem td_M_align_42 : tz_dk prog_13_method_57_code 42 (.istore 4) 2 44 := by decide +kernel
theorem td_M_align_44 : tz_dk prog_13_method_57_code 44 (.iload 4) 2 46 := by decide +kernel
theorem td_M_align_46 : tz_dk prog_13_method_57_code 46 (.bipush 100) 2 48 := by decide +kernel
theorem td_M_align_48 : tz_dj prog_13_method_57_code 48 (.if_icmp .ne 12) (12) 51 60 := by decide +kernel
theorem td_M_align_51 : tz_dk prog_13_method_57_code 51 (.aload_n 0) 1 52 := by decide +kernel
theorem td_M_align_52 : tz_dk prog_13_method_57_code 52 (.ldc 49) 2 54 := by decide +kernel
theorem td_M_align_54 : tz_dk prog_13_method_57_code 54 (.invokevirtual 50) 3 57 := by decide +kernel
theorem td_M_align_57 : tz_dj prog_13_method_57_code 57 (.goto 5) (5) 60 62 := by decide +kernel
theorem td_M_align_60 : tz_dk prog_13_method_57_code 60 (.iload 4) 2 62 := by decide +kernel
theorem td_M_align_62 : tz_dk prog_13_method_57_code 62 (.ireturn) 1 63 := by decide +kernel
theorem td_M_differ_0 : tz_dk prog_13_method_58_code 0 (.iload_n 1) 1 1 := by decide +kernel
theorem td_M_differ_1 : tz_dk prog_13_method_58_code 1 (.invokestatic 42) 3 4 := by decide +kernel
theorem td_M_differ_4 : tz_dj prog_13_method_58_code 4 (.ifCond .eq 21) (21) 7 25 := by decide +kernel
theorem td_M_differ_7 : tz_dk prog_13_method_58_code 7 (.iload_n 2) 1 8 := by decide +kernel
theorem td_M_differ_8 : tz_dk prog_13_method_58_code 8 (.invokestatic 42) 3 11 := by decide +kernel
theorem td_M_differ_11 : tz_dj prog_13_method_58_code 11 (.ifCond .eq 14) (14) 14 25 := by decide +kernel
theorem td_M_differ_14 : tz_dk prog_13_method_58_code 14 (.iload_n 3) 1 15 := by decide +kernel
theorem td_M_differ_15 : tz_dk prog_13_method_58_code 15 (.bipush (-9)) 2 17 := by decide +kernel
theorem td_M_differ_17 : tz_dk prog_13_method_58_code 17 (.bipush 9) 2 19 := by decide +kernel
theorem td_M_differ_19 : tz_dk prog_13_method_58_code 19 (.invokestatic 38) 3 22 := by decide +kernel
theorem td_M_differ_22 : tz_dj prog_13_method_58_code 22 (.ifCond .ne 10) (10) 25 32 := by decide +kernel
theorem td_M_differ_25 : tz_dk prog_13_method_58_code 25 (.aload_n 0) 1 26 := by decide +kernel
theorem td_M_differ_26 : tz_dk prog_13_method_58_code 26 (.ldc 61) 2 28 := by decide +kernel
theorem td_M_differ_28 : tz_dk prog_13_method_58_code 28 (.invokevirtual 50) 3 31 := by decide +kernel
theorem td_M_differ_31 : tz_dk prog_13_method_58_code 31 (.ireturn) 1 32 := by decide +kernel
theorem td_M_differ_32 : tz_dk prog_13_method_58_code 32 (.aload_n 0) 1 33 := by decide +kernel
theorem td_M_differ_33 : tz_dk prog_13_method_58_code 33 (.iload_n 1) 1 34 := by decide +kernel
theorem td_M_differ_34 : tz_dk prog_13_method_58_code 34 (.invokevirtual 74) 3 37 := by decide +kernel
theorem td_M_differ_37 : tz_dk prog_13_method_58_code 37 (.aload_n 0) 1 38 := by decide +kernel
theorem td_M_differ_38 : tz_dk prog_13_method_58_code 38 (.iload_n 2) 1 39 := by decide +kernel
theorem td_M_differ_39 : tz_dk prog_13_method_58_code 39 (.iload_n 3) 1 40 := by decide +kernel
theorem td_M_differ_40 : tz_dk prog_13_method_58_code 40 (.invokevirtual 122) 3 43 := by decide +kernel
theorem td_M_differ_43 : tz_dk prog_13_method_58_code 43 (.istore 5) 2 45 := by decide +kernel
theorem td_M_differ_45 : tz_dk prog_13_method_58_code 45 (.iload 4) 2 47 := by decide +kernel
theorem td_M_differ_47 : tz_dj prog_13_method_58_code 47 (.ifCond .eq 10) (10) 50 57 := by decide +kernel
theorem td_M_differ_50 : tz_dk prog_13_method_58_code 50 (.aload_n 0) 1 51 := by decide +kernel
theorem td_M_differ_51 : tz_dk prog_13_method_58_code 51 (.getfield 125) 3 54 := by decide +kernel
theorem td_M_differ_54 : tz_dj prog_13_method_58_code 54 (.goto 5) (5) 57 59 := by decide +kernel
theorem td_M_differ_57 : tz_dk prog_13_method_58_code 57 (.iload 5) 2 59 := by decide +kernel
theorem td_M_differ_59 : tz_dk prog_13_method_58_code 59 (.ireturn) 1 60 := by decide +kernel
theorem td_M_seam_0 : tz_dk prog_13_method_59_code 0 (.iload_n 1) 1 1 := by decide +kernel
theorem td_M_seam_1 : tz_dk prog_13_method_59_code 1 (.invokestatic 42) 3 4 := by decide +kernel
theorem td_M_seam_4 : tz_dj prog_13_method_59_code 4 (.ifCond .eq 20) (20) 7 24 := by decide +kernel
theorem td_M_seam_7 : tz_dk prog_13_method_59_code 7 (.iload_n 2) 1 8 := by decide +kernel
theorem td_M_seam_8 : tz_dk prog_13_method_59_code 8 (.invokestatic 42) 3 11 := by decide +kernel
theorem td_M_seam_11 : tz_dj prog_13_method_59_code 11 (.ifCond .eq 13) (13) 14 24 := by decide +kernel
theorem td_M_seam_14 : tz_dk prog_13_method_59_code 14 (.iload_n 3) 1 15 := by decide +kernel
theorem td_M_seam_15 : tz_dj prog_13_method_59_code 15 (.ifCond .lt 9) (9) 18 24 := by decide +kernel
theorem td_M_seam_18 : tz_dk prog_13_method_59_code 18 (.iload 4) 2 20 := by decide +kernel
theorem td_M_seam_20 : tz_dk prog_13_method_59_code 20 (.iload_n 3) 1 21 := by decide +kernel
theorem td_M_seam_21 : tz_dj prog_13_method_59_code 21 (.if_icmp .ge 10) (10) 24 31 := by decide +kernel
theorem td_M_seam_24 : tz_dk prog_13_method_59_code 24 (.aload_n 0) 1 25 := by decide +kernel
theorem td_M_seam_25 : tz_dk prog_13_method_59_code 25 (.ldc 61) 2 27 := by decide +kernel
theorem td_M_seam_27 : tz_dk prog_13_method_59_code 27 (.invokevirtual 50) 3 30 := by decide +kernel
theorem td_M_seam_30 : tz_dk prog_13_method_59_code 30 (.ireturn) 1 31 := by decide +kernel
theorem td_M_seam_31 : tz_dk prog_13_method_59_code 31 (.iconst (-1)) 1 32 := by decide +kernel
theorem td_M_seam_32 : tz_dk prog_13_method_59_code 32 (.istore 5) 2 34 := by decide +kernel
theorem td_M_seam_34 : tz_dk prog_13_method_59_code 34 (.iconst 0) 1 35 := by decide +kernel
theorem td_M_seam_35 : tz_dk prog_13_method_59_code 35 (.istore 6) 2 37 := by decide +kernel
theorem td_M_seam_37 : tz_dk prog_13_method_59_code 37 (.iload_n 3) 1 38 := by decide +kernel
theorem td_M_seam_38 : tz_dk prog_13_method_59_code 38 (.istore 7) 2 40 := by decide +kernel
theorem td_M_seam_40 : tz_dk prog_13_method_59_code 40 (.iload 7) 2 42 := by decide +kernel
theorem td_M_seam_42 : tz_dk prog_13_method_59_code 42 (.iload 4) 2 44 := by decide +kernel
theorem td_M_seam_44 : tz_dj prog_13_method_59_code 44 (.if_icmp .gt 103) (103) 47 147 := by decide +kernel
theorem td_M_seam_47 : tz_dk prog_13_method_59_code 47 (.iload 7) 2 49 := by decide +kernel
theorem td_M_seam_49 : tz_dk prog_13_method_59_code 49 (.bipush 120) 2 51 := by decide +kernel
theorem td_M_seam_51 : tz_dj prog_13_method_59_code 51 (.if_icmp .ge 96) (96) 54 147 := by decide +kernel
theorem td_M_seam_54 : tz_dk prog_13_method_59_code 54 (.aload_n 0) 1 55 := by decide +kernel
theorem td_M_seam_55 : tz_dk prog_13_method_59_code 55 (.iload_n 1) 1 56 := by decide +kernel
theorem td_M_seam_56 : tz_dk prog_13_method_59_code 56 (.iload 7) 2 58 := by decide +kernel
theorem td_M_seam_58 : tz_dk prog_13_method_59_code 58 (.invokevirtual 65) 3 61 := by decide +kernel
theorem td_M_seam_61 : tz_dj prog_13_method_59_code 61 (.ifCond .eq 80) (80) 64 141 := by decide +kernel
theorem td_M_seam_64 : tz_dk prog_13_method_59_code 64 (.aload_n 0) 1 65 := by decide +kernel
theorem td_M_seam_65 : tz_dk prog_13_method_59_code 65 (.iload_n 2) 1 66 := by decide +kernel
theorem td_M_seam_66 : tz_dk prog_13_method_59_code 66 (.iload 7) 2 68 := by decide +kernel
theorem td_M_seam_68 : tz_dk prog_13_method_59_code 68 (.invokevirtual 65) 3 71 := by decide +kernel
theorem td_M_seam_71 : tz_dj prog_13_method_59_code 71 (.ifCond .eq 70) (70) 74 141 := by decide +kernel
theorem td_M_seam_74 : tz_dk prog_13_method_59_code 74 (.aload_n 0) 1 75 := by decide +kernel
theorem td_M_seam_75 : tz_dk prog_13_method_59_code 75 (.iload_n 1) 1 76 := by decide +kernel
theorem td_M_seam_76 : tz_dk prog_13_method_59_code 76 (.iload 7) 2 78 := by decide +kernel
theorem td_M_seam_78 : tz_dk prog_13_method_59_code 78 (.invokevirtual 57) 3 81 := by decide +kernel
theorem td_M_seam_81 : tz_dk prog_13_method_59_code 81 (.ldc 69) 2 83 := by decide +kernel
theorem td_M_seam_83 : tz_dj prog_13_method_59_code 83 (.if_icmp .eq 58) (58) 86 141 := by decide +kernel
theorem td_M_seam_86 : tz_dk prog_13_method_59_code 86 (.aload_n 0) 1 87 := by decide +kernel
theorem td_M_seam_87 : tz_dk prog_13_method_59_code 87 (.iload_n 2) 1 88 := by decide +kernel
theorem td_M_seam_88 : tz_dk prog_13_method_59_code 88 (.iload 7) 2 90 := by decide +kernel
theorem td_M_seam_90 : tz_dk prog_13_method_59_code 90 (.invokevirtual 57) 3 93 := by decide +kernel
theorem td_M_seam_93 : tz_dk prog_13_method_59_code 93 (.ldc 69) 2 95 := by decide +kernel
theorem td_M_seam_95 : tz_dj prog_13_method_59_code 95 (.if_icmp .ne 6) (6) 98 101 := by decide +kernel
theorem td_M_seam_98 : tz_dj prog_13_method_59_code 98 (.goto 43) (43) 101 141 := by decide +kernel
theorem td_M_seam_101 : tz_dk prog_13_method_59_code 101 (.aload_n 0) 1 102 := by decide +kernel
theorem td_M_seam_102 : tz_dk prog_13_method_59_code 102 (.iload_n 1) 1 103 := by decide +kernel
theorem td_M_seam_103 : tz_dk prog_13_method_59_code 103 (.iload 7) 2 105 := by decide +kernel
theorem td_M_seam_105 : tz_dk prog_13_method_59_code 105 (.invokevirtual 57) 3 108 := by decide +kernel
theorem td_M_seam_108 : tz_dk prog_13_method_59_code 108 (.aload_n 0) 1 109 := by decide +kernel
theorem td_M_seam_109 : tz_dk prog_13_method_59_code 109 (.iload_n 2) 1 110 := by decide +kernel
theorem td_M_seam_110 : tz_dk prog_13_method_59_code 110 (.iload 7) 2 112 := by decide +kernel
theorem td_M_seam_112 : tz_dk prog_13_method_59_code 112 (.invokevirtual 57) 3 115 := by decide +kernel
theorem td_M_seam_115 : tz_dk prog_13_method_59_code 115 (.isub) 1 116 := by decide +kernel
theorem td_M_seam_116 : tz_dk prog_13_method_59_code 116 (.invokestatic 130) 3 119 := by decide +kernel
theorem td_M_seam_119 : tz_dk prog_13_method_59_code 119 (.istore 8) 2 121 := by decide +kernel
theorem td_M_seam_121 : tz_dk prog_13_method_59_code 121 (.iload 5) 2 123 := by decide +kernel
theorem td_M_seam_123 : tz_dj prog_13_method_59_code 123 (.ifCond .lt 10) (10) 126 133 := by decide +kernel
theorem td_M_seam_126 : tz_dk prog_13_method_59_code 126 (.iload 8) 2 128 := by decide +kernel
theorem td_M_seam_128 : tz_dk prog_13_method_59_code 128 (.iload 6) 2 130 := by decide +kernel
theorem td_M_seam_130 : tz_dj prog_13_method_59_code 130 (.if_icmp .ge 11) (11) 133 141 := by decide +kernel
theorem td_M_seam_133 : tz_dk prog_13_method_59_code 133 (.iload 7) 2 135 := by decide +kernel
theorem td_M_seam_135 : tz_dk prog_13_method_59_code 135 (.istore 5) 2 137 := by decide +kernel
theorem td_M_seam_137 : tz_dk prog_13_method_59_code 137 (.iload 8) 2 139 := by decide +kernel
theorem td_M_seam_139 : tz_dk prog_13_method_59_code 139 (.istore 6) 2 141 := by decide +kernel
theorem td_M_seam_141 : tz_dk prog_13_method_59_code 141 (.iinc 7 1) 3 144 := by decide +kernel
theorem td_M_seam_144 : tz_dj prog_13_method_59_code 144 (.goto (-104)) (-104) 147 40 := by decide +kernel
theorem td_M_seam_147 : tz_dk prog_13_method_59_code 147 (.iload 5) 2 149 := by decide +kernel
theorem td_M_seam_149 : tz_dj prog_13_method_59_code 149 (.ifCond .ge 12) (12) 152 161 := by decide +kernel
theorem td_M_seam_152 : tz_dk prog_13_method_59_code 152 (.aload_n 0) 1 153 := by decide +kernel
theorem td_M_seam_153 : tz_dk prog_13_method_59_code 153 (.ldc 49) 2 155 := by decide +kernel
theorem td_M_seam_155 : tz_dk prog_13_method_59_code 155 (.invokevirtual 50) 3 158 := by decide +kernel
theorem td_M_seam_158 : tz_dj prog_13_method_59_code 158 (.goto 5) (5) 161 163 := by decide +kernel
theorem td_M_seam_161 : tz_dk prog_13_method_59_code 161 (.iload 5) 2 163 := by decide +kernel
theorem td_M_seam_163 : tz_dk prog_13_method_59_code 163 (.ireturn) 1 164 := by decide +kernel
theorem td_M_join_0 : tz_dk prog_13_method_60_code 0 (.iload_n 1) 1 1 := by decide +kernel
theorem td_M_join_1 : tz_dk prog_13_method_60_code 1 (.invokestatic 42) 3 4 := by decide +kernel
theorem td_M_join_4 : tz_dj prog_13_method_60_code 4 (.ifCond .eq 34) (34) 7 38 := by decide +kernel
theorem td_M_join_7 : tz_dk prog_13_method_60_code 7 (.iload_n 2) 1 8 := by decide +kernel
theorem td_M_join_8 : tz_dk prog_13_method_60_code 8 (.invokestatic 42) 3 11 := by decide +kernel
theorem td_M_join_11 : tz_dj prog_13_method_60_code 11 (.ifCond .eq 27) (27) 14 38 := by decide +kernel
theorem td_M_join_14 : tz_dk prog_13_method_60_code 14 (.iload 4) 2 16 := by decide +kernel
theorem td_M_join_16 : tz_dk prog_13_method_60_code 16 (.invokestatic 42) 3 19 := by decide +kernel
theorem td_M_join_19 : tz_dj prog_13_method_60_code 19 (.ifCond .eq 19) (19) 22 38 := by decide +kernel
theorem td_M_join_22 : tz_dk prog_13_method_60_code 22 (.iload_n 3) 1 23 := by decide +kernel
theorem td_M_join_23 : tz_dj prog_13_method_60_code 23 (.ifCond .lt 15) (15) 26 38 := by decide +kernel
theorem td_M_join_26 : tz_dk prog_13_method_60_code 26 (.iload_n 3) 1 27 := by decide +kernel
theorem td_M_join_27 : tz_dk prog_13_method_60_code 27 (.aload_n 0) 1 28 := by decide +kernel
theorem td_M_join_28 : tz_dk prog_13_method_60_code 28 (.getfield 9) 3 31 := by decide +kernel
theorem td_M_join_31 : tz_dk prog_13_method_60_code 31 (.iconst 0) 1 32 := by decide +kernel
theorem td_M_join_32 : tz_dk prog_13_method_60_code 32 (.iload_n 1) 1 33 := by decide +kernel
theorem td_M_join_33 : tz_dk prog_13_method_60_code 33 (.iadd) 1 34 := by decide +kernel
theorem td_M_join_34 : tz_dk prog_13_method_60_code 34 (.iaload) 1 35 := by decide +kernel
theorem td_M_join_35 : tz_dj prog_13_method_60_code 35 (.if_icmp .le 10) (10) 38 45 := by decide +kernel
theorem td_M_join_38 : tz_dk prog_13_method_60_code 38 (.aload_n 0) 1 39 := by decide +kernel
theorem td_M_join_39 : tz_dk prog_13_method_60_code 39 (.ldc 61) 2 41 := by decide +kernel
theorem td_M_join_41 : tz_dk prog_13_method_60_code 41 (.invokevirtual 50) 3 44 := by decide +kernel
theorem td_M_join_44 : tz_dk prog_13_method_60_code 44 (.ireturn) 1 45 := by decide +kernel
theorem td_M_join_45 : tz_dk prog_13_method_60_code 45 (.aload_n 0) 1 46 := by decide +kernel
theorem td_M_join_46 : tz_dk prog_13_method_60_code 46 (.invokevirtual 62) 3 49 := by decide +kernel
theorem td_M_join_49 : tz_dk prog_13_method_60_code 49 (.aload_n 0) 1 50 := by decide +kernel
theorem td_M_join_50 : tz_dk prog_13_method_60_code 50 (.iload_n 3) 1 51 := by decide +kernel
theorem td_M_join_51 : tz_dk prog_13_method_60_code 51 (.aload_n 0) 1 52 := by decide +kernel
theorem td_M_join_52 : tz_dk prog_13_method_60_code 52 (.getfield 9) 3 55 := by decide +kernel
theorem td_M_join_55 : tz_dk prog_13_method_60_code 55 (.iconst 0) 1 56 := by decide +kernel
theorem td_M_join_56 : tz_dk prog_13_method_60_code 56 (.iload_n 2) 1 57 := by decide +kernel
theorem td_M_join_57 : tz_dk prog_13_method_60_code 57 (.iadd) 1 58 := by decide +kernel
theorem td_M_join_58 : tz_dk prog_13_method_60_code 58 (.iaload) 1 59 := by decide +kernel
theorem td_M_join_59 : tz_dk prog_13_method_60_code 59 (.invokestatic 180) 3 62 := by decide +kernel
theorem td_M_join_62 : tz_dk prog_13_method_60_code 62 (.putfield 54) 3 65 := by decide +kernel
theorem td_M_join_65 : tz_dk prog_13_method_60_code 65 (.iconst 0) 1 66 := by decide +kernel
theorem td_M_join_66 : tz_dk prog_13_method_60_code 66 (.istore 5) 2 68 := by decide +kernel
theorem td_M_join_68 : tz_dk prog_13_method_60_code 68 (.iload 5) 2 70 := by decide +kernel
theorem td_M_join_70 : tz_dk prog_13_method_60_code 70 (.aload_n 0) 1 71 := by decide +kernel
theorem td_M_join_71 : tz_dk prog_13_method_60_code 71 (.getfield 54) 3 74 := by decide +kernel
theorem td_M_join_74 : tz_dj prog_13_method_60_code 74 (.if_icmp .ge 33) (33) 77 107 := by decide +kernel
theorem td_M_join_77 : tz_dk prog_13_method_60_code 77 (.aload_n 0) 1 78 := by decide +kernel
theorem td_M_join_78 : tz_dk prog_13_method_60_code 78 (.getfield 25) 3 81 := by decide +kernel
theorem td_M_join_81 : tz_dk prog_13_method_60_code 81 (.iload 5) 2 83 := by decide +kernel
theorem td_M_join_83 : tz_dk prog_13_method_60_code 83 (.aload_n 0) 1 84 := by decide +kernel
theorem td_M_join_84 : tz_dk prog_13_method_60_code 84 (.iload 5) 2 86 := by decide +kernel
theorem td_M_join_86 : tz_dk prog_13_method_60_code 86 (.iload_n 3) 1 87 := by decide +kernel
theorem td_M_join_87 : tz_dj prog_13_method_60_code 87 (.if_icmp .ge 7) (7) 90 94 := by decide +kernel
theorem td_M_join_90 : tz_dk prog_13_method_60_code 90 (.iload_n 1) 1 91 := by decide +kernel
theorem td_M_join_91 : tz_dj prog_13_method_60_code 91 (.goto 4) (4) 94 95 := by decide +kernel
theorem td_M_join_94 : tz_dk prog_13_method_60_code 94 (.iload_n 2) 1 95 := by decide +kernel
theorem td_M_join_95 : tz_dk prog_13_method_60_code 95 (.iload 5) 2 97 := by decide +kernel
theorem td_M_join_97 : tz_dk prog_13_method_60_code 97 (.invokevirtual 57) 3 100 := by decide +kernel
theorem td_M_join_100 : tz_dk prog_13_method_60_code 100 (.iastore) 1 101 := by decide +kernel
theorem td_M_join_101 : tz_dk prog_13_method_60_code 101 (.iinc 5 1) 3 104 := by decide +kernel
theorem td_M_join_104 : tz_dj prog_13_method_60_code 104 (.goto (-36)) (-36) 107 68 := by decide +kernel
theorem td_M_join_107 : tz_dk prog_13_method_60_code 107 (.aload_n 0) 1 108 := by decide +kernel
theorem td_M_join_108 : tz_dk prog_13_method_60_code 108 (.iload 4) 2 110 := by decide +kernel
theorem td_M_join_110 : tz_dk prog_13_method_60_code 110 (.invokevirtual 100) 3 113 := by decide +kernel
theorem td_M_join_113 : tz_dk prog_13_method_60_code 113 (.aload_n 0) 1 114 := by decide +kernel
theorem td_M_join_114 : tz_dk prog_13_method_60_code 114 (.getfield 54) 3 117 := by decide +kernel
theorem td_M_join_117 : tz_dk prog_13_method_60_code 117 (.ireturn) 1 118 := by decide +kernel
theorem td_M_mark_0 : tz_dk prog_13_method_61_code 0 (.iload_n 1) 1 1 := by decide +kernel
theorem td_M_mark_1 : tz_dk prog_13_method_61_code 1 (.iconst 0) 1 2 := by decide +kernel
theorem td_M_mark_2 : tz_dk prog_13_method_61_code 2 (.iconst 5) 1 3 := by decide +kernel
theorem td_M_mark_3 : tz_dk prog_13_method_61_code 3 (.invokestatic 38) 3 6 := by decide +kernel
theorem td_M_mark_6 : tz_dj prog_13_method_61_code 6 (.ifCond .eq 24) (24) 9 30 := by decide +kernel
theorem td_M_mark_9 : tz_dk prog_13_method_61_code 9 (.iload_n 2) 1 10 := by decide +kernel
theorem td_M_mark_10 : tz_dk prog_13_method_61_code 10 (.invokestatic 42) 3 13 := by decide +kernel
theorem td_M_mark_13 : tz_dj prog_13_method_61_code 13 (.ifCond .eq 17) (17) 16 30 := by decide +kernel
theorem td_M_mark_16 : tz_dk prog_13_method_61_code 16 (.iload_n 3) 1 17 := by decide +kernel
theorem td_M_mark_17 : tz_dk prog_13_method_61_code 17 (.iconst (-1)) 1 18 := by decide +kernel
theorem td_M_mark_18 : tz_dj prog_13_method_61_code 18 (.if_icmp .eq 19) (19) 21 37 := by decide +kernel
theorem td_M_mark_21 : tz_dk prog_13_method_61_code 21 (.aload_n 0) 1 22 := by decide +kernel
theorem td_M_mark_22 : tz_dk prog_13_method_61_code 22 (.iload_n 2) 1 23 := by decide +kernel
theorem td_M_mark_23 : tz_dk prog_13_method_61_code 23 (.iload_n 3) 1 24 := by decide +kernel
theorem td_M_mark_24 : tz_dk prog_13_method_61_code 24 (.invokevirtual 65) 3 27 := by decide +kernel
theorem td_M_mark_27 : tz_dj prog_13_method_61_code 27 (.ifCond .ne 10) (10) 30 37 := by decide +kernel
theorem td_M_mark_30 : tz_dk prog_13_method_61_code 30 (.aload_n 0) 1 31 := by decide +kernel
theorem td_M_mark_31 : tz_dk prog_13_method_61_code 31 (.ldc 61) 2 33 := by decide +kernel
theorem td_M_mark_33 : tz_dk prog_13_method_61_code 33 (.invokevirtual 50) 3 36 := by decide +kernel
theorem td_M_mark_36 : tz_dk prog_13_method_61_code 36 (.ireturn) 1 37 := by decide +kernel
theorem td_M_mark_37 : tz_dk prog_13_method_61_code 37 (.aload_n 0) 1 38 := by decide +kernel
theorem td_M_mark_38 : tz_dk prog_13_method_61_code 38 (.invokevirtual 62) 3 41 := by decide +kernel
theorem td_M_mark_41 : tz_dk prog_13_method_61_code 41 (.aload_n 0) 1 42 := by decide +kernel
theorem td_M_mark_42 : tz_dk prog_13_method_61_code 42 (.getfield 9) 3 45 := by decide +kernel
theorem td_M_mark_45 : tz_dk prog_13_method_61_code 45 (.sipush 520) 3 48 := by decide +kernel
theorem td_M_mark_48 : tz_dk prog_13_method_61_code 48 (.iload_n 1) 1 49 := by decide +kernel
theorem td_M_mark_49 : tz_dk prog_13_method_61_code 49 (.iadd) 1 50 := by decide +kernel
theorem td_M_mark_50 : tz_dk prog_13_method_61_code 50 (.iload_n 2) 1 51 := by decide +kernel
theorem td_M_mark_51 : tz_dk prog_13_method_61_code 51 (.iastore) 1 52 := by decide +kernel
theorem td_M_mark_52 : tz_dk prog_13_method_61_code 52 (.aload_n 0) 1 53 := by decide +kernel
theorem td_M_mark_53 : tz_dk prog_13_method_61_code 53 (.getfield 9) 3 56 := by decide +kernel
theorem td_M_mark_56 : tz_dk prog_13_method_61_code 56 (.sipush 526) 3 59 := by decide +kernel
theorem td_M_mark_59 : tz_dk prog_13_method_61_code 59 (.iload_n 1) 1 60 := by decide +kernel
theorem td_M_mark_60 : tz_dk prog_13_method_61_code 60 (.iadd) 1 61 := by decide +kernel
theorem td_M_mark_61 : tz_dk prog_13_method_61_code 61 (.iload_n 3) 1 62 := by decide +kernel
theorem td_M_mark_62 : tz_dk prog_13_method_61_code 62 (.iastore) 1 63 := by decide +kernel
theorem td_M_mark_63 : tz_dk prog_13_method_61_code 63 (.iconst 1) 1 64 := by decide +kernel
theorem td_M_mark_64 : tz_dk prog_13_method_61_code 64 (.ireturn) 1 65 := by decide +kernel
theorem td_M_moment_0 : tz_dk prog_13_method_63_code 0 (.iload_n 1) 1 1 := by decide +kernel
theorem td_M_moment_1 : tz_dk prog_13_method_63_code 1 (.iconst 0) 1 2 := by decide +kernel
theorem td_M_moment_2 : tz_dk prog_13_method_63_code 2 (.iconst 5) 1 3 := by decide +kernel
theorem td_M_moment_3 : tz_dk prog_13_method_63_code 3 (.invokestatic 38) 3 6 := by decide +kernel
theorem td_M_moment_6 : tz_dj prog_13_method_63_code 6 (.ifCond .ne 10) (10) 9 16 := by decide +kernel
theorem td_M_moment_9 : tz_dk prog_13_method_63_code 9 (.aload_n 0) 1 10 := by decide +kernel
theorem td_M_moment_10 : tz_dk prog_13_method_63_code 10 (.ldc 61) 2 12 := by decide +kernel
theorem td_M_moment_12 : tz_dk prog_13_method_63_code 12 (.invokevirtual 50) 3 15 := by decide +kernel
theorem td_M_moment_15 : tz_dk prog_13_method_63_code 15 (.ireturn) 1 16 := by decide +kernel
theorem td_M_moment_16 : tz_dk prog_13_method_63_code 16 (.aload_n 0) 1 17 := by decide +kernel
theorem td_M_moment_17 : tz_dk prog_13_method_63_code 17 (.getfield 9) 3 20 := by decide +kernel
theorem td_M_moment_20 : tz_dk prog_13_method_63_code 20 (.sipush 520) 3 23 := by decide +kernel
theorem td_M_moment_23 : tz_dk prog_13_method_63_code 23 (.iload_n 1) 1 24 := by decide +kernel
theorem td_M_moment_24 : tz_dk prog_13_method_63_code 24 (.iadd) 1 25 := by decide +kernel
theorem td_M_moment_25 : tz_dk prog_13_method_63_code 25 (.iaload) 1 26 := by decide +kernel
theorem td_M_moment_26 : tz_dk prog_13_method_63_code 26 (.istore_n 2) 1 27 := by decide +kernel
theorem td_M_moment_27 : tz_dk prog_13_method_63_code 27 (.aload_n 0) 1 28 := by decide +kernel
theorem td_M_moment_28 : tz_dk prog_13_method_63_code 28 (.getfield 9) 3 31 := by decide +kernel
theorem td_M_moment_31 : tz_dk prog_13_method_63_code 31 (.sipush 526) 3 34 := by decide +kernel
theorem td_M_moment_34 : tz_dk prog_13_method_63_code 34 (.iload_n 1) 1 35 := by decide +kernel
theorem td_M_moment_35 : tz_dk prog_13_method_63_code 35 (.iadd) 1 36 := by decide +kernel
theorem td_M_moment_36 : tz_dk prog_13_method_63_code 36 (.iaload) 1 37 := by decide +kernel
theorem td_M_moment_37 : tz_dk prog_13_method_63_code 37 (.istore_n 3) 1 38 := by decide +kernel
theorem td_M_moment_38 : tz_dk prog_13_method_63_code 38 (.iload_n 3) 1 39 := by decide +kernel
theorem td_M_moment_39 : tz_dj prog_13_method_63_code 39 (.ifCond .lt 12) (12) 42 51 := by decide +kernel
theorem td_M_moment_42 : tz_dk prog_13_method_63_code 42 (.aload_n 0) 1 43 := by decide +kernel
theorem td_M_moment_43 : tz_dk prog_13_method_63_code 43 (.iload_n 2) 1 44 := by decide +kernel
theorem td_M_moment_44 : tz_dk prog_13_method_63_code 44 (.iload_n 3) 1 45 := by decide +kernel
theorem td_M_moment_45 : tz_dk prog_13_method_63_code 45 (.invokevirtual 65) 3 48 := by decide +kernel
theorem td_M_moment_48 : tz_dj prog_13_method_63_code 48 (.ifCond .ne 10) (10) 51 58 := by decide +kernel
theorem td_M_moment_51 : tz_dk prog_13_method_63_code 51 (.aload_n 0) 1 52 := by decide +kernel
theorem td_M_moment_52 : tz_dk prog_13_method_63_code 52 (.ldc 49) 2 54 := by decide +kernel
theorem td_M_moment_54 : tz_dk prog_13_method_63_code 54 (.invokevirtual 50) 3 57 := by decide +kernel
theorem td_M_moment_57 : tz_dk prog_13_method_63_code 57 (.ireturn) 1 58 := by decide +kernel
theorem td_M_moment_58 : tz_dk prog_13_method_63_code 58 (.aload_n 0) 1 59 := by decide +kernel
theorem td_M_moment_59 : tz_dk prog_13_method_63_code 59 (.iload_n 2) 1 60 := by decide +kernel
theorem td_M_moment_60 : tz_dk prog_13_method_63_code 60 (.invokevirtual 74) 3 63 := by decide +kernel
theorem td_M_moment_63 : tz_dk prog_13_method_63_code 63 (.iconst 0) 1 64 := by decide +kernel
theorem td_M_moment_64 : tz_dk prog_13_method_63_code 64 (.istore 4) 2 66 := by decide +kernel
theorem td_M_moment_66 : tz_dk prog_13_method_63_code 66 (.iload 4) 2 68 := by decide +kernel
theorem td_M_moment_68 : tz_dk prog_13_method_63_code 68 (.aload_n 0) 1 69 := by decide +kernel
theorem td_M_moment_69 : tz_dk prog_13_method_63_code 69 (.getfield 9) 3 72 := by decide +kernel
theorem td_M_moment_72 : tz_dk prog_13_method_63_code 72 (.sipush 484) 3 75 := by decide +kernel
theorem td_M_moment_75 : tz_dk prog_13_method_63_code 75 (.iaload) 1 76 := by decide +kernel
theorem td_M_moment_76 : tz_dj prog_13_method_63_code 76 (.if_icmp .ge 131) (131) 79 207 := by decide +kernel
theorem td_M_moment_79 : tz_dk prog_13_method_63_code 79 (.iload_n 3) 1 80 := by decide +kernel
theorem td_M_moment_80 : tz_dj prog_13_method_63_code 80 (.ifCond .lt 127) (127) 83 207 := by decide +kernel
theorem td_M_moment_83 : tz_dk prog_13_method_63_code 83 (.aload_n 0) 1 84 := by decide +kernel
theorem td_M_moment_84 : tz_dk prog_13_method_63_code 84 (.getfield 9) 3 87 := by decide +kernel
theorem td_M_moment_87 : tz_dk prog_13_method_63_code 87 (.sipush 512) 3 90 := by decide +kernel
theorem td_M_moment_90 : tz_dk prog_13_method_63_code 90 (.iload 4) 2 92 := by decide +kernel
theorem td_M_moment_92 : tz_dk prog_13_method_63_code 92 (.iadd) 1 93 := by decide +kernel
theorem td_M_moment_93 : tz_dk prog_13_method_63_code 93 (.iaload) 1 94 := by decide +kernel
theorem td_M_moment_94 : tz_dj prog_13_method_63_code 94 (.ifCond .ne 6) (6) 97 100 := by decide +kernel
theorem td_M_moment_97 : tz_dj prog_13_method_63_code 97 (.goto 104) (104) 100 201 := by decide +kernel
theorem td_M_moment_100 : tz_dk prog_13_method_63_code 100 (.aload_n 0) 1 101 := by decide +kernel
theorem td_M_moment_101 : tz_dk prog_13_method_63_code 101 (.getfield 9) 3 104 := by decide +kernel
theorem td_M_moment_104 : tz_dk prog_13_method_63_code 104 (.sipush 496) 3 107 := by decide +kernel
theorem td_M_moment_107 : tz_dk prog_13_method_63_code 107 (.iload 4) 2 109 := by decide +kernel
theorem td_M_moment_109 : tz_dk prog_13_method_63_code 109 (.iadd) 1 110 := by decide +kernel
theorem td_M_moment_110 : tz_dk prog_13_method_63_code 110 (.iaload) 1 111 := by decide +kernel
theorem td_M_moment_111 : tz_dk prog_13_method_63_code 111 (.istore 5) 2 113 := by decide +kernel
theorem td_M_moment_113 : tz_dk prog_13_method_63_code 113 (.aload_n 0) 1 114 := by decide +kernel
theorem td_M_moment_114 : tz_dk prog_13_method_63_code 114 (.getfield 9) 3 117 := by decide +kernel
theorem td_M_moment_117 : tz_dk prog_13_method_63_code 117 (.sipush 504) 3 120 := by decide +kernel
theorem td_M_moment_120 : tz_dk prog_13_method_63_code 120 (.iload 4) 2 122 := by decide +kernel
theorem td_M_moment_122 : tz_dk prog_13_method_63_code 122 (.iadd) 1 123 := by decide +kernel
theorem td_M_moment_123 : tz_dk prog_13_method_63_code 123 (.iaload) 1 124 := by decide +kernel
theorem td_M_moment_124 : tz_dk prog_13_method_63_code 124 (.istore 6) 2 126 := by decide +kernel
theorem td_M_moment_126 : tz_dk prog_13_method_63_code 126 (.aload_n 0) 1 127 := by decide +kernel
theorem td_M_moment_127 : tz_dk prog_13_method_63_code 127 (.getfield 9) 3 130 := by decide +kernel
theorem td_M_moment_130 : tz_dk prog_13_method_63_code 130 (.sipush 488) 3 133 := by decide +kernel
theorem td_M_moment_133 : tz_dk prog_13_method_63_code 133 (.iload 4) 2 135 := by decide +kernel
theorem td_M_moment_135 : tz_dk prog_13_method_63_code 135 (.iadd) 1 136 := by decide +kernel
theorem td_M_moment_136 : tz_dk prog_13_method_63_code 136 (.iaload) 1 137 := by decide +kernel
theorem td_M_moment_137 : tz_dk prog_13_method_63_code 137 (.iconst 4) 1 138 := by decide +kernel
theorem td_M_moment_138 : tz_dj prog_13_method_63_code 138 (.if_icmp .ne 14) (14) 141 152 := by decide +kernel
theorem td_M_moment_141 : tz_dk prog_13_method_63_code 141 (.aload_n 0) 1 142 := by decide +kernel
theorem td_M_moment_142 : tz_dk prog_13_method_63_code 142 (.iload_n 3) 1 143 := by decide +kernel
theorem td_M_moment_143 : tz_dk prog_13_method_63_code 143 (.iload 5) 2 145 := by decide +kernel
theorem td_M_moment_145 : tz_dk prog_13_method_63_code 145 (.invokevirtual 183) 3 148 := by decide +kernel
theorem td_M_moment_148 : tz_dk prog_13_method_63_code 148 (.istore_n 3) 1 149 := by decide +kernel
theorem td_M_moment_149 : tz_dj prog_13_method_63_code 149 (.goto 46) (46) 152 195 := by decide +kernel
theorem td_M_moment_152 : tz_dk prog_13_method_63_code 152 (.aload_n 0) 1 153 := by decide +kernel
theorem td_M_moment_153 : tz_dk prog_13_method_63_code 153 (.getfield 9) 3 156 := by decide +kernel
theorem td_M_moment_156 : tz_dk prog_13_method_63_code 156 (.sipush 488) 3 159 := by decide +kernel
theorem td_M_moment_159 : tz_dk prog_13_method_63_code 159 (.iload 4) 2 161 := by decide +kernel
theorem td_M_moment_161 : tz_dk prog_13_method_63_code 161 (.iadd) 1 162 := by decide +kernel
theorem td_M_moment_162 : tz_dk prog_13_method_63_code 162 (.iaload) 1 163 := by decide +kernel
theorem td_M_moment_163 : tz_dk prog_13_method_63_code 163 (.iconst 5) 1 164 := by decide +kernel
theorem td_M_moment_164 : tz_dj prog_13_method_63_code 164 (.if_icmp .ne 31) (31) 167 195 := by decide +kernel
theorem td_M_moment_167 : tz_dk prog_13_method_63_code 167 (.iload_n 3) 1 168 := by decide +kernel
theorem td_M_moment_168 : tz_dk prog_13_method_63_code 168 (.iload 5) 2 170 := by decide +kernel
theorem td_M_moment_170 : tz_dj prog_13_method_63_code 170 (.if_icmp .ge 7) (7) 173 177 := by decide +kernel
theorem td_M_moment_173 : tz_dk prog_13_method_63_code 173 (.iload_n 3) 1 174 := by decide +kernel
theorem td_M_moment_174 : tz_dj prog_13_method_63_code 174 (.goto 20) (20) 177 194 := by decide +kernel
theorem td_M_moment_177 : tz_dk prog_13_method_63_code 177 (.iload_n 3) 1 178 := by decide +kernel
theorem td_M_moment_178 : tz_dk prog_13_method_63_code 178 (.iload 5) 2 180 := by decide +kernel
theorem td_M_moment_180 : tz_dk prog_13_method_63_code 180 (.iload 6) 2 182 := by decide +kernel
theorem td_M_moment_182 : tz_dk prog_13_method_63_code 182 (.iadd) 1 183 := by decide +kernel
theorem td_M_moment_183 : tz_dj prog_13_method_63_code 183 (.if_icmp .ge 7) (7) 186 190 := by decide +kernel
theorem td_M_moment_186 : tz_dk prog_13_method_63_code 186 (.iconst (-1)) 1 187 := by decide +kernel
theorem td_M_moment_187 : tz_dj prog_13_method_63_code 187 (.goto 7) (7) 190 194 := by decide +kernel
theorem td_M_moment_190 : tz_dk prog_13_method_63_code 190 (.iload_n 3) 1 191 := by decide +kernel
theorem td_M_moment_191 : tz_dk prog_13_method_63_code 191 (.iload 6) 2 193 := by decide +kernel
theorem td_M_moment_193 : tz_dk prog_13_method_63_code 193 (.isub) 1 194 := by decide +kernel
theorem td_M_moment_194 : tz_dk prog_13_method_63_code 194 (.istore_n 3) 1 195 := by decide +kernel
theorem td_M_moment_195 : tz_dk prog_13_method_63_code 195 (.aload_n 0) 1 196 := by decide +kernel
theorem td_M_moment_196 : tz_dk prog_13_method_63_code 196 (.iload 4) 2 198 := by decide +kernel
theorem td_M_moment_198 : tz_dk prog_13_method_63_code 198 (.invokevirtual 174) 3 201 := by decide +kernel
theorem td_M_moment_201 : tz_dk prog_13_method_63_code 201 (.iinc 4 1) 3 204 := by decide +kernel
theorem td_M_moment_204 : tz_dj prog_13_method_63_code 204 (.goto (-138)) (-138) 207 66 := by decide +kernel
theorem td_M_moment_207 : tz_dk prog_13_method_63_code 207 (.iload_n 3) 1 208 := by decide +kernel
theorem td_M_moment_208 : tz_dj prog_13_method_63_code 208 (.ifCond .ge 12) (12) 211 220 := by decide +kernel
theorem td_M_moment_211 : tz_dk prog_13_method_63_code 211 (.aload_n 0) 1 212 := by decide +kernel
theorem td_M_moment_212 : tz_dk prog_13_method_63_code 212 (.ldc 70) 2 214 := by decide +kernel
theorem td_M_moment_214 : tz_dk prog_13_method_63_code 214 (.invokevirtual 50) 3 217 := by decide +kernel
theorem td_M_moment_217 : tz_dj prog_13_method_63_code 217 (.goto 4) (4) 220 221 := by decide +kernel
theorem td_M_moment_220 : tz_dk prog_13_method_63_code 220 (.iload_n 3) 1 221 := by decide +kernel
theorem td_M_moment_221 : tz_dk prog_13_method_63_code 221 (.ireturn) 1 222 := by decide +kernel
end
section
theorem td_M_warped_0 : tz_dk prog_13_method_62_code 0 (.aload_n 0) 1 1 := by decide +kernel
theorem td_M_warped_1 : tz_dk prog_13_method_62_code 1 (.invokevirtual 82) 3 4 := by decide +kernel
theorem td_M_warped_4 : tz_dk prog_13_method_62_code 4 (.istore_n 3) 1 5 := by decide +kernel
theorem td_M_warped_5 : tz_dk prog_13_method_62_code 5 (.iload_n 3) 1 6 := by decide +kernel
theorem td_M_warped_6 : tz_dk prog_13_method_62_code 6 (.iconst 2) 1 7 := by decide +kernel
theorem td_M_warped_7 : tz_dj prog_13_method_62_code 7 (.if_icmp .ge 5) (5) 10 12 := by decide +kernel
theorem td_M_warped_10 : tz_dk prog_13_method_62_code 10 (.iload_n 1) 1 11 := by decide +kernel
theorem td_M_warped_11 : tz_dk prog_13_method_62_code 11 (.ireturn) 1 12 := by decide +kernel
theorem td_M_warped_12 : tz_dk prog_13_method_62_code 12 (.iconst (-1)) 1 13 := by decide +kernel
theorem td_M_warped_13 : tz_dk prog_13_method_62_code 13 (.istore 4) 2 15 := by decide +kernel
theorem td_M_warped_15 : tz_dk prog_13_method_62_code 15 (.iload 4) 2 17 := by decide +kernel
theorem td_M_warped_17 : tz_dk prog_13_method_62_code 17 (.iconst 1) 1 18 := by decide +kernel
theorem td_M_warped_18 : tz_dk prog_13_method_62_code 18 (.iadd) 1 19 := by decide +kernel
theorem td_M_warped_19 : tz_dk prog_13_method_62_code 19 (.iload_n 3) 1 20 := by decide +kernel
theorem td_M_warped_20 : tz_dj prog_13_method_62_code 20 (.if_icmp .ge 21) (21) 23 41 := by decide +kernel
theorem td_M_warped_23 : tz_dk prog_13_method_62_code 23 (.aload_n 0) 1 24 := by decide +kernel
theorem td_M_warped_24 : tz_dk prog_13_method_62_code 24 (.iload 4) 2 26 := by decide +kernel
theorem td_M_warped_26 : tz_dk prog_13_method_62_code 26 (.iconst 1) 1 27 := by decide +kernel
theorem td_M_warped_27 : tz_dk prog_13_method_62_code 27 (.iadd) 1 28 := by decide +kernel
theorem td_M_warped_28 : tz_dk prog_13_method_62_code 28 (.invokevirtual 88) 3 31 := by decide +kernel
theorem td_M_warped_31 : tz_dk prog_13_method_62_code 31 (.iload_n 1) 1 32 := by decide +kernel
theorem td_M_warped_32 : tz_dj prog_13_method_62_code 32 (.if_icmp .gt 9) (9) 35 41 := by decide +kernel
theorem td_M_warped_35 : tz_dk prog_13_method_62_code 35 (.iinc 4 1) 3 38 := by decide +kernel
theorem td_M_warped_38 : tz_dj prog_13_method_62_code 38 (.goto (-23)) (-23) 41 15 := by decide +kernel
theorem td_M_warped_41 : tz_dk prog_13_method_62_code 41 (.iload 4) 2 43 := by decide +kernel
theorem td_M_warped_43 : tz_dj prog_13_method_62_code 43 (.ifCond .lt 21) (21) 46 64 := by decide +kernel
theorem td_M_warped_46 : tz_dk prog_13_method_62_code 46 (.iload 4) 2 48 := by decide +kernel
theorem td_M_warped_48 : tz_dk prog_13_method_62_code 48 (.iload_n 3) 1 49 := by decide +kernel
theorem td_M_warped_49 : tz_dk prog_13_method_62_code 49 (.iconst 1) 1 50 := by decide +kernel
theorem td_M_warped_50 : tz_dk prog_13_method_62_code 50 (.isub) 1 51 := by decide +kernel
theorem td_M_warped_51 : tz_dj prog_13_method_62_code 51 (.if_icmp .ne 15) (15) 54 66 := by decide +kernel
theorem td_M_warped_54 : tz_dk prog_13_method_62_code 54 (.iload_n 1) 1 55 := by decide +kernel
theorem td_M_warped_55 : tz_dk prog_13_method_62_code 55 (.aload_n 0) 1 56 := by decide +kernel
theorem td_M_warped_56 : tz_dk prog_13_method_62_code 56 (.iload 4) 2 58 := by decide +kernel
theorem td_M_warped_58 : tz_dk prog_13_method_62_code 58 (.invokevirtual 88) 3 61 := by decide +kernel
theorem td_M_warped_61 : tz_dj prog_13_method_62_code 61 (.if_icmp .le 5) (5) 64 66 := by decide +kernel
theorem td_M_warped_64 : tz_dk prog_13_method_62_code 64 (.iconst (-1)) 1 65 := by decide +kernel
theorem td_M_warped_65 : tz_dk prog_13_method_62_code 65 (.ireturn) 1 66 := by decide +kernel
theorem td_M_warped_66 : tz_dk prog_13_method_62_code 66 (.iload 4) 2 68 := by decide +kernel
theorem td_M_warped_68 : tz_dk prog_13_method_62_code 68 (.iload_n 2) 1 69 := by decide +kernel
theorem td_M_warped_69 : tz_dk prog_13_method_62_code 69 (.imul) 1 70 := by decide +kernel
theorem td_M_warped_70 : tz_dk prog_13_method_62_code 70 (.istore 5) 2 72 := by decide +kernel
theorem td_M_warped_72 : tz_dk prog_13_method_62_code 72 (.iload 4) 2 74 := by decide +kernel
theorem td_M_warped_74 : tz_dk prog_13_method_62_code 74 (.iload_n 3) 1 75 := by decide +kernel
theorem td_M_warped_75 : tz_dk prog_13_method_62_code 75 (.iconst 1) 1 76 := by decide +kernel
theorem td_M_warped_76 : tz_dk prog_13_method_62_code 76 (.isub) 1 77 := by decide +kernel
theorem td_M_warped_77 : tz_dj prog_13_method_62_code 77 (.if_icmp .ge 34) (34) 80 111 := by decide +kernel
theorem td_M_warped_80 : tz_dk prog_13_method_62_code 80 (.iload 5) 2 82 := by decide +kernel
theorem td_M_warped_82 : tz_dk prog_13_method_62_code 82 (.iload_n 1) 1 83 := by decide +kernel
theorem td_M_warped_83 : tz_dk prog_13_method_62_code 83 (.aload_n 0) 1 84 := by decide +kernel
theorem td_M_warped_84 : tz_dk prog_13_method_62_code 84 (.iload 4) 2 86 := by decide +kernel
theorem td_M_warped_86 : tz_dk prog_13_method_62_code 86 (.invokevirtual 88) 3 89 := by decide +kernel
theorem td_M_warped_89 : tz_dk prog_13_method_62_code 89 (.isub) 1 90 := by decide +kernel
theorem td_M_warped_90 : tz_dk prog_13_method_62_code 90 (.iload_n 2) 1 91 := by decide +kernel
theorem td_M_warped_91 : tz_dk prog_13_method_62_code 91 (.imul) 1 92 := by decide +kernel
theorem td_M_warped_92 : tz_dk prog_13_method_62_code 92 (.aload_n 0) 1 93 := by decide +kernel
theorem td_M_warped_93 : tz_dk prog_13_method_62_code 93 (.iload 4) 2 95 := by decide +kernel
theorem td_M_warped_95 : tz_dk prog_13_method_62_code 95 (.iconst 1) 1 96 := by decide +kernel
theorem td_M_warped_96 : tz_dk prog_13_method_62_code 96 (.iadd) 1 97 := by decide +kernel
theorem td_M_warped_97 : tz_dk prog_13_method_62_code 97 (.invokevirtual 88) 3 100 := by decide +kernel
theorem td_M_warped_100 : tz_dk prog_13_method_62_code 100 (.aload_n 0) 1 101 := by decide +kernel
theorem td_M_warped_101 : tz_dk prog_13_method_62_code 101 (.iload 4) 2 103 := by decide +kernel
theorem td_M_warped_103 : tz_dk prog_13_method_62_code 103 (.invokevirtual 88) 3 106 := by decide +kernel
theorem td_M_warped_106 : tz_dk prog_13_method_62_code 106 (.isub) 1 107 := by decide +kernel
theorem td_M_warped_107 : tz_dk prog_13_method_62_code 107 (.idiv) 1 108 := by decide +kernel
theorem td_M_warped_108 : tz_dk prog_13_method_62_code 108 (.iadd) 1 109 := by decide +kernel
theorem td_M_warped_109 : tz_dk prog_13_method_62_code 109 (.istore 5) 2 111 := by decide +kernel
theorem td_M_warped_111 : tz_dk prog_13_method_62_code 111 (.iload 5) 2 113 := by decide +kernel
theorem td_M_warped_113 : tz_dk prog_13_method_62_code 113 (.bipush 120) 2 115 := by decide +kernel
theorem td_M_warped_115 : tz_dj prog_13_method_62_code 115 (.if_icmp .ge 8) (8) 118 123 := by decide +kernel
theorem td_M_warped_118 : tz_dk prog_13_method_62_code 118 (.iload 5) 2 120 := by decide +kernel
theorem td_M_warped_120 : tz_dj prog_13_method_62_code 120 (.goto 4) (4) 123 124 := by decide +kernel
theorem td_M_warped_123 : tz_dk prog_13_method_62_code 123 (.iconst (-1)) 1 124 := by decide +kernel
theorem td_M_warped_124 : tz_dk prog_13_method_62_code 124 (.ireturn) 1 125 := by decide +kernel
theorem td_M_count_0 : tz_dk prog_13_method_64_code 0 (.iload_n 1) 1 1 := by decide +kernel
theorem td_M_count_1 : tz_dk prog_13_method_64_code 1 (.iconst 0) 1 2 := by decide +kernel
theorem td_M_count_2 : tz_dk prog_13_method_64_code 2 (.iconst 3) 1 3 := by decide +kernel
theorem td_M_count_3 : tz_dk prog_13_method_64_code 3 (.invokestatic 38) 3 6 := by decide +kernel
theorem td_M_count_6 : tz_dj prog_13_method_64_code 6 (.ifCond .ne 10) (10) 9 16 := by decide +kernel
theorem td_M_count_9 : tz_dk prog_13_method_64_code 9 (.aload_n 0) 1 10 := by decide +kernel
theorem td_M_count_10 : tz_dk prog_13_method_64_code 10 (.ldc 61) 2 12 := by decide +kernel
theorem td_M_count_12 : tz_dk prog_13_method_64_code 12 (.invokevirtual 50) 3 15 := by decide +kernel
theorem td_M_count_15 : tz_dk prog_13_method_64_code 15 (.ireturn) 1 16 := by decide +kernel
theorem td_M_count_16 : tz_dk prog_13_method_64_code 16 (.iconst 0) 1 17 := by decide +kernel
theorem td_M_count_17 : tz_dk prog_13_method_64_code 17 (.istore_n 2) 1 18 := by decide +kernel
theorem td_M_count_18 : tz_dk prog_13_method_64_code 18 (.iconst 0) 1 19 := by decide +kernel
theorem td_M_count_19 : tz_dk prog_13_method_64_code 19 (.istore_n 3) 1 20 := by decide +kernel
theorem td_M_count_20 : tz_dk prog_13_method_64_code 20 (.iload_n 3) 1 21 := by decide +kernel
theorem td_M_count_21 : tz_dk prog_13_method_64_code 21 (.aload_n 0) 1 22 := by decide +kernel
theorem td_M_count_22 : tz_dk prog_13_method_64_code 22 (.getfield 9) 3 25 := by decide +kernel
theorem td_M_count_25 : tz_dk prog_13_method_64_code 25 (.sipush 484) 3 28 := by decide +kernel
theorem td_M_count_28 : tz_dk prog_13_method_64_code 28 (.iaload) 1 29 := by decide +kernel
theorem td_M_count_29 : tz_dj prog_13_method_64_code 29 (.if_icmp .ge 22) (22) 32 51 := by decide +kernel
theorem td_M_count_32 : tz_dk prog_13_method_64_code 32 (.iload_n 2) 1 33 := by decide +kernel
theorem td_M_count_33 : tz_dk prog_13_method_64_code 33 (.aload_n 0) 1 34 := by decide +kernel
theorem td_M_count_34 : tz_dk prog_13_method_64_code 34 (.getfield 9) 3 37 := by decide +kernel
theorem td_M_count_37 : tz_dk prog_13_method_64_code 37 (.sipush 512) 3 40 := by decide +kernel
theorem td_M_count_40 : tz_dk prog_13_method_64_code 40 (.iload_n 3) 1 41 := by decide +kernel
theorem td_M_count_41 : tz_dk prog_13_method_64_code 41 (.iadd) 1 42 := by decide +kernel
theorem td_M_count_42 : tz_dk prog_13_method_64_code 42 (.iaload) 1 43 := by decide +kernel
theorem td_M_count_43 : tz_dk prog_13_method_64_code 43 (.iadd) 1 44 := by decide +kernel
theorem td_M_count_44 : tz_dk prog_13_method_64_code 44 (.istore_n 2) 1 45 := by decide +kernel
theorem td_M_count_45 : tz_dk prog_13_method_64_code 45 (.iinc 3 1) 3 48 := by decide +kernel
theorem td_M_count_48 : tz_dj prog_13_method_64_code 48 (.goto (-28)) (-28) 51 20 := by decide +kernel
theorem td_M_count_51 : tz_dk prog_13_method_64_code 51 (.iconst 0) 1 52 := by decide +kernel
theorem td_M_count_52 : tz_dk prog_13_method_64_code 52 (.istore_n 3) 1 53 := by decide +kernel
theorem td_M_count_53 : tz_dk prog_13_method_64_code 53 (.iconst 0) 1 54 := by decide +kernel
theorem td_M_count_54 : tz_dk prog_13_method_64_code 54 (.istore 4) 2 56 := by decide +kernel
theorem td_M_count_56 : tz_dk prog_13_method_64_code 56 (.iload 4) 2 58 := by decide +kernel
theorem td_M_count_58 : tz_dk prog_13_method_64_code 58 (.bipush 6) 2 60 := by decide +kernel
theorem td_M_count_60 : tz_dj prog_13_method_64_code 60 (.if_icmp .ge 31) (31) 63 91 := by decide +kernel
theorem td_M_count_63 : tz_dk prog_13_method_64_code 63 (.iload_n 3) 1 64 := by decide +kernel
theorem td_M_count_64 : tz_dk prog_13_method_64_code 64 (.aload_n 0) 1 65 := by decide +kernel
theorem td_M_count_65 : tz_dk prog_13_method_64_code 65 (.getfield 9) 3 68 := by decide +kernel
theorem td_M_count_68 : tz_dk prog_13_method_64_code 68 (.sipush 526) 3 71 := by decide +kernel
theorem td_M_count_71 : tz_dk prog_13_method_64_code 71 (.iload 4) 2 73 := by decide +kernel
theorem td_M_count_73 : tz_dk prog_13_method_64_code 73 (.iadd) 1 74 := by decide +kernel
theorem td_M_count_74 : tz_dk prog_13_method_64_code 74 (.iaload) 1 75 := by decide +kernel
theorem td_M_count_75 : tz_dj prog_13_method_64_code 75 (.ifCond .lt 7) (7) 78 82 := by decide +kernel
theorem td_M_count_78 : tz_dk prog_13_method_64_code 78 (.iconst 1) 1 79 := by decide +kernel
theorem td_M_count_79 : tz_dj prog_13_method_64_code 79 (.goto 4) (4) 82 83 := by decide +kernel
theorem td_M_count_82 : tz_dk prog_13_method_64_code 82 (.iconst 0) 1 83 := by decide +kernel
theorem td_M_count_83 : tz_dk prog_13_method_64_code 83 (.iadd) 1 84 := by decide +kernel
theorem td_M_count_84 : tz_dk prog_13_method_64_code 84 (.istore_n 3) 1 85 := by decide +kernel
theorem td_M_count_85 : tz_dk prog_13_method_64_code 85 (.iinc 4 1) 3 88 := by decide +kernel
theorem td_M_count_88 : tz_dj prog_13_method_64_code 88 (.goto (-32)) (-32) 91 56 := by decide +kernel
theorem td_M_count_91 : tz_dk prog_13_method_64_code 91 (.iload_n 1) 1 92 := by decide +kernel
theorem td_M_count_92 : tz_dj prog_13_method_64_code 92 (.ifCond .ne 14) (14) 95 106 := by decide +kernel
theorem td_M_count_95 : tz_dk prog_13_method_64_code 95 (.aload_n 0) 1 96 := by decide +kernel
theorem td_M_count_96 : tz_dk prog_13_method_64_code 96 (.getfield 9) 3 99 := by decide +kernel
theorem td_M_count_99 : tz_dk prog_13_method_64_code 99 (.sipush 484) 3 102 := by decide +kernel
theorem td_M_count_102 : tz_dk prog_13_method_64_code 102 (.iaload) 1 103 := by decide +kernel
theorem td_M_count_103 : tz_dj prog_13_method_64_code 103 (.goto 25) (25) 106 128 := by decide +kernel
theorem td_M_count_106 : tz_dk prog_13_method_64_code 106 (.iload_n 1) 1 107 := by decide +kernel
theorem td_M_count_107 : tz_dk prog_13_method_64_code 107 (.iconst 1) 1 108 := by decide +kernel
theorem td_M_count_108 : tz_dj prog_13_method_64_code 108 (.if_icmp .ne 7) (7) 111 115 := by decide +kernel
theorem td_M_count_111 : tz_dk prog_13_method_64_code 111 (.iload_n 2) 1 112 := by decide +kernel
theorem td_M_count_112 : tz_dj prog_13_method_64_code 112 (.goto 16) (16) 115 128 := by decide +kernel
theorem td_M_count_115 : tz_dk prog_13_method_64_code 115 (.iload_n 1) 1 116 := by decide +kernel
theorem td_M_count_116 : tz_dk prog_13_method_64_code 116 (.iconst 2) 1 117 := by decide +kernel
theorem td_M_count_117 : tz_dj prog_13_method_64_code 117 (.if_icmp .ne 7) (7) 120 124 := by decide +kernel
theorem td_M_count_120 : tz_dk prog_13_method_64_code 120 (.iload_n 3) 1 121 := by decide +kernel
theorem td_M_count_121 : tz_dj prog_13_method_64_code 121 (.goto 7) (7) 124 128 := by decide +kernel
theorem td_M_count_124 : tz_dk prog_13_method_64_code 124 (.aload_n 0) 1 125 := by decide +kernel
theorem td_M_count_125 : tz_dk prog_13_method_64_code 125 (.getfield 34) 3 128 := by decide +kernel
theorem td_M_count_128 : tz_dk prog_13_method_64_code 128 (.ireturn) 1 129 := by decide +kernel
end
section
/-! ===== the pure heap: what a walk knows of the cells, as a partial function from addresses ===== -/
def tz_TT : List Cond := lw_tbl.filter goodWord
theorem tz_mem {w : Cond} (i : Nat) (h : lw_tbl[i]? = some w ∧ goodWord w = true) : w ∈ tz_TT := List.mem_filter.mpr ⟨List.mem_of_getElem? h.1, h.2⟩
theorem tz_memL {w : Cond} (i : Nat) (h : lw_tbl[i]? = some w) : w ∈ lw_tbl := List.mem_of_getElem? h
abbrev tz_ws (y : MethodName) (b : ByteArray) (n : Nat) (r : Option FieldType) : List Cond := Cond.code y b n r :: tz_TT
theorem tz_goodT {y : MethodName} {b : ByteArray} {n : Nat} {r : Option FieldType} (h : Cond.code y b n r ∈ tz_TT) : GoodIn tz_TT (tz_ws y b n r) := by
  intro w hw
  have hT : w ∈ tz_TT := by
    rcases List.mem_cons.mp hw with e | e
    · rw [e]; exact h
    · exact e
  exact ⟨hT, good_of_word (List.mem_filter.mp hT).2⟩
abbrev tz_PH : Type := Nat → Option va_E
def tz_set (f : tz_PH) (a : Nat) (e : va_E) : tz_PH := fun q => if q = a then some e else f q
theorem tz_set_s (f : tz_PH) (a : Nat) (e : va_E) : tz_set f a e a = some e := by simp [tz_set]
theorem tz_set_n {f : tz_PH} {a q : Nat} {e : va_E} (h : q ≠ a) : tz_set f a e q = f q := by simp [tz_set, h]
theorem tz_set_k {f : tz_PH} {a q : Nat} {e : va_E} {x : Option va_E} (h : f q = x) (hn : q ≠ a) : tz_set f a e q = x := by rw [tz_set_n hn]; exact h
def tz_P (D : va_G) (A : Nat → Prop) (f : tz_PH) (H : Heap) : Prop := ∀ (a : Nat) (e : va_E), f a = some e → va_at D classes (a, e) H ∧ A a
abbrev tz_ints (cs : Nat → ClassId) (n : Nat) (g : Nat → Int32) : va_E := .inl (cs 0, n, .inl g)
abbrev tz_refs (cs : Nat → ClassId) (k n : Nat) (g : Nat → Option Nat) : va_E := .inl (cs k, n, .inr (.inr (.inr (.inr g))))
abbrev tz_obj (ci : Nat) (fs : List Value) : va_E := .inr (ci, fs)
def tz_tys (cs : Nat → ClassId) : List (ClassId × FieldType) := [(cs 0, .int), (cs 1, .object "TapeBench$Row"), (cs 2, .object "TapeBench$Step"), (cs 3, .object "TapeBench$Sheet"), (cs 4, .object "TapeBench$Layer")]
def tz_low : Nat → Int32 := fun k => match k with
  | 0 => -400 | 1 => 1 | 2 => 0 | 3 => 1 | 4 => 1 | 5 => 0 | _ => 1
def tz_high : Nat → Int32 := fun k => match k with
  | 0 => 400 | 1 => 40000 | 2 => 3 | 3 => 20 | 4 => 30 | 5 => 119 | _ => 120
def tz_abov : Nat → Int32 := fun k => match k with
  | 0 => -1 | 1 => -1 | 2 => 1 | 3 => 1 | 4 => -1 | 5 => 4 | _ => -1
def tz_SA (nm : String) (g : Nat → Int32) (A : Nat → Prop) (U : State) (H : Heap) : Prop := ∃ t : Nat, va_Z "TapeBench" nm "[I" (.ref t) A U H ∧ va_T .int t 7 (fun j => .int (g j)) A U H
theorem tz_SA.to {nm : String} {g : Nat → Int32} {A : Nat → Prop} {s U : State} {H H1 : Heap} (h : tz_SA nm g A s H) (hvm : s.vm.Alike U.vm) (hq : ∀ a : Nat, a < H.size → ¬ A a → H1[a]? = H[a]?) : tz_SA nm g A U H1 := by
  obtain ⟨t, h1, h2⟩ := h
  exact ⟨t, (va_Z.moved hvm h1).kept hq, (va_T.moved hvm h2).kept hq⟩
def tz_E (D : va_G) (cs : Nat → ClassId) (A : Nat → Prop) (U : State) : Prop := va_K D classes (tz_tys cs) U ∧ (∀ (a : String) (i : Nat) (y : MethodName) (h : String), Cond.methodLinkNest a i y h ∈ lw_tbl → va_Nw (.methodLinkNest a i y h) U) ∧ (∀ (a : String) (i : Nat) (b n d h : String), Cond.fieldLinkNest a i b n d h ∈ lw_tbl → va_Nw (.fieldLinkNest a i b n d h) U) ∧ (∀ C : String, Cond.arrayOver (.object C) ∈ lw_tbl → va_AO C U) ∧ tz_SA "LOWEST_A" tz_low A U U.heap ∧ tz_SA "HIGHEST_A" tz_high A U U.heap ∧ tz_SA "KIND_ABOVE" tz_abov A U U.heap
theorem tz_E.to {D : va_G} {cs : Nat → ClassId} {A : Nat → Prop} {s U : State} (h : tz_E D cs A s) (hW : s.WarmedH U.vm) (hq : ∀ a : Nat, a < s.heap.size → ¬ A a → U.heap[a]? = s.heap[a]?) : tz_E D cs A U := by
  obtain ⟨h1, h2, h3, h4, h5, h6, h7⟩ := h
  exact ⟨h1.moved hW.alike, fun a i y x hx => va_Nw.warmM hW (h2 a i y x hx), fun a i b n d x hx => va_Nw.warmF hW (h3 a i b n d x hx), fun C hC => (h4 C hC).moved hW.alike, h5.to hW.alike hq, h6.to hW.alike hq, h7.to hW.alike hq⟩
theorem tz_E.calling {D : va_G} {cs : Nat → ClassId} {A : Nat → Prop} {U : State} (h : tz_E D cs A U) (g : JFrame) (mk : MethodId) (a : Array Value) : tz_E D cs A (U.calling g mk a) :=
  tz_E.to (U := U.calling g mk a) h (State.WarmedH.refl U) (fun _ _ _ => rfl)
abbrev tz_Cx (p : Program) (s : State) (m : MethodId) (args : Array Value) (c : Code) (A : Nat → Prop) (D : va_G) (cs : Nat → ClassId) (own : String) (cc : ByteArray) (nL : Nat) : Prop :=
  p.tables.exec = Jvm.exec ∧ c.code = cc ∧ c.maxLocals = nL ∧ s.vm.findClass own = some m.cls ∧ (∀ w ∈ tz_TT, w.before args s = true) ∧ tz_E D cs A s
def tz_V (p : Program) (l : Launch) (e : Env) (R : Room) (s : State) (m : MethodId) (args : Array Value) (below : List Frame) (meth : Method) (c : Code) (Q : State → Prop) (A : Nat → Prop) (D : va_G) (nL : Nat) (f : tz_PH) (sz cells slots pc : Nat) (lv : List (Nat × Value)) (st : List Value) : Prop :=
  ∀ (H : Heap) (locs : List Loc) (ls : Array Slot), H.size = sz → tz_P D A f H → va_S A s.heap H locs → lv_has ls nL lv → W p l e R s m args below meth c H locs cells slots Q (F0 m pc ls st)
def tz_Q (D : va_G) (A : Nat → Prop) (sz mc : Nat) (P : Option Value → tz_PH → Prop) : Array Value → State → Outcome → State → Prop := fun _ st oc t => (∃ (rv : Option Value) (f' : tz_PH), oc = .returned rv ∧ P rv f' ∧ tz_P D A f' t.heap ∧ t.heap.size = sz + mc) ∧ va_F A st t
/-- a contract: called with the values av on a heap that holds f, the method returns, with P of its answer and of the heap then -/
def tz_C (l : Launch) (y : MethodName) (b : ByteArray) (nL : Nat) (ret : Option FieldType) (rm : Room) (mc ms : Nat) (A : Nat → Prop) (D : va_G) (cs : Nat → ClassId) (sz : Nat) (av : List Value) (f : tz_PH) (P : Option Value → tz_PH → Prop) : Prop :=
  Met l y (tz_ws y b nL ret) rm (va_Pc av (fun U => U.heap.size = sz ∧ tz_P D A f U.heap ∧ tz_E D cs A U)) (tz_Q D A sz mc P) mc ms A
theorem tz_ofW {l : Launch} {y : MethodName} {ws ws' : List Cond} {rm : Room} {Pc : Array Value → State → Prop} {Qc : Array Value → State → Outcome → State → Prop} {mc ms : Nat} {free : Addr → Prop} {cc : ByteArray} {maxL : Nat} {ret : Option FieldType}
    (hy : plainFor y = true) (hw : ws = Cond.code y cc maxL ret :: ws')
    (body : ∀ p e s m args below meth c s₁, BodyLoose p l y (headSpec ws rm) cc maxL ret e s m args below meth c s₁ → c.maxLocals = maxL → Pc args s →
      W p l e (headSpec ws rm).room s m args below meth c s.heap [] 0 0 (MQ below Qc args s mc ms free) (entryFrame m args maxL)) : Met l y ws rm Pc Qc mc ms free := by
  refine MetFree.of_bodySF (code := cc) (maxLocals := maxL) (ret := ret) hy ?_ ?_
  · intro args s m h hn
    obtain ⟨meth, c, h1, h2, h3, h4, h5, h6, -, -⟩ := Cond.code_spec hn (atoms_spec (ws := ws) h _ (by rw [hw]; exact List.mem_cons_self))
    exact ⟨meth, c, h1, h2, h3, h4, h5, h6⟩
  · intro p e s m args below meth c s₁ B hml hP _
    have hh0 : s₁.heap = s.heap := by rw [B.state]; rfl
    obtain ⟨t, a1, o, b1, b2, b3⟩ := body p e s m args below meth c s₁ B hml hP s₁ hh0 (Stand.of_body B)
    exact ⟨t, o, a1, b1, b2, ⟨b3.1, b3.2⟩⟩
section TZA
variable {p : Program} {l : Launch} {e : Env} {R : Room} {s : State} {m : MethodId} {args : Array Value} {below : List Frame} {meth : Method} {c : Code} {Q : State → Prop} {A : Nat → Prop} {D : va_G} {cs : Nat → ClassId} {own : String} {cc : ByteArray} {nL : Nat} {f : tz_PH} {sz cells slots pc n : Nat} {lv : List (Nat × Value)} {rest : List Value}
theorem tz_C.ofV {y : MethodName} {ret : Option FieldType} {rm : Room} {mc ms : Nat} {av : List Value} {P : Option Value → tz_PH → Prop} {lv0 : List (Nat × Value)} (hy : plainFor y = true) (hlen : (lg_sl av).length ≤ nL) (hlv : lv_args 0 av = lv0)
    (body : ∀ (p : Program) (e : Env) (s : State) (m : MethodId) (below : List Frame) (meth : Method) (c : Code), tz_Cx p s m av.toArray c A D cs y.cls cc nL → meth.sig.returnType = ret → meth.locks = false → meth.name = y.name → s.heap.size = sz →
      tz_V p l e rm s m av.toArray below meth c (MQ below (tz_Q D A sz mc P) av.toArray s mc ms A) A D nL f sz 0 0 0 lv0 []) : tz_C l y cc nL ret rm mc ms A D cs sz av f P := by
  refine tz_ofW (cc := cc) (maxL := nL) (ret := ret) hy rfl ?_
  intro p e s m args below meth c s₁ B hml hv
  obtain ⟨rfl, hsz, hP, hE⟩ := hv
  have hts := atoms_spec (ws := tz_ws y cc nL ret) B.pre
  have hown : s.vm.findClass y.cls = some m.cls := findClass_of_methodNamed B.named
  have hl := lv_entry av hlen
  rw [hlv] at hl
  rw [lg_entry_eq]
  exact body p e s m below meth c ⟨B.exec, B.bytes, hml, hown, fun w hw => hts w (List.mem_cons_of_mem _ hw), hE⟩ B.returns B.notSynchronized (name_of_methodNamed B.named B.method).1 hsz s.heap [] _ hsz hP va_S.rf hl
/-- behind a call -/
theorem tz_cont {P : Option Value → tz_PH → Prop} {mc ms : Nat} {H : Heap} {locs : List Loc} {ls : Array Slot} {st0 : List Value} {a : Array Value} (hr : va_Run p l e R s m args below meth c H locs cells slots mc ms (F0 m pc ls st0) rest (tz_Q D A sz mc P a) A) (hS : va_S A s.heap H locs)
    (kk : ∀ (rv : Option Value) (f' : tz_PH) (H1 : Heap) (locs1 : List Loc), P rv f' → H1.size = sz + mc → tz_P D A f' H1 → va_S A s.heap H1 locs1 → W p l e R s m args below meth c H1 locs1 (cells + mc) (slots + ms) Q (F0 m (pc + 3) ls (rv.toList ++ rest))) : W p l e R s m args below meth c H locs cells slots Q (F0 m pc ls st0) := by
  intro T hT X
  obtain ⟨v, st₀, t, T', L, h0, X', hL, e1, e2, ⟨⟨rv, f', hv, hp, hb, hz1⟩, hz, hk⟩, st⟩ := hr T hT X
  cases hv
  rw [h0] at hz hk
  obtain ⟨t2, a1, b1⟩ := kk v f' T'.heap (locs ++ L) hp (by rw [e1]; exact hz1) (by rw [e1]; exact hb)
    ⟨Nat.le_trans hS.1 (by rw [e1]; exact hz), fun q h1 h2 => by rw [e1, hk q (Nat.lt_of_lt_of_le h1 hS.1) h2]; exact hS.2.1 q h1 h2, fun q hq => by
      rcases List.mem_append.mp hq with h | h
      · exact hS.2.2 q h
      · exact hL q h⟩ T' rfl X'
  exact ⟨t2, st t2 a1, b1⟩
theorem tz_blind {av : List Value} : FrameBlind (va_Pc av (fun U => U.heap.size = sz ∧ tz_P D A f U.heap ∧ tz_E D cs A U)) := fun a U g mk q => by
  obtain ⟨q0, q1, q2, q3⟩ := q
  exact ⟨q0, q1, q2, q3.calling g mk a⟩
theorem tz_pre {H : Heap} {locs : List Loc} {av : List Value} (C : tz_Cx p s m args c A D cs own cc nL) (hz : H.size = sz) (hP : tz_P D A f H) (hS : va_S A s.heap H locs) : PreS s H (va_Pc av (fun U => U.heap.size = sz ∧ tz_P D A f U.heap ∧ tz_E D cs A U)) av :=
  ⟨tz_blind, fun U hU hW => ⟨rfl, by rw [hU]; exact hz, by rw [hU]; exact hP, C.2.2.2.2.2.to hW (fun a h1 h2 => by rw [hU]; exact hS.2.1 a h1 h2)⟩⟩
/-- the words of a method that is called, all of the tables -/
abbrev tz_MI (y : MethodName) (b : ByteArray) (maxL : Nat) (ret : Option FieldType) (np : Nat) : Prop := Cond.code y b maxL ret ∈ tz_TT ∧ Cond.initialized y.cls ∈ tz_TT ∧ (y.cls ≠ "java/lang/invoke/MethodHandle" ∧ y.cls ≠ "java/lang/invoke/VarHandle" ∧ (parseMethodDescriptor y.desc).map (fun d => d.parameters.length) = some np)
variable {y : MethodName} {b : ByteArray} {maxL np idx mc ms : Nat} {ret : Option FieldType} {rm : Room} {P : Option Value → tz_PH → Prop} {As st0 : List Value} {a : Nat}
theorem tz_recv {C : String} {ci : Nat} {T : u_T} {N : Nat} {fs : List Value} {H : Heap} (hE : tz_E D cs A s) (hP : tz_P D A f H) (hf : f a = some (.inr (ci, fs))) (hc : classes[ci]? = some (C, T, N)) : ∃ cell : Cell, H[a]? = some cell ∧ cell.vm.isStatics = false ∧ s.vm.findClass C = some cell.cls := by
  obtain ⟨⟨r, h1, cell, q1, q2, q3, -⟩, -⟩ := hP a _ hf
  have hr : r = (C, T, N) := Option.some.inj (h1.symm.trans hc)
  subst hr
  obtain ⟨-, hfc, -⟩ := hE.1.1 ci _ hc
  exact ⟨cell, q1, by rw [q3]; rfl, by rw [q2]; exact hfc⟩
theorem tz_callVA (C : tz_Cx p s m args c A D cs own cc nL) (hI : tz_MI y b maxL ret np) (hin : Cond.instanceMethod y ∈ tz_TT) (hse : Cond.selects y.cls y y ∈ tz_TT) (hl : Cond.methodLink own idx y ∈ tz_TT) {ci : Nat} {T : u_T} {N : Nat} {fs : List Value} (hf : f a = some (.inr (ci, fs))) (hc : classes[ci]? = some (y.cls, T, N)) (hM : tz_C l y b maxL ret rm mc ms A D cs sz (.ref a :: As) f P) (hn : As.length = np) (hst : st0 = As.reverse ++ .ref a :: rest) (hrm : rm.cells = mc ∧ rm.slots = ms ∧ cells + mc ≤ R.cells ∧ slots + ms ≤ R.slots ∧ rm.frames + 1 ≤ R.frames ∧ 8 + (maxL + 11) + rm.locals ≤ R.locals) (hw : (rest.map fun v => v.category).sum ≤ 8) (hd : tz_dk cc pc (.invokevirtual idx) 3 n) {sz' cells' slots' : Nat} (he : sz + mc = sz' ∧ cells + mc = cells' ∧ slots + ms = slots')
    (kk : ∀ (rv : Option Value) (f' : tz_PH), P rv f' → tz_V p l e R s m args below meth c Q A D nL f' sz' cells' slots' n lv (rv.toList ++ rest)) : tz_V p l e R s m args below meth c Q A D nL f sz cells slots pc lv st0 := by
  intro H locs ls hz hP hS hl9
  obtain ⟨hx, hb, hml, hown, hts, hE⟩ := id C
  obtain ⟨hd, rfl⟩ := hd
  obtain ⟨rfl, rfl, rfl⟩ := he
  have hp := tz_pre (av := .ref a :: As) C hz hP hS
  refine tz_cont (rest := rest) (mc := mc) (ms := ms) (va_runV (C := y.cls) (As := As) (rest := rest) (b := a) (n := np) ⟨hx, hb, hml, hown, hts⟩ hM ⟨callB_of np hts (tz_goodT hI.1) rfl hrm.1 hrm.2.1 (hts _ hI.2.1) (hts _ hl) hI.2.2 ⟨hrm.2.2.2.2.1, hrm.2.2.2.2.2⟩, hts _ hin, hts _ hse⟩ ⟨hp.1, tz_recv hE hP hf hc, hp.2⟩ rfl hn hl9.1 hst (lv_room hw) hd ⟨hrm.2.2.1, hrm.2.2.2.1⟩) hS ?_
  intro rv f' H1 locs1 h1 h2 h3 h4
  exact kk rv f' h1 H1 locs1 ls h2 h3 h4 hl9
theorem tz_callSA (C : tz_Cx p s m args c A D cs own cc nL) (hI : tz_MI y b maxL ret np) (hin : Cond.static y ∈ tz_TT) (hl : Cond.methodLink own idx y ∈ tz_TT) (hM : tz_C l y b maxL ret rm mc ms A D cs sz As f P) (hn : As.length = np) (hst : st0 = As.reverse ++ rest) (hrm : rm.cells = mc ∧ rm.slots = ms ∧ cells + mc ≤ R.cells ∧ slots + ms ≤ R.slots ∧ rm.frames + 1 ≤ R.frames ∧ 8 + (maxL + 11) + rm.locals ≤ R.locals) (hw : (rest.map fun v => v.category).sum ≤ 8) (hd : tz_dk cc pc (.invokestatic idx) 3 n) {sz' cells' slots' : Nat} (he : sz + mc = sz' ∧ cells + mc = cells' ∧ slots + ms = slots')
    (kk : ∀ (rv : Option Value) (f' : tz_PH), P rv f' → tz_V p l e R s m args below meth c Q A D nL f' sz' cells' slots' n lv (rv.toList ++ rest)) : tz_V p l e R s m args below meth c Q A D nL f sz cells slots pc lv st0 := by
  intro H locs ls hz hP hS hl9
  obtain ⟨hx, hb, hml, hown, hts, hE⟩ := id C
  obtain ⟨hd, rfl⟩ := hd
  obtain ⟨rfl, rfl, rfl⟩ := he
  refine tz_cont (rest := rest) (mc := mc) (ms := ms) (va_runS (As := As) (rest := rest) (n := np) ⟨hx, hb, hml, hown, hts⟩ hM ⟨callB_of np hts (tz_goodT hI.1) rfl hrm.1 hrm.2.1 (hts _ hI.2.1) (hts _ hl) hI.2.2 ⟨hrm.2.2.2.2.1, hrm.2.2.2.2.2⟩, hts _ hin⟩ (tz_pre (av := As) C hz hP hS) rfl hn hl9.1 hst (lv_room hw) hd ⟨hrm.2.2.1, hrm.2.2.2.1⟩) hS ?_
  intro rv f' H1 locs1 h1 h2 h3 h4
  exact kk rv f' h1 H1 locs1 ls h2 h3 h4 hl9
theorem tz_callSNA (C : tz_Cx p s m args c A D cs own cc nL) (hI : tz_MI y b maxL ret np) (hin : Cond.static y ∈ tz_TT) {host : String} (hl : Cond.methodLinkNest own idx y host ∈ lw_tbl) (hM : tz_C l y b maxL ret rm mc ms A D cs sz As f P) (hn : As.length = np) (hst : st0 = As.reverse ++ rest) (hrm : rm.cells = mc ∧ rm.slots = ms ∧ cells + mc ≤ R.cells ∧ slots + ms ≤ R.slots ∧ rm.frames + 1 ≤ R.frames ∧ 8 + (maxL + 11) + rm.locals ≤ R.locals) (hw : (rest.map fun v => v.category).sum ≤ 8) (hd : tz_dk cc pc (.invokestatic idx) 3 n) {sz' cells' slots' : Nat} (he : sz + mc = sz' ∧ cells + mc = cells' ∧ slots + ms = slots')
    (kk : ∀ (rv : Option Value) (f' : tz_PH), P rv f' → tz_V p l e R s m args below meth c Q A D nL f' sz' cells' slots' n lv (rv.toList ++ rest)) : tz_V p l e R s m args below meth c Q A D nL f sz cells slots pc lv st0 := by
  intro H locs ls hz hP hS hl9
  obtain ⟨hx, hb, hml, hown, hts, hE⟩ := id C
  obtain ⟨hd, rfl⟩ := hd
  obtain ⟨rfl, rfl, rfl⟩ := he
  refine tz_cont (rest := rest) (mc := mc) (ms := ms) (va_runSN (As := As) (rest := rest) (n := np) ⟨hx, hb, hml, hown, hts⟩ hM ⟨va_cnB np hts (tz_goodT hI.1) rfl hrm.1 hrm.2.1 (hE.2.1 _ _ _ _ hl) (hts _ hI.2.1) hI.2.2 ⟨hrm.2.2.2.2.1, hrm.2.2.2.2.2⟩, hts _ hin, trivial⟩ (tz_pre (av := As) C hz hP hS) rfl hn hl9.1 hst (lv_room hw) hd ⟨hrm.2.2.1, hrm.2.2.2.1⟩) hS ?_
  intro rv f' H1 locs1 h1 h2 h3 h4
  exact kk rv f' h1 H1 locs1 ls h2 h3 h4 hl9
theorem tz_callIA (C : tz_Cx p s m args c A D cs own cc nL) (hI : tz_MI y b maxL none np) (hy1 : y.name = "<init>") (hin : Cond.instanceMethod y ∈ tz_TT) (hl : Cond.methodLink own idx y ∈ tz_TT) (hM : tz_C l y b maxL none rm mc ms A D cs sz (.ref a :: As) f P) (hn : As.length = np) (hst : st0 = As.reverse ++ .ref a :: rest) (hrm : rm.cells = mc ∧ rm.slots = ms ∧ cells + mc ≤ R.cells ∧ slots + ms ≤ R.slots ∧ rm.frames + 1 ≤ R.frames ∧ 8 + (maxL + 11) + rm.locals ≤ R.locals) (hw : (rest.map fun v => v.category).sum ≤ 8) (hd : tz_dk cc pc (.invokespecial idx) 3 n) {sz' cells' slots' : Nat} (he : sz + mc = sz' ∧ cells + mc = cells' ∧ slots + ms = slots')
    (kk : ∀ (rv : Option Value) (f' : tz_PH), P rv f' → tz_V p l e R s m args below meth c Q A D nL f' sz' cells' slots' n lv (rv.toList ++ rest)) : tz_V p l e R s m args below meth c Q A D nL f sz cells slots pc lv st0 := by
  intro H locs ls hz hP hS hl9
  obtain ⟨hx, hb, hml, hown, hts, hE⟩ := id C
  obtain ⟨hd, rfl⟩ := hd
  obtain ⟨rfl, rfl, rfl⟩ := he
  refine tz_cont (rest := rest) (mc := mc) (ms := ms) (va_runI (As := As) (rest := rest) (b := a) (n := np) ⟨hx, hb, hml, hown, hts⟩ hM ⟨callB_of np hts (tz_goodT hI.1) rfl hrm.1 hrm.2.1 (hts _ hI.2.1) (hts _ hl) hI.2.2 ⟨hrm.2.2.2.2.1, hrm.2.2.2.2.2⟩, hy1, hts _ hin⟩ (tz_pre (av := .ref a :: As) C hz hP hS) rfl hn hl9.1 hst (lv_room hw) hd ⟨hrm.2.2.1, hrm.2.2.2.1⟩) hS ?_
  intro rv f' H1 locs1 h1 h2 h3 h4
  exact kk rv f' h1 H1 locs1 ls h2 h3 h4 hl9
theorem tz_callINA (C : tz_Cx p s m args c A D cs own cc nL) (hI : tz_MI y b maxL none np) (hy1 : y.name = "<init>") (hin : Cond.instanceMethod y ∈ tz_TT) {host : String} (hl : Cond.methodLinkNest own idx y host ∈ lw_tbl) (hM : tz_C l y b maxL none rm mc ms A D cs sz (.ref a :: As) f P) (hn : As.length = np) (hst : st0 = As.reverse ++ .ref a :: rest) (hrm : rm.cells = mc ∧ rm.slots = ms ∧ cells + mc ≤ R.cells ∧ slots + ms ≤ R.slots ∧ rm.frames + 1 ≤ R.frames ∧ 8 + (maxL + 11) + rm.locals ≤ R.locals) (hw : (rest.map fun v => v.category).sum ≤ 8) (hd : tz_dk cc pc (.invokespecial idx) 3 n) {sz' cells' slots' : Nat} (he : sz + mc = sz' ∧ cells + mc = cells' ∧ slots + ms = slots')
    (kk : ∀ (rv : Option Value) (f' : tz_PH), P rv f' → tz_V p l e R s m args below meth c Q A D nL f' sz' cells' slots' n lv (rv.toList ++ rest)) : tz_V p l e R s m args below meth c Q A D nL f sz cells slots pc lv st0 := by
  intro H locs ls hz hP hS hl9
  obtain ⟨hx, hb, hml, hown, hts, hE⟩ := id C
  obtain ⟨hd, rfl⟩ := hd
  obtain ⟨rfl, rfl, rfl⟩ := he
  refine tz_cont (rest := rest) (mc := mc) (ms := ms) (va_runIN (As := As) (rest := rest) (b := a) (n := np) ⟨hx, hb, hml, hown, hts⟩ hM ⟨va_cnB np hts (tz_goodT hI.1) rfl hrm.1 hrm.2.1 (hE.2.1 _ _ _ _ hl) (hts _ hI.2.1) hI.2.2 ⟨hrm.2.2.2.2.1, hrm.2.2.2.2.2⟩, hy1, hts _ hin⟩ (tz_pre (av := .ref a :: As) C hz hP hS) rfl hn hl9.1 hst (lv_room hw) hd ⟨hrm.2.2.1, hrm.2.2.2.1⟩) hS ?_
  intro rv f' H1 locs1 h1 h2 h3 h4
  exact kk rv f' h1 H1 locs1 ls h2 h3 h4 hl9
theorem tz_objInit (C : tz_Cx p s m args c A D cs own cc nL) (hl : Cond.methodLink own idx Lib.objectInit ∈ tz_TT) (hin : Cond.instanceMethod Lib.objectInit ∈ tz_TT) (hco : Cond.code Lib.objectInit ⟨#[0xb1]⟩ 1 none ∈ tz_TT) (hR : 1 ≤ R.frames ∧ (rest.map fun v => v.category).sum + 12 ≤ R.locals) (hd : tz_dk cc pc (.invokespecial idx) 3 n) (kk : tz_V p l e R s m args below meth c Q A D nL f sz cells slots n lv rest) : tz_V p l e R s m args below meth c Q A D nL f sz cells slots pc lv (.ref a :: rest) := by
  intro H locs ls hz hP hS hl9
  obtain ⟨hx, hb, hml, hown, hts, hE⟩ := id C
  obtain ⟨hd, rfl⟩ := hd
  exact W.objInit hx hb hown (hts _ hl) (hts _ hin) (hts _ hco) rfl (by rw [hml]; exact hl9.1) rfl hd hR.1 (by have := hR.2; show 2 * 0 + _ + 12 ≤ _; omega) (kk H locs ls hz hP hS hl9)
/-! fields -/
abbrev tz_CI (ci : Nat) (C : String) (T : u_T) (N : Nat) (ty : Nat → FieldType) : Prop := classes[ci]? = some (C, T, N) ∧ (∀ w ∈ u_ws C T N, w ∈ tz_TT) ∧ (∀ k, k < N → parseFieldDescriptor (T k).2.2.1 = some (ty k)) ∧ (∀ a, a < N → ∀ b, b < N → a ≠ b → (T a).2.1 ≠ (T b).2.1)
variable {Cn : String} {T : u_T} {N ci : Nat} {ty : Nat → FieldType} {fs : List Value} {v : Value}
theorem tz_get (C : tz_Cx p s m args c A D cs own cc nL) (hI : tz_CI ci Cn T N ty) (k : Nat) (hk : k < N) (hl : Cond.fieldLink own idx (T k).1 (T k).2.1 (T k).2.2.1 ∈ tz_TT) (hf : f a = some (.inr (ci, fs))) (hv : fs[k]? = some v) (hd : tz_dk cc pc (.getfield idx) 3 n) (kk : tz_V p l e R s m args below meth c Q A D nL f sz cells slots n lv (v :: rest)) : tz_V p l e R s m args below meth c Q A D nL f sz cells slots pc lv (.ref a :: rest) := by
  intro H locs ls hz hP hS hl9
  obtain ⟨hx, hb, hml, hown, hts, hE⟩ := id C
  obtain ⟨hd, rfl⟩ := hd
  exact va_get (D := D) (cl := classes) (ws := [(a, .inr (ci, fs))]) hx hb hts hI.2.1 hown hE.1 (fun j q hq => by
    have hz : j < 1 := (List.getElem?_eq_some_iff.mp hq).1
    rw [show j = 0 by omega] at hq
    cases hq
    exact (hP a _ hf).1) 0 rfl hI.1 k hk (hts _ hl) (fun _ h9 => h9) hv hd (kk H locs ls hz hP hS hl9)
theorem tz_P.put {H H1 : Heap} {e0 e1 : va_E} (hP : tz_P D A f H) (hf : f a = some e0) (he : va_at D classes (a, e1) H1) (oq : ∀ q : Nat, q ≠ a → H1[q]? = H[q]?) : tz_P D A (tz_set f a e1) H1 := by
  intro q x hq
  by_cases h : q = a
  · subst h
    rw [tz_set_s] at hq
    cases hq
    exact ⟨he, (hP q _ hf).2⟩
  · rw [tz_set_n h] at hq
    exact ⟨(hP q x hq).1.kept (oq q h), (hP q x hq).2⟩
theorem tz_put (C : tz_Cx p s m args c A D cs own cc nL) (hI : tz_CI ci Cn T N ty) (k : Nat) (hk : k < N) (hl : Cond.fieldLink own idx (T k).1 (T k).2.1 (T k).2.2.1 ∈ tz_TT) (hfin : (T k).2.2.2 = false) (hf : f a = some (.inr (ci, fs))) (hlen : k < fs.length) (hnf : narrow (ty k) v = v ∧ fits (ty k) v = true) {fs' : List Value} (hfs : fs.set k v = fs') (hd : tz_dk cc pc (.putfield idx) 3 n) (kk : tz_V p l e R s m args below meth c Q A D nL (tz_set f a (.inr (ci, fs'))) sz cells slots n lv rest) : tz_V p l e R s m args below meth c Q A D nL f sz cells slots pc lv (v :: .ref a :: rest) := by
  intro H locs ls hz hP hS hl9
  obtain ⟨hx, hb, hml, hown, hts, hE⟩ := id C
  obtain ⟨hd, rfl⟩ := hd
  obtain ⟨hc, hin, hty, hnm⟩ := hI
  subst hfs
  have hap := va_apart (own := own) hts hin ty hty hnm hE.1 hc
  obtain ⟨⟨r, h1, cell, q1, q2, q3, q4⟩, hA⟩ := hP a _ hf
  have hr : r = (Cn, T, N) := Option.some.inj (h1.symm.trans hc)
  subst hr
  obtain ⟨hSl, hfc, kC, hkC, hkind⟩ := hE.1.1 ci _ hc
  obtain ⟨cf, kf, fi, fd, hi, hsl⟩ := hSl k hk
  have hlay := hts _ (hin _ (u_in_lay hk))
  unfold u_lay at hlay
  rw [if_neg (by rw [hfin]; decide)] at hlay
  have hst := (u_facts hfc hkC (u_lays hts hin hk) hi).1
  have h6 := u_store hfc hkC hkind hlay hi (hty k hk) hnf.1 hnf.2
  refine W.putK hx hb (f := fd) ⟨hown, hts _ hl, ⟨_, _, _, hi⟩, hst⟩ (by rw [q2]; exact h6) q1 q3 (by rw [hsl]; exact k2_hasslot (q4 k hk)) rfl rfl hd fun H' e1 e2 e3 => ?_
  rw [hsl] at e1 ⊢
  exact kk H' _ ls (by rw [e2]; exact hz) (hP.put hf ⟨_, hc, t_OB.to (V := updV (vp_V fs) k v) ⟨_, e1, q2, q3, t_set q4 hap hk v⟩ (fun j _ => vp_updV_set hlen v j)⟩ e3) (hS.put e2 e3 hA) hl9
theorem tz_putF (C : tz_Cx p s m args c A D cs own cc nL) (hin2 : meth.name = "<init>") (hI : tz_CI ci Cn T N ty) (k : Nat) (hk : k < N) (hl : Cond.fieldLink own idx (T k).1 (T k).2.1 (T k).2.2.1 ∈ tz_TT) (hfin : (T k).2.2.2 = true ∧ (T k).1 = own) (hf : f a = some (.inr (ci, fs))) (hlen : k < fs.length) (hnf : narrow (ty k) v = v ∧ fits (ty k) v = true) {fs' : List Value} (hfs : fs.set k v = fs') (hd : tz_dk cc pc (.putfield idx) 3 n) (kk : tz_V p l e R s m args below meth c Q A D nL (tz_set f a (.inr (ci, fs'))) sz cells slots n lv rest) : tz_V p l e R s m args below meth c Q A D nL f sz cells slots pc lv (v :: .ref a :: rest) := by
  intro H locs ls hz hP hS hl9
  obtain ⟨hx, hb, hml, hown, hts, hE⟩ := id C
  obtain ⟨hd, rfl⟩ := hd
  obtain ⟨hc, hin, hty, hnm⟩ := hI
  subst hfs
  have hap := va_apart (own := own) hts hin ty hty hnm hE.1 hc
  obtain ⟨⟨r, h1, cell, q1, q2, q3, q4⟩, hA⟩ := hP a _ hf
  have hr : r = (Cn, T, N) := Option.some.inj (h1.symm.trans hc)
  subst hr
  obtain ⟨hSl, hfc, kC, hkC, hkind⟩ := hE.1.1 ci _ hc
  obtain ⟨cf, kf, fi, fd, hi, hsl⟩ := hSl k hk
  have hlay := hts _ (hin _ (u_in_lay hk))
  unfold u_lay at hlay
  rw [if_pos hfin.1] at hlay
  have hst := (u_facts hfc hkC (u_lays hts hin hk) hi).1
  have hcf : m.cls = cf := by
    obtain ⟨_, _, c', _, _, _, -, -, hf', -, -, -, hown2, -⟩ := Cond.laysFinal_spec hlay
    have e1 : c' = cf := by have := hi.symm.trans hf'; simp at this; exact this.1.symm
    rw [hfin.2] at hown2
    rw [← e1]; exact Option.some.inj (hown.symm.trans hown2)
  have h6 := u_fits hfc hkC hkind (Or.inr hlay) hi (hty k hk) hnf.1 hnf.2
  refine W.putFinK hx hb hown (hts _ hl) hi hst hcf hin2 (by rw [q2]; exact h6) q1 q3 (by rw [hsl]; exact k2_hasslot (q4 k hk)) rfl rfl hd fun H' e1 e2 e3 => ?_
  rw [hsl] at e1 ⊢
  exact kk H' _ ls (by rw [e2]; exact hz) (hP.put hf ⟨_, hc, t_OB.to (V := updV (vp_V fs) k v) ⟨_, e1, q2, q3, t_set q4 hap hk v⟩ (fun j _ => vp_updV_set hlen v j)⟩ e3) (hS.put e2 e3 hA) hl9
/-! arrays -/
theorem tz_P.one {H : Heap} {e0 : va_E} (hP : tz_P D A f H) (hf : f a = some e0) : va_P D classes [(a, e0)] H := fun j q hq => by
  have hz : j < 1 := (List.getElem?_eq_some_iff.mp hq).1
  rw [show j = 0 by omega] at hq
  cases hq
  exact (hP a _ hf).1
variable {nA : Nat} {g : Nat → Int32} {o : Nat → Option Nat} {i x : Int32}
theorem tz_iald (C : tz_Cx p s m args c A D cs own cc nL) (hf : f a = some (tz_ints cs nA g)) (hin : vp_in i nA) (hd : tz_dk cc pc .iaload 1 n) (kk : tz_V p l e R s m args below meth c Q A D nL f sz cells slots n lv (.int (g i.toNatClampNeg) :: rest)) : tz_V p l e R s m args below meth c Q A D nL f sz cells slots pc lv (.int i :: .ref a :: rest) := by
  intro H locs ls hz hP hS hl9
  obtain ⟨hx, hb, hml, hown, hts, hE⟩ := id C
  obtain ⟨hd, rfl⟩ := hd
  exact va_iald (D := D) (cl := classes) hx hb hE.1 (hP.one hf) 0 0 rfl rfl hin hd (kk H locs ls hz hP hS hl9)
theorem tz_alenI (C : tz_Cx p s m args c A D cs own cc nL) (hf : f a = some (tz_ints cs nA g)) {v : Int32} (hv : Int32.ofNat nA = v) (hd : tz_dk cc pc .arraylength 1 n) (kk : tz_V p l e R s m args below meth c Q A D nL f sz cells slots n lv (.int v :: rest)) : tz_V p l e R s m args below meth c Q A D nL f sz cells slots pc lv (.ref a :: rest) := by
  intro H locs ls hz hP hS hl9
  obtain ⟨hx, hb, hml, hown, hts, hE⟩ := id C
  obtain ⟨hd, rfl⟩ := hd
  exact va_alen (D := D) (cl := classes) (ty := .int) hx hb hE.1 (hP.one hf) 0 0 rfl rfl hv hd (kk H locs ls hz hP hS hl9)
theorem tz_alenR (C : tz_Cx p s m args c A D cs own cc nL) {t : Nat} {q : FieldType} (ht : (tz_tys cs)[t]? = some (cs t, q)) (hf : f a = some (tz_refs cs t nA o)) {v : Int32} (hv : Int32.ofNat nA = v) (hd : tz_dk cc pc .arraylength 1 n) (kk : tz_V p l e R s m args below meth c Q A D nL f sz cells slots n lv (.int v :: rest)) : tz_V p l e R s m args below meth c Q A D nL f sz cells slots pc lv (.ref a :: rest) := by
  intro H locs ls hz hP hS hl9
  obtain ⟨hx, hb, hml, hown, hts, hE⟩ := id C
  obtain ⟨hd, rfl⟩ := hd
  exact va_alen (D := D) (cl := classes) (ty := q) hx hb hE.1 (hP.one hf) 0 t rfl ht hv hd (kk H locs ls hz hP hS hl9)
theorem tz_aald (C : tz_Cx p s m args c A D cs own cc nL) {t : Nat} {cn : String} (ht : (tz_tys cs)[t]? = some (cs t, .object cn)) (hf : f a = some (tz_refs cs t nA o)) (hin : vp_in i nA) (hd : tz_dk cc pc .aaload 1 n) (kk : tz_V p l e R s m args below meth c Q A D nL f sz cells slots n lv (va_rf (o i.toNatClampNeg) :: rest)) : tz_V p l e R s m args below meth c Q A D nL f sz cells slots pc lv (.int i :: .ref a :: rest) := by
  intro H locs ls hz hP hS hl9
  obtain ⟨hx, hb, hml, hown, hts, hE⟩ := id C
  obtain ⟨hd, rfl⟩ := hd
  exact va_aldq (D := D) (cl := classes) (C := cn) hx hb hE.1 (hP.one hf) 0 t rfl ht hin hd (kk H locs ls hz hP hS hl9)
theorem tz_iast (C : tz_Cx p s m args c A D cs own cc nL) (hf : f a = some (tz_ints cs nA g)) (hin : vp_in i nA) (hd : tz_dk cc pc .iastore 1 n) (kk : tz_V p l e R s m args below meth c Q A D nL (tz_set f a (tz_ints cs nA (upd g i.toNatClampNeg x))) sz cells slots n lv rest) : tz_V p l e R s m args below meth c Q A D nL f sz cells slots pc lv (.int x :: .int i :: .ref a :: rest) := by
  intro H locs ls hz hP hS hl9
  obtain ⟨hx, hb, hml, hown, hts, hE⟩ := id C
  obtain ⟨hd, rfl⟩ := hd
  refine W.iast hx hb (hP.one hf 0 _ rfl) ((hE.1.2 0 (cs 0, .int) rfl).1 nA (fun j => .int (g j))) (fun q => by cases q) (by show ¬ (i < 0 ∨ (arrV _ _ _).slots.size ≤ _); rw [arrV_size]; exact hin) rfl rfl hd fun H1 e1 z oq => ?_
  refine kk H1 _ ls (by rw [z]; exact hz) (hP.put hf ?_ oq) (hS.put z oq (hP a _ hf).2) hl9
  show H1[a]? = some (vp_cell _ _)
  rw [e1]
  rw [vp_cell_i, vp_cell_i, arrV_store]
  congr 2
  funext q
  by_cases hq : q = i.toNatClampNeg
  · subst hq
    simp [updV, upd]
  · simp [updV, upd, hq]
theorem tz_aast (C : tz_Cx p s m args c A D cs own cc nL) {t : Nat} {cn : String} (ht : (tz_tys cs)[t]? = some (cs t, .object cn)) (hf : f a = some (tz_refs cs t nA o)) {b : Nat} (hfb : f b = some (.inr (ci, fs))) (hc : classes[ci]? = some (cn, T, N)) (hin : vp_in i nA) (hd : tz_dk cc pc .aastore 1 n) (kk : tz_V p l e R s m args below meth c Q A D nL (tz_set f a (tz_refs cs t nA (va_up o i.toNatClampNeg (some b)))) sz cells slots n lv rest) : tz_V p l e R s m args below meth c Q A D nL f sz cells slots pc lv (.ref b :: .int i :: .ref a :: rest) := by
  intro H locs ls hz hP hS hl9
  obtain ⟨hx, hb, hml, hown, hts, hE⟩ := id C
  obtain ⟨hd, rfl⟩ := hd
  have hlt : i.toNatClampNeg < nA := Nat.not_le.mp fun q => hin (Or.inr q)
  have h0 : ¬ i < 0 := fun q => hin (Or.inl q)
  obtain ⟨⟨r', hr', cellV, g1, g2, g3, -⟩, -⟩ := hP b _ hfb
  have hcls := (hE.1.1 ci _ hc).2
  obtain ⟨kA, comp, k1, k2, k3, -⟩ := (hE.1.2 t _ ht).2
  have hcomp : comp = D.1 ci := Option.some.inj (k3.symm.trans hcls.1)
  subst hcomp
  obtain ⟨kC, hkC, -⟩ := hcls.2
  refine W.aast hx hb (hP.one hf 0 _ rfl) (fun q h => by cases h) (fun h => by cases h) k1 k2 rfl hkC ⟨h0, by show _ < (arrV _ _ _).slots.size; rw [arrV_size]; exact hlt⟩ g1 (fun q h => by rw [g3] at h; cases h) (by rw [g2]; exact hkC) (by rw [g2]; exact va_assign hcls) rfl rfl hd fun H1 e1 z oq => ?_
  refine kk H1 _ ls (by rw [z]; exact hz) (hP.put hf ?_ oq) (hS.put z oq (hP a _ hf).2) hl9
  show H1[a]? = some (vp_cell _ _)
  rw [e1]
  rw [vp_cell_q, vp_cell_q, arrV_store]
  congr 2
  funext q
  by_cases hq : q = i.toNatClampNeg
  · subst hq
    simp [updV, va_up, va_rf]
  · simp [updV, va_up, hq]
theorem tz_aastN (C : tz_Cx p s m args c A D cs own cc nL) {t : Nat} {cn : String} (ht : (tz_tys cs)[t]? = some (cs t, .object cn)) (hf : f a = some (tz_refs cs t nA o)) (hin : vp_in i nA) (hd : tz_dk cc pc .aastore 1 n) (kk : tz_V p l e R s m args below meth c Q A D nL (tz_set f a (tz_refs cs t nA (va_up o i.toNatClampNeg none))) sz cells slots n lv rest) : tz_V p l e R s m args below meth c Q A D nL f sz cells slots pc lv (.null :: .int i :: .ref a :: rest) := by
  intro H locs ls hz hP hS hl9
  obtain ⟨hx, hb, hml, hown, hts, hE⟩ := id C
  obtain ⟨hd, rfl⟩ := hd
  refine va_WaastN (C := cn) hx hb (hP.one hf 0 _ rfl) ((hE.1.2 t _ ht).1 nA (fun j => va_rf (o j))) (fun h => by cases h) (by show ¬ (i < 0 ∨ (arrV _ _ _).slots.size ≤ _); rw [arrV_size]; exact hin) rfl rfl hd fun H1 e1 z oq => ?_
  refine kk H1 _ ls (by rw [z]; exact hz) (hP.put hf ?_ oq) (hS.put z oq (hP a _ hf).2) hl9
  show H1[a]? = some (vp_cell _ _)
  rw [e1]
  rw [vp_cell_q, vp_cell_q, arrV_store]
  congr 2
  funext q
  by_cases hq : q = i.toNatClampNeg
  · subst hq
    simp [updV, va_up, va_rf]
  · simp [updV, va_up, hq]
/-! what is made -/
theorem tz_P.push {H H1 : Heap} {e1 : va_E} (hP : tz_P D A f H) (hz : H.size = sz) (he : va_at D classes (sz, e1) H1) (hA : A sz) (oq : ∀ q : Nat, q < sz → H1[q]? = H[q]?) : tz_P D A (tz_set f sz e1) H1 := by
  intro q x hq
  by_cases h : q = sz
  · subst h
    rw [tz_set_s] at hq
    cases hq
    exact ⟨he, hA⟩
  · rw [tz_set_n h] at hq
    exact ⟨(hP q x hq).1.kept (oq q (by have := (hP q x hq).1.lt; rw [hz] at this; exact this)), (hP q x hq).2⟩
theorem tz_S.push {H0 H H1 : Heap} {locs : List Loc} (hS : va_S A H0 H locs) (hz : H.size = sz) (z1 : H1.size = sz + 1) (oq : ∀ q : Nat, q < sz → H1[q]? = H[q]?) : va_S A H0 H1 locs :=
  ⟨Nat.le_trans hS.1 (by omega), fun x h1 h2 => (oq x (by rw [← hz]; exact Nat.lt_of_lt_of_le h1 hS.1)).trans (hS.2.1 x h1 h2), hS.2.2⟩
theorem tz_new (C : tz_Cx p s m args c A D cs own cc nL) (hI : tz_CI ci Cn T N ty) (hcl : Cond.classLink own idx Cn ∈ tz_TT) (hins : Cond.instantiable Cn N ∈ tz_TT) (hini : Cond.initialized Cn ∈ tz_TT) (hA : A sz) (hfs : ∀ j, j < N → defaultValue (ty j) = vp_V fs j) (hR : cells + 1 ≤ R.cells ∧ slots + N ≤ R.slots) (hd : tz_dk cc pc (.new idx) 3 n) {sz' cells' slots' : Nat} (he : sz + 1 = sz' ∧ cells + 1 = cells' ∧ slots + N = slots') (kk : tz_V p l e R s m args below meth c Q A D nL (tz_set f sz (.inr (ci, fs))) sz' cells' slots' n lv (.ref sz :: rest)) : tz_V p l e R s m args below meth c Q A D nL f sz cells slots pc lv rest := by
  intro H locs ls hz hP hS hl9
  obtain ⟨hx, hb, hml, hown, hts, hE⟩ := id C
  obtain ⟨hd, rfl⟩ := hd
  obtain ⟨rfl, rfl, rfl⟩ := he
  obtain ⟨hc, hin, hty, hnm⟩ := hI
  have hKn := hE.1.1 ci _ hc
  refine W.newcK hx hb hown (hts _ hcl) (hts _ hins) (hts _ hini) rfl hd hR.1 hR.2 hKn.2.1 hz fun H1 kC hkC e1 z1 o1 => ?_
  exact kk H1 locs ls z1 (hP.push hz ⟨_, hc, (u_born ty hts hin hKn hkC e1 hty).to hfs⟩ hA o1) (tz_S.push hS hz z1 o1) hl9
theorem tz_newI (C : tz_Cx p s m args c A D cs own cc nL) (harr : Cond.arrayClass .int ∈ tz_TT) (hA : A sz) {k : Int32} (hk : ¬ k < 0 ∧ k.toNatClampNeg = nA ∧ nA * 4 ≤ 536870912) (hR : cells + 1 ≤ R.cells ∧ slots + nA ≤ R.slots) (hd : tz_dk cc pc (.newarray .int) 2 n) {sz' cells' slots' : Nat} (he : sz + 1 = sz' ∧ cells + 1 = cells' ∧ slots + nA = slots') (kk : tz_V p l e R s m args below meth c Q A D nL (tz_set f sz (tz_ints cs nA (fun _ => 0))) sz' cells' slots' n lv (.ref sz :: rest)) : tz_V p l e R s m args below meth c Q A D nL f sz cells slots pc lv (.int k :: rest) := by
  intro H locs ls hz hP hS hl9
  obtain ⟨hx, hb, hml, hown, hts, hE⟩ := id C
  obtain ⟨hd, rfl⟩ := hd
  obtain ⟨rfl, rfl, rfl⟩ := he
  refine va_newaK (atype := .int) hx hb (hts (.arrayClass .int) harr) rfl hd rfl hk.1 hk.2.1 hk.2.2 hR.1 hR.2 hz fun H1 cA e1 z1 o1 hAr hNm => ?_
  have hcI : cA = cs 0 := by
    have h2 : s.vm.findClass ("[" ++ FieldType.int.toString) = some (cs 0) := (hE.1.2 0 (cs 0, .int) rfl).2
    exact Option.some.inj (hNm.symm.trans h2)
  subst hcI
  exact kk H1 locs ls z1 (hP.push hz (by show H1[sz]? = some (vp_cell _ _); rw [e1]; rfl) hA o1) (tz_S.push hS hz z1 o1) hl9
theorem tz_newR (C : tz_Cx p s m args c A D cs own cc nL) {t : Nat} {cn : String} (ht : (tz_tys cs)[t]? = some (cs t, .object cn)) (hcl : Cond.classLink own idx cn ∈ tz_TT) (hov : Cond.arrayOver (.object cn) ∈ lw_tbl) (hA : A sz) {k : Int32} (hk : ¬ k < 0 ∧ k.toNatClampNeg = nA ∧ nA * 4 ≤ 536870912) (hR : cells + 1 ≤ R.cells ∧ slots + nA ≤ R.slots) (hd : tz_dk cc pc (.anewarray idx) 3 n) {sz' cells' slots' : Nat} (he : sz + 1 = sz' ∧ cells + 1 = cells' ∧ slots + nA = slots') (kk : tz_V p l e R s m args below meth c Q A D nL (tz_set f sz (tz_refs cs t nA (fun _ => none))) sz' cells' slots' n lv (.ref sz :: rest)) : tz_V p l e R s m args below meth c Q A D nL f sz cells slots pc lv (.int k :: rest) := by
  intro H locs ls hz hP hS hl9
  obtain ⟨hx, hb, hml, hown, hts, hE⟩ := id C
  obtain ⟨hd, rfl⟩ := hd
  obtain ⟨rfl, rfl, rfl⟩ := he
  obtain ⟨hk1, rfl, hk3⟩ := hk
  refine W.anew hx hb hown (hts _ hcl) ((hE.2.2.2.1 cn hov).use) rfl hd rfl hk1 hk3 hR.1 hR.2 fun cA kA comp h1 h2 h3 h4 => ?_
  have hcI : cA = cs t := by
    obtain ⟨_, _, -, -, -, h5⟩ := (hE.1.2 t _ ht).2
    exact Option.some.inj (h1.symm.trans h5)
  subst hcI
  have o1 : ∀ q : Nat, q < sz → (H.push { cls := cs t, slots := Array.replicate k.toNatClampNeg .null, vm := .none })[q]? = H[q]? := fun q hq => by
    rw [Array.getElem?_push, if_neg (by omega)]
  have z1 : (H.push { cls := cs t, slots := Array.replicate k.toNatClampNeg .null, vm := .none }).size = sz + 1 := by simp [hz]
  have e1 : (H.push ({ cls := cs t, slots := Array.replicate k.toNatClampNeg .null, vm := .none } : Cell))[sz]? = some (vp_cell (cs t) (k.toNatClampNeg, .inr (.inr (.inr (.inr (fun _ => none)))))) := by
    rw [vp_cell_q, ← hz]
    rw [show (fun j : Nat => va_rf ((fun _ => none : Nat → Option Nat) j)) = (fun _ => Value.null) from rfl, ← arrV_new]
    simp
  have hh := kk _ locs ls z1 (hP.push hz e1 hA o1) (tz_S.push hS hz z1 o1) hl9
  rw [← hz] at hh
  exact hh
/-! static arrays -/
theorem tz_gets (C : tz_Cx p s m args c A D cs own cc nL) {nm ref host : String} {gA : Nat → Int32} (hZ : tz_SA nm gA A s s.heap) (hl : Cond.fieldLinkNest own idx "TapeBench" nm "[I" host ∈ lw_tbl) (hd : tz_dk cc pc (.getstatic idx) 3 n) (kk : ∀ t : Nat, va_T .int t 7 (fun j => .int (gA j)) A s s.heap → tz_V p l e R s m args below meth c Q A D nL f sz cells slots n lv (.ref t :: rest)) : tz_V p l e R s m args below meth c Q A D nL f sz cells slots pc lv rest := by
  intro H locs ls hz hP hS hl9
  obtain ⟨hx, hb, hml, hown, hts, hE⟩ := id C
  obtain ⟨hd, rfl⟩ := hd
  obtain ⟨t, h1, h2⟩ := hZ
  exact va_getsN hx hb h1 hS hown (va_Nw.use rfl (hE.2.2.1 _ _ _ _ _ _ hl)) (fun _ h => h) hd (kk t h2 H locs ls hz hP hS hl9)
theorem tz_sald (C : tz_Cx p s m args c A D cs own cc nL) {t : Nat} {gA : Nat → Int32} (hT : va_T .int t 7 (fun j => .int (gA j)) A s s.heap) (hin : vp_in i 7) (hd : tz_dk cc pc .iaload 1 n) (kk : tz_V p l e R s m args below meth c Q A D nL f sz cells slots n lv (.int (gA i.toNatClampNeg) :: rest)) : tz_V p l e R s m args below meth c Q A D nL f sz cells slots pc lv (.int i :: .ref t :: rest) := by
  intro H locs ls hz hP hS hl9
  obtain ⟨hx, hb, hml, hown, hts, hE⟩ := id C
  obtain ⟨hd, rfl⟩ := hd
  obtain ⟨cell, h1, h2, h3, h4, h5, h6, h7⟩ := hT
  have hlt : i.toNatClampNeg < 7 := Nat.not_le.mp fun q => hin (Or.inr q)
  exact W.iald (v := .int (gA i.toNatClampNeg)) hx hb (by rw [hS.2.1 t (Array.getElem?_eq_some_iff.mp h1).1 h7]; exact h1) h2 h3 (fun z => by rcases z with z | z; exact hin (Or.inl z); omega) (h6 _ hlt) rfl rfl hd (kk H locs ls hz hP hS hl9)
/-! System.arraycopy of two int arrays -/
theorem tz_acopy (C : tz_Cx p s m args c A D cs own cc nL) (hl : Cond.methodLink own idx arraycopyName ∈ tz_TT) (hnat : Cond.native arraycopyName ∈ tz_TT) (hstat : Cond.static arraycopyName ∈ tz_TT) (hini : Cond.initialized "java/lang/System" ∈ tz_TT) {a0 n0 n1 : Nat} {g0 g1 : Nat → Int32} (hf0 : f a0 = some (tz_ints cs n0 g0)) (hf1 : f a = some (tz_ints cs n1 g1)) {sp dp k : Int32} (h1 : ¬ sp < 0) (h2 : ¬ dp < 0) (h3 : ¬ k < 0) (h4 : sp.toNatClampNeg + k.toNatClampNeg ≤ n0) (h5 : dp.toNatClampNeg + k.toNatClampNeg ≤ n1) (hR : 1 ≤ R.frames ∧ (rest.map fun v => v.category).sum + (nativeFrameWords "java/lang/System" "arraycopy" 5 + 11) ≤ R.locals) (hd : tz_dk cc pc (.invokestatic idx) 3 n)
    (kk : tz_V p l e R s m args below meth c Q A D nL (tz_set f a (tz_ints cs n1 (va_cpy g0 g1 sp.toNatClampNeg dp.toNatClampNeg k.toNatClampNeg))) sz cells slots n lv rest) : tz_V p l e R s m args below meth c Q A D nL f sz cells slots pc lv (.int k :: .int dp :: .ref a :: .int sp :: .ref a0 :: rest) := by
  intro H locs ls hz hP hS hl9
  obtain ⟨hx, hb, hml, hown, hts, hE⟩ := id C
  obtain ⟨hd, rfl⟩ := hd
  have nn : ∀ z : Int32, ¬ z < 0 → z.toInt = (z.toNatClampNeg : Int) := by
    intro z hz
    have hz0 : (0 : Int) ≤ z.toInt := by
      have := Int32.not_lt.mp hz
      simpa using Int32.le_iff_toInt_le.mp this
    show z.toInt = ((z.toInt.toNat : Nat) : Int)
    omega
  intro T hT X
  have hc0 : H[a0]? = some (vp_cell (cs 0) (n0, .inl g0)) := hP.one hf0 0 _ rfl
  have hc1 : H[a]? = some (vp_cell (cs 0) (n1, .inl g1)) := hP.one hf1 0 _ rfl
  obtain ⟨-, k0, hk0, cm0, hkk0⟩ := (hE.1.2 0 (cs 0, .int) rfl).1 n0 (fun j => .int (g0 j))
  obtain ⟨-, k1, hk1, cm1, hkk1⟩ := (hE.1.2 0 (cs 0, .int) rfl).1 n1 (fun j => .int (g1 j))
  obtain ⟨vm', X', step⟩ := X.arraycopy hx hown (hts _ hl) (hts _ hnat) (hts _ hstat) (hts _ hini) (src := a0) (dst := a) (cs := vp_cell (cs 0) (n0, .inl g0)) (cd := vp_cell (cs 0) (n1, .inl g1)) (srcPos := sp) (destPos := dp) (n := k) (by rw [hT]; exact hc0) (by rw [hT]; exact hc1)
    (fun _ h => by cases h) (fun _ h => by cases h) (fun h => by cases h) (fun h => by cases h) hk0 hk1 hkk0 hkk1 (by simp [refKind]) h1 h2 h3
    (by rw [nn sp h1, nn k h3]; show ¬ _ > ((arrV (cs 0) n0 (fun j => .int (g0 j))).slots.size : Int); rw [arrV_size]; omega)
    (by rw [nn dp h2, nn k h3]; show ¬ _ > ((arrV (cs 0) n1 (fun j => .int (g1 j))).slots.size : Int); rw [arrV_size]; omega)
    (fun vm₁ _ i hi => by
      have e : (vp_cell (cs 0) (n0, .inl g0)).slots.getD (sp.toNatClampNeg + i) .null = .int (g0 (sp.toNatClampNeg + i)) := by
        show (arrV (cs 0) n0 (fun j => .int (g0 j))).slots.getD _ _ = _
        rw [Array.getD_eq_getD_getElem?, arrV_read _ _ (by omega)]
        rfl
      refine ⟨?_, ?_⟩
      · rw [e]
        rfl
      · rw [e]
        exact trivial)
    (g := F0 m pc ls (.int k :: .int dp :: .ref a :: .int sp :: .ref a0 :: rest)) rfl (by rw [hml]; exact hl9.1) (rest := rest) rfl (by rw [hb]; exact hd) hR.1 (by show 2 * 0 + _ + _ ≤ _; have := hR.2; omega)
  have e1 : copied (vp_cell (cs 0) (n0, .inl g0)) (vp_cell (cs 0) (n1, .inl g1)) sp dp k = vp_cell (cs 0) (n1, .inl (va_cpy g0 g1 sp.toNatClampNeg dp.toNatClampNeg k.toNatClampNeg)) := va_copied (fun z => .int z) (cs 0) (cs 0) g0 g1 h4
  rw [e1] at X' step
  have hl0 : a < H.size := (Array.getElem?_eq_some_iff.mp hc1).1
  have hheap : ((T.setVm vm').setCell a (vp_cell (cs 0) (n1, .inl (va_cpy g0 g1 sp.toNatClampNeg dp.toNatClampNeg k.toNatClampNeg)))).heap = H.setIfInBounds a (vp_cell (cs 0) (n1, .inl (va_cpy g0 g1 sp.toNatClampNeg dp.toNatClampNeg k.toNatClampNeg))) := by rw [← hT]; rfl
  have oq : ∀ q : Nat, q ≠ a → (H.setIfInBounds a (vp_cell (cs 0) (n1, .inl (va_cpy g0 g1 sp.toNatClampNeg dp.toNatClampNeg k.toNatClampNeg))))[q]? = H[q]? := fun q hq => by simp [Array.getElem?_setIfInBounds, Ne.symm hq]
  obtain ⟨t, a1, b1⟩ := kk _ _ ls (by simp [hz]) (hP.put hf1 (show (H.setIfInBounds a _)[a]? = some _ by simp [Array.getElem?_setIfInBounds, hl0]) oq) ⟨by simp; exact hS.1, fun q g1 g2 => by
      rw [oq q (fun e => g2 (by rw [e]; exact (hP a _ hf1).2))]
      exact hS.2.1 q g1 g2, fun q hq => by
      rcases List.mem_append.mp hq with h | h
      · exact hS.2.2 q h
      · obtain ⟨z, -, hz⟩ := List.mem_map.mp h
        rw [← hz]
        exact (hP a _ hf1).2⟩ hl9 _ hheap X'
  exact ⟨t, step t a1, b1⟩
/-! returns -/
theorem tz_iret {x : Int32} (C : tz_Cx p s m args c A D cs own cc nL) (hr : meth.sig.returnType = some .int) (hk : meth.locks = false) (hz : sz = n + mc) (hd : tz_dk cc pc .ireturn 1 np) (hp : P (some (.int x)) f) : tz_V p l e R s m args below meth c (MQ below (tz_Q D A n mc P) args s mc ms A) A D nL f sz mc ms pc lv [.int x] := by
  intro H locs ls hz1 hP hS hl9
  exact W.iret C.1 C.2.1 hr (fun t ht hW => ⟨⟨_, f, rfl, hp, by rw [ht]; exact hP, by rw [ht, hz1, hz]⟩, hS.F ht⟩) hS.2.2 hd.1 hk
theorem tz_zret {x : Int32} (C : tz_Cx p s m args c A D cs own cc nL) (hr : meth.sig.returnType = some .boolean) (hk : meth.locks = false) (hx : x = 0 ∨ x = 1) (hz : sz = n + mc) (hd : tz_dk cc pc .ireturn 1 np) (hp : P (some (.int x)) f) : tz_V p l e R s m args below meth c (MQ below (tz_Q D A n mc P) args s mc ms A) A D nL f sz mc ms pc lv [.int x] := by
  intro H locs ls hz1 hP hS hl9
  exact W.zret C.1 C.2.1 hr (by rcases hx with rfl | rfl <;> rfl) (fun t ht hW => ⟨⟨_, f, rfl, hp, by rw [ht]; exact hP, by rw [ht, hz1, hz]⟩, hS.F ht⟩) hS.2.2 hd.1 hk
theorem tz_lret {x : Int64} (C : tz_Cx p s m args c A D cs own cc nL) (hr : meth.sig.returnType = some .long) (hk : meth.locks = false) (hz : sz = n + mc) (hd : tz_dk cc pc .lreturn 1 np) (hp : P (some (.long x)) f) : tz_V p l e R s m args below meth c (MQ below (tz_Q D A n mc P) args s mc ms A) A D nL f sz mc ms pc lv [.long x] := by
  intro H locs ls hz1 hP hS hl9
  exact W.lret C.1 C.2.1 hr (fun t ht hW => ⟨⟨_, f, rfl, hp, by rw [ht]; exact hP, by rw [ht, hz1, hz]⟩, hS.F ht⟩) hS.2.2 hd.1 hk
theorem tz_vret (C : tz_Cx p s m args c A D cs own cc nL) (hr : meth.sig.returnType = none) (hk : meth.locks = false) (hz : sz = n + mc) (hd : tz_dk cc pc .return_ 1 np) (hp : P none f) : tz_V p l e R s m args below meth c (MQ below (tz_Q D A n mc P) args s mc ms A) A D nL f sz mc ms pc lv [] := by
  intro H locs ls hz1 hP hS hl9
  exact W.vret C.1 C.2.1 hr (fun t ht hW => ⟨⟨_, f, rfl, hp, by rw [ht]; exact hP, by rw [ht, hz1, hz]⟩, hS.F ht⟩) hS.2.2 hd.1 hk
theorem tz_aret {r : Option Nat} {cn : String} (C : tz_Cx p s m args c A D cs own cc nL) (hr : meth.sig.returnType = some (.object cn)) (hk : meth.locks = false) (hz : sz = n + mc) (hd : tz_dk cc pc .areturn 1 np) (hp : P (some (va_rf r)) f) : tz_V p l e R s m args below meth c (MQ below (tz_Q D A n mc P) args s mc ms A) A D nL f sz mc ms pc lv [va_rf r] := by
  intro H locs ls hz1 hP hS hl9
  exact W.aret C.1 C.2.1 hr (Or.inl ⟨cn, rfl⟩) (by cases r with
    | none => exact Or.inl rfl
    | some q => exact Or.inr ⟨q, rfl⟩) (fun t ht hW => ⟨⟨_, f, rfl, hp, by rw [ht]; exact hP, by rw [ht, hz1, hz]⟩, hS.F ht⟩) hS.2.2 hd.1 hk
theorem tz_lvs {lv' : List (Nat × Value)} {st : List Value} (ks : List Nat) (h : lv_pick lv ks = lv') (kk : tz_V p l e R s m args below meth c Q A D nL f sz cells slots pc lv' st) : tz_V p l e R s m args below meth c Q A D nL f sz cells slots pc lv st := fun H locs ls hz hP hS hl => kk H locs ls hz hP hS (lv_sub hl ks h)
theorem tz_heap {f' : tz_PH} {st : List Value} (h : f = f') (kk : tz_V p l e R s m args below meth c Q A D nL f' sz cells slots pc lv st) : tz_V p l e R s m args below meth c Q A D nL f sz cells slots pc lv st := h ▸ kk
/-- fewer cells known -/
theorem tz_less {f' : tz_PH} {st : List Value} (h : ∀ q e, f' q = some e → f q = some e) (kk : tz_V p l e R s m args below meth c Q A D nL f' sz cells slots pc lv st) : tz_V p l e R s m args below meth c Q A D nL f sz cells slots pc lv st := fun H locs ls hz hP hS hl => kk H locs ls hz (fun q e hq => hP q e (h q e hq)) hS hl
theorem tz_widen {st : List Value} {cells' slots' : Nat} (h1 : cells ≤ cells') (h2 : slots ≤ slots') (kk : tz_V p l e R s m args below meth c Q A D nL f sz cells' slots' pc lv st) : tz_V p l e R s m args below meth c Q A D nL f sz cells slots pc lv st := fun H locs ls hz hP hS hl => W.widen h1 h2 (kk H locs ls hz hP hS hl)
end TZA
section TZR
variable {p : Program} {l : Launch} {e : Env} {R : Room} {s : State} {m : MethodId} {args : Array Value} {below : List Frame} {meth : Method} {c : Code} {Q : State → Prop} {A : Nat → Prop} {D : va_G} {cs : Nat → ClassId} {own : String} {cc : ByteArray} {nL : Nat} {f : tz_PH} {sz cells slots pc n tgt : Nat} {lv : List (Nat × Value)} {rest : List Value}
theorem tz_iconst (C : tz_Cx p s m args c A D cs own cc nL) {k : Int} {v : Int32} (hv : Int32.ofInt k = v) (hd : tz_dk cc pc (.iconst k) 1 n) (kk : tz_V p l e R s m args below meth c Q A D nL f sz cells slots n lv (.int v :: rest)) : tz_V p l e R s m args below meth c Q A D nL f sz cells slots pc lv (rest) := by
  obtain ⟨hd, rfl⟩ := hd
  exact fun H locs ls hz hP hS hl => lv_iconst C.1 C.2.1 hd hv (kk H locs ls hz hP hS hl)
theorem tz_bipush (C : tz_Cx p s m args c A D cs own cc nL) {k : Int} {v : Int32} (hv : (Int8.ofInt k).toInt32 = v) (hd : tz_dk cc pc (.bipush k) 2 n) (kk : tz_V p l e R s m args below meth c Q A D nL f sz cells slots n lv (.int v :: rest)) : tz_V p l e R s m args below meth c Q A D nL f sz cells slots pc lv (rest) := by
  obtain ⟨hd, rfl⟩ := hd
  exact fun H locs ls hz hP hS hl => lv_bipush C.1 C.2.1 hd hv (kk H locs ls hz hP hS hl)
theorem tz_sipush (C : tz_Cx p s m args c A D cs own cc nL) {k : Int} {v : Int32} (hv : (Int16.ofInt k).toInt32 = v) (hd : tz_dk cc pc (.sipush k) 3 n) (kk : tz_V p l e R s m args below meth c Q A D nL f sz cells slots n lv (.int v :: rest)) : tz_V p l e R s m args below meth c Q A D nL f sz cells slots pc lv (rest) := by
  obtain ⟨hd, rfl⟩ := hd
  exact fun H locs ls hz hP hS hl => lv_sipush C.1 C.2.1 hd hv (kk H locs ls hz hP hS hl)
theorem tz_lconst (C : tz_Cx p s m args c A D cs own cc nL) {k : Fin 2} {v : Int64} (hv : Int64.ofNat (k : Nat) = v) (hd : tz_dk cc pc (.lconst k) 1 n) (kk : tz_V p l e R s m args below meth c Q A D nL f sz cells slots n lv (.long v :: rest)) : tz_V p l e R s m args below meth c Q A D nL f sz cells slots pc lv (rest) := by
  obtain ⟨hd, rfl⟩ := hd
  exact fun H locs ls hz hP hS hl => lv_lconst C.1 C.2.1 hd hv (kk H locs ls hz hP hS hl)
theorem tz_ldc (C : tz_Cx p s m args c A D cs own cc nL) {idx : Nat} {v : Int32} (hw : Cond.constant own idx v ∈ tz_TT) (hd : tz_dk cc pc (.ldc idx) 2 n) (kk : tz_V p l e R s m args below meth c Q A D nL f sz cells slots n lv (.int v :: rest)) : tz_V p l e R s m args below meth c Q A D nL f sz cells slots pc lv (rest) := by
  obtain ⟨hd, rfl⟩ := hd
  exact fun H locs ls hz hP hS hl => lv_ldc C.1 C.2.1 C.2.2.2.1 (C.2.2.2.2.1 _ hw) hd (kk H locs ls hz hP hS hl)
theorem tz_ldcw (C : tz_Cx p s m args c A D cs own cc nL) {idx : Nat} {v : Int32} (hw : Cond.constant own idx v ∈ tz_TT) (hd : tz_dk cc pc (.ldc_w idx) 3 n) (kk : tz_V p l e R s m args below meth c Q A D nL f sz cells slots n lv (.int v :: rest)) : tz_V p l e R s m args below meth c Q A D nL f sz cells slots pc lv (rest) := by
  obtain ⟨hd, rfl⟩ := hd
  exact fun H locs ls hz hP hS hl => lv_ldcw C.1 C.2.1 C.2.2.2.1 (C.2.2.2.2.1 _ hw) hd (kk H locs ls hz hP hS hl)
theorem tz_ldc2 (C : tz_Cx p s m args c A D cs own cc nL) {idx : Nat} {v : Int64} (hw : Cond.constantLong own idx v ∈ tz_TT) (hd : tz_dk cc pc (.ldc2_w idx) 3 n) (kk : tz_V p l e R s m args below meth c Q A D nL f sz cells slots n lv (.long v :: rest)) : tz_V p l e R s m args below meth c Q A D nL f sz cells slots pc lv (rest) := by
  obtain ⟨hd, rfl⟩ := hd
  exact fun H locs ls hz hP hS hl => lv_ldc2 C.1 C.2.1 C.2.2.2.1 (C.2.2.2.2.1 _ hw) hd (kk H locs ls hz hP hS hl)
theorem tz_null (C : tz_Cx p s m args c A D cs own cc nL)  (hd : tz_dk cc pc (.aconst_null) 1 n) (kk : tz_V p l e R s m args below meth c Q A D nL f sz cells slots n lv (.null :: rest)) : tz_V p l e R s m args below meth c Q A D nL f sz cells slots pc lv (rest) := by
  obtain ⟨hd, rfl⟩ := hd
  exact fun H locs ls hz hP hS hl => lv_null C.1 C.2.1 hd (kk H locs ls hz hP hS hl)
theorem tz_dup (C : tz_Cx p s m args c A D cs own cc nL) {va : Value} (h1 : va.category = 1) (hd : tz_dk cc pc (.dup) 1 n) (kk : tz_V p l e R s m args below meth c Q A D nL f sz cells slots n lv (va :: va :: rest)) : tz_V p l e R s m args below meth c Q A D nL f sz cells slots pc lv (va :: rest) := by
  obtain ⟨hd, rfl⟩ := hd
  exact fun H locs ls hz hP hS hl => lv_dup C.1 C.2.1 hd h1 (kk H locs ls hz hP hS hl)
theorem tz_dup2 (C : tz_Cx p s m args c A D cs own cc nL) {va vb : Value} (h1 : va.category = 1) (h2 : vb.category = 1) (hd : tz_dk cc pc (.dup2) 1 n) (kk : tz_V p l e R s m args below meth c Q A D nL f sz cells slots n lv (va :: vb :: va :: vb :: rest)) : tz_V p l e R s m args below meth c Q A D nL f sz cells slots pc lv (va :: vb :: rest) := by
  obtain ⟨hd, rfl⟩ := hd
  exact fun H locs ls hz hP hS hl => lv_dup2_11 C.1 C.2.1 hd h1 h2 (kk H locs ls hz hP hS hl)
theorem tz_pop (C : tz_Cx p s m args c A D cs own cc nL) {va : Value} (h1 : va.category = 1) (hd : tz_dk cc pc (.pop) 1 n) (kk : tz_V p l e R s m args below meth c Q A D nL f sz cells slots n lv (rest)) : tz_V p l e R s m args below meth c Q A D nL f sz cells slots pc lv (va :: rest) := by
  obtain ⟨hd, rfl⟩ := hd
  exact fun H locs ls hz hP hS hl => lv_pop C.1 C.2.1 hd h1 (kk H locs ls hz hP hS hl)
theorem tz_iadd (C : tz_Cx p s m args c A D cs own cc nL) {x y : Int32} (hd : tz_dk cc pc (.iadd) 1 n) (kk : tz_V p l e R s m args below meth c Q A D nL f sz cells slots n lv (.int (x + y) :: rest)) : tz_V p l e R s m args below meth c Q A D nL f sz cells slots pc lv (.int y :: .int x :: rest) := by
  obtain ⟨hd, rfl⟩ := hd
  exact fun H locs ls hz hP hS hl => lv_iadd C.1 C.2.1 hd (kk H locs ls hz hP hS hl)
theorem tz_isub (C : tz_Cx p s m args c A D cs own cc nL) {x y : Int32} (hd : tz_dk cc pc (.isub) 1 n) (kk : tz_V p l e R s m args below meth c Q A D nL f sz cells slots n lv (.int (x - y) :: rest)) : tz_V p l e R s m args below meth c Q A D nL f sz cells slots pc lv (.int y :: .int x :: rest) := by
  obtain ⟨hd, rfl⟩ := hd
  exact fun H locs ls hz hP hS hl => lv_isub C.1 C.2.1 hd (kk H locs ls hz hP hS hl)
theorem tz_imul (C : tz_Cx p s m args c A D cs own cc nL) {x y : Int32} (hd : tz_dk cc pc (.imul) 1 n) (kk : tz_V p l e R s m args below meth c Q A D nL f sz cells slots n lv (.int (x * y) :: rest)) : tz_V p l e R s m args below meth c Q A D nL f sz cells slots pc lv (.int y :: .int x :: rest) := by
  obtain ⟨hd, rfl⟩ := hd
  exact fun H locs ls hz hP hS hl => lv_imul C.1 C.2.1 hd (kk H locs ls hz hP hS hl)
theorem tz_iand (C : tz_Cx p s m args c A D cs own cc nL) {x y : Int32} (hd : tz_dk cc pc (.iand) 1 n) (kk : tz_V p l e R s m args below meth c Q A D nL f sz cells slots n lv (.int (x &&& y) :: rest)) : tz_V p l e R s m args below meth c Q A D nL f sz cells slots pc lv (.int y :: .int x :: rest) := by
  obtain ⟨hd, rfl⟩ := hd
  exact fun H locs ls hz hP hS hl => lv_iand C.1 C.2.1 hd (kk H locs ls hz hP hS hl)
theorem tz_ishl (C : tz_Cx p s m args c A D cs own cc nL) {x y : Int32} (hd : tz_dk cc pc (.ishl) 1 n) (kk : tz_V p l e R s m args below meth c Q A D nL f sz cells slots n lv (.int (x <<< (y &&& 31)) :: rest)) : tz_V p l e R s m args below meth c Q A D nL f sz cells slots pc lv (.int y :: .int x :: rest) := by
  obtain ⟨hd, rfl⟩ := hd
  exact fun H locs ls hz hP hS hl => lv_ishl C.1 C.2.1 hd (kk H locs ls hz hP hS hl)
theorem tz_ishr (C : tz_Cx p s m args c A D cs own cc nL) {x y : Int32} (hd : tz_dk cc pc (.ishr) 1 n) (kk : tz_V p l e R s m args below meth c Q A D nL f sz cells slots n lv (.int (x >>> (y &&& 31)) :: rest)) : tz_V p l e R s m args below meth c Q A D nL f sz cells slots pc lv (.int y :: .int x :: rest) := by
  obtain ⟨hd, rfl⟩ := hd
  exact fun H locs ls hz hP hS hl => lv_ishr C.1 C.2.1 hd (kk H locs ls hz hP hS hl)
theorem tz_ixor (C : tz_Cx p s m args c A D cs own cc nL) {x y : Int32} (hd : tz_dk cc pc (.ixor) 1 n) (kk : tz_V p l e R s m args below meth c Q A D nL f sz cells slots n lv (.int (x ^^^ y) :: rest)) : tz_V p l e R s m args below meth c Q A D nL f sz cells slots pc lv (.int y :: .int x :: rest) := by
  obtain ⟨hd, rfl⟩ := hd
  exact fun H locs ls hz hP hS hl => lv_ixor C.1 C.2.1 hd (kk H locs ls hz hP hS hl)
theorem tz_idiv (C : tz_Cx p s m args c A D cs own cc nL) {x y : Int32} (h0 : ¬ y = 0) (hd : tz_dk cc pc (.idiv) 1 n) (kk : tz_V p l e R s m args below meth c Q A D nL f sz cells slots n lv (.int (x / y) :: rest)) : tz_V p l e R s m args below meth c Q A D nL f sz cells slots pc lv (.int y :: .int x :: rest) := by
  obtain ⟨hd, rfl⟩ := hd
  exact fun H locs ls hz hP hS hl => lv_idiv C.1 C.2.1 hd h0 (kk H locs ls hz hP hS hl)
theorem tz_irem (C : tz_Cx p s m args c A D cs own cc nL) {x y : Int32} (h0 : ¬ y = 0) (hd : tz_dk cc pc (.irem) 1 n) (kk : tz_V p l e R s m args below meth c Q A D nL f sz cells slots n lv (.int (x - x / y * y) :: rest)) : tz_V p l e R s m args below meth c Q A D nL f sz cells slots pc lv (.int y :: .int x :: rest) := by
  obtain ⟨hd, rfl⟩ := hd
  exact fun H locs ls hz hP hS hl => lv_irem C.1 C.2.1 hd h0 (kk H locs ls hz hP hS hl)
theorem tz_ineg (C : tz_Cx p s m args c A D cs own cc nL) {x : Int32} (hd : tz_dk cc pc (.ineg) 1 n) (kk : tz_V p l e R s m args below meth c Q A D nL f sz cells slots n lv (.int (-x) :: rest)) : tz_V p l e R s m args below meth c Q A D nL f sz cells slots pc lv (.int x :: rest) := by
  obtain ⟨hd, rfl⟩ := hd
  exact fun H locs ls hz hP hS hl => lv_ineg C.1 C.2.1 hd (kk H locs ls hz hP hS hl)
theorem tz_i2l (C : tz_Cx p s m args c A D cs own cc nL) {x : Int32} (hd : tz_dk cc pc (.i2l) 1 n) (kk : tz_V p l e R s m args below meth c Q A D nL f sz cells slots n lv (.long x.toInt64 :: rest)) : tz_V p l e R s m args below meth c Q A D nL f sz cells slots pc lv (.int x :: rest) := by
  obtain ⟨hd, rfl⟩ := hd
  exact fun H locs ls hz hP hS hl => lv_i2l C.1 C.2.1 hd rfl (kk H locs ls hz hP hS hl)
theorem tz_ladd (C : tz_Cx p s m args c A D cs own cc nL) {x y : Int64} (hd : tz_dk cc pc (.ladd) 1 n) (kk : tz_V p l e R s m args below meth c Q A D nL f sz cells slots n lv (.long (x + y) :: rest)) : tz_V p l e R s m args below meth c Q A D nL f sz cells slots pc lv (.long y :: .long x :: rest) := by
  obtain ⟨hd, rfl⟩ := hd
  exact fun H locs ls hz hP hS hl => lv_ladd C.1 C.2.1 hd (kk H locs ls hz hP hS hl)
theorem tz_lmul (C : tz_Cx p s m args c A D cs own cc nL) {x y : Int64} (hd : tz_dk cc pc (.lmul) 1 n) (kk : tz_V p l e R s m args below meth c Q A D nL f sz cells slots n lv (.long (x * y) :: rest)) : tz_V p l e R s m args below meth c Q A D nL f sz cells slots pc lv (.long y :: .long x :: rest) := by
  obtain ⟨hd, rfl⟩ := hd
  exact fun H locs ls hz hP hS hl => lv_lmul C.1 C.2.1 hd (kk H locs ls hz hP hS hl)
theorem tz_lcmp (C : tz_Cx p s m args c A D cs own cc nL) {x y : Int64} (hd : tz_dk cc pc (.lcmp) 1 n) (kk : tz_V p l e R s m args below meth c Q A D nL f sz cells slots n lv (.int (lg_cmp x y) :: rest)) : tz_V p l e R s m args below meth c Q A D nL f sz cells slots pc lv (.long y :: .long x :: rest) := by
  obtain ⟨hd, rfl⟩ := hd
  exact fun H locs ls hz hP hS hl => W.lcmp C.1 C.2.1 hd (kk H locs ls hz hP hS hl)
theorem tz_iload_n (C : tz_Cx p s m args c A D cs own cc nL) {k : Fin 4} (i : Nat) {j : Nat} {x : Int32} (hi : (k : Nat) = j) (hx : lv[i]? = some (j, .int x)) (hd : tz_dk cc pc (.iload_n k) 1 n) (kk : tz_V p l e R s m args below meth c Q A D nL f sz cells slots n lv (.int x :: rest)) : tz_V p l e R s m args below meth c Q A D nL f sz cells slots pc lv (rest) := by
  obtain ⟨hd, rfl⟩ := hd
  exact fun H locs ls hz hP hS hl => lv_iload_n C.1 C.2.1 hd hi (lv_at hl i hx) (kk H locs ls hz hP hS hl)
theorem tz_iload (C : tz_Cx p s m args c A D cs own cc nL) (i : Nat) {j : Nat} {x : Int32} (hx : lv[i]? = some (j, .int x)) (hd : tz_dk cc pc (.iload j) 2 n) (kk : tz_V p l e R s m args below meth c Q A D nL f sz cells slots n lv (.int x :: rest)) : tz_V p l e R s m args below meth c Q A D nL f sz cells slots pc lv (rest) := by
  obtain ⟨hd, rfl⟩ := hd
  exact fun H locs ls hz hP hS hl => lv_iload C.1 C.2.1 hd (lv_at hl i hx) (kk H locs ls hz hP hS hl)
theorem tz_lload_n (C : tz_Cx p s m args c A D cs own cc nL) {k : Fin 4} (i : Nat) {j : Nat} {x : Int64} (hi : (k : Nat) = j) (hx : lv[i]? = some (j, .long x)) (hd : tz_dk cc pc (.lload_n k) 1 n) (kk : tz_V p l e R s m args below meth c Q A D nL f sz cells slots n lv (.long x :: rest)) : tz_V p l e R s m args below meth c Q A D nL f sz cells slots pc lv (rest) := by
  obtain ⟨hd, rfl⟩ := hd
  exact fun H locs ls hz hP hS hl => lv_lload_n C.1 C.2.1 hd hi (lv_at hl i hx) (kk H locs ls hz hP hS hl)
theorem tz_lload (C : tz_Cx p s m args c A D cs own cc nL) (i : Nat) {j : Nat} {x : Int64} (hx : lv[i]? = some (j, .long x)) (hd : tz_dk cc pc (.lload j) 2 n) (kk : tz_V p l e R s m args below meth c Q A D nL f sz cells slots n lv (.long x :: rest)) : tz_V p l e R s m args below meth c Q A D nL f sz cells slots pc lv (rest) := by
  obtain ⟨hd, rfl⟩ := hd
  exact fun H locs ls hz hP hS hl => lv_lload C.1 C.2.1 hd (lv_at hl i hx) (kk H locs ls hz hP hS hl)
theorem tz_aload_n (C : tz_Cx p s m args c A D cs own cc nL) {k : Fin 4} (i : Nat) {j : Nat} {x : Nat} (hi : (k : Nat) = j) (hx : lv[i]? = some (j, .ref x)) (hd : tz_dk cc pc (.aload_n k) 1 n) (kk : tz_V p l e R s m args below meth c Q A D nL f sz cells slots n lv (.ref x :: rest)) : tz_V p l e R s m args below meth c Q A D nL f sz cells slots pc lv (rest) := by
  obtain ⟨hd, rfl⟩ := hd
  exact fun H locs ls hz hP hS hl => lv_aload_n C.1 C.2.1 hd hi (lv_at hl i hx) (kk H locs ls hz hP hS hl)
theorem tz_aload (C : tz_Cx p s m args c A D cs own cc nL) (i : Nat) {j : Nat} {x : Nat} (hx : lv[i]? = some (j, .ref x)) (hd : tz_dk cc pc (.aload j) 2 n) (kk : tz_V p l e R s m args below meth c Q A D nL f sz cells slots n lv (.ref x :: rest)) : tz_V p l e R s m args below meth c Q A D nL f sz cells slots pc lv (rest) := by
  obtain ⟨hd, rfl⟩ := hd
  exact fun H locs ls hz hP hS hl => lv_aload C.1 C.2.1 hd (lv_at hl i hx) (kk H locs ls hz hP hS hl)
theorem tz_aload_nN (C : tz_Cx p s m args c A D cs own cc nL) {k : Fin 4} (i : Nat) {j : Nat} (hi : (k : Nat) = j) (hx : lv[i]? = some (j, .null)) (hd : tz_dk cc pc (.aload_n k) 1 n) (kk : tz_V p l e R s m args below meth c Q A D nL f sz cells slots n lv (.null :: rest)) : tz_V p l e R s m args below meth c Q A D nL f sz cells slots pc lv (rest) := by
  obtain ⟨hd, rfl⟩ := hd
  exact fun H locs ls hz hP hS hl => lv_aload_nN C.1 C.2.1 hd hi (lv_at hl i hx) (kk H locs ls hz hP hS hl)
theorem tz_aloadN (C : tz_Cx p s m args c A D cs own cc nL) (i : Nat) {j : Nat} (hx : lv[i]? = some (j, .null)) (hd : tz_dk cc pc (.aload j) 2 n) (kk : tz_V p l e R s m args below meth c Q A D nL f sz cells slots n lv (.null :: rest)) : tz_V p l e R s m args below meth c Q A D nL f sz cells slots pc lv (rest) := by
  obtain ⟨hd, rfl⟩ := hd
  exact fun H locs ls hz hP hS hl => lv_aloadN C.1 C.2.1 hd (lv_at hl i hx) (kk H locs ls hz hP hS hl)
theorem tz_aload_nQ (C : tz_Cx p s m args c A D cs own cc nL) {k : Fin 4} (i : Nat) {j : Nat} {r : Option Nat} (hi : (k : Nat) = j) (hx : lv[i]? = some (j, va_rf r)) (hd : tz_dk cc pc (.aload_n k) 1 n) (kk : tz_V p l e R s m args below meth c Q A D nL f sz cells slots n lv (va_rf r :: rest)) : tz_V p l e R s m args below meth c Q A D nL f sz cells slots pc lv rest := by
  cases r with
  | none => exact tz_aload_nN C i hi hx hd kk
  | some q => exact tz_aload_n C i hi hx hd kk
theorem tz_aloadQ (C : tz_Cx p s m args c A D cs own cc nL) (i : Nat) {j : Nat} {r : Option Nat} (hx : lv[i]? = some (j, va_rf r)) (hd : tz_dk cc pc (.aload j) 2 n) (kk : tz_V p l e R s m args below meth c Q A D nL f sz cells slots n lv (va_rf r :: rest)) : tz_V p l e R s m args below meth c Q A D nL f sz cells slots pc lv rest := by
  cases r with
  | none => exact tz_aloadN C i hx hd kk
  | some q => exact tz_aload C i hx hd kk
theorem tz_istore_n (C : tz_Cx p s m args c A D cs own cc nL) {k : Fin 4} {j : Nat} {x : Int32} {lv' : List (Nat × Value)} (ks : List Nat) (hi : (k : Nat) = j) (hn : j < nL) (hp : lv_pick ((j, Value.int x) :: lv.filter (fun q => !(q.1 == j) && !(q.1 + 1 == j && q.2.category == 2))) ks = lv') (hd : tz_dk cc pc (.istore_n k) 1 n) (kk : tz_V p l e R s m args below meth c Q A D nL f sz cells slots n lv' rest) : tz_V p l e R s m args below meth c Q A D nL f sz cells slots pc lv (Value.int x :: rest) := by
  obtain ⟨hd, rfl⟩ := hd
  exact fun H locs ls hz hP hS hl => lv_istore_n C.1 C.2.1 hd hi hl hn rfl (fun ls' hl' => kk H locs ls' hz hP hS (lv_sub hl' ks hp))
theorem tz_istore (C : tz_Cx p s m args c A D cs own cc nL) {j : Nat} {x : Int32} {lv' : List (Nat × Value)} (ks : List Nat) (hn : j < nL) (hp : lv_pick ((j, Value.int x) :: lv.filter (fun q => !(q.1 == j) && !(q.1 + 1 == j && q.2.category == 2))) ks = lv') (hd : tz_dk cc pc (.istore j) 2 n) (kk : tz_V p l e R s m args below meth c Q A D nL f sz cells slots n lv' rest) : tz_V p l e R s m args below meth c Q A D nL f sz cells slots pc lv (Value.int x :: rest) := by
  obtain ⟨hd, rfl⟩ := hd
  exact fun H locs ls hz hP hS hl => lv_istore C.1 C.2.1 hd hl hn rfl (fun ls' hl' => kk H locs ls' hz hP hS (lv_sub hl' ks hp))
theorem tz_astore_n (C : tz_Cx p s m args c A D cs own cc nL) {k : Fin 4} {j : Nat} {x : Nat} {lv' : List (Nat × Value)} (ks : List Nat) (hi : (k : Nat) = j) (hn : j < nL) (hp : lv_pick ((j, Value.ref x) :: lv.filter (fun q => !(q.1 == j) && !(q.1 + 1 == j && q.2.category == 2))) ks = lv') (hd : tz_dk cc pc (.astore_n k) 1 n) (kk : tz_V p l e R s m args below meth c Q A D nL f sz cells slots n lv' rest) : tz_V p l e R s m args below meth c Q A D nL f sz cells slots pc lv (Value.ref x :: rest) := by
  obtain ⟨hd, rfl⟩ := hd
  exact fun H locs ls hz hP hS hl => lv_astore_n C.1 C.2.1 hd hi hl hn rfl (fun ls' hl' => kk H locs ls' hz hP hS (lv_sub hl' ks hp))
theorem tz_astore (C : tz_Cx p s m args c A D cs own cc nL) {j : Nat} {x : Nat} {lv' : List (Nat × Value)} (ks : List Nat) (hn : j < nL) (hp : lv_pick ((j, Value.ref x) :: lv.filter (fun q => !(q.1 == j) && !(q.1 + 1 == j && q.2.category == 2))) ks = lv') (hd : tz_dk cc pc (.astore j) 2 n) (kk : tz_V p l e R s m args below meth c Q A D nL f sz cells slots n lv' rest) : tz_V p l e R s m args below meth c Q A D nL f sz cells slots pc lv (Value.ref x :: rest) := by
  obtain ⟨hd, rfl⟩ := hd
  exact fun H locs ls hz hP hS hl => lv_astore C.1 C.2.1 hd hl hn rfl (fun ls' hl' => kk H locs ls' hz hP hS (lv_sub hl' ks hp))
theorem tz_astore_nN (C : tz_Cx p s m args c A D cs own cc nL) {k : Fin 4} {j : Nat} {lv' : List (Nat × Value)} (ks : List Nat) (hi : (k : Nat) = j) (hn : j < nL) (hp : lv_pick ((j, Value.null) :: lv.filter (fun q => !(q.1 == j) && !(q.1 + 1 == j && q.2.category == 2))) ks = lv') (hd : tz_dk cc pc (.astore_n k) 1 n) (kk : tz_V p l e R s m args below meth c Q A D nL f sz cells slots n lv' rest) : tz_V p l e R s m args below meth c Q A D nL f sz cells slots pc lv (Value.null :: rest) := by
  obtain ⟨hd, rfl⟩ := hd
  exact fun H locs ls hz hP hS hl => lv_astore_nN C.1 C.2.1 hd hi hl hn rfl (fun ls' hl' => kk H locs ls' hz hP hS (lv_sub hl' ks hp))
theorem tz_astoreN (C : tz_Cx p s m args c A D cs own cc nL) {j : Nat} {lv' : List (Nat × Value)} (ks : List Nat) (hn : j < nL) (hp : lv_pick ((j, Value.null) :: lv.filter (fun q => !(q.1 == j) && !(q.1 + 1 == j && q.2.category == 2))) ks = lv') (hd : tz_dk cc pc (.astore j) 2 n) (kk : tz_V p l e R s m args below meth c Q A D nL f sz cells slots n lv' rest) : tz_V p l e R s m args below meth c Q A D nL f sz cells slots pc lv (Value.null :: rest) := by
  obtain ⟨hd, rfl⟩ := hd
  exact fun H locs ls hz hP hS hl => lv_astoreN C.1 C.2.1 hd hl hn rfl (fun ls' hl' => kk H locs ls' hz hP hS (lv_sub hl' ks hp))
theorem tz_lstore_n (C : tz_Cx p s m args c A D cs own cc nL) {k : Fin 4} {j : Nat} {x : Int64} {lv' : List (Nat × Value)} (ks : List Nat) (hi : (k : Nat) = j) (hn : j + 1 < nL) (hp : lv_pick ((j, Value.long x) :: lv.filter (fun q => !(q.1 == j) && (!(q.1 == j + 1) && !(q.1 + 1 == j && q.2.category == 2)))) ks = lv') (hd : tz_dk cc pc (.lstore_n k) 1 n) (kk : tz_V p l e R s m args below meth c Q A D nL f sz cells slots n lv' rest) : tz_V p l e R s m args below meth c Q A D nL f sz cells slots pc lv (Value.long x :: rest) := by
  obtain ⟨hd, rfl⟩ := hd
  exact fun H locs ls hz hP hS hl => lv_lstore_n C.1 C.2.1 hd hi hl hn rfl (fun ls' hl' => kk H locs ls' hz hP hS (lv_sub hl' ks hp))
theorem tz_lstore (C : tz_Cx p s m args c A D cs own cc nL) {j : Nat} {x : Int64} {lv' : List (Nat × Value)} (ks : List Nat) (hn : j + 1 < nL) (hp : lv_pick ((j, Value.long x) :: lv.filter (fun q => !(q.1 == j) && (!(q.1 == j + 1) && !(q.1 + 1 == j && q.2.category == 2)))) ks = lv') (hd : tz_dk cc pc (.lstore j) 2 n) (kk : tz_V p l e R s m args below meth c Q A D nL f sz cells slots n lv' rest) : tz_V p l e R s m args below meth c Q A D nL f sz cells slots pc lv (Value.long x :: rest) := by
  obtain ⟨hd, rfl⟩ := hd
  exact fun H locs ls hz hP hS hl => lv_lstore C.1 C.2.1 hd hl hn rfl (fun ls' hl' => kk H locs ls' hz hP hS (lv_sub hl' ks hp))
theorem tz_astore_nQ (C : tz_Cx p s m args c A D cs own cc nL) {k : Fin 4} {j : Nat} {r : Option Nat} {lv' : List (Nat × Value)} (ks : List Nat) (hi : (k : Nat) = j) (hn : j < nL) (hp : lv_pick ((j, va_rf r) :: lv.filter (fun q => !(q.1 == j) && !(q.1 + 1 == j && q.2.category == 2))) ks = lv') (hd : tz_dk cc pc (.astore_n k) 1 n) (kk : tz_V p l e R s m args below meth c Q A D nL f sz cells slots n lv' rest) : tz_V p l e R s m args below meth c Q A D nL f sz cells slots pc lv (va_rf r :: rest) := by
  cases r with
  | none => exact tz_astore_nN C ks hi hn hp hd kk
  | some q => exact tz_astore_n C ks hi hn hp hd kk
theorem tz_astoreQ (C : tz_Cx p s m args c A D cs own cc nL) {j : Nat} {r : Option Nat} {lv' : List (Nat × Value)} (ks : List Nat) (hn : j < nL) (hp : lv_pick ((j, va_rf r) :: lv.filter (fun q => !(q.1 == j) && !(q.1 + 1 == j && q.2.category == 2))) ks = lv') (hd : tz_dk cc pc (.astore j) 2 n) (kk : tz_V p l e R s m args below meth c Q A D nL f sz cells slots n lv' rest) : tz_V p l e R s m args below meth c Q A D nL f sz cells slots pc lv (va_rf r :: rest) := by
  cases r with
  | none => exact tz_astoreN C ks hn hp hd kk
  | some q => exact tz_astore C ks hn hp hd kk
theorem tz_iinc (C : tz_Cx p s m args c A D cs own cc nL) {j : Nat} {k : Int} {x v : Int32} {lv' : List (Nat × Value)} (i : Nat) (hx : lv[i]? = some (j, .int x)) (hv : x + Int32.ofInt k = v) (ks : List Nat) (hn : j < nL) (hp : lv_pick ((j, Value.int v) :: lv.filter (fun q => !(q.1 == j) && !(q.1 + 1 == j && q.2.category == 2))) ks = lv') (hd : tz_dk cc pc (.iinc j k) 3 n) (kk : tz_V p l e R s m args below meth c Q A D nL f sz cells slots n lv' rest) : tz_V p l e R s m args below meth c Q A D nL f sz cells slots pc lv rest := by
  obtain ⟨hd, rfl⟩ := hd
  exact fun H locs ls hz hP hS hl => lv_iinc C.1 C.2.1 hd hl hx hv hn rfl (fun ls' hl' => kk H locs ls' hz hP hS (lv_sub hl' ks hp))
theorem tz_if_eq (C : tz_Cx p s m args c A D cs own cc nL) {x : Int32} {off : Int} (hd : tz_dj cc pc (.ifCond .eq off) off n tgt) (kt : x = 0 → tz_V p l e R s m args below meth c Q A D nL f sz cells slots tgt lv rest) (kf : ¬ x = 0 → tz_V p l e R s m args below meth c Q A D nL f sz cells slots n lv rest) : tz_V p l e R s m args below meth c Q A D nL f sz cells slots pc lv (.int x :: rest) := by
  obtain ⟨hd, rfl, ht⟩ := hd
  exact fun H locs ls hz hP hS hl => lv_if_eq C.1 C.2.1 hd ht (fun h => kt h H locs ls hz hP hS hl) (fun h => kf h H locs ls hz hP hS hl)
theorem tz_if_ne (C : tz_Cx p s m args c A D cs own cc nL) {x : Int32} {off : Int} (hd : tz_dj cc pc (.ifCond .ne off) off n tgt) (kt : ¬ x = 0 → tz_V p l e R s m args below meth c Q A D nL f sz cells slots tgt lv rest) (kf : x = 0 → tz_V p l e R s m args below meth c Q A D nL f sz cells slots n lv rest) : tz_V p l e R s m args below meth c Q A D nL f sz cells slots pc lv (.int x :: rest) := by
  obtain ⟨hd, rfl, ht⟩ := hd
  exact fun H locs ls hz hP hS hl => lv_if_ne C.1 C.2.1 hd ht (fun h => kt h H locs ls hz hP hS hl) (fun h => kf h H locs ls hz hP hS hl)
theorem tz_if_lt (C : tz_Cx p s m args c A D cs own cc nL) {x : Int32} {off : Int} (hd : tz_dj cc pc (.ifCond .lt off) off n tgt) (kt : x < 0 → tz_V p l e R s m args below meth c Q A D nL f sz cells slots tgt lv rest) (kf : ¬ x < 0 → tz_V p l e R s m args below meth c Q A D nL f sz cells slots n lv rest) : tz_V p l e R s m args below meth c Q A D nL f sz cells slots pc lv (.int x :: rest) := by
  obtain ⟨hd, rfl, ht⟩ := hd
  exact fun H locs ls hz hP hS hl => lv_if_lt C.1 C.2.1 hd ht (fun h => kt h H locs ls hz hP hS hl) (fun h => kf h H locs ls hz hP hS hl)
theorem tz_if_ge (C : tz_Cx p s m args c A D cs own cc nL) {x : Int32} {off : Int} (hd : tz_dj cc pc (.ifCond .ge off) off n tgt) (kt : 0 ≤ x → tz_V p l e R s m args below meth c Q A D nL f sz cells slots tgt lv rest) (kf : ¬ 0 ≤ x → tz_V p l e R s m args below meth c Q A D nL f sz cells slots n lv rest) : tz_V p l e R s m args below meth c Q A D nL f sz cells slots pc lv (.int x :: rest) := by
  obtain ⟨hd, rfl, ht⟩ := hd
  exact fun H locs ls hz hP hS hl => lv_if_ge C.1 C.2.1 hd ht (fun h => kt h H locs ls hz hP hS hl) (fun h => kf h H locs ls hz hP hS hl)
theorem tz_if_gt (C : tz_Cx p s m args c A D cs own cc nL) {x : Int32} {off : Int} (hd : tz_dj cc pc (.ifCond .gt off) off n tgt) (kt : 0 < x → tz_V p l e R s m args below meth c Q A D nL f sz cells slots tgt lv rest) (kf : ¬ 0 < x → tz_V p l e R s m args below meth c Q A D nL f sz cells slots n lv rest) : tz_V p l e R s m args below meth c Q A D nL f sz cells slots pc lv (.int x :: rest) := by
  obtain ⟨hd, rfl, ht⟩ := hd
  exact fun H locs ls hz hP hS hl => lv_if_gt C.1 C.2.1 hd ht (fun h => kt h H locs ls hz hP hS hl) (fun h => kf h H locs ls hz hP hS hl)
theorem tz_if_le (C : tz_Cx p s m args c A D cs own cc nL) {x : Int32} {off : Int} (hd : tz_dj cc pc (.ifCond .le off) off n tgt) (kt : x ≤ 0 → tz_V p l e R s m args below meth c Q A D nL f sz cells slots tgt lv rest) (kf : ¬ x ≤ 0 → tz_V p l e R s m args below meth c Q A D nL f sz cells slots n lv rest) : tz_V p l e R s m args below meth c Q A D nL f sz cells slots pc lv (.int x :: rest) := by
  obtain ⟨hd, rfl, ht⟩ := hd
  exact fun H locs ls hz hP hS hl => lv_if_le C.1 C.2.1 hd ht (fun h => kt h H locs ls hz hP hS hl) (fun h => kf h H locs ls hz hP hS hl)
theorem tz_icmp_eq (C : tz_Cx p s m args c A D cs own cc nL) {x y : Int32} {off : Int} (hd : tz_dj cc pc (.if_icmp .eq off) off n tgt) (kt : x = y → tz_V p l e R s m args below meth c Q A D nL f sz cells slots tgt lv rest) (kf : ¬ x = y → tz_V p l e R s m args below meth c Q A D nL f sz cells slots n lv rest) : tz_V p l e R s m args below meth c Q A D nL f sz cells slots pc lv (.int y :: .int x :: rest) := by
  obtain ⟨hd, rfl, ht⟩ := hd
  exact fun H locs ls hz hP hS hl => lv_icmp_eq C.1 C.2.1 hd ht (fun h => kt h H locs ls hz hP hS hl) (fun h => kf h H locs ls hz hP hS hl)
theorem tz_icmp_ne (C : tz_Cx p s m args c A D cs own cc nL) {x y : Int32} {off : Int} (hd : tz_dj cc pc (.if_icmp .ne off) off n tgt) (kt : ¬ x = y → tz_V p l e R s m args below meth c Q A D nL f sz cells slots tgt lv rest) (kf : x = y → tz_V p l e R s m args below meth c Q A D nL f sz cells slots n lv rest) : tz_V p l e R s m args below meth c Q A D nL f sz cells slots pc lv (.int y :: .int x :: rest) := by
  obtain ⟨hd, rfl, ht⟩ := hd
  exact fun H locs ls hz hP hS hl => lv_icmp_ne C.1 C.2.1 hd ht (fun h => kt h H locs ls hz hP hS hl) (fun h => kf h H locs ls hz hP hS hl)
theorem tz_icmp_lt (C : tz_Cx p s m args c A D cs own cc nL) {x y : Int32} {off : Int} (hd : tz_dj cc pc (.if_icmp .lt off) off n tgt) (kt : x < y → tz_V p l e R s m args below meth c Q A D nL f sz cells slots tgt lv rest) (kf : ¬ x < y → tz_V p l e R s m args below meth c Q A D nL f sz cells slots n lv rest) : tz_V p l e R s m args below meth c Q A D nL f sz cells slots pc lv (.int y :: .int x :: rest) := by
  obtain ⟨hd, rfl, ht⟩ := hd
  exact fun H locs ls hz hP hS hl => lv_icmp_lt C.1 C.2.1 hd ht (fun h => kt h H locs ls hz hP hS hl) (fun h => kf h H locs ls hz hP hS hl)
theorem tz_icmp_ge (C : tz_Cx p s m args c A D cs own cc nL) {x y : Int32} {off : Int} (hd : tz_dj cc pc (.if_icmp .ge off) off n tgt) (kt : y ≤ x → tz_V p l e R s m args below meth c Q A D nL f sz cells slots tgt lv rest) (kf : ¬ y ≤ x → tz_V p l e R s m args below meth c Q A D nL f sz cells slots n lv rest) : tz_V p l e R s m args below meth c Q A D nL f sz cells slots pc lv (.int y :: .int x :: rest) := by
  obtain ⟨hd, rfl, ht⟩ := hd
  exact fun H locs ls hz hP hS hl => lv_icmp_ge C.1 C.2.1 hd ht (fun h => kt h H locs ls hz hP hS hl) (fun h => kf h H locs ls hz hP hS hl)
theorem tz_icmp_gt (C : tz_Cx p s m args c A D cs own cc nL) {x y : Int32} {off : Int} (hd : tz_dj cc pc (.if_icmp .gt off) off n tgt) (kt : y < x → tz_V p l e R s m args below meth c Q A D nL f sz cells slots tgt lv rest) (kf : ¬ y < x → tz_V p l e R s m args below meth c Q A D nL f sz cells slots n lv rest) : tz_V p l e R s m args below meth c Q A D nL f sz cells slots pc lv (.int y :: .int x :: rest) := by
  obtain ⟨hd, rfl, ht⟩ := hd
  exact fun H locs ls hz hP hS hl => lv_icmp_gt C.1 C.2.1 hd ht (fun h => kt h H locs ls hz hP hS hl) (fun h => kf h H locs ls hz hP hS hl)
theorem tz_icmp_le (C : tz_Cx p s m args c A D cs own cc nL) {x y : Int32} {off : Int} (hd : tz_dj cc pc (.if_icmp .le off) off n tgt) (kt : x ≤ y → tz_V p l e R s m args below meth c Q A D nL f sz cells slots tgt lv rest) (kf : ¬ x ≤ y → tz_V p l e R s m args below meth c Q A D nL f sz cells slots n lv rest) : tz_V p l e R s m args below meth c Q A D nL f sz cells slots pc lv (.int y :: .int x :: rest) := by
  obtain ⟨hd, rfl, ht⟩ := hd
  exact fun H locs ls hz hP hS hl => lv_icmp_le C.1 C.2.1 hd ht (fun h => kt h H locs ls hz hP hS hl) (fun h => kf h H locs ls hz hP hS hl)
theorem tz_goto (C : tz_Cx p s m args c A D cs own cc nL) {off : Int} (hd : tz_dj cc pc (.goto off) off n tgt) (kk : tz_V p l e R s m args below meth c Q A D nL f sz cells slots tgt lv rest) : tz_V p l e R s m args below meth c Q A D nL f sz cells slots pc lv rest := by
  obtain ⟨hd, rfl, ht⟩ := hd
  exact fun H locs ls hz hP hS hl => lv_goto C.1 C.2.1 hd ht (kk H locs ls hz hP hS hl)
theorem tz_ifnull (C : tz_Cx p s m args c A D cs own cc nL) {off : Int} {r : Option Nat} (hd : tz_dj cc pc (.ifnull off) off n tgt) (kt : r = none → tz_V p l e R s m args below meth c Q A D nL f sz cells slots tgt lv rest) (kf : ∀ q : Nat, r = some q → tz_V p l e R s m args below meth c Q A D nL f sz cells slots n lv rest) : tz_V p l e R s m args below meth c Q A D nL f sz cells slots pc lv (va_rf r :: rest) := by
  obtain ⟨hd, rfl, ht⟩ := hd
  cases r with
  | none => exact fun H locs ls hz hP hS hl => lv_ifnullN C.1 C.2.1 hd ht (kt rfl H locs ls hz hP hS hl)
  | some q => exact fun H locs ls hz hP hS hl => lv_ifnull C.1 C.2.1 hd (kf q rfl H locs ls hz hP hS hl)
theorem tz_ifnonnull (C : tz_Cx p s m args c A D cs own cc nL) {off : Int} {r : Option Nat} (hd : tz_dj cc pc (.ifnonnull off) off n tgt) (kt : ∀ q : Nat, r = some q → tz_V p l e R s m args below meth c Q A D nL f sz cells slots tgt lv rest) (kf : r = none → tz_V p l e R s m args below meth c Q A D nL f sz cells slots n lv rest) : tz_V p l e R s m args below meth c Q A D nL f sz cells slots pc lv (va_rf r :: rest) := by
  obtain ⟨hd, rfl, ht⟩ := hd
  cases r with
  | none => exact fun H locs ls hz hP hS hl => lv_ifnonnullN C.1 C.2.1 hd (kf rfl H locs ls hz hP hS hl)
  | some q => exact fun H locs ls hz hP hS hl => lv_ifnonnull C.1 C.2.1 hd ht (kt q rfl H locs ls hz hP hS hl)
theorem tz_tableOut (C : tz_Cx p s m args c A D cs own cc nL) {dflt lo hi : Int} {offs : Array Int} {len : Nat} {x : Int32} (hd : decode cc pc = .ok (.tableswitch dflt lo hi offs, len)) (ht : (pc : Int) + dflt = (tgt : Int)) (h : x.toInt < lo ∨ hi < x.toInt) (kk : tz_V p l e R s m args below meth c Q A D nL f sz cells slots tgt lv rest) : tz_V p l e R s m args below meth c Q A D nL f sz cells slots pc lv (.int x :: rest) := fun H locs ls hz hP hS hl => lv_tableOut C.1 C.2.1 hd h ht (kk H locs ls hz hP hS hl)
theorem tz_tableIn (C : tz_Cx p s m args c A D cs own cc nL) {dflt lo hi : Int} {offs : Array Int} {len : Nat} {x : Int32} {off : Int} (hd : decode cc pc = .ok (.tableswitch dflt lo hi offs, len)) (h1 : ¬ x.toInt < lo ∧ ¬ hi < x.toInt ∧ offs[(x.toInt - lo).toNat]? = some off) (ht : (pc : Int) + off = (tgt : Int)) (kk : tz_V p l e R s m args below meth c Q A D nL f sz cells slots tgt lv rest) : tz_V p l e R s m args below meth c Q A D nL f sz cells slots pc lv (.int x :: rest) := fun H locs ls hz hP hS hl => lv_tableIn C.1 C.2.1 hd h1.1 h1.2.1 h1.2.2 ht (kk H locs ls hz hP hS hl)
end TZR
end
section
theorem tw_0 : (Cond.selects "TapeBench" (⟨"TapeBench", "answer", "(I)I"⟩ : MethodName) (⟨"TapeBench", "answer", "(I)I"⟩ : MethodName)) ∈ tz_TT := tz_mem 0 (by decide +kernel)
theorem tw_1 : (Cond.selects "TapeBench$History" (⟨"TapeBench$History", "stepAt", "(I)LTapeBench$Step;"⟩ : MethodName) (⟨"TapeBench$History", "stepAt", "(I)LTapeBench$Step;"⟩ : MethodName)) ∈ tz_TT := tz_mem 1 (by decide +kernel)
theorem tw_2 : (Cond.selects "TapeBench" (⟨"TapeBench", "sheetAt", "(I)LTapeBench$Sheet;"⟩ : MethodName) (⟨"TapeBench", "sheetAt", "(I)LTapeBench$Sheet;"⟩ : MethodName)) ∈ tz_TT := tz_mem 2 (by decide +kernel)
theorem tw_3 : (Cond.selects "TapeBench$Player" (⟨"TapeBench$Player", "makeNext", "(LTapeBench$Layer;LTapeBench$Tape;)V"⟩ : MethodName) (⟨"TapeBench$Player", "makeNext", "(LTapeBench$Layer;LTapeBench$Tape;)V"⟩ : MethodName)) ∈ tz_TT := tz_mem 3 (by decide +kernel)
theorem tw_4 : (Cond.selects "TapeBench$Player" (⟨"TapeBench$Player", "gain", "(I)V"⟩ : MethodName) (⟨"TapeBench$Player", "gain", "(I)V"⟩ : MethodName)) ∈ tz_TT := tz_mem 4 (by decide +kernel)
theorem tw_5 : (Cond.selects "TapeBench$Player" (⟨"TapeBench$Player", "mend", "(I)V"⟩ : MethodName) (⟨"TapeBench$Player", "mend", "(I)V"⟩ : MethodName)) ∈ tz_TT := tz_mem 5 (by decide +kernel)
theorem tw_6 : (Cond.selects "TapeBench$Player" (⟨"TapeBench$Player", "fill", "(LTapeBench$Row;I)V"⟩ : MethodName) (⟨"TapeBench$Player", "fill", "(LTapeBench$Row;I)V"⟩ : MethodName)) ∈ tz_TT := tz_mem 6 (by decide +kernel)
theorem tw_7 : (Cond.selects "TapeBench$Player" (⟨"TapeBench$Player", "bridge", "(I)V"⟩ : MethodName) (⟨"TapeBench$Player", "bridge", "(I)V"⟩ : MethodName)) ∈ tz_TT := tz_mem 7 (by decide +kernel)
theorem tw_8 : (Cond.selects "TapeBench$Player" (⟨"TapeBench$Player", "span", "(II)V"⟩ : MethodName) (⟨"TapeBench$Player", "span", "(II)V"⟩ : MethodName)) ∈ tz_TT := tz_mem 8 (by decide +kernel)
theorem tw_9 : (Cond.selects "TapeBench$Player" (⟨"TapeBench$Player", "warp", "(I)V"⟩ : MethodName) (⟨"TapeBench$Player", "warp", "(I)V"⟩ : MethodName)) ∈ tz_TT := tz_mem 9 (by decide +kernel)
theorem tw_10 : (Cond.selects "TapeBench$Player" (⟨"TapeBench$Player", "sampleAtTime", "(II)I"⟩ : MethodName) (⟨"TapeBench$Player", "sampleAtTime", "(II)I"⟩ : MethodName)) ∈ tz_TT := tz_mem 10 (by decide +kernel)
theorem tw_11 : (Cond.selects "TapeBench$Player" (⟨"TapeBench$Player", "followWarp", "(II)V"⟩ : MethodName) (⟨"TapeBench$Player", "followWarp", "(II)V"⟩ : MethodName)) ∈ tz_TT := tz_mem 11 (by decide +kernel)
theorem tw_12 : (Cond.selects "TapeBench$Player" (⟨"TapeBench$Player", "cut", "(II)V"⟩ : MethodName) (⟨"TapeBench$Player", "cut", "(II)V"⟩ : MethodName)) ∈ tz_TT := tz_mem 12 (by decide +kernel)
theorem tw_13 : (Cond.selects "TapeBench$Player" (⟨"TapeBench$Player", "fade", "(I)V"⟩ : MethodName) (⟨"TapeBench$Player", "fade", "(I)V"⟩ : MethodName)) ∈ tz_TT := tz_mem 13 (by decide +kernel)
theorem tw_14 : (Cond.selects "TapeBenchModel" (⟨"TapeBenchModel", "finding", "(I)I"⟩ : MethodName) (⟨"TapeBenchModel", "finding", "(I)I"⟩ : MethodName)) ∈ tz_TT := tz_mem 14 (by decide +kernel)
theorem tw_15 : (Cond.selects "TapeBenchModel" (⟨"TapeBenchModel", "keep", "()V"⟩ : MethodName) (⟨"TapeBenchModel", "keep", "()V"⟩ : MethodName)) ∈ tz_TT := tz_mem 15 (by decide +kernel)
theorem tw_16 : (Cond.selects "TapeBenchModel" (⟨"TapeBenchModel", "isSample", "(II)Z"⟩ : MethodName) (⟨"TapeBenchModel", "isSample", "(II)Z"⟩ : MethodName)) ∈ tz_TT := tz_mem 16 (by decide +kernel)
theorem tw_17 : (Cond.selects "TapeBenchModel" (⟨"TapeBenchModel", "at", "(II)I"⟩ : MethodName) (⟨"TapeBenchModel", "at", "(II)I"⟩ : MethodName)) ∈ tz_TT := tz_mem 17 (by decide +kernel)
theorem tw_18 : (Cond.selects "TapeBenchModel" (⟨"TapeBenchModel", "takePass", "(I)V"⟩ : MethodName) (⟨"TapeBenchModel", "takePass", "(I)V"⟩ : MethodName)) ∈ tz_TT := tz_mem 18 (by decide +kernel)
theorem tw_19 : (Cond.selects "TapeBenchModel" (⟨"TapeBenchModel", "lostMany", "()I"⟩ : MethodName) (⟨"TapeBenchModel", "lostMany", "()I"⟩ : MethodName)) ∈ tz_TT := tz_mem 19 (by decide +kernel)
theorem tw_20 : (Cond.selects "TapeBenchModel" (⟨"TapeBenchModel", "turns", "()I"⟩ : MethodName) (⟨"TapeBenchModel", "turns", "()I"⟩ : MethodName)) ∈ tz_TT := tz_mem 20 (by decide +kernel)
theorem tw_21 : (Cond.selects "TapeBenchModel" (⟨"TapeBenchModel", "isTurn", "(I)Z"⟩ : MethodName) (⟨"TapeBenchModel", "isTurn", "(I)Z"⟩ : MethodName)) ∈ tz_TT := tz_mem 21 (by decide +kernel)
theorem tw_22 : (Cond.selects "TapeBenchModel" (⟨"TapeBenchModel", "isClick", "(II)Z"⟩ : MethodName) (⟨"TapeBenchModel", "isClick", "(II)Z"⟩ : MethodName)) ∈ tz_TT := tz_mem 22 (by decide +kernel)
theorem tw_23 : (Cond.selects "TapeBenchModel" (⟨"TapeBenchModel", "turnAt", "(I)I"⟩ : MethodName) (⟨"TapeBenchModel", "turnAt", "(I)I"⟩ : MethodName)) ∈ tz_TT := tz_mem 23 (by decide +kernel)
theorem tw_24 : (Cond.selects "TapeBenchModel" (⟨"TapeBenchModel", "laysDown", "(I)V"⟩ : MethodName) (⟨"TapeBenchModel", "laysDown", "(I)V"⟩ : MethodName)) ∈ tz_TT := tz_mem 24 (by decide +kernel)
theorem tw_25 : (Cond.selects "TapeBenchModel" (⟨"TapeBenchModel", "setLayer", "(IIIII)V"⟩ : MethodName) (⟨"TapeBenchModel", "setLayer", "(IIIII)V"⟩ : MethodName)) ∈ tz_TT := tz_mem 25 (by decide +kernel)
theorem tw_26 : (Cond.selects "TapeBenchModel" (⟨"TapeBenchModel", "isLayer", "(I)Z"⟩ : MethodName) (⟨"TapeBenchModel", "isLayer", "(I)Z"⟩ : MethodName)) ∈ tz_TT := tz_mem 26 (by decide +kernel)
theorem tw_27 : (Cond.selects "TapeBenchModel" (⟨"TapeBenchModel", "copyLayer", "(II)V"⟩ : MethodName) (⟨"TapeBenchModel", "copyLayer", "(II)V"⟩ : MethodName)) ∈ tz_TT := tz_mem 27 (by decide +kernel)
theorem tw_28 : (Cond.selects "TapeBenchModel" (⟨"TapeBenchModel", "output", "(I)V"⟩ : MethodName) (⟨"TapeBenchModel", "output", "(I)V"⟩ : MethodName)) ∈ tz_TT := tz_mem 28 (by decide +kernel)
theorem tw_29 : (Cond.selects "TapeBenchModel" (⟨"TapeBenchModel", "work", "(I)V"⟩ : MethodName) (⟨"TapeBenchModel", "work", "(I)V"⟩ : MethodName)) ∈ tz_TT := tz_mem 29 (by decide +kernel)
theorem tw_30 : (Cond.selects "TapeBenchModel" (⟨"TapeBenchModel", "gain", "(I)V"⟩ : MethodName) (⟨"TapeBenchModel", "gain", "(I)V"⟩ : MethodName)) ∈ tz_TT := tz_mem 30 (by decide +kernel)
theorem tw_31 : (Cond.selects "TapeBenchModel" (⟨"TapeBenchModel", "mend", "(I)V"⟩ : MethodName) (⟨"TapeBenchModel", "mend", "(I)V"⟩ : MethodName)) ∈ tz_TT := tz_mem 31 (by decide +kernel)
theorem tw_32 : (Cond.selects "TapeBenchModel" (⟨"TapeBenchModel", "takeMade", "()V"⟩ : MethodName) (⟨"TapeBenchModel", "takeMade", "()V"⟩ : MethodName)) ∈ tz_TT := tz_mem 32 (by decide +kernel)
theorem tw_33 : (Cond.selects "TapeBenchModel" (⟨"TapeBenchModel", "fill", "(II)V"⟩ : MethodName) (⟨"TapeBenchModel", "fill", "(II)V"⟩ : MethodName)) ∈ tz_TT := tz_mem 33 (by decide +kernel)
theorem tw_34 : (Cond.selects "TapeBenchModel" (⟨"TapeBenchModel", "aligned", "(II)I"⟩ : MethodName) (⟨"TapeBenchModel", "aligned", "(II)I"⟩ : MethodName)) ∈ tz_TT := tz_mem 34 (by decide +kernel)
theorem tw_35 : (Cond.selects "TapeBenchModel" (⟨"TapeBenchModel", "differs", "(II)I"⟩ : MethodName) (⟨"TapeBenchModel", "differs", "(II)I"⟩ : MethodName)) ∈ tz_TT := tz_mem 35 (by decide +kernel)
theorem tw_36 : (Cond.selects "TapeBenchModel" (⟨"TapeBenchModel", "bridge", "(I)V"⟩ : MethodName) (⟨"TapeBenchModel", "bridge", "(I)V"⟩ : MethodName)) ∈ tz_TT := tz_mem 36 (by decide +kernel)
theorem tw_37 : (Cond.selects "TapeBenchModel" (⟨"TapeBenchModel", "warp", "(I)V"⟩ : MethodName) (⟨"TapeBenchModel", "warp", "(I)V"⟩ : MethodName)) ∈ tz_TT := tz_mem 37 (by decide +kernel)
theorem tw_38 : (Cond.selects "TapeBenchModel" (⟨"TapeBenchModel", "cut", "(II)V"⟩ : MethodName) (⟨"TapeBenchModel", "cut", "(II)V"⟩ : MethodName)) ∈ tz_TT := tz_mem 38 (by decide +kernel)
theorem tw_39 : (Cond.selects "TapeBenchModel" (⟨"TapeBenchModel", "fade", "(I)V"⟩ : MethodName) (⟨"TapeBenchModel", "fade", "(I)V"⟩ : MethodName)) ∈ tz_TT := tz_mem 39 (by decide +kernel)
theorem tw_40 : (Cond.selects "TapeBenchModel" (⟨"TapeBenchModel", "warped", "(II)I"⟩ : MethodName) (⟨"TapeBenchModel", "warped", "(II)I"⟩ : MethodName)) ∈ tz_TT := tz_mem 40 (by decide +kernel)
theorem tw_41 : (Cond.initialized "TapeBenchLaw") ∈ tz_TT := tz_mem 41 (by decide +kernel)
theorem tw_42 : (Cond.initialized "TapeBench") ∈ tz_TT := tz_mem 42 (by decide +kernel)
theorem tw_43 : (Cond.initialized "TapeBench$Tape") ∈ tz_TT := tz_mem 43 (by decide +kernel)
theorem tw_44 : (Cond.initialized "TapeBench$Layers") ∈ tz_TT := tz_mem 44 (by decide +kernel)
theorem tw_45 : (Cond.initialized "TapeBench$Row") ∈ tz_TT := tz_mem 45 (by decide +kernel)
theorem tw_46 : (Cond.initialized "java/util/Arrays") ∈ tz_TT := tz_mem 46 (by decide +kernel)
theorem tw_47 : (Cond.initialized "TapeBench$History") ∈ tz_TT := tz_mem 47 (by decide +kernel)
theorem tw_48 : (Cond.initialized "TapeBench$Step") ∈ tz_TT := tz_mem 48 (by decide +kernel)
theorem tw_49 : (Cond.initialized "TapeBench$Sheet") ∈ tz_TT := tz_mem 49 (by decide +kernel)
theorem tw_50 : (Cond.initialized "TapeBench$Turns") ∈ tz_TT := tz_mem 50 (by decide +kernel)
theorem tw_51 : (Cond.initialized "TapeBench$Aligner") ∈ tz_TT := tz_mem 51 (by decide +kernel)
theorem tw_52 : (Cond.initialized "TapeBench$Player") ∈ tz_TT := tz_mem 52 (by decide +kernel)
theorem tw_53 : (Cond.initialized "TapeBenchModel") ∈ tz_TT := tz_mem 53 (by decide +kernel)
theorem tw_54 : (Cond.initialized "java/lang/System") ∈ tz_TT := tz_mem 54 (by decide +kernel)
theorem tw_55 : (Cond.initialized "java/lang/Math") ∈ tz_TT := tz_mem 55 (by decide +kernel)
theorem tw_56 : (Cond.initialized "TapeBench$Layer") ∈ tz_TT := tz_mem 56 (by decide +kernel)
theorem tw_57 : (Cond.classLink "TapeBenchLaw" (7 : Nat) "TapeBench") ∈ tz_TT := tz_mem 57 (by decide +kernel)
theorem tw_58 : (Cond.instantiable "TapeBench" (8 : Nat)) ∈ tz_TT := tz_mem 58 (by decide +kernel)
theorem tw_59 : (Cond.methodLink "TapeBenchLaw" (9 : Nat) (⟨"TapeBench", "<init>", "()V"⟩ : MethodName)) ∈ tz_TT := tz_mem 59 (by decide +kernel)
theorem tw_60 : (Cond.instanceMethod (⟨"TapeBench", "<init>", "()V"⟩ : MethodName)) ∈ tz_TT := tz_mem 60 (by decide +kernel)
theorem tw_61 : (Cond.code (⟨"TapeBench", "<init>", "()V"⟩ : MethodName) prog_1_method_1_code (2 : Nat) (Option.none : Option FieldType)) ∈ tz_TT := tz_mem 61 (by decide +kernel)
theorem tw_62 : (Cond.methodLink "TapeBench" (1 : Nat) (⟨"java/lang/Object", "<init>", "()V"⟩ : MethodName)) ∈ tz_TT := tz_mem 62 (by decide +kernel)
theorem tw_63 : (Cond.instanceMethod (⟨"java/lang/Object", "<init>", "()V"⟩ : MethodName)) ∈ tz_TT := tz_mem 63 (by decide +kernel)
theorem tw_64 : (Cond.code (⟨"java/lang/Object", "<init>", "()V"⟩ : MethodName) object_method_1_code (1 : Nat) (Option.none : Option FieldType)) ∈ tz_TT := tz_mem 64 (by decide +kernel)
theorem tw_65 : (Cond.classLink "TapeBench" (7 : Nat) "TapeBench$Tape") ∈ tz_TT := tz_mem 65 (by decide +kernel)
theorem tw_66 : (Cond.instantiable "TapeBench$Tape" (4 : Nat)) ∈ tz_TT := tz_mem 66 (by decide +kernel)
theorem tw_67 : (Cond.methodLink "TapeBench" (9 : Nat) (⟨"TapeBench$Tape", "<init>", "()V"⟩ : MethodName)) ∈ tz_TT := tz_mem 67 (by decide +kernel)
theorem tw_68 : (Cond.instanceMethod (⟨"TapeBench$Tape", "<init>", "()V"⟩ : MethodName)) ∈ tz_TT := tz_mem 68 (by decide +kernel)
theorem tw_69 : (Cond.code (⟨"TapeBench$Tape", "<init>", "()V"⟩ : MethodName) prog_10_method_1_code (2 : Nat) (Option.none : Option FieldType)) ∈ tz_TT := tz_mem 69 (by decide +kernel)
theorem tw_70 : (Cond.methodLink "TapeBench$Tape" (3 : Nat) (⟨"java/lang/Object", "<init>", "()V"⟩ : MethodName)) ∈ tz_TT := tz_mem 70 (by decide +kernel)
theorem tw_71 : (Cond.classLink "TapeBench$Tape" (9 : Nat) "TapeBench$Row") ∈ tz_TT := tz_mem 71 (by decide +kernel)
theorem tw_72 : (Cond.arrayOver (FieldType.object "TapeBench$Row")) ∈ lw_tbl := tz_memL 72 (by decide +kernel)
theorem tw_73 : (Cond.classLink "TapeBench$Tape" (17 : Nat) "TapeBench$Layers") ∈ tz_TT := tz_mem 73 (by decide +kernel)
theorem tw_74 : (Cond.instantiable "TapeBench$Layers" (2 : Nat)) ∈ tz_TT := tz_mem 74 (by decide +kernel)
theorem tw_75 : (Cond.methodLinkNest "TapeBench$Tape" (19 : Nat) (⟨"TapeBench$Layers", "<init>", "()V"⟩ : MethodName) "TapeBench") ∈ lw_tbl := tz_memL 75 (by decide +kernel)
theorem tw_76 : (Cond.instanceMethod (⟨"TapeBench$Layers", "<init>", "()V"⟩ : MethodName)) ∈ tz_TT := tz_mem 76 (by decide +kernel)
theorem tw_77 : (Cond.code (⟨"TapeBench$Layers", "<init>", "()V"⟩ : MethodName) prog_5_method_1_code (1 : Nat) (Option.none : Option FieldType)) ∈ tz_TT := tz_mem 77 (by decide +kernel)
theorem tw_78 : (Cond.methodLink "TapeBench$Layers" (3 : Nat) (⟨"java/lang/Object", "<init>", "()V"⟩ : MethodName)) ∈ tz_TT := tz_mem 78 (by decide +kernel)
theorem tw_79 : (Cond.classLink "TapeBench$Layers" (9 : Nat) "TapeBench$Layer") ∈ tz_TT := tz_mem 79 (by decide +kernel)
theorem tw_80 : (Cond.arrayOver (FieldType.object "TapeBench$Layer")) ∈ lw_tbl := tz_memL 80 (by decide +kernel)
theorem tw_81 : (Cond.fieldLink "TapeBench$Layers" (11 : Nat) "TapeBench$Layers" "order" "[LTapeBench$Layer;") ∈ tz_TT := tz_mem 81 (by decide +kernel)
theorem tw_82 : (Cond.fieldLink "TapeBench$Layers" (17 : Nat) "TapeBench$Layers" "laid" "I") ∈ tz_TT := tz_mem 82 (by decide +kernel)
theorem tw_83 : (Cond.laysFinal "TapeBench$Layers" "TapeBench$Layers" "order" "[LTapeBench$Layer;") ∈ tz_TT := tz_mem 83 (by decide +kernel)
theorem tw_84 : (Cond.soleField "TapeBench$Layers" "order") ∈ tz_TT := tz_mem 84 (by decide +kernel)
theorem tw_85 : (Cond.lays "TapeBench$Layers" "TapeBench$Layers" "laid" "I") ∈ tz_TT := tz_mem 85 (by decide +kernel)
theorem tw_86 : (Cond.soleField "TapeBench$Layers" "laid") ∈ tz_TT := tz_mem 86 (by decide +kernel)
theorem tw_87 : (Cond.superclass "TapeBench$Layers" "java/lang/Object") ∈ tz_TT := tz_mem 87 (by decide +kernel)
theorem tw_88 : (Cond.instantiable "TapeBench$Row" (2 : Nat)) ∈ tz_TT := tz_mem 88 (by decide +kernel)
theorem tw_89 : (Cond.methodLinkNest "TapeBench$Tape" (31 : Nat) (⟨"TapeBench$Row", "<init>", "()V"⟩ : MethodName) "TapeBench") ∈ lw_tbl := tz_memL 89 (by decide +kernel)
theorem tw_90 : (Cond.instanceMethod (⟨"TapeBench$Row", "<init>", "()V"⟩ : MethodName)) ∈ tz_TT := tz_mem 90 (by decide +kernel)
theorem tw_91 : (Cond.code (⟨"TapeBench$Row", "<init>", "()V"⟩ : MethodName) prog_7_method_1_code (1 : Nat) (Option.none : Option FieldType)) ∈ tz_TT := tz_mem 91 (by decide +kernel)
theorem tw_92 : (Cond.methodLink "TapeBench$Row" (3 : Nat) (⟨"java/lang/Object", "<init>", "()V"⟩ : MethodName)) ∈ tz_TT := tz_mem 92 (by decide +kernel)
theorem tw_93 : (Cond.fieldLink "TapeBench$Row" (9 : Nat) "TapeBench$Row" "samples" "[I") ∈ tz_TT := tz_mem 93 (by decide +kernel)
theorem tw_94 : (Cond.fieldLink "TapeBench$Row" (15 : Nat) "TapeBench$Row" "length" "I") ∈ tz_TT := tz_mem 94 (by decide +kernel)
theorem tw_95 : (Cond.laysFinal "TapeBench$Row" "TapeBench$Row" "samples" "[I") ∈ tz_TT := tz_mem 95 (by decide +kernel)
theorem tw_96 : (Cond.soleField "TapeBench$Row" "samples") ∈ tz_TT := tz_mem 96 (by decide +kernel)
theorem tw_97 : (Cond.lays "TapeBench$Row" "TapeBench$Row" "length" "I") ∈ tz_TT := tz_mem 97 (by decide +kernel)
theorem tw_98 : (Cond.soleField "TapeBench$Row" "length") ∈ tz_TT := tz_mem 98 (by decide +kernel)
theorem tw_99 : (Cond.superclass "TapeBench$Row" "java/lang/Object") ∈ tz_TT := tz_mem 99 (by decide +kernel)
theorem tw_100 : (Cond.arrayClass FieldType.int) ∈ tz_TT := tz_mem 100 (by decide +kernel)
theorem tw_101 : (Cond.methodLink "TapeBench$Tape" (32 : Nat) (⟨"java/util/Arrays", "fill", "([II)V"⟩ : MethodName)) ∈ tz_TT := tz_mem 101 (by decide +kernel)
theorem tw_102 : (Cond.static (⟨"java/util/Arrays", "fill", "([II)V"⟩ : MethodName)) ∈ tz_TT := tz_mem 102 (by decide +kernel)
theorem tw_103 : (Cond.code (⟨"java/util/Arrays", "fill", "([II)V"⟩ : MethodName) prog_16_method_103_code (4 : Nat) (Option.none : Option FieldType)) ∈ tz_TT := tz_mem 103 (by decide +kernel)
theorem tw_104 : (Cond.fieldLink "TapeBench$Tape" (11 : Nat) "TapeBench$Tape" "rows" "[LTapeBench$Row;") ∈ tz_TT := tz_mem 104 (by decide +kernel)
theorem tw_105 : (Cond.fieldLink "TapeBench$Tape" (20 : Nat) "TapeBench$Tape" "layers" "LTapeBench$Layers;") ∈ tz_TT := tz_mem 105 (by decide +kernel)
theorem tw_106 : (Cond.fieldLink "TapeBench$Step" (46 : Nat) "TapeBench$Tape" "layers" "LTapeBench$Layers;") ∈ tz_TT := tz_mem 106 (by decide +kernel)
theorem tw_107 : (Cond.fieldLink "TapeBench$Player" (43 : Nat) "TapeBench$Tape" "layers" "LTapeBench$Layers;") ∈ tz_TT := tz_mem 107 (by decide +kernel)
theorem tw_108 : (Cond.fieldLink "TapeBench" (158 : Nat) "TapeBench$Tape" "layers" "LTapeBench$Layers;") ∈ tz_TT := tz_mem 108 (by decide +kernel)
theorem tw_109 : (Cond.fieldLink "TapeBench$Tape" (24 : Nat) "TapeBench$Tape" "markPasses" "[I") ∈ tz_TT := tz_mem 109 (by decide +kernel)
theorem tw_110 : (Cond.fieldLink "TapeBench$Step" (50 : Nat) "TapeBench$Tape" "markPasses" "[I") ∈ tz_TT := tz_mem 110 (by decide +kernel)
theorem tw_111 : (Cond.fieldLink "TapeBench" (248 : Nat) "TapeBench$Tape" "markPasses" "[I") ∈ tz_TT := tz_mem 111 (by decide +kernel)
theorem tw_112 : (Cond.fieldLink "TapeBench$Tape" (28 : Nat) "TapeBench$Tape" "markPlaces" "[I") ∈ tz_TT := tz_mem 112 (by decide +kernel)
theorem tw_113 : (Cond.fieldLink "TapeBench$Step" (57 : Nat) "TapeBench$Tape" "markPlaces" "[I") ∈ tz_TT := tz_mem 113 (by decide +kernel)
theorem tw_114 : (Cond.fieldLink "TapeBench" (252 : Nat) "TapeBench$Tape" "markPlaces" "[I") ∈ tz_TT := tz_mem 114 (by decide +kernel)
theorem tw_115 : (Cond.laysFinal "TapeBench$Tape" "TapeBench$Tape" "rows" "[LTapeBench$Row;") ∈ tz_TT := tz_mem 115 (by decide +kernel)
theorem tw_116 : (Cond.soleField "TapeBench$Tape" "rows") ∈ tz_TT := tz_mem 116 (by decide +kernel)
theorem tw_117 : (Cond.laysFinal "TapeBench$Tape" "TapeBench$Tape" "layers" "LTapeBench$Layers;") ∈ tz_TT := tz_mem 117 (by decide +kernel)
theorem tw_118 : (Cond.soleField "TapeBench$Tape" "layers") ∈ tz_TT := tz_mem 118 (by decide +kernel)
theorem tw_119 : (Cond.laysFinal "TapeBench$Tape" "TapeBench$Tape" "markPasses" "[I") ∈ tz_TT := tz_mem 119 (by decide +kernel)
theorem tw_120 : (Cond.soleField "TapeBench$Tape" "markPasses") ∈ tz_TT := tz_mem 120 (by decide +kernel)
theorem tw_121 : (Cond.laysFinal "TapeBench$Tape" "TapeBench$Tape" "markPlaces" "[I") ∈ tz_TT := tz_mem 121 (by decide +kernel)
theorem tw_122 : (Cond.soleField "TapeBench$Tape" "markPlaces") ∈ tz_TT := tz_mem 122 (by decide +kernel)
theorem tw_123 : (Cond.superclass "TapeBench$Tape" "java/lang/Object") ∈ tz_TT := tz_mem 123 (by decide +kernel)
theorem tw_124 : (Cond.classLink "TapeBench" (16 : Nat) "TapeBench$History") ∈ tz_TT := tz_mem 124 (by decide +kernel)
theorem tw_125 : (Cond.instantiable "TapeBench$History" (3 : Nat)) ∈ tz_TT := tz_mem 125 (by decide +kernel)
theorem tw_126 : (Cond.methodLink "TapeBench" (18 : Nat) (⟨"TapeBench$History", "<init>", "()V"⟩ : MethodName)) ∈ tz_TT := tz_mem 126 (by decide +kernel)
theorem tw_127 : (Cond.instanceMethod (⟨"TapeBench$History", "<init>", "()V"⟩ : MethodName)) ∈ tz_TT := tz_mem 127 (by decide +kernel)
theorem tw_128 : (Cond.code (⟨"TapeBench$History", "<init>", "()V"⟩ : MethodName) prog_3_method_1_code (2 : Nat) (Option.none : Option FieldType)) ∈ tz_TT := tz_mem 128 (by decide +kernel)
theorem tw_129 : (Cond.methodLink "TapeBench$History" (3 : Nat) (⟨"java/lang/Object", "<init>", "()V"⟩ : MethodName)) ∈ tz_TT := tz_mem 129 (by decide +kernel)
theorem tw_130 : (Cond.classLink "TapeBench$History" (9 : Nat) "TapeBench$Step") ∈ tz_TT := tz_mem 130 (by decide +kernel)
theorem tw_131 : (Cond.arrayOver (FieldType.object "TapeBench$Step")) ∈ lw_tbl := tz_memL 131 (by decide +kernel)
theorem tw_132 : (Cond.instantiable "TapeBench$Step" (5 : Nat)) ∈ tz_TT := tz_mem 132 (by decide +kernel)
theorem tw_133 : (Cond.methodLinkNest "TapeBench$History" (24 : Nat) (⟨"TapeBench$Step", "<init>", "()V"⟩ : MethodName) "TapeBench") ∈ lw_tbl := tz_memL 133 (by decide +kernel)
theorem tw_134 : (Cond.instanceMethod (⟨"TapeBench$Step", "<init>", "()V"⟩ : MethodName)) ∈ tz_TT := tz_mem 134 (by decide +kernel)
theorem tw_135 : (Cond.code (⟨"TapeBench$Step", "<init>", "()V"⟩ : MethodName) prog_9_method_1_code (1 : Nat) (Option.none : Option FieldType)) ∈ tz_TT := tz_mem 135 (by decide +kernel)
theorem tw_136 : (Cond.methodLink "TapeBench$Step" (3 : Nat) (⟨"java/lang/Object", "<init>", "()V"⟩ : MethodName)) ∈ tz_TT := tz_mem 136 (by decide +kernel)
theorem tw_137 : (Cond.classLink "TapeBench$Step" (9 : Nat) "TapeBench$Row") ∈ tz_TT := tz_mem 137 (by decide +kernel)
theorem tw_138 : (Cond.methodLinkNest "TapeBench$Step" (11 : Nat) (⟨"TapeBench$Row", "<init>", "()V"⟩ : MethodName) "TapeBench") ∈ lw_tbl := tz_memL 138 (by decide +kernel)
theorem tw_139 : (Cond.classLink "TapeBench$Step" (18 : Nat) "TapeBench$Layers") ∈ tz_TT := tz_mem 139 (by decide +kernel)
theorem tw_140 : (Cond.methodLinkNest "TapeBench$Step" (20 : Nat) (⟨"TapeBench$Layers", "<init>", "()V"⟩ : MethodName) "TapeBench") ∈ lw_tbl := tz_memL 140 (by decide +kernel)
theorem tw_141 : (Cond.fieldLink "TapeBench$Step" (12 : Nat) "TapeBench$Step" "row" "LTapeBench$Row;") ∈ tz_TT := tz_mem 141 (by decide +kernel)
theorem tw_142 : (Cond.fieldLink "TapeBench$Step" (21 : Nat) "TapeBench$Step" "layers" "LTapeBench$Layers;") ∈ tz_TT := tz_mem 142 (by decide +kernel)
theorem tw_143 : (Cond.fieldLink "TapeBench$Step" (25 : Nat) "TapeBench$Step" "markPasses" "[I") ∈ tz_TT := tz_mem 143 (by decide +kernel)
theorem tw_144 : (Cond.fieldLink "TapeBench$Step" (29 : Nat) "TapeBench$Step" "markPlaces" "[I") ∈ tz_TT := tz_mem 144 (by decide +kernel)
theorem tw_145 : (Cond.fieldLink "TapeBench$Step" (32 : Nat) "TapeBench$Step" "p" "I") ∈ tz_TT := tz_mem 145 (by decide +kernel)
theorem tw_146 : (Cond.laysFinal "TapeBench$Step" "TapeBench$Step" "row" "LTapeBench$Row;") ∈ tz_TT := tz_mem 146 (by decide +kernel)
theorem tw_147 : (Cond.soleField "TapeBench$Step" "row") ∈ tz_TT := tz_mem 147 (by decide +kernel)
theorem tw_148 : (Cond.laysFinal "TapeBench$Step" "TapeBench$Step" "layers" "LTapeBench$Layers;") ∈ tz_TT := tz_mem 148 (by decide +kernel)
theorem tw_149 : (Cond.soleField "TapeBench$Step" "layers") ∈ tz_TT := tz_mem 149 (by decide +kernel)
theorem tw_150 : (Cond.laysFinal "TapeBench$Step" "TapeBench$Step" "markPasses" "[I") ∈ tz_TT := tz_mem 150 (by decide +kernel)
theorem tw_151 : (Cond.soleField "TapeBench$Step" "markPasses") ∈ tz_TT := tz_mem 151 (by decide +kernel)
theorem tw_152 : (Cond.laysFinal "TapeBench$Step" "TapeBench$Step" "markPlaces" "[I") ∈ tz_TT := tz_mem 152 (by decide +kernel)
theorem tw_153 : (Cond.soleField "TapeBench$Step" "markPlaces") ∈ tz_TT := tz_mem 153 (by decide +kernel)
theorem tw_154 : (Cond.lays "TapeBench$Step" "TapeBench$Step" "p" "I") ∈ tz_TT := tz_mem 154 (by decide +kernel)
theorem tw_155 : (Cond.soleField "TapeBench$Step" "p") ∈ tz_TT := tz_mem 155 (by decide +kernel)
theorem tw_156 : (Cond.superclass "TapeBench$Step" "java/lang/Object") ∈ tz_TT := tz_mem 156 (by decide +kernel)
theorem tw_157 : (Cond.fieldLink "TapeBench$History" (11 : Nat) "TapeBench$History" "steps" "[LTapeBench$Step;") ∈ tz_TT := tz_mem 157 (by decide +kernel)
theorem tw_158 : (Cond.fieldLink "TapeBench$History" (17 : Nat) "TapeBench$History" "next" "I") ∈ tz_TT := tz_mem 158 (by decide +kernel)
theorem tw_159 : (Cond.fieldLink "TapeBench$History" (21 : Nat) "TapeBench$History" "kept" "I") ∈ tz_TT := tz_mem 159 (by decide +kernel)
theorem tw_160 : (Cond.laysFinal "TapeBench$History" "TapeBench$History" "steps" "[LTapeBench$Step;") ∈ tz_TT := tz_mem 160 (by decide +kernel)
theorem tw_161 : (Cond.soleField "TapeBench$History" "steps") ∈ tz_TT := tz_mem 161 (by decide +kernel)
theorem tw_162 : (Cond.lays "TapeBench$History" "TapeBench$History" "next" "I") ∈ tz_TT := tz_mem 162 (by decide +kernel)
theorem tw_163 : (Cond.soleField "TapeBench$History" "next") ∈ tz_TT := tz_mem 163 (by decide +kernel)
theorem tw_164 : (Cond.lays "TapeBench$History" "TapeBench$History" "kept" "I") ∈ tz_TT := tz_mem 164 (by decide +kernel)
theorem tw_165 : (Cond.soleField "TapeBench$History" "kept") ∈ tz_TT := tz_mem 165 (by decide +kernel)
theorem tw_166 : (Cond.superclass "TapeBench$History" "java/lang/Object") ∈ tz_TT := tz_mem 166 (by decide +kernel)
theorem tw_167 : (Cond.classLink "TapeBench" (23 : Nat) "TapeBench$Sheet") ∈ tz_TT := tz_mem 167 (by decide +kernel)
theorem tw_168 : (Cond.arrayOver (FieldType.object "TapeBench$Sheet")) ∈ lw_tbl := tz_memL 168 (by decide +kernel)
theorem tw_169 : (Cond.instantiable "TapeBench$Sheet" (3 : Nat)) ∈ tz_TT := tz_mem 169 (by decide +kernel)
theorem tw_170 : (Cond.methodLinkNest "TapeBench" (29 : Nat) (⟨"TapeBench$Sheet", "<init>", "()V"⟩ : MethodName) "TapeBench") ∈ lw_tbl := tz_memL 170 (by decide +kernel)
theorem tw_171 : (Cond.instanceMethod (⟨"TapeBench$Sheet", "<init>", "()V"⟩ : MethodName)) ∈ tz_TT := tz_mem 171 (by decide +kernel)
theorem tw_172 : (Cond.code (⟨"TapeBench$Sheet", "<init>", "()V"⟩ : MethodName) prog_8_method_1_code (1 : Nat) (Option.none : Option FieldType)) ∈ tz_TT := tz_mem 172 (by decide +kernel)
theorem tw_173 : (Cond.methodLink "TapeBench$Sheet" (3 : Nat) (⟨"java/lang/Object", "<init>", "()V"⟩ : MethodName)) ∈ tz_TT := tz_mem 173 (by decide +kernel)
theorem tw_174 : (Cond.fieldLink "TapeBench$Sheet" (9 : Nat) "TapeBench$Sheet" "numbers" "[I") ∈ tz_TT := tz_mem 174 (by decide +kernel)
theorem tw_175 : (Cond.fieldLink "TapeBench$Sheet" (15 : Nat) "TapeBench$Sheet" "bits" "I") ∈ tz_TT := tz_mem 175 (by decide +kernel)
theorem tw_176 : (Cond.fieldLink "TapeBench$Sheet" (19 : Nat) "TapeBench$Sheet" "length" "I") ∈ tz_TT := tz_mem 176 (by decide +kernel)
theorem tw_177 : (Cond.laysFinal "TapeBench$Sheet" "TapeBench$Sheet" "numbers" "[I") ∈ tz_TT := tz_mem 177 (by decide +kernel)
theorem tw_178 : (Cond.soleField "TapeBench$Sheet" "numbers") ∈ tz_TT := tz_mem 178 (by decide +kernel)
theorem tw_179 : (Cond.lays "TapeBench$Sheet" "TapeBench$Sheet" "bits" "I") ∈ tz_TT := tz_mem 179 (by decide +kernel)
theorem tw_180 : (Cond.soleField "TapeBench$Sheet" "bits") ∈ tz_TT := tz_mem 180 (by decide +kernel)
theorem tw_181 : (Cond.lays "TapeBench$Sheet" "TapeBench$Sheet" "length" "I") ∈ tz_TT := tz_mem 181 (by decide +kernel)
theorem tw_182 : (Cond.soleField "TapeBench$Sheet" "length") ∈ tz_TT := tz_mem 182 (by decide +kernel)
theorem tw_183 : (Cond.superclass "TapeBench$Sheet" "java/lang/Object") ∈ tz_TT := tz_mem 183 (by decide +kernel)
theorem tw_184 : (Cond.classLink "TapeBench" (30 : Nat) "TapeBench$Turns") ∈ tz_TT := tz_mem 184 (by decide +kernel)
theorem tw_185 : (Cond.instantiable "TapeBench$Turns" (2 : Nat)) ∈ tz_TT := tz_mem 185 (by decide +kernel)
theorem tw_186 : (Cond.methodLinkNest "TapeBench" (32 : Nat) (⟨"TapeBench$Turns", "<init>", "()V"⟩ : MethodName) "TapeBench") ∈ lw_tbl := tz_memL 186 (by decide +kernel)
theorem tw_187 : (Cond.instanceMethod (⟨"TapeBench$Turns", "<init>", "()V"⟩ : MethodName)) ∈ tz_TT := tz_mem 187 (by decide +kernel)
theorem tw_188 : (Cond.code (⟨"TapeBench$Turns", "<init>", "()V"⟩ : MethodName) prog_11_method_1_code (1 : Nat) (Option.none : Option FieldType)) ∈ tz_TT := tz_mem 188 (by decide +kernel)
theorem tw_189 : (Cond.methodLink "TapeBench$Turns" (3 : Nat) (⟨"java/lang/Object", "<init>", "()V"⟩ : MethodName)) ∈ tz_TT := tz_mem 189 (by decide +kernel)
theorem tw_190 : (Cond.fieldLink "TapeBench$Turns" (9 : Nat) "TapeBench$Turns" "places" "[I") ∈ tz_TT := tz_mem 190 (by decide +kernel)
theorem tw_191 : (Cond.fieldLink "TapeBench$Turns" (15 : Nat) "TapeBench$Turns" "found" "I") ∈ tz_TT := tz_mem 191 (by decide +kernel)
theorem tw_192 : (Cond.laysFinal "TapeBench$Turns" "TapeBench$Turns" "places" "[I") ∈ tz_TT := tz_mem 192 (by decide +kernel)
theorem tw_193 : (Cond.soleField "TapeBench$Turns" "places") ∈ tz_TT := tz_mem 193 (by decide +kernel)
theorem tw_194 : (Cond.lays "TapeBench$Turns" "TapeBench$Turns" "found" "I") ∈ tz_TT := tz_mem 194 (by decide +kernel)
theorem tw_195 : (Cond.soleField "TapeBench$Turns" "found") ∈ tz_TT := tz_mem 195 (by decide +kernel)
theorem tw_196 : (Cond.superclass "TapeBench$Turns" "java/lang/Object") ∈ tz_TT := tz_mem 196 (by decide +kernel)
theorem tw_197 : (Cond.classLink "TapeBench" (37 : Nat) "TapeBench$Aligner") ∈ tz_TT := tz_mem 197 (by decide +kernel)
theorem tw_198 : (Cond.instantiable "TapeBench$Aligner" (2 : Nat)) ∈ tz_TT := tz_mem 198 (by decide +kernel)
theorem tw_199 : (Cond.methodLinkNest "TapeBench" (39 : Nat) (⟨"TapeBench$Aligner", "<init>", "()V"⟩ : MethodName) "TapeBench") ∈ lw_tbl := tz_memL 199 (by decide +kernel)
theorem tw_200 : (Cond.instanceMethod (⟨"TapeBench$Aligner", "<init>", "()V"⟩ : MethodName)) ∈ tz_TT := tz_mem 200 (by decide +kernel)
theorem tw_201 : (Cond.code (⟨"TapeBench$Aligner", "<init>", "()V"⟩ : MethodName) prog_2_method_1_code (1 : Nat) (Option.none : Option FieldType)) ∈ tz_TT := tz_mem 201 (by decide +kernel)
theorem tw_202 : (Cond.methodLink "TapeBench$Aligner" (3 : Nat) (⟨"java/lang/Object", "<init>", "()V"⟩ : MethodName)) ∈ tz_TT := tz_mem 202 (by decide +kernel)
theorem tw_203 : (Cond.fieldLink "TapeBench$Aligner" (9 : Nat) "TapeBench$Aligner" "sum" "I") ∈ tz_TT := tz_mem 203 (by decide +kernel)
theorem tw_204 : (Cond.fieldLink "TapeBench$Aligner" (15 : Nat) "TapeBench$Aligner" "places" "I") ∈ tz_TT := tz_mem 204 (by decide +kernel)
theorem tw_205 : (Cond.lays "TapeBench$Aligner" "TapeBench$Aligner" "sum" "I") ∈ tz_TT := tz_mem 205 (by decide +kernel)
theorem tw_206 : (Cond.soleField "TapeBench$Aligner" "sum") ∈ tz_TT := tz_mem 206 (by decide +kernel)
theorem tw_207 : (Cond.lays "TapeBench$Aligner" "TapeBench$Aligner" "places" "I") ∈ tz_TT := tz_mem 207 (by decide +kernel)
theorem tw_208 : (Cond.soleField "TapeBench$Aligner" "places") ∈ tz_TT := tz_mem 208 (by decide +kernel)
theorem tw_209 : (Cond.superclass "TapeBench$Aligner" "java/lang/Object") ∈ tz_TT := tz_mem 209 (by decide +kernel)
theorem tw_210 : (Cond.classLink "TapeBench" (44 : Nat) "TapeBench$Player") ∈ tz_TT := tz_mem 210 (by decide +kernel)
theorem tw_211 : (Cond.instantiable "TapeBench$Player" (5 : Nat)) ∈ tz_TT := tz_mem 211 (by decide +kernel)
theorem tw_212 : (Cond.methodLinkNest "TapeBench" (46 : Nat) (⟨"TapeBench$Player", "<init>", "()V"⟩ : MethodName) "TapeBench") ∈ lw_tbl := tz_memL 212 (by decide +kernel)
theorem tw_213 : (Cond.instanceMethod (⟨"TapeBench$Player", "<init>", "()V"⟩ : MethodName)) ∈ tz_TT := tz_mem 213 (by decide +kernel)
theorem tw_214 : (Cond.code (⟨"TapeBench$Player", "<init>", "()V"⟩ : MethodName) prog_6_method_1_code (1 : Nat) (Option.none : Option FieldType)) ∈ tz_TT := tz_mem 214 (by decide +kernel)
theorem tw_215 : (Cond.methodLink "TapeBench$Player" (3 : Nat) (⟨"java/lang/Object", "<init>", "()V"⟩ : MethodName)) ∈ tz_TT := tz_mem 215 (by decide +kernel)
theorem tw_216 : (Cond.classLink "TapeBench$Player" (9 : Nat) "TapeBench$Aligner") ∈ tz_TT := tz_mem 216 (by decide +kernel)
theorem tw_217 : (Cond.methodLinkNest "TapeBench$Player" (11 : Nat) (⟨"TapeBench$Aligner", "<init>", "()V"⟩ : MethodName) "TapeBench") ∈ lw_tbl := tz_memL 217 (by decide +kernel)
theorem tw_218 : (Cond.classLink "TapeBench$Player" (18 : Nat) "TapeBench$Turns") ∈ tz_TT := tz_mem 218 (by decide +kernel)
theorem tw_219 : (Cond.methodLinkNest "TapeBench$Player" (20 : Nat) (⟨"TapeBench$Turns", "<init>", "()V"⟩ : MethodName) "TapeBench") ∈ lw_tbl := tz_memL 219 (by decide +kernel)
theorem tw_220 : (Cond.classLink "TapeBench$Player" (25 : Nat) "TapeBench$Row") ∈ tz_TT := tz_mem 220 (by decide +kernel)
theorem tw_221 : (Cond.methodLinkNest "TapeBench$Player" (27 : Nat) (⟨"TapeBench$Row", "<init>", "()V"⟩ : MethodName) "TapeBench") ∈ lw_tbl := tz_memL 221 (by decide +kernel)
theorem tw_222 : (Cond.fieldLink "TapeBench$Player" (12 : Nat) "TapeBench$Player" "aligner" "LTapeBench$Aligner;") ∈ tz_TT := tz_mem 222 (by decide +kernel)
theorem tw_223 : (Cond.fieldLink "TapeBench$Player" (21 : Nat) "TapeBench$Player" "turns" "LTapeBench$Turns;") ∈ tz_TT := tz_mem 223 (by decide +kernel)
theorem tw_224 : (Cond.fieldLink "TapeBench$Player" (28 : Nat) "TapeBench$Player" "row" "LTapeBench$Row;") ∈ tz_TT := tz_mem 224 (by decide +kernel)
theorem tw_225 : (Cond.fieldLink "TapeBench$Player" (32 : Nat) "TapeBench$Player" "next" "LTapeBench$Row;") ∈ tz_TT := tz_mem 225 (by decide +kernel)
theorem tw_226 : (Cond.fieldLink "TapeBench$Player" (35 : Nat) "TapeBench$Player" "followed" "I") ∈ tz_TT := tz_mem 226 (by decide +kernel)
theorem tw_227 : (Cond.laysFinal "TapeBench$Player" "TapeBench$Player" "aligner" "LTapeBench$Aligner;") ∈ tz_TT := tz_mem 227 (by decide +kernel)
theorem tw_228 : (Cond.soleField "TapeBench$Player" "aligner") ∈ tz_TT := tz_mem 228 (by decide +kernel)
theorem tw_229 : (Cond.laysFinal "TapeBench$Player" "TapeBench$Player" "turns" "LTapeBench$Turns;") ∈ tz_TT := tz_mem 229 (by decide +kernel)
theorem tw_230 : (Cond.soleField "TapeBench$Player" "turns") ∈ tz_TT := tz_mem 230 (by decide +kernel)
theorem tw_231 : (Cond.lays "TapeBench$Player" "TapeBench$Player" "row" "LTapeBench$Row;") ∈ tz_TT := tz_mem 231 (by decide +kernel)
theorem tw_232 : (Cond.soleField "TapeBench$Player" "row") ∈ tz_TT := tz_mem 232 (by decide +kernel)
theorem tw_233 : (Cond.lays "TapeBench$Player" "TapeBench$Player" "next" "LTapeBench$Row;") ∈ tz_TT := tz_mem 233 (by decide +kernel)
theorem tw_234 : (Cond.soleField "TapeBench$Player" "next") ∈ tz_TT := tz_mem 234 (by decide +kernel)
theorem tw_235 : (Cond.lays "TapeBench$Player" "TapeBench$Player" "followed" "I") ∈ tz_TT := tz_mem 235 (by decide +kernel)
theorem tw_236 : (Cond.soleField "TapeBench$Player" "followed") ∈ tz_TT := tz_mem 236 (by decide +kernel)
theorem tw_237 : (Cond.superclass "TapeBench$Player" "java/lang/Object") ∈ tz_TT := tz_mem 237 (by decide +kernel)
theorem tw_238 : (Cond.classLink "TapeBench" (51 : Nat) "TapeBench$Row") ∈ tz_TT := tz_mem 238 (by decide +kernel)
theorem tw_239 : (Cond.methodLinkNest "TapeBench" (53 : Nat) (⟨"TapeBench$Row", "<init>", "()V"⟩ : MethodName) "TapeBench") ∈ lw_tbl := tz_memL 239 (by decide +kernel)
theorem tw_240 : (Cond.fieldLink "TapeBench" (10 : Nat) "TapeBench" "tape" "LTapeBench$Tape;") ∈ tz_TT := tz_mem 240 (by decide +kernel)
theorem tw_241 : (Cond.fieldLink "TapeBench" (19 : Nat) "TapeBench" "history" "LTapeBench$History;") ∈ tz_TT := tz_mem 241 (by decide +kernel)
theorem tw_242 : (Cond.fieldLink "TapeBench" (25 : Nat) "TapeBench" "sheets" "[LTapeBench$Sheet;") ∈ tz_TT := tz_mem 242 (by decide +kernel)
theorem tw_243 : (Cond.fieldLink "TapeBench" (33 : Nat) "TapeBench" "turns" "LTapeBench$Turns;") ∈ tz_TT := tz_mem 243 (by decide +kernel)
theorem tw_244 : (Cond.fieldLink "TapeBench" (40 : Nat) "TapeBench" "aligner" "LTapeBench$Aligner;") ∈ tz_TT := tz_mem 244 (by decide +kernel)
theorem tw_245 : (Cond.fieldLink "TapeBench" (47 : Nat) "TapeBench" "player" "LTapeBench$Player;") ∈ tz_TT := tz_mem 245 (by decide +kernel)
theorem tw_246 : (Cond.fieldLink "TapeBench" (54 : Nat) "TapeBench" "joined" "LTapeBench$Row;") ∈ tz_TT := tz_mem 246 (by decide +kernel)
theorem tw_247 : (Cond.fieldLink "TapeBench" (58 : Nat) "TapeBench" "findings" "I") ∈ tz_TT := tz_mem 247 (by decide +kernel)
theorem tw_248 : (Cond.laysFinal "TapeBench" "TapeBench" "tape" "LTapeBench$Tape;") ∈ tz_TT := tz_mem 248 (by decide +kernel)
theorem tw_249 : (Cond.soleField "TapeBench" "tape") ∈ tz_TT := tz_mem 249 (by decide +kernel)
theorem tw_250 : (Cond.laysFinal "TapeBench" "TapeBench" "history" "LTapeBench$History;") ∈ tz_TT := tz_mem 250 (by decide +kernel)
theorem tw_251 : (Cond.soleField "TapeBench" "history") ∈ tz_TT := tz_mem 251 (by decide +kernel)
theorem tw_252 : (Cond.laysFinal "TapeBench" "TapeBench" "sheets" "[LTapeBench$Sheet;") ∈ tz_TT := tz_mem 252 (by decide +kernel)
theorem tw_253 : (Cond.soleField "TapeBench" "sheets") ∈ tz_TT := tz_mem 253 (by decide +kernel)
theorem tw_254 : (Cond.laysFinal "TapeBench" "TapeBench" "turns" "LTapeBench$Turns;") ∈ tz_TT := tz_mem 254 (by decide +kernel)
theorem tw_255 : (Cond.soleField "TapeBench" "turns") ∈ tz_TT := tz_mem 255 (by decide +kernel)
theorem tw_256 : (Cond.laysFinal "TapeBench" "TapeBench" "aligner" "LTapeBench$Aligner;") ∈ tz_TT := tz_mem 256 (by decide +kernel)
theorem tw_257 : (Cond.soleField "TapeBench" "aligner") ∈ tz_TT := tz_mem 257 (by decide +kernel)
theorem tw_258 : (Cond.laysFinal "TapeBench" "TapeBench" "player" "LTapeBench$Player;") ∈ tz_TT := tz_mem 258 (by decide +kernel)
theorem tw_259 : (Cond.soleField "TapeBench" "player") ∈ tz_TT := tz_mem 259 (by decide +kernel)
theorem tw_260 : (Cond.laysFinal "TapeBench" "TapeBench" "joined" "LTapeBench$Row;") ∈ tz_TT := tz_mem 260 (by decide +kernel)
theorem tw_261 : (Cond.soleField "TapeBench" "joined") ∈ tz_TT := tz_mem 261 (by decide +kernel)
theorem tw_262 : (Cond.lays "TapeBench" "TapeBench" "findings" "I") ∈ tz_TT := tz_mem 262 (by decide +kernel)
theorem tw_263 : (Cond.soleField "TapeBench" "findings") ∈ tz_TT := tz_mem 263 (by decide +kernel)
theorem tw_264 : (Cond.superclass "TapeBench" "java/lang/Object") ∈ tz_TT := tz_mem 264 (by decide +kernel)
theorem tw_265 : (Cond.methodLink "TapeBenchLaw" (13 : Nat) (⟨"TapeBench", "pass", "(II)I"⟩ : MethodName)) ∈ tz_TT := tz_mem 265 (by decide +kernel)
theorem tw_266 : (Cond.instanceMethod (⟨"TapeBench", "pass", "(II)I"⟩ : MethodName)) ∈ tz_TT := tz_mem 266 (by decide +kernel)
theorem tw_267 : (Cond.selects "TapeBench" (⟨"TapeBench", "pass", "(II)I"⟩ : MethodName) (⟨"TapeBench", "pass", "(II)I"⟩ : MethodName)) ∈ tz_TT := tz_mem 267 (by decide +kernel)
theorem tw_268 : (Cond.code (⟨"TapeBench", "pass", "(II)I"⟩ : MethodName) prog_1_method_2_code (5 : Nat) (Option.some FieldType.int)) ∈ tz_TT := tz_mem 268 (by decide +kernel)
theorem tw_269 : (Cond.methodLink "TapeBench" (62 : Nat) (⟨"TapeBench$Tape", "rowAt", "(I)LTapeBench$Row;"⟩ : MethodName)) ∈ tz_TT := tz_mem 269 (by decide +kernel)
theorem tw_270 : (Cond.instanceMethod (⟨"TapeBench$Tape", "rowAt", "(I)LTapeBench$Row;"⟩ : MethodName)) ∈ tz_TT := tz_mem 270 (by decide +kernel)
theorem tw_271 : (Cond.selects "TapeBench$Tape" (⟨"TapeBench$Tape", "rowAt", "(I)LTapeBench$Row;"⟩ : MethodName) (⟨"TapeBench$Tape", "rowAt", "(I)LTapeBench$Row;"⟩ : MethodName)) ∈ tz_TT := tz_mem 271 (by decide +kernel)
theorem tw_272 : (Cond.code (⟨"TapeBench$Tape", "rowAt", "(I)LTapeBench$Row;"⟩ : MethodName) prog_10_method_2_code (2 : Nat) (Option.some (FieldType.object "TapeBench$Row"))) ∈ tz_TT := tz_mem 272 (by decide +kernel)
theorem tw_273 : (Cond.constant "TapeBench" (66 : Nat) (-100001 : Int32)) ∈ tz_TT := tz_mem 273 (by decide +kernel)
theorem tw_274 : (Cond.methodLink "TapeBench" (67 : Nat) (⟨"TapeBench", "answer", "(I)I"⟩ : MethodName)) ∈ tz_TT := tz_mem 274 (by decide +kernel)
theorem tw_276 : (Cond.instanceMethod (⟨"TapeBench", "answer", "(I)I"⟩ : MethodName)) ∈ tz_TT := tz_mem 276 (by decide +kernel)
theorem tw_277 : (Cond.code (⟨"TapeBench", "answer", "(I)I"⟩ : MethodName) prog_1_method_31_code (2 : Nat) (Option.some FieldType.int)) ∈ tz_TT := tz_mem 277 (by decide +kernel)
theorem tw_278 : (Cond.constant "TapeBench" (268 : Nat) (-100000 : Int32)) ∈ tz_TT := tz_mem 278 (by decide +kernel)
theorem tw_279 : (Cond.methodLink "TapeBench" (71 : Nat) (⟨"TapeBench$History", "keep", "(LTapeBench$Tape;I)V"⟩ : MethodName)) ∈ tz_TT := tz_mem 279 (by decide +kernel)
theorem tw_280 : (Cond.instanceMethod (⟨"TapeBench$History", "keep", "(LTapeBench$Tape;I)V"⟩ : MethodName)) ∈ tz_TT := tz_mem 280 (by decide +kernel)
theorem tw_281 : (Cond.selects "TapeBench$History" (⟨"TapeBench$History", "keep", "(LTapeBench$Tape;I)V"⟩ : MethodName) (⟨"TapeBench$History", "keep", "(LTapeBench$Tape;I)V"⟩ : MethodName)) ∈ tz_TT := tz_mem 281 (by decide +kernel)
theorem tw_282 : (Cond.code (⟨"TapeBench$History", "keep", "(LTapeBench$Tape;I)V"⟩ : MethodName) prog_3_method_2_code (4 : Nat) (Option.none : Option FieldType)) ∈ tz_TT := tz_mem 282 (by decide +kernel)
theorem tw_283 : (Cond.methodLink "TapeBench$History" (25 : Nat) (⟨"TapeBench$History", "stepAt", "(I)LTapeBench$Step;"⟩ : MethodName)) ∈ tz_TT := tz_mem 283 (by decide +kernel)
theorem tw_285 : (Cond.instanceMethod (⟨"TapeBench$History", "stepAt", "(I)LTapeBench$Step;"⟩ : MethodName)) ∈ tz_TT := tz_mem 285 (by decide +kernel)
theorem tw_286 : (Cond.code (⟨"TapeBench$History", "stepAt", "(I)LTapeBench$Step;"⟩ : MethodName) prog_3_method_4_code (2 : Nat) (Option.some (FieldType.object "TapeBench$Step"))) ∈ tz_TT := tz_mem 286 (by decide +kernel)
theorem tw_287 : (Cond.methodLink "TapeBench$History" (29 : Nat) (⟨"TapeBench$Step", "keep", "(LTapeBench$Tape;I)V"⟩ : MethodName)) ∈ tz_TT := tz_mem 287 (by decide +kernel)
theorem tw_288 : (Cond.instanceMethod (⟨"TapeBench$Step", "keep", "(LTapeBench$Tape;I)V"⟩ : MethodName)) ∈ tz_TT := tz_mem 288 (by decide +kernel)
theorem tw_289 : (Cond.selects "TapeBench$Step" (⟨"TapeBench$Step", "keep", "(LTapeBench$Tape;I)V"⟩ : MethodName) (⟨"TapeBench$Step", "keep", "(LTapeBench$Tape;I)V"⟩ : MethodName)) ∈ tz_TT := tz_mem 289 (by decide +kernel)
theorem tw_290 : (Cond.code (⟨"TapeBench$Step", "keep", "(LTapeBench$Tape;I)V"⟩ : MethodName) prog_9_method_2_code (4 : Nat) (Option.none : Option FieldType)) ∈ tz_TT := tz_mem 290 (by decide +kernel)
theorem tw_291 : (Cond.methodLink "TapeBench$Step" (36 : Nat) (⟨"TapeBench$Tape", "rowAt", "(I)LTapeBench$Row;"⟩ : MethodName)) ∈ tz_TT := tz_mem 291 (by decide +kernel)
theorem tw_292 : (Cond.methodLink "TapeBench$Step" (42 : Nat) (⟨"TapeBench$Row", "become", "(LTapeBench$Row;)V"⟩ : MethodName)) ∈ tz_TT := tz_mem 292 (by decide +kernel)
theorem tw_293 : (Cond.instanceMethod (⟨"TapeBench$Row", "become", "(LTapeBench$Row;)V"⟩ : MethodName)) ∈ tz_TT := tz_mem 293 (by decide +kernel)
theorem tw_294 : (Cond.selects "TapeBench$Row" (⟨"TapeBench$Row", "become", "(LTapeBench$Row;)V"⟩ : MethodName) (⟨"TapeBench$Row", "become", "(LTapeBench$Row;)V"⟩ : MethodName)) ∈ tz_TT := tz_mem 294 (by decide +kernel)
theorem tw_295 : (Cond.code (⟨"TapeBench$Row", "become", "(LTapeBench$Row;)V"⟩ : MethodName) prog_7_method_9_code (2 : Nat) (Option.none : Option FieldType)) ∈ tz_TT := tz_mem 295 (by decide +kernel)
theorem tw_296 : (Cond.methodLink "TapeBench$Row" (39 : Nat) (⟨"java/lang/System", "arraycopy", "(Ljava/lang/Object;ILjava/lang/Object;II)V"⟩ : MethodName)) ∈ tz_TT := tz_mem 296 (by decide +kernel)
theorem tw_297 : (Cond.static (⟨"java/lang/System", "arraycopy", "(Ljava/lang/Object;ILjava/lang/Object;II)V"⟩ : MethodName)) ∈ tz_TT := tz_mem 297 (by decide +kernel)
theorem tw_298 : (Cond.native (⟨"java/lang/System", "arraycopy", "(Ljava/lang/Object;ILjava/lang/Object;II)V"⟩ : MethodName)) ∈ tz_TT := tz_mem 298 (by decide +kernel)
theorem tw_299 : (Cond.methodLink "TapeBench$Step" (47 : Nat) (⟨"TapeBench$Layers", "become", "(LTapeBench$Layers;)V"⟩ : MethodName)) ∈ tz_TT := tz_mem 299 (by decide +kernel)
theorem tw_300 : (Cond.instanceMethod (⟨"TapeBench$Layers", "become", "(LTapeBench$Layers;)V"⟩ : MethodName)) ∈ tz_TT := tz_mem 300 (by decide +kernel)
theorem tw_301 : (Cond.selects "TapeBench$Layers" (⟨"TapeBench$Layers", "become", "(LTapeBench$Layers;)V"⟩ : MethodName) (⟨"TapeBench$Layers", "become", "(LTapeBench$Layers;)V"⟩ : MethodName)) ∈ tz_TT := tz_mem 301 (by decide +kernel)
theorem tw_302 : (Cond.code (⟨"TapeBench$Layers", "become", "(LTapeBench$Layers;)V"⟩ : MethodName) prog_5_method_8_code (3 : Nat) (Option.none : Option FieldType)) ∈ tz_TT := tz_mem 302 (by decide +kernel)
theorem tw_303 : (Cond.methodLink "TapeBench$Step" (51 : Nat) (⟨"java/lang/System", "arraycopy", "(Ljava/lang/Object;ILjava/lang/Object;II)V"⟩ : MethodName)) ∈ tz_TT := tz_mem 303 (by decide +kernel)
theorem tw_304 : (Cond.methodLink "TapeBench$History" (33 : Nat) (⟨"java/lang/Math", "min", "(II)I"⟩ : MethodName)) ∈ tz_TT := tz_mem 304 (by decide +kernel)
theorem tw_305 : (Cond.static (⟨"java/lang/Math", "min", "(II)I"⟩ : MethodName)) ∈ tz_TT := tz_mem 305 (by decide +kernel)
theorem tw_306 : (Cond.code (⟨"java/lang/Math", "min", "(II)I"⟩ : MethodName) prog_14_method_69_code (2 : Nat) (Option.some FieldType.int)) ∈ tz_TT := tz_mem 306 (by decide +kernel)
theorem tw_307 : (Cond.methodLink "TapeBench" (75 : Nat) (⟨"TapeBench$Row", "length", "()I"⟩ : MethodName)) ∈ tz_TT := tz_mem 307 (by decide +kernel)
theorem tw_308 : (Cond.instanceMethod (⟨"TapeBench$Row", "length", "()I"⟩ : MethodName)) ∈ tz_TT := tz_mem 308 (by decide +kernel)
theorem tw_309 : (Cond.selects "TapeBench$Row" (⟨"TapeBench$Row", "length", "()I"⟩ : MethodName) (⟨"TapeBench$Row", "length", "()I"⟩ : MethodName)) ∈ tz_TT := tz_mem 309 (by decide +kernel)
theorem tw_310 : (Cond.code (⟨"TapeBench$Row", "length", "()I"⟩ : MethodName) prog_7_method_2_code (1 : Nat) (Option.some FieldType.int)) ∈ tz_TT := tz_mem 310 (by decide +kernel)
theorem tw_311 : (Cond.methodLink "TapeBench" (79 : Nat) (⟨"TapeBench$Row", "restart", "(I)V"⟩ : MethodName)) ∈ tz_TT := tz_mem 311 (by decide +kernel)
theorem tw_312 : (Cond.instanceMethod (⟨"TapeBench$Row", "restart", "(I)V"⟩ : MethodName)) ∈ tz_TT := tz_mem 312 (by decide +kernel)
theorem tw_313 : (Cond.selects "TapeBench$Row" (⟨"TapeBench$Row", "restart", "(I)V"⟩ : MethodName) (⟨"TapeBench$Row", "restart", "(I)V"⟩ : MethodName)) ∈ tz_TT := tz_mem 313 (by decide +kernel)
theorem tw_314 : (Cond.code (⟨"TapeBench$Row", "restart", "(I)V"⟩ : MethodName) prog_7_method_8_code (2 : Nat) (Option.none : Option FieldType)) ∈ tz_TT := tz_mem 314 (by decide +kernel)
theorem tw_315 : (Cond.methodLink "TapeBench$Row" (24 : Nat) (⟨"java/util/Arrays", "fill", "([II)V"⟩ : MethodName)) ∈ tz_TT := tz_mem 315 (by decide +kernel)
theorem tw_316 : (Cond.methodLink "TapeBench$Row" (30 : Nat) (⟨"java/lang/Math", "min", "(II)I"⟩ : MethodName)) ∈ tz_TT := tz_mem 316 (by decide +kernel)
theorem tw_317 : (Cond.methodLink "TapeBench$Row" (36 : Nat) (⟨"java/lang/Math", "max", "(II)I"⟩ : MethodName)) ∈ tz_TT := tz_mem 317 (by decide +kernel)
theorem tw_318 : (Cond.static (⟨"java/lang/Math", "max", "(II)I"⟩ : MethodName)) ∈ tz_TT := tz_mem 318 (by decide +kernel)
theorem tw_319 : (Cond.code (⟨"java/lang/Math", "max", "(II)I"⟩ : MethodName) prog_14_method_65_code (2 : Nat) (Option.some FieldType.int)) ∈ tz_TT := tz_mem 319 (by decide +kernel)
theorem tw_320 : (Cond.methodLink "TapeBenchLaw" (18 : Nat) (⟨"TapeBench", "put", "(III)I"⟩ : MethodName)) ∈ tz_TT := tz_mem 320 (by decide +kernel)
theorem tw_321 : (Cond.instanceMethod (⟨"TapeBench", "put", "(III)I"⟩ : MethodName)) ∈ tz_TT := tz_mem 321 (by decide +kernel)
theorem tw_322 : (Cond.selects "TapeBench" (⟨"TapeBench", "put", "(III)I"⟩ : MethodName) (⟨"TapeBench", "put", "(III)I"⟩ : MethodName)) ∈ tz_TT := tz_mem 322 (by decide +kernel)
theorem tw_323 : (Cond.code (⟨"TapeBench", "put", "(III)I"⟩ : MethodName) prog_1_method_3_code (6 : Nat) (Option.some FieldType.int)) ∈ tz_TT := tz_mem 323 (by decide +kernel)
theorem tw_324 : (Cond.methodLink "TapeBench" (83 : Nat) (⟨"TapeBench$Row", "has", "(I)Z"⟩ : MethodName)) ∈ tz_TT := tz_mem 324 (by decide +kernel)
theorem tw_325 : (Cond.instanceMethod (⟨"TapeBench$Row", "has", "(I)Z"⟩ : MethodName)) ∈ tz_TT := tz_mem 325 (by decide +kernel)
theorem tw_326 : (Cond.selects "TapeBench$Row" (⟨"TapeBench$Row", "has", "(I)Z"⟩ : MethodName) (⟨"TapeBench$Row", "has", "(I)Z"⟩ : MethodName)) ∈ tz_TT := tz_mem 326 (by decide +kernel)
theorem tw_327 : (Cond.code (⟨"TapeBench$Row", "has", "(I)Z"⟩ : MethodName) prog_7_method_3_code (2 : Nat) (Option.some FieldType.boolean)) ∈ tz_TT := tz_mem 327 (by decide +kernel)
theorem tw_328 : (Cond.methodLink "TapeBench" (87 : Nat) (⟨"TapeBench", "isSample", "(I)Z"⟩ : MethodName)) ∈ tz_TT := tz_mem 328 (by decide +kernel)
theorem tw_329 : (Cond.static (⟨"TapeBench", "isSample", "(I)Z"⟩ : MethodName)) ∈ tz_TT := tz_mem 329 (by decide +kernel)
theorem tw_330 : (Cond.code (⟨"TapeBench", "isSample", "(I)Z"⟩ : MethodName) prog_1_method_34_code (1 : Nat) (Option.some FieldType.boolean)) ∈ tz_TT := tz_mem 330 (by decide +kernel)
theorem tw_331 : (Cond.methodLink "TapeBench" (90 : Nat) (⟨"TapeBench$Row", "at", "(I)I"⟩ : MethodName)) ∈ tz_TT := tz_mem 331 (by decide +kernel)
theorem tw_332 : (Cond.instanceMethod (⟨"TapeBench$Row", "at", "(I)I"⟩ : MethodName)) ∈ tz_TT := tz_mem 332 (by decide +kernel)
theorem tw_333 : (Cond.selects "TapeBench$Row" (⟨"TapeBench$Row", "at", "(I)I"⟩ : MethodName) (⟨"TapeBench$Row", "at", "(I)I"⟩ : MethodName)) ∈ tz_TT := tz_mem 333 (by decide +kernel)
theorem tw_334 : (Cond.code (⟨"TapeBench$Row", "at", "(I)I"⟩ : MethodName) prog_7_method_4_code (2 : Nat) (Option.some FieldType.int)) ∈ tz_TT := tz_mem 334 (by decide +kernel)
theorem tw_335 : (Cond.constant "TapeBench$Row" (19 : Nat) (-100007 : Int32)) ∈ tz_TT := tz_mem 335 (by decide +kernel)
theorem tw_336 : (Cond.constant "TapeBench" (93 : Nat) (-100007 : Int32)) ∈ tz_TT := tz_mem 336 (by decide +kernel)
theorem tw_337 : (Cond.methodLink "TapeBench" (94 : Nat) (⟨"TapeBench$Row", "set", "(II)V"⟩ : MethodName)) ∈ tz_TT := tz_mem 337 (by decide +kernel)
theorem tw_338 : (Cond.instanceMethod (⟨"TapeBench$Row", "set", "(II)V"⟩ : MethodName)) ∈ tz_TT := tz_mem 338 (by decide +kernel)
theorem tw_339 : (Cond.selects "TapeBench$Row" (⟨"TapeBench$Row", "set", "(II)V"⟩ : MethodName) (⟨"TapeBench$Row", "set", "(II)V"⟩ : MethodName)) ∈ tz_TT := tz_mem 339 (by decide +kernel)
theorem tw_340 : (Cond.code (⟨"TapeBench$Row", "set", "(II)V"⟩ : MethodName) prog_7_method_5_code (3 : Nat) (Option.none : Option FieldType)) ∈ tz_TT := tz_mem 340 (by decide +kernel)
theorem tw_341 : (Cond.methodLink "TapeBench$Row" (20 : Nat) (⟨"TapeBench$Row", "has", "(I)Z"⟩ : MethodName)) ∈ tz_TT := tz_mem 341 (by decide +kernel)
theorem tw_342 : (Cond.methodLink "TapeBenchLaw" (23 : Nat) (⟨"TapeBench", "lose", "(III)I"⟩ : MethodName)) ∈ tz_TT := tz_mem 342 (by decide +kernel)
theorem tw_343 : (Cond.instanceMethod (⟨"TapeBench", "lose", "(III)I"⟩ : MethodName)) ∈ tz_TT := tz_mem 343 (by decide +kernel)
theorem tw_344 : (Cond.selects "TapeBench" (⟨"TapeBench", "lose", "(III)I"⟩ : MethodName) (⟨"TapeBench", "lose", "(III)I"⟩ : MethodName)) ∈ tz_TT := tz_mem 344 (by decide +kernel)
theorem tw_345 : (Cond.code (⟨"TapeBench", "lose", "(III)I"⟩ : MethodName) prog_1_method_4_code (7 : Nat) (Option.some FieldType.int)) ∈ tz_TT := tz_mem 345 (by decide +kernel)
theorem tw_346 : (Cond.methodLink "TapeBench" (98 : Nat) (⟨"TapeBench", "holds", "(III)Z"⟩ : MethodName)) ∈ tz_TT := tz_mem 346 (by decide +kernel)
theorem tw_347 : (Cond.static (⟨"TapeBench", "holds", "(III)Z"⟩ : MethodName)) ∈ tz_TT := tz_mem 347 (by decide +kernel)
theorem tw_348 : (Cond.code (⟨"TapeBench", "holds", "(III)Z"⟩ : MethodName) prog_1_method_35_code (3 : Nat) (Option.some FieldType.boolean)) ∈ tz_TT := tz_mem 348 (by decide +kernel)
theorem tw_349 : (Cond.methodLink "TapeBench" (102 : Nat) (⟨"TapeBench$Row", "lostOnes", "()I"⟩ : MethodName)) ∈ tz_TT := tz_mem 349 (by decide +kernel)
theorem tw_350 : (Cond.instanceMethod (⟨"TapeBench$Row", "lostOnes", "()I"⟩ : MethodName)) ∈ tz_TT := tz_mem 350 (by decide +kernel)
theorem tw_351 : (Cond.selects "TapeBench$Row" (⟨"TapeBench$Row", "lostOnes", "()I"⟩ : MethodName) (⟨"TapeBench$Row", "lostOnes", "()I"⟩ : MethodName)) ∈ tz_TT := tz_mem 351 (by decide +kernel)
theorem tw_352 : (Cond.code (⟨"TapeBench$Row", "lostOnes", "()I"⟩ : MethodName) prog_7_method_10_code (3 : Nat) (Option.some FieldType.int)) ∈ tz_TT := tz_mem 352 (by decide +kernel)
theorem tw_353 : (Cond.methodLink "TapeBench$Row" (45 : Nat) (⟨"TapeBench$Row", "at", "(I)I"⟩ : MethodName)) ∈ tz_TT := tz_mem 353 (by decide +kernel)
theorem tw_354 : (Cond.methodLink "TapeBenchLaw" (27 : Nat) (⟨"TapeBench", "sample", "(II)I"⟩ : MethodName)) ∈ tz_TT := tz_mem 354 (by decide +kernel)
theorem tw_355 : (Cond.instanceMethod (⟨"TapeBench", "sample", "(II)I"⟩ : MethodName)) ∈ tz_TT := tz_mem 355 (by decide +kernel)
theorem tw_356 : (Cond.selects "TapeBench" (⟨"TapeBench", "sample", "(II)I"⟩ : MethodName) (⟨"TapeBench", "sample", "(II)I"⟩ : MethodName)) ∈ tz_TT := tz_mem 356 (by decide +kernel)
theorem tw_357 : (Cond.code (⟨"TapeBench", "sample", "(II)I"⟩ : MethodName) prog_1_method_5_code (4 : Nat) (Option.some FieldType.int)) ∈ tz_TT := tz_mem 357 (by decide +kernel)
theorem tw_358 : (Cond.methodLink "TapeBenchLaw" (31 : Nat) (⟨"TapeBench", "about", "(II)I"⟩ : MethodName)) ∈ tz_TT := tz_mem 358 (by decide +kernel)
theorem tw_359 : (Cond.instanceMethod (⟨"TapeBench", "about", "(II)I"⟩ : MethodName)) ∈ tz_TT := tz_mem 359 (by decide +kernel)
theorem tw_360 : (Cond.selects "TapeBench" (⟨"TapeBench", "about", "(II)I"⟩ : MethodName) (⟨"TapeBench", "about", "(II)I"⟩ : MethodName)) ∈ tz_TT := tz_mem 360 (by decide +kernel)
theorem tw_361 : (Cond.code (⟨"TapeBench", "about", "(II)I"⟩ : MethodName) prog_1_method_6_code (4 : Nat) (Option.some FieldType.int)) ∈ tz_TT := tz_mem 361 (by decide +kernel)
theorem tw_362 : (Cond.methodLink "TapeBench" (105 : Nat) (⟨"TapeBench$Turns", "find", "(LTapeBench$Row;)V"⟩ : MethodName)) ∈ tz_TT := tz_mem 362 (by decide +kernel)
theorem tw_363 : (Cond.instanceMethod (⟨"TapeBench$Turns", "find", "(LTapeBench$Row;)V"⟩ : MethodName)) ∈ tz_TT := tz_mem 363 (by decide +kernel)
theorem tw_364 : (Cond.selects "TapeBench$Turns" (⟨"TapeBench$Turns", "find", "(LTapeBench$Row;)V"⟩ : MethodName) (⟨"TapeBench$Turns", "find", "(LTapeBench$Row;)V"⟩ : MethodName)) ∈ tz_TT := tz_mem 364 (by decide +kernel)
theorem tw_365 : (Cond.code (⟨"TapeBench$Turns", "find", "(LTapeBench$Row;)V"⟩ : MethodName) prog_11_method_2_code (3 : Nat) (Option.none : Option FieldType)) ∈ tz_TT := tz_mem 365 (by decide +kernel)
theorem tw_366 : (Cond.methodLink "TapeBench$Turns" (19 : Nat) (⟨"TapeBench$Row", "length", "()I"⟩ : MethodName)) ∈ tz_TT := tz_mem 366 (by decide +kernel)
theorem tw_367 : (Cond.methodLink "TapeBench$Turns" (25 : Nat) (⟨"TapeBench$Row", "isTurn", "(I)Z"⟩ : MethodName)) ∈ tz_TT := tz_mem 367 (by decide +kernel)
theorem tw_368 : (Cond.instanceMethod (⟨"TapeBench$Row", "isTurn", "(I)Z"⟩ : MethodName)) ∈ tz_TT := tz_mem 368 (by decide +kernel)
theorem tw_369 : (Cond.selects "TapeBench$Row" (⟨"TapeBench$Row", "isTurn", "(I)Z"⟩ : MethodName) (⟨"TapeBench$Row", "isTurn", "(I)Z"⟩ : MethodName)) ∈ tz_TT := tz_mem 369 (by decide +kernel)
theorem tw_370 : (Cond.code (⟨"TapeBench$Row", "isTurn", "(I)Z"⟩ : MethodName) prog_7_method_11_code (2 : Nat) (Option.some FieldType.boolean)) ∈ tz_TT := tz_mem 370 (by decide +kernel)
theorem tw_371 : (Cond.methodLink "TapeBench" (109 : Nat) (⟨"TapeBench$Turns", "found", "()I"⟩ : MethodName)) ∈ tz_TT := tz_mem 371 (by decide +kernel)
theorem tw_372 : (Cond.instanceMethod (⟨"TapeBench$Turns", "found", "()I"⟩ : MethodName)) ∈ tz_TT := tz_mem 372 (by decide +kernel)
theorem tw_373 : (Cond.selects "TapeBench$Turns" (⟨"TapeBench$Turns", "found", "()I"⟩ : MethodName) (⟨"TapeBench$Turns", "found", "()I"⟩ : MethodName)) ∈ tz_TT := tz_mem 373 (by decide +kernel)
theorem tw_374 : (Cond.code (⟨"TapeBench$Turns", "found", "()I"⟩ : MethodName) prog_11_method_3_code (1 : Nat) (Option.some FieldType.int)) ∈ tz_TT := tz_mem 374 (by decide +kernel)
theorem tw_375 : (Cond.methodLink "TapeBench" (112 : Nat) (⟨"TapeBench$Row", "clicks", "(I)I"⟩ : MethodName)) ∈ tz_TT := tz_mem 375 (by decide +kernel)
theorem tw_376 : (Cond.instanceMethod (⟨"TapeBench$Row", "clicks", "(I)I"⟩ : MethodName)) ∈ tz_TT := tz_mem 376 (by decide +kernel)
theorem tw_377 : (Cond.selects "TapeBench$Row" (⟨"TapeBench$Row", "clicks", "(I)I"⟩ : MethodName) (⟨"TapeBench$Row", "clicks", "(I)I"⟩ : MethodName)) ∈ tz_TT := tz_mem 377 (by decide +kernel)
theorem tw_378 : (Cond.code (⟨"TapeBench$Row", "clicks", "(I)I"⟩ : MethodName) prog_7_method_13_code (4 : Nat) (Option.some FieldType.int)) ∈ tz_TT := tz_mem 378 (by decide +kernel)
theorem tw_379 : (Cond.methodLink "TapeBench$Row" (49 : Nat) (⟨"TapeBench$Row", "isClick", "(II)Z"⟩ : MethodName)) ∈ tz_TT := tz_mem 379 (by decide +kernel)
theorem tw_380 : (Cond.instanceMethod (⟨"TapeBench$Row", "isClick", "(II)Z"⟩ : MethodName)) ∈ tz_TT := tz_mem 380 (by decide +kernel)
theorem tw_381 : (Cond.selects "TapeBench$Row" (⟨"TapeBench$Row", "isClick", "(II)Z"⟩ : MethodName) (⟨"TapeBench$Row", "isClick", "(II)Z"⟩ : MethodName)) ∈ tz_TT := tz_mem 381 (by decide +kernel)
theorem tw_382 : (Cond.code (⟨"TapeBench$Row", "isClick", "(II)Z"⟩ : MethodName) prog_7_method_12_code (4 : Nat) (Option.some FieldType.boolean)) ∈ tz_TT := tz_mem 382 (by decide +kernel)
theorem tw_383 : (Cond.methodLink "TapeBenchLaw" (35 : Nat) (⟨"TapeBench", "turn", "(II)I"⟩ : MethodName)) ∈ tz_TT := tz_mem 383 (by decide +kernel)
theorem tw_384 : (Cond.instanceMethod (⟨"TapeBench", "turn", "(II)I"⟩ : MethodName)) ∈ tz_TT := tz_mem 384 (by decide +kernel)
theorem tw_385 : (Cond.selects "TapeBench" (⟨"TapeBench", "turn", "(II)I"⟩ : MethodName) (⟨"TapeBench", "turn", "(II)I"⟩ : MethodName)) ∈ tz_TT := tz_mem 385 (by decide +kernel)
theorem tw_386 : (Cond.code (⟨"TapeBench", "turn", "(II)I"⟩ : MethodName) prog_1_method_7_code (4 : Nat) (Option.some FieldType.int)) ∈ tz_TT := tz_mem 386 (by decide +kernel)
theorem tw_387 : (Cond.methodLink "TapeBench" (115 : Nat) (⟨"TapeBench$Turns", "placeAt", "(I)I"⟩ : MethodName)) ∈ tz_TT := tz_mem 387 (by decide +kernel)
theorem tw_388 : (Cond.instanceMethod (⟨"TapeBench$Turns", "placeAt", "(I)I"⟩ : MethodName)) ∈ tz_TT := tz_mem 388 (by decide +kernel)
theorem tw_389 : (Cond.selects "TapeBench$Turns" (⟨"TapeBench$Turns", "placeAt", "(I)I"⟩ : MethodName) (⟨"TapeBench$Turns", "placeAt", "(I)I"⟩ : MethodName)) ∈ tz_TT := tz_mem 389 (by decide +kernel)
theorem tw_390 : (Cond.code (⟨"TapeBench$Turns", "placeAt", "(I)I"⟩ : MethodName) prog_11_method_4_code (2 : Nat) (Option.some FieldType.int)) ∈ tz_TT := tz_mem 390 (by decide +kernel)
theorem tw_391 : (Cond.constant "TapeBench$Turns" (29 : Nat) (-100006 : Int32)) ∈ tz_TT := tz_mem 391 (by decide +kernel)
theorem tw_392 : (Cond.methodLink "TapeBenchLaw" (39 : Nat) (⟨"TapeBench", "sheet", "(III)I"⟩ : MethodName)) ∈ tz_TT := tz_mem 392 (by decide +kernel)
theorem tw_393 : (Cond.instanceMethod (⟨"TapeBench", "sheet", "(III)I"⟩ : MethodName)) ∈ tz_TT := tz_mem 393 (by decide +kernel)
theorem tw_394 : (Cond.selects "TapeBench" (⟨"TapeBench", "sheet", "(III)I"⟩ : MethodName) (⟨"TapeBench", "sheet", "(III)I"⟩ : MethodName)) ∈ tz_TT := tz_mem 394 (by decide +kernel)
theorem tw_395 : (Cond.code (⟨"TapeBench", "sheet", "(III)I"⟩ : MethodName) prog_1_method_8_code (5 : Nat) (Option.some FieldType.int)) ∈ tz_TT := tz_mem 395 (by decide +kernel)
theorem tw_396 : (Cond.methodLink "TapeBench" (118 : Nat) (⟨"TapeBench", "sheetAt", "(I)LTapeBench$Sheet;"⟩ : MethodName)) ∈ tz_TT := tz_mem 396 (by decide +kernel)
theorem tw_398 : (Cond.instanceMethod (⟨"TapeBench", "sheetAt", "(I)LTapeBench$Sheet;"⟩ : MethodName)) ∈ tz_TT := tz_mem 398 (by decide +kernel)
theorem tw_399 : (Cond.code (⟨"TapeBench", "sheetAt", "(I)LTapeBench$Sheet;"⟩ : MethodName) prog_1_method_32_code (2 : Nat) (Option.some (FieldType.object "TapeBench$Sheet"))) ∈ tz_TT := tz_mem 399 (by decide +kernel)
theorem tw_400 : (Cond.methodLink "TapeBench" (122 : Nat) (⟨"TapeBench$Sheet", "canHave", "(I)Z"⟩ : MethodName)) ∈ tz_TT := tz_mem 400 (by decide +kernel)
theorem tw_401 : (Cond.static (⟨"TapeBench$Sheet", "canHave", "(I)Z"⟩ : MethodName)) ∈ tz_TT := tz_mem 401 (by decide +kernel)
theorem tw_402 : (Cond.code (⟨"TapeBench$Sheet", "canHave", "(I)Z"⟩ : MethodName) prog_8_method_2_code (1 : Nat) (Option.some FieldType.boolean)) ∈ tz_TT := tz_mem 402 (by decide +kernel)
theorem tw_403 : (Cond.constant "TapeBench" (125 : Nat) (-100003 : Int32)) ∈ tz_TT := tz_mem 403 (by decide +kernel)
theorem tw_404 : (Cond.methodLink "TapeBench" (126 : Nat) (⟨"TapeBench$Sheet", "restart", "(II)V"⟩ : MethodName)) ∈ tz_TT := tz_mem 404 (by decide +kernel)
theorem tw_405 : (Cond.instanceMethod (⟨"TapeBench$Sheet", "restart", "(II)V"⟩ : MethodName)) ∈ tz_TT := tz_mem 405 (by decide +kernel)
theorem tw_406 : (Cond.selects "TapeBench$Sheet" (⟨"TapeBench$Sheet", "restart", "(II)V"⟩ : MethodName) (⟨"TapeBench$Sheet", "restart", "(II)V"⟩ : MethodName)) ∈ tz_TT := tz_mem 406 (by decide +kernel)
theorem tw_407 : (Cond.code (⟨"TapeBench$Sheet", "restart", "(II)V"⟩ : MethodName) prog_8_method_7_code (3 : Nat) (Option.none : Option FieldType)) ∈ tz_TT := tz_mem 407 (by decide +kernel)
theorem tw_408 : (Cond.methodLink "TapeBench$Sheet" (22 : Nat) (⟨"java/util/Arrays", "fill", "([II)V"⟩ : MethodName)) ∈ tz_TT := tz_mem 408 (by decide +kernel)
theorem tw_409 : (Cond.methodLink "TapeBench$Sheet" (28 : Nat) (⟨"java/lang/Math", "min", "(II)I"⟩ : MethodName)) ∈ tz_TT := tz_mem 409 (by decide +kernel)
theorem tw_410 : (Cond.methodLink "TapeBench$Sheet" (34 : Nat) (⟨"java/lang/Math", "max", "(II)I"⟩ : MethodName)) ∈ tz_TT := tz_mem 410 (by decide +kernel)
theorem tw_411 : (Cond.methodLink "TapeBench" (128 : Nat) (⟨"TapeBench$Sheet", "length", "()I"⟩ : MethodName)) ∈ tz_TT := tz_mem 411 (by decide +kernel)
theorem tw_412 : (Cond.instanceMethod (⟨"TapeBench$Sheet", "length", "()I"⟩ : MethodName)) ∈ tz_TT := tz_mem 412 (by decide +kernel)
theorem tw_413 : (Cond.selects "TapeBench$Sheet" (⟨"TapeBench$Sheet", "length", "()I"⟩ : MethodName) (⟨"TapeBench$Sheet", "length", "()I"⟩ : MethodName)) ∈ tz_TT := tz_mem 413 (by decide +kernel)
theorem tw_414 : (Cond.code (⟨"TapeBench$Sheet", "length", "()I"⟩ : MethodName) prog_8_method_5_code (1 : Nat) (Option.some FieldType.int)) ∈ tz_TT := tz_mem 414 (by decide +kernel)
theorem tw_415 : (Cond.methodLink "TapeBenchLaw" (43 : Nat) (⟨"TapeBench", "write", "(III)I"⟩ : MethodName)) ∈ tz_TT := tz_mem 415 (by decide +kernel)
theorem tw_416 : (Cond.instanceMethod (⟨"TapeBench", "write", "(III)I"⟩ : MethodName)) ∈ tz_TT := tz_mem 416 (by decide +kernel)
theorem tw_417 : (Cond.selects "TapeBench" (⟨"TapeBench", "write", "(III)I"⟩ : MethodName) (⟨"TapeBench", "write", "(III)I"⟩ : MethodName)) ∈ tz_TT := tz_mem 417 (by decide +kernel)
theorem tw_418 : (Cond.code (⟨"TapeBench", "write", "(III)I"⟩ : MethodName) prog_1_method_9_code (5 : Nat) (Option.some FieldType.int)) ∈ tz_TT := tz_mem 418 (by decide +kernel)
theorem tw_419 : (Cond.methodLink "TapeBench" (129 : Nat) (⟨"TapeBench$Sheet", "isMissing", "()Z"⟩ : MethodName)) ∈ tz_TT := tz_mem 419 (by decide +kernel)
theorem tw_420 : (Cond.instanceMethod (⟨"TapeBench$Sheet", "isMissing", "()Z"⟩ : MethodName)) ∈ tz_TT := tz_mem 420 (by decide +kernel)
theorem tw_421 : (Cond.selects "TapeBench$Sheet" (⟨"TapeBench$Sheet", "isMissing", "()Z"⟩ : MethodName) (⟨"TapeBench$Sheet", "isMissing", "()Z"⟩ : MethodName)) ∈ tz_TT := tz_mem 421 (by decide +kernel)
theorem tw_422 : (Cond.code (⟨"TapeBench$Sheet", "isMissing", "()Z"⟩ : MethodName) prog_8_method_3_code (1 : Nat) (Option.some FieldType.boolean)) ∈ tz_TT := tz_mem 422 (by decide +kernel)
theorem tw_423 : (Cond.constant "TapeBench" (133 : Nat) (-100002 : Int32)) ∈ tz_TT := tz_mem 423 (by decide +kernel)
theorem tw_424 : (Cond.methodLink "TapeBench" (134 : Nat) (⟨"TapeBench$Sheet", "has", "(I)Z"⟩ : MethodName)) ∈ tz_TT := tz_mem 424 (by decide +kernel)
theorem tw_425 : (Cond.instanceMethod (⟨"TapeBench$Sheet", "has", "(I)Z"⟩ : MethodName)) ∈ tz_TT := tz_mem 425 (by decide +kernel)
theorem tw_426 : (Cond.selects "TapeBench$Sheet" (⟨"TapeBench$Sheet", "has", "(I)Z"⟩ : MethodName) (⟨"TapeBench$Sheet", "has", "(I)Z"⟩ : MethodName)) ∈ tz_TT := tz_mem 426 (by decide +kernel)
theorem tw_427 : (Cond.code (⟨"TapeBench$Sheet", "has", "(I)Z"⟩ : MethodName) prog_8_method_6_code (2 : Nat) (Option.some FieldType.boolean)) ∈ tz_TT := tz_mem 427 (by decide +kernel)
theorem tw_428 : (Cond.methodLink "TapeBench" (135 : Nat) (⟨"TapeBench$Sheet", "set", "(II)V"⟩ : MethodName)) ∈ tz_TT := tz_mem 428 (by decide +kernel)
theorem tw_429 : (Cond.instanceMethod (⟨"TapeBench$Sheet", "set", "(II)V"⟩ : MethodName)) ∈ tz_TT := tz_mem 429 (by decide +kernel)
theorem tw_430 : (Cond.selects "TapeBench$Sheet" (⟨"TapeBench$Sheet", "set", "(II)V"⟩ : MethodName) (⟨"TapeBench$Sheet", "set", "(II)V"⟩ : MethodName)) ∈ tz_TT := tz_mem 430 (by decide +kernel)
theorem tw_431 : (Cond.code (⟨"TapeBench$Sheet", "set", "(II)V"⟩ : MethodName) prog_8_method_8_code (4 : Nat) (Option.none : Option FieldType)) ∈ tz_TT := tz_mem 431 (by decide +kernel)
theorem tw_432 : (Cond.methodLink "TapeBench$Sheet" (37 : Nat) (⟨"TapeBench$Sheet", "has", "(I)Z"⟩ : MethodName)) ∈ tz_TT := tz_mem 432 (by decide +kernel)
theorem tw_433 : (Cond.methodLink "TapeBenchLaw" (47 : Nat) (⟨"TapeBench", "copy", "(IIIII)I"⟩ : MethodName)) ∈ tz_TT := tz_mem 433 (by decide +kernel)
theorem tw_434 : (Cond.instanceMethod (⟨"TapeBench", "copy", "(IIIII)I"⟩ : MethodName)) ∈ tz_TT := tz_mem 434 (by decide +kernel)
theorem tw_435 : (Cond.selects "TapeBench" (⟨"TapeBench", "copy", "(IIIII)I"⟩ : MethodName) (⟨"TapeBench", "copy", "(IIIII)I"⟩ : MethodName)) ∈ tz_TT := tz_mem 435 (by decide +kernel)
theorem tw_436 : (Cond.code (⟨"TapeBench", "copy", "(IIIII)I"⟩ : MethodName) prog_1_method_10_code (8 : Nat) (Option.some FieldType.int)) ∈ tz_TT := tz_mem 436 (by decide +kernel)
theorem tw_437 : (Cond.methodLink "TapeBench" (136 : Nat) (⟨"TapeBench$Sheet", "bits", "()I"⟩ : MethodName)) ∈ tz_TT := tz_mem 437 (by decide +kernel)
theorem tw_438 : (Cond.instanceMethod (⟨"TapeBench$Sheet", "bits", "()I"⟩ : MethodName)) ∈ tz_TT := tz_mem 438 (by decide +kernel)
theorem tw_439 : (Cond.selects "TapeBench$Sheet" (⟨"TapeBench$Sheet", "bits", "()I"⟩ : MethodName) (⟨"TapeBench$Sheet", "bits", "()I"⟩ : MethodName)) ∈ tz_TT := tz_mem 439 (by decide +kernel)
theorem tw_440 : (Cond.code (⟨"TapeBench$Sheet", "bits", "()I"⟩ : MethodName) prog_8_method_4_code (1 : Nat) (Option.some FieldType.int)) ∈ tz_TT := tz_mem 440 (by decide +kernel)
theorem tw_441 : (Cond.constant "TapeBench" (139 : Nat) (-100004 : Int32)) ∈ tz_TT := tz_mem 441 (by decide +kernel)
theorem tw_442 : (Cond.methodLink "TapeBench" (140 : Nat) (⟨"TapeBench$Sheet", "take", "(LTapeBench$Sheet;III)V"⟩ : MethodName)) ∈ tz_TT := tz_mem 442 (by decide +kernel)
theorem tw_443 : (Cond.instanceMethod (⟨"TapeBench$Sheet", "take", "(LTapeBench$Sheet;III)V"⟩ : MethodName)) ∈ tz_TT := tz_mem 443 (by decide +kernel)
theorem tw_444 : (Cond.selects "TapeBench$Sheet" (⟨"TapeBench$Sheet", "take", "(LTapeBench$Sheet;III)V"⟩ : MethodName) (⟨"TapeBench$Sheet", "take", "(LTapeBench$Sheet;III)V"⟩ : MethodName)) ∈ tz_TT := tz_mem 444 (by decide +kernel)
theorem tw_445 : (Cond.code (⟨"TapeBench$Sheet", "take", "(LTapeBench$Sheet;III)V"⟩ : MethodName) prog_8_method_9_code (5 : Nat) (Option.none : Option FieldType)) ∈ tz_TT := tz_mem 445 (by decide +kernel)
theorem tw_446 : (Cond.methodLinkNest "TapeBench$Sheet" (41 : Nat) (⟨"TapeBench", "holds", "(III)Z"⟩ : MethodName) "TapeBench") ∈ lw_tbl := tz_memL 446 (by decide +kernel)
theorem tw_447 : (Cond.methodLink "TapeBench$Sheet" (45 : Nat) (⟨"java/lang/System", "arraycopy", "(Ljava/lang/Object;ILjava/lang/Object;II)V"⟩ : MethodName)) ∈ tz_TT := tz_mem 447 (by decide +kernel)
theorem tw_448 : (Cond.methodLink "TapeBenchLaw" (52 : Nat) (⟨"TapeBench", "lay", "(II)I"⟩ : MethodName)) ∈ tz_TT := tz_mem 448 (by decide +kernel)
theorem tw_449 : (Cond.instanceMethod (⟨"TapeBench", "lay", "(II)I"⟩ : MethodName)) ∈ tz_TT := tz_mem 449 (by decide +kernel)
theorem tw_450 : (Cond.selects "TapeBench" (⟨"TapeBench", "lay", "(II)I"⟩ : MethodName) (⟨"TapeBench", "lay", "(II)I"⟩ : MethodName)) ∈ tz_TT := tz_mem 450 (by decide +kernel)
theorem tw_451 : (Cond.code (⟨"TapeBench", "lay", "(II)I"⟩ : MethodName) prog_1_method_11_code (6 : Nat) (Option.some FieldType.int)) ∈ tz_TT := tz_mem 451 (by decide +kernel)
theorem tw_452 : (Cond.methodLink "TapeBench" (144 : Nat) (⟨"TapeBench$Row", "empty", "()V"⟩ : MethodName)) ∈ tz_TT := tz_mem 452 (by decide +kernel)
theorem tw_453 : (Cond.instanceMethod (⟨"TapeBench$Row", "empty", "()V"⟩ : MethodName)) ∈ tz_TT := tz_mem 453 (by decide +kernel)
theorem tw_454 : (Cond.selects "TapeBench$Row" (⟨"TapeBench$Row", "empty", "()V"⟩ : MethodName) (⟨"TapeBench$Row", "empty", "()V"⟩ : MethodName)) ∈ tz_TT := tz_mem 454 (by decide +kernel)
theorem tw_455 : (Cond.code (⟨"TapeBench$Row", "empty", "()V"⟩ : MethodName) prog_7_method_7_code (1 : Nat) (Option.none : Option FieldType)) ∈ tz_TT := tz_mem 455 (by decide +kernel)
theorem tw_456 : (Cond.methodLink "TapeBench" (147 : Nat) (⟨"TapeBench$Sheet", "asSample", "(I)I"⟩ : MethodName)) ∈ tz_TT := tz_mem 456 (by decide +kernel)
theorem tw_457 : (Cond.instanceMethod (⟨"TapeBench$Sheet", "asSample", "(I)I"⟩ : MethodName)) ∈ tz_TT := tz_mem 457 (by decide +kernel)
theorem tw_458 : (Cond.selects "TapeBench$Sheet" (⟨"TapeBench$Sheet", "asSample", "(I)I"⟩ : MethodName) (⟨"TapeBench$Sheet", "asSample", "(I)I"⟩ : MethodName)) ∈ tz_TT := tz_mem 458 (by decide +kernel)
theorem tw_459 : (Cond.code (⟨"TapeBench$Sheet", "asSample", "(I)I"⟩ : MethodName) prog_8_method_10_code (2 : Nat) (Option.some FieldType.int)) ∈ tz_TT := tz_mem 459 (by decide +kernel)
theorem tw_460 : (Cond.methodLinkNest "TapeBench$Sheet" (51 : Nat) (⟨"TapeBench", "isSample", "(I)Z"⟩ : MethodName) "TapeBench") ∈ lw_tbl := tz_memL 460 (by decide +kernel)
theorem tw_461 : (Cond.constant "TapeBench$Sheet" (54 : Nat) (-100007 : Int32)) ∈ tz_TT := tz_mem 461 (by decide +kernel)
theorem tw_462 : (Cond.methodLink "TapeBench" (150 : Nat) (⟨"TapeBench$Row", "add", "(I)V"⟩ : MethodName)) ∈ tz_TT := tz_mem 462 (by decide +kernel)
theorem tw_463 : (Cond.instanceMethod (⟨"TapeBench$Row", "add", "(I)V"⟩ : MethodName)) ∈ tz_TT := tz_mem 463 (by decide +kernel)
theorem tw_464 : (Cond.selects "TapeBench$Row" (⟨"TapeBench$Row", "add", "(I)V"⟩ : MethodName) (⟨"TapeBench$Row", "add", "(I)V"⟩ : MethodName)) ∈ tz_TT := tz_mem 464 (by decide +kernel)
theorem tw_465 : (Cond.code (⟨"TapeBench$Row", "add", "(I)V"⟩ : MethodName) prog_7_method_6_code (2 : Nat) (Option.none : Option FieldType)) ∈ tz_TT := tz_mem 465 (by decide +kernel)
theorem tw_466 : (Cond.methodLink "TapeBenchLaw" (56 : Nat) (⟨"TapeBench", "layer", "(III)I"⟩ : MethodName)) ∈ tz_TT := tz_mem 466 (by decide +kernel)
theorem tw_467 : (Cond.instanceMethod (⟨"TapeBench", "layer", "(III)I"⟩ : MethodName)) ∈ tz_TT := tz_mem 467 (by decide +kernel)
theorem tw_468 : (Cond.selects "TapeBench" (⟨"TapeBench", "layer", "(III)I"⟩ : MethodName) (⟨"TapeBench", "layer", "(III)I"⟩ : MethodName)) ∈ tz_TT := tz_mem 468 (by decide +kernel)
theorem tw_469 : (Cond.code (⟨"TapeBench", "layer", "(III)I"⟩ : MethodName) prog_1_method_12_code (5 : Nat) (Option.some FieldType.int)) ∈ tz_TT := tz_mem 469 (by decide +kernel)
theorem tw_470 : (Cond.methodLink "TapeBench" (153 : Nat) (⟨"TapeBench$Layer", "canBe", "(III)Z"⟩ : MethodName)) ∈ tz_TT := tz_mem 470 (by decide +kernel)
theorem tw_471 : (Cond.static (⟨"TapeBench$Layer", "canBe", "(III)Z"⟩ : MethodName)) ∈ tz_TT := tz_mem 471 (by decide +kernel)
theorem tw_472 : (Cond.code (⟨"TapeBench$Layer", "canBe", "(III)Z"⟩ : MethodName) prog_4_method_3_code (3 : Nat) (Option.some FieldType.boolean)) ∈ tz_TT := tz_mem 472 (by decide +kernel)
theorem tw_473 : (Cond.fieldLinkNest "TapeBench$Layer" (25 : Nat) "TapeBench" "LOWEST_A" "[I" "TapeBench") ∈ lw_tbl := tz_memL 473 (by decide +kernel)
theorem tw_474 : (Cond.laysStatic "TapeBench" "LOWEST_A" "[I") ∈ lw_tbl := tz_memL 474 (by decide +kernel)
theorem tw_475 : (Cond.fieldLinkNest "TapeBench$Layer" (29 : Nat) "TapeBench" "HIGHEST_A" "[I" "TapeBench") ∈ lw_tbl := tz_memL 475 (by decide +kernel)
theorem tw_476 : (Cond.laysStatic "TapeBench" "HIGHEST_A" "[I") ∈ lw_tbl := tz_memL 476 (by decide +kernel)
theorem tw_477 : (Cond.methodLink "TapeBench" (162 : Nat) (⟨"TapeBench$Layers", "inAll", "()I"⟩ : MethodName)) ∈ tz_TT := tz_mem 477 (by decide +kernel)
theorem tw_478 : (Cond.instanceMethod (⟨"TapeBench$Layers", "inAll", "()I"⟩ : MethodName)) ∈ tz_TT := tz_mem 478 (by decide +kernel)
theorem tw_479 : (Cond.selects "TapeBench$Layers" (⟨"TapeBench$Layers", "inAll", "()I"⟩ : MethodName) (⟨"TapeBench$Layers", "inAll", "()I"⟩ : MethodName)) ∈ tz_TT := tz_mem 479 (by decide +kernel)
theorem tw_480 : (Cond.code (⟨"TapeBench$Layers", "inAll", "()I"⟩ : MethodName) prog_5_method_2_code (1 : Nat) (Option.some FieldType.int)) ∈ tz_TT := tz_mem 480 (by decide +kernel)
theorem tw_481 : (Cond.constant "TapeBench" (167 : Nat) (-100005 : Int32)) ∈ tz_TT := tz_mem 481 (by decide +kernel)
theorem tw_482 : (Cond.classLink "TapeBench" (154 : Nat) "TapeBench$Layer") ∈ tz_TT := tz_mem 482 (by decide +kernel)
theorem tw_483 : (Cond.instantiable "TapeBench$Layer" (4 : Nat)) ∈ tz_TT := tz_mem 483 (by decide +kernel)
theorem tw_484 : (Cond.methodLink "TapeBench" (168 : Nat) (⟨"TapeBench$Layer", "hasB", "(I)Z"⟩ : MethodName)) ∈ tz_TT := tz_mem 484 (by decide +kernel)
theorem tw_485 : (Cond.static (⟨"TapeBench$Layer", "hasB", "(I)Z"⟩ : MethodName)) ∈ tz_TT := tz_mem 485 (by decide +kernel)
theorem tw_486 : (Cond.code (⟨"TapeBench$Layer", "hasB", "(I)Z"⟩ : MethodName) prog_4_method_2_code (1 : Nat) (Option.some FieldType.boolean)) ∈ tz_TT := tz_mem 486 (by decide +kernel)
theorem tw_487 : (Cond.methodLink "TapeBench" (171 : Nat) (⟨"TapeBench$Layer", "<init>", "(IIIZ)V"⟩ : MethodName)) ∈ tz_TT := tz_mem 487 (by decide +kernel)
theorem tw_488 : (Cond.instanceMethod (⟨"TapeBench$Layer", "<init>", "(IIIZ)V"⟩ : MethodName)) ∈ tz_TT := tz_mem 488 (by decide +kernel)
theorem tw_489 : (Cond.code (⟨"TapeBench$Layer", "<init>", "(IIIZ)V"⟩ : MethodName) prog_4_method_1_code (5 : Nat) (Option.none : Option FieldType)) ∈ tz_TT := tz_mem 489 (by decide +kernel)
theorem tw_490 : (Cond.methodLink "TapeBench$Layer" (3 : Nat) (⟨"java/lang/Object", "<init>", "()V"⟩ : MethodName)) ∈ tz_TT := tz_mem 490 (by decide +kernel)
theorem tw_491 : (Cond.fieldLink "TapeBench$Layer" (9 : Nat) "TapeBench$Layer" "kind" "I") ∈ tz_TT := tz_mem 491 (by decide +kernel)
theorem tw_492 : (Cond.fieldLink "TapeBench$Player" (72 : Nat) "TapeBench$Layer" "kind" "I") ∈ tz_TT := tz_mem 492 (by decide +kernel)
theorem tw_493 : (Cond.fieldLink "TapeBench" (185 : Nat) "TapeBench$Layer" "kind" "I") ∈ tz_TT := tz_mem 493 (by decide +kernel)
theorem tw_494 : (Cond.fieldLink "TapeBench$Layer" (15 : Nat) "TapeBench$Layer" "a" "I") ∈ tz_TT := tz_mem 494 (by decide +kernel)
theorem tw_495 : (Cond.fieldLink "TapeBench$Player" (75 : Nat) "TapeBench$Layer" "a" "I") ∈ tz_TT := tz_mem 495 (by decide +kernel)
theorem tw_496 : (Cond.fieldLink "TapeBench" (188 : Nat) "TapeBench$Layer" "a" "I") ∈ tz_TT := tz_mem 496 (by decide +kernel)
theorem tw_497 : (Cond.fieldLink "TapeBench$Layer" (18 : Nat) "TapeBench$Layer" "b" "I") ∈ tz_TT := tz_mem 497 (by decide +kernel)
theorem tw_498 : (Cond.fieldLink "TapeBench$Player" (89 : Nat) "TapeBench$Layer" "b" "I") ∈ tz_TT := tz_mem 498 (by decide +kernel)
theorem tw_499 : (Cond.fieldLink "TapeBench" (191 : Nat) "TapeBench$Layer" "b" "I") ∈ tz_TT := tz_mem 499 (by decide +kernel)
theorem tw_500 : (Cond.fieldLink "TapeBench$Layer" (21 : Nat) "TapeBench$Layer" "on" "Z") ∈ tz_TT := tz_mem 500 (by decide +kernel)
theorem tw_501 : (Cond.fieldLink "TapeBench$Player" (59 : Nat) "TapeBench$Layer" "on" "Z") ∈ tz_TT := tz_mem 501 (by decide +kernel)
theorem tw_502 : (Cond.fieldLink "TapeBench$Layers" (25 : Nat) "TapeBench$Layer" "on" "Z") ∈ tz_TT := tz_mem 502 (by decide +kernel)
theorem tw_503 : (Cond.fieldLink "TapeBench" (181 : Nat) "TapeBench$Layer" "on" "Z") ∈ tz_TT := tz_mem 503 (by decide +kernel)
theorem tw_504 : (Cond.laysFinal "TapeBench$Layer" "TapeBench$Layer" "kind" "I") ∈ tz_TT := tz_mem 504 (by decide +kernel)
theorem tw_505 : (Cond.soleField "TapeBench$Layer" "kind") ∈ tz_TT := tz_mem 505 (by decide +kernel)
theorem tw_506 : (Cond.laysFinal "TapeBench$Layer" "TapeBench$Layer" "a" "I") ∈ tz_TT := tz_mem 506 (by decide +kernel)
theorem tw_507 : (Cond.soleField "TapeBench$Layer" "a") ∈ tz_TT := tz_mem 507 (by decide +kernel)
theorem tw_508 : (Cond.laysFinal "TapeBench$Layer" "TapeBench$Layer" "b" "I") ∈ tz_TT := tz_mem 508 (by decide +kernel)
theorem tw_509 : (Cond.soleField "TapeBench$Layer" "b") ∈ tz_TT := tz_mem 509 (by decide +kernel)
theorem tw_510 : (Cond.laysFinal "TapeBench$Layer" "TapeBench$Layer" "on" "Z") ∈ tz_TT := tz_mem 510 (by decide +kernel)
theorem tw_511 : (Cond.soleField "TapeBench$Layer" "on") ∈ tz_TT := tz_mem 511 (by decide +kernel)
theorem tw_512 : (Cond.superclass "TapeBench$Layer" "java/lang/Object") ∈ tz_TT := tz_mem 512 (by decide +kernel)
theorem tw_513 : (Cond.methodLink "TapeBench" (174 : Nat) (⟨"TapeBench$Layers", "insert", "(ILTapeBench$Layer;)V"⟩ : MethodName)) ∈ tz_TT := tz_mem 513 (by decide +kernel)
theorem tw_514 : (Cond.instanceMethod (⟨"TapeBench$Layers", "insert", "(ILTapeBench$Layer;)V"⟩ : MethodName)) ∈ tz_TT := tz_mem 514 (by decide +kernel)
theorem tw_515 : (Cond.selects "TapeBench$Layers" (⟨"TapeBench$Layers", "insert", "(ILTapeBench$Layer;)V"⟩ : MethodName) (⟨"TapeBench$Layers", "insert", "(ILTapeBench$Layer;)V"⟩ : MethodName)) ∈ tz_TT := tz_mem 515 (by decide +kernel)
theorem tw_516 : (Cond.code (⟨"TapeBench$Layers", "insert", "(ILTapeBench$Layer;)V"⟩ : MethodName) prog_5_method_5_code (4 : Nat) (Option.none : Option FieldType)) ∈ tz_TT := tz_mem 516 (by decide +kernel)
theorem tw_517 : (Cond.methodLink "TapeBenchLaw" (60 : Nat) (⟨"TapeBench", "turnOn", "(IZ)I"⟩ : MethodName)) ∈ tz_TT := tz_mem 517 (by decide +kernel)
theorem tw_518 : (Cond.instanceMethod (⟨"TapeBench", "turnOn", "(IZ)I"⟩ : MethodName)) ∈ tz_TT := tz_mem 518 (by decide +kernel)
theorem tw_519 : (Cond.selects "TapeBench" (⟨"TapeBench", "turnOn", "(IZ)I"⟩ : MethodName) (⟨"TapeBench", "turnOn", "(IZ)I"⟩ : MethodName)) ∈ tz_TT := tz_mem 519 (by decide +kernel)
theorem tw_520 : (Cond.code (⟨"TapeBench", "turnOn", "(IZ)I"⟩ : MethodName) prog_1_method_13_code (4 : Nat) (Option.some FieldType.int)) ∈ tz_TT := tz_mem 520 (by decide +kernel)
theorem tw_521 : (Cond.methodLink "TapeBench" (178 : Nat) (⟨"TapeBench$Layers", "at", "(I)LTapeBench$Layer;"⟩ : MethodName)) ∈ tz_TT := tz_mem 521 (by decide +kernel)
theorem tw_522 : (Cond.instanceMethod (⟨"TapeBench$Layers", "at", "(I)LTapeBench$Layer;"⟩ : MethodName)) ∈ tz_TT := tz_mem 522 (by decide +kernel)
theorem tw_523 : (Cond.selects "TapeBench$Layers" (⟨"TapeBench$Layers", "at", "(I)LTapeBench$Layer;"⟩ : MethodName) (⟨"TapeBench$Layers", "at", "(I)LTapeBench$Layer;"⟩ : MethodName)) ∈ tz_TT := tz_mem 523 (by decide +kernel)
theorem tw_524 : (Cond.code (⟨"TapeBench$Layers", "at", "(I)LTapeBench$Layer;"⟩ : MethodName) prog_5_method_3_code (2 : Nat) (Option.some (FieldType.object "TapeBench$Layer"))) ∈ tz_TT := tz_mem 524 (by decide +kernel)
theorem tw_525 : (Cond.methodLink "TapeBench" (194 : Nat) (⟨"TapeBench$Layers", "replace", "(ILTapeBench$Layer;)V"⟩ : MethodName)) ∈ tz_TT := tz_mem 525 (by decide +kernel)
theorem tw_526 : (Cond.instanceMethod (⟨"TapeBench$Layers", "replace", "(ILTapeBench$Layer;)V"⟩ : MethodName)) ∈ tz_TT := tz_mem 526 (by decide +kernel)
theorem tw_527 : (Cond.selects "TapeBench$Layers" (⟨"TapeBench$Layers", "replace", "(ILTapeBench$Layer;)V"⟩ : MethodName) (⟨"TapeBench$Layers", "replace", "(ILTapeBench$Layer;)V"⟩ : MethodName)) ∈ tz_TT := tz_mem 527 (by decide +kernel)
theorem tw_528 : (Cond.code (⟨"TapeBench$Layers", "replace", "(ILTapeBench$Layer;)V"⟩ : MethodName) prog_5_method_7_code (3 : Nat) (Option.none : Option FieldType)) ∈ tz_TT := tz_mem 528 (by decide +kernel)
theorem tw_529 : (Cond.methodLink "TapeBench$Layers" (21 : Nat) (⟨"TapeBench$Layers", "at", "(I)LTapeBench$Layer;"⟩ : MethodName)) ∈ tz_TT := tz_mem 529 (by decide +kernel)
theorem tw_530 : (Cond.methodLink "TapeBenchLaw" (65 : Nat) (⟨"TapeBench", "move", "(II)I"⟩ : MethodName)) ∈ tz_TT := tz_mem 530 (by decide +kernel)
theorem tw_531 : (Cond.instanceMethod (⟨"TapeBench", "move", "(II)I"⟩ : MethodName)) ∈ tz_TT := tz_mem 531 (by decide +kernel)
theorem tw_532 : (Cond.selects "TapeBench" (⟨"TapeBench", "move", "(II)I"⟩ : MethodName) (⟨"TapeBench", "move", "(II)I"⟩ : MethodName)) ∈ tz_TT := tz_mem 532 (by decide +kernel)
theorem tw_533 : (Cond.code (⟨"TapeBench", "move", "(II)I"⟩ : MethodName) prog_1_method_14_code (4 : Nat) (Option.some FieldType.int)) ∈ tz_TT := tz_mem 533 (by decide +kernel)
theorem tw_534 : (Cond.methodLink "TapeBench" (197 : Nat) (⟨"TapeBench$Layers", "remove", "(I)V"⟩ : MethodName)) ∈ tz_TT := tz_mem 534 (by decide +kernel)
theorem tw_535 : (Cond.instanceMethod (⟨"TapeBench$Layers", "remove", "(I)V"⟩ : MethodName)) ∈ tz_TT := tz_mem 535 (by decide +kernel)
theorem tw_536 : (Cond.selects "TapeBench$Layers" (⟨"TapeBench$Layers", "remove", "(I)V"⟩ : MethodName) (⟨"TapeBench$Layers", "remove", "(I)V"⟩ : MethodName)) ∈ tz_TT := tz_mem 536 (by decide +kernel)
theorem tw_537 : (Cond.code (⟨"TapeBench$Layers", "remove", "(I)V"⟩ : MethodName) prog_5_method_6_code (3 : Nat) (Option.none : Option FieldType)) ∈ tz_TT := tz_mem 537 (by decide +kernel)
theorem tw_538 : (Cond.methodLink "TapeBenchLaw" (69 : Nat) (⟨"TapeBench", "drop", "(I)I"⟩ : MethodName)) ∈ tz_TT := tz_mem 538 (by decide +kernel)
theorem tw_539 : (Cond.instanceMethod (⟨"TapeBench", "drop", "(I)I"⟩ : MethodName)) ∈ tz_TT := tz_mem 539 (by decide +kernel)
theorem tw_540 : (Cond.selects "TapeBench" (⟨"TapeBench", "drop", "(I)I"⟩ : MethodName) (⟨"TapeBench", "drop", "(I)I"⟩ : MethodName)) ∈ tz_TT := tz_mem 540 (by decide +kernel)
theorem tw_541 : (Cond.code (⟨"TapeBench", "drop", "(I)I"⟩ : MethodName) prog_1_method_15_code (2 : Nat) (Option.some FieldType.int)) ∈ tz_TT := tz_mem 541 (by decide +kernel)
theorem tw_542 : (Cond.methodLink "TapeBenchLaw" (74 : Nat) (⟨"TapeBench", "told", "(II)I"⟩ : MethodName)) ∈ tz_TT := tz_mem 542 (by decide +kernel)
theorem tw_543 : (Cond.instanceMethod (⟨"TapeBench", "told", "(II)I"⟩ : MethodName)) ∈ tz_TT := tz_mem 543 (by decide +kernel)
theorem tw_544 : (Cond.selects "TapeBench" (⟨"TapeBench", "told", "(II)I"⟩ : MethodName) (⟨"TapeBench", "told", "(II)I"⟩ : MethodName)) ∈ tz_TT := tz_mem 544 (by decide +kernel)
theorem tw_545 : (Cond.code (⟨"TapeBench", "told", "(II)I"⟩ : MethodName) prog_1_method_16_code (4 : Nat) (Option.some FieldType.int)) ∈ tz_TT := tz_mem 545 (by decide +kernel)
theorem tw_546 : (Cond.methodLink "TapeBenchLaw" (78 : Nat) (⟨"TapeBench", "as", "(II)I"⟩ : MethodName)) ∈ tz_TT := tz_mem 546 (by decide +kernel)
theorem tw_547 : (Cond.instanceMethod (⟨"TapeBench", "as", "(II)I"⟩ : MethodName)) ∈ tz_TT := tz_mem 547 (by decide +kernel)
theorem tw_548 : (Cond.selects "TapeBench" (⟨"TapeBench", "as", "(II)I"⟩ : MethodName) (⟨"TapeBench", "as", "(II)I"⟩ : MethodName)) ∈ tz_TT := tz_mem 548 (by decide +kernel)
theorem tw_549 : (Cond.code (⟨"TapeBench", "as", "(II)I"⟩ : MethodName) prog_1_method_17_code (4 : Nat) (Option.some FieldType.int)) ∈ tz_TT := tz_mem 549 (by decide +kernel)
theorem tw_550 : (Cond.methodLink "TapeBench" (200 : Nat) (⟨"TapeBench$Layer", "isA", "(I)Z"⟩ : MethodName)) ∈ tz_TT := tz_mem 550 (by decide +kernel)
theorem tw_551 : (Cond.instanceMethod (⟨"TapeBench$Layer", "isA", "(I)Z"⟩ : MethodName)) ∈ tz_TT := tz_mem 551 (by decide +kernel)
theorem tw_552 : (Cond.selects "TapeBench$Layer" (⟨"TapeBench$Layer", "isA", "(I)Z"⟩ : MethodName) (⟨"TapeBench$Layer", "isA", "(I)Z"⟩ : MethodName)) ∈ tz_TT := tz_mem 552 (by decide +kernel)
theorem tw_553 : (Cond.code (⟨"TapeBench$Layer", "isA", "(I)Z"⟩ : MethodName) prog_4_method_4_code (2 : Nat) (Option.some FieldType.boolean)) ∈ tz_TT := tz_mem 553 (by decide +kernel)
theorem tw_554 : (Cond.fieldLinkNest "TapeBench$Layer" (32 : Nat) "TapeBench" "KIND_ABOVE" "[I" "TapeBench") ∈ lw_tbl := tz_memL 554 (by decide +kernel)
theorem tw_555 : (Cond.laysStatic "TapeBench" "KIND_ABOVE" "[I") ∈ lw_tbl := tz_memL 555 (by decide +kernel)
theorem tw_556 : (Cond.methodLink "TapeBenchLaw" (82 : Nat) (⟨"TapeBench", "size", "(I)I"⟩ : MethodName)) ∈ tz_TT := tz_mem 556 (by decide +kernel)
theorem tw_557 : (Cond.instanceMethod (⟨"TapeBench", "size", "(I)I"⟩ : MethodName)) ∈ tz_TT := tz_mem 557 (by decide +kernel)
theorem tw_558 : (Cond.selects "TapeBench" (⟨"TapeBench", "size", "(I)I"⟩ : MethodName) (⟨"TapeBench", "size", "(I)I"⟩ : MethodName)) ∈ tz_TT := tz_mem 558 (by decide +kernel)
theorem tw_559 : (Cond.code (⟨"TapeBench", "size", "(I)I"⟩ : MethodName) prog_1_method_18_code (3 : Nat) (Option.some FieldType.int)) ∈ tz_TT := tz_mem 559 (by decide +kernel)
theorem tw_560 : (Cond.methodLink "TapeBench" (203 : Nat) (⟨"TapeBench$Player", "play", "(LTapeBench$Tape;LTapeBench$Row;I)LTapeBench$Row;"⟩ : MethodName)) ∈ tz_TT := tz_mem 560 (by decide +kernel)
theorem tw_561 : (Cond.instanceMethod (⟨"TapeBench$Player", "play", "(LTapeBench$Tape;LTapeBench$Row;I)LTapeBench$Row;"⟩ : MethodName)) ∈ tz_TT := tz_mem 561 (by decide +kernel)
theorem tw_562 : (Cond.selects "TapeBench$Player" (⟨"TapeBench$Player", "play", "(LTapeBench$Tape;LTapeBench$Row;I)LTapeBench$Row;"⟩ : MethodName) (⟨"TapeBench$Player", "play", "(LTapeBench$Tape;LTapeBench$Row;I)LTapeBench$Row;"⟩ : MethodName)) ∈ tz_TT := tz_mem 562 (by decide +kernel)
theorem tw_563 : (Cond.code (⟨"TapeBench$Player", "play", "(LTapeBench$Tape;LTapeBench$Row;I)LTapeBench$Row;"⟩ : MethodName) prog_6_method_3_code (7 : Nat) (Option.some (FieldType.object "TapeBench$Row"))) ∈ tz_TT := tz_mem 563 (by decide +kernel)
theorem tw_564 : (Cond.methodLink "TapeBench$Player" (39 : Nat) (⟨"TapeBench$Row", "become", "(LTapeBench$Row;)V"⟩ : MethodName)) ∈ tz_TT := tz_mem 564 (by decide +kernel)
theorem tw_565 : (Cond.methodLink "TapeBench$Player" (49 : Nat) (⟨"TapeBench$Layers", "inAll", "()I"⟩ : MethodName)) ∈ tz_TT := tz_mem 565 (by decide +kernel)
theorem tw_566 : (Cond.methodLink "TapeBench$Player" (55 : Nat) (⟨"TapeBench$Layers", "at", "(I)LTapeBench$Layer;"⟩ : MethodName)) ∈ tz_TT := tz_mem 566 (by decide +kernel)
theorem tw_567 : (Cond.methodLink "TapeBench$Player" (65 : Nat) (⟨"TapeBench$Row", "empty", "()V"⟩ : MethodName)) ∈ tz_TT := tz_mem 567 (by decide +kernel)
theorem tw_568 : (Cond.methodLink "TapeBench$Player" (68 : Nat) (⟨"TapeBench$Player", "makeNext", "(LTapeBench$Layer;LTapeBench$Tape;)V"⟩ : MethodName)) ∈ tz_TT := tz_mem 568 (by decide +kernel)
theorem tw_570 : (Cond.instanceMethod (⟨"TapeBench$Player", "makeNext", "(LTapeBench$Layer;LTapeBench$Tape;)V"⟩ : MethodName)) ∈ tz_TT := tz_mem 570 (by decide +kernel)
theorem tw_571 : (Cond.code (⟨"TapeBench$Player", "makeNext", "(LTapeBench$Layer;LTapeBench$Tape;)V"⟩ : MethodName) prog_6_method_4_code (3 : Nat) (Option.none : Option FieldType)) ∈ tz_TT := tz_mem 571 (by decide +kernel)
theorem tw_572 : (Cond.methodLink "TapeBench$Player" (78 : Nat) (⟨"TapeBench$Player", "gain", "(I)V"⟩ : MethodName)) ∈ tz_TT := tz_mem 572 (by decide +kernel)
theorem tw_574 : (Cond.instanceMethod (⟨"TapeBench$Player", "gain", "(I)V"⟩ : MethodName)) ∈ tz_TT := tz_mem 574 (by decide +kernel)
theorem tw_575 : (Cond.code (⟨"TapeBench$Player", "gain", "(I)V"⟩ : MethodName) prog_6_method_5_code (4 : Nat) (Option.none : Option FieldType)) ∈ tz_TT := tz_mem 575 (by decide +kernel)
theorem tw_576 : (Cond.methodLink "TapeBench$Player" (109 : Nat) (⟨"TapeBench$Row", "length", "()I"⟩ : MethodName)) ∈ tz_TT := tz_mem 576 (by decide +kernel)
theorem tw_577 : (Cond.methodLink "TapeBench$Player" (112 : Nat) (⟨"TapeBench$Row", "at", "(I)I"⟩ : MethodName)) ∈ tz_TT := tz_mem 577 (by decide +kernel)
theorem tw_578 : (Cond.constant "TapeBench$Player" (115 : Nat) (-100007 : Int32)) ∈ tz_TT := tz_mem 578 (by decide +kernel)
theorem tw_579 : (Cond.methodLink "TapeBench$Player" (116 : Nat) (⟨"java/lang/Math", "min", "(II)I"⟩ : MethodName)) ∈ tz_TT := tz_mem 579 (by decide +kernel)
theorem tw_580 : (Cond.methodLink "TapeBench$Player" (122 : Nat) (⟨"java/lang/Math", "max", "(II)I"⟩ : MethodName)) ∈ tz_TT := tz_mem 580 (by decide +kernel)
theorem tw_581 : (Cond.methodLink "TapeBench$Player" (125 : Nat) (⟨"TapeBench$Row", "add", "(I)V"⟩ : MethodName)) ∈ tz_TT := tz_mem 581 (by decide +kernel)
theorem tw_582 : (Cond.methodLink "TapeBench$Player" (82 : Nat) (⟨"TapeBench$Player", "mend", "(I)V"⟩ : MethodName)) ∈ tz_TT := tz_mem 582 (by decide +kernel)
theorem tw_584 : (Cond.instanceMethod (⟨"TapeBench$Player", "mend", "(I)V"⟩ : MethodName)) ∈ tz_TT := tz_mem 584 (by decide +kernel)
theorem tw_585 : (Cond.code (⟨"TapeBench$Player", "mend", "(I)V"⟩ : MethodName) prog_6_method_6_code (3 : Nat) (Option.none : Option FieldType)) ∈ tz_TT := tz_mem 585 (by decide +kernel)
theorem tw_586 : (Cond.methodLink "TapeBench$Player" (128 : Nat) (⟨"TapeBench$Row", "isClick", "(II)Z"⟩ : MethodName)) ∈ tz_TT := tz_mem 586 (by decide +kernel)
theorem tw_587 : (Cond.methodLink "TapeBench$Player" (85 : Nat) (⟨"TapeBench$Tape", "rowAt", "(I)LTapeBench$Row;"⟩ : MethodName)) ∈ tz_TT := tz_mem 587 (by decide +kernel)
theorem tw_588 : (Cond.methodLink "TapeBench$Player" (92 : Nat) (⟨"TapeBench$Player", "fill", "(LTapeBench$Row;I)V"⟩ : MethodName)) ∈ tz_TT := tz_mem 588 (by decide +kernel)
theorem tw_590 : (Cond.instanceMethod (⟨"TapeBench$Player", "fill", "(LTapeBench$Row;I)V"⟩ : MethodName)) ∈ tz_TT := tz_mem 590 (by decide +kernel)
theorem tw_591 : (Cond.code (⟨"TapeBench$Player", "fill", "(LTapeBench$Row;I)V"⟩ : MethodName) prog_6_method_7_code (5 : Nat) (Option.none : Option FieldType)) ∈ tz_TT := tz_mem 591 (by decide +kernel)
theorem tw_592 : (Cond.methodLink "TapeBench$Player" (132 : Nat) (⟨"TapeBench$Aligner", "shift", "(LTapeBench$Row;LTapeBench$Row;I)I"⟩ : MethodName)) ∈ tz_TT := tz_mem 592 (by decide +kernel)
theorem tw_593 : (Cond.instanceMethod (⟨"TapeBench$Aligner", "shift", "(LTapeBench$Row;LTapeBench$Row;I)I"⟩ : MethodName)) ∈ tz_TT := tz_mem 593 (by decide +kernel)
theorem tw_594 : (Cond.selects "TapeBench$Aligner" (⟨"TapeBench$Aligner", "shift", "(LTapeBench$Row;LTapeBench$Row;I)I"⟩ : MethodName) (⟨"TapeBench$Aligner", "shift", "(LTapeBench$Row;LTapeBench$Row;I)I"⟩ : MethodName)) ∈ tz_TT := tz_mem 594 (by decide +kernel)
theorem tw_595 : (Cond.code (⟨"TapeBench$Aligner", "shift", "(LTapeBench$Row;LTapeBench$Row;I)I"⟩ : MethodName) prog_2_method_5_code (11 : Nat) (Option.some FieldType.int)) ∈ tz_TT := tz_mem 595 (by decide +kernel)
theorem tw_596 : (Cond.constant "TapeBench$Aligner" (34 : Nat) (-100006 : Int32)) ∈ tz_TT := tz_mem 596 (by decide +kernel)
theorem tw_597 : (Cond.methodLink "TapeBench$Aligner" (35 : Nat) (⟨"TapeBench$Aligner", "compare", "(LTapeBench$Row;LTapeBench$Row;I)V"⟩ : MethodName)) ∈ tz_TT := tz_mem 597 (by decide +kernel)
theorem tw_598 : (Cond.instanceMethod (⟨"TapeBench$Aligner", "compare", "(LTapeBench$Row;LTapeBench$Row;I)V"⟩ : MethodName)) ∈ tz_TT := tz_mem 598 (by decide +kernel)
theorem tw_599 : (Cond.selects "TapeBench$Aligner" (⟨"TapeBench$Aligner", "compare", "(LTapeBench$Row;LTapeBench$Row;I)V"⟩ : MethodName) (⟨"TapeBench$Aligner", "compare", "(LTapeBench$Row;LTapeBench$Row;I)V"⟩ : MethodName)) ∈ tz_TT := tz_mem 599 (by decide +kernel)
theorem tw_600 : (Cond.code (⟨"TapeBench$Aligner", "compare", "(LTapeBench$Row;LTapeBench$Row;I)V"⟩ : MethodName) prog_2_method_4_code (7 : Nat) (Option.none : Option FieldType)) ∈ tz_TT := tz_mem 600 (by decide +kernel)
theorem tw_601 : (Cond.methodLink "TapeBench$Aligner" (18 : Nat) (⟨"TapeBench$Row", "length", "()I"⟩ : MethodName)) ∈ tz_TT := tz_mem 601 (by decide +kernel)
theorem tw_602 : (Cond.methodLink "TapeBench$Aligner" (24 : Nat) (⟨"TapeBench$Row", "at", "(I)I"⟩ : MethodName)) ∈ tz_TT := tz_mem 602 (by decide +kernel)
theorem tw_603 : (Cond.constant "TapeBench$Aligner" (28 : Nat) (-100007 : Int32)) ∈ tz_TT := tz_mem 603 (by decide +kernel)
theorem tw_604 : (Cond.methodLink "TapeBench$Aligner" (29 : Nat) (⟨"java/lang/Math", "abs", "(I)I"⟩ : MethodName)) ∈ tz_TT := tz_mem 604 (by decide +kernel)
theorem tw_605 : (Cond.static (⟨"java/lang/Math", "abs", "(I)I"⟩ : MethodName)) ∈ tz_TT := tz_mem 605 (by decide +kernel)
theorem tw_606 : (Cond.code (⟨"java/lang/Math", "abs", "(I)I"⟩ : MethodName) prog_14_method_59_code (1 : Nat) (Option.some FieldType.int)) ∈ tz_TT := tz_mem 606 (by decide +kernel)
theorem tw_607 : (Cond.constant "TapeBench$Player" (136 : Nat) (-100006 : Int32)) ∈ tz_TT := tz_mem 607 (by decide +kernel)
theorem tw_608 : (Cond.methodLink "TapeBench$Player" (137 : Nat) (⟨"TapeBench$Row", "set", "(II)V"⟩ : MethodName)) ∈ tz_TT := tz_mem 608 (by decide +kernel)
theorem tw_609 : (Cond.methodLink "TapeBench$Player" (96 : Nat) (⟨"TapeBench$Player", "bridge", "(I)V"⟩ : MethodName)) ∈ tz_TT := tz_mem 609 (by decide +kernel)
theorem tw_611 : (Cond.instanceMethod (⟨"TapeBench$Player", "bridge", "(I)V"⟩ : MethodName)) ∈ tz_TT := tz_mem 611 (by decide +kernel)
theorem tw_612 : (Cond.code (⟨"TapeBench$Player", "bridge", "(I)V"⟩ : MethodName) prog_6_method_8_code (4 : Nat) (Option.none : Option FieldType)) ∈ tz_TT := tz_mem 612 (by decide +kernel)
theorem tw_613 : (Cond.methodLink "TapeBench$Player" (140 : Nat) (⟨"TapeBench$Player", "span", "(II)V"⟩ : MethodName)) ∈ tz_TT := tz_mem 613 (by decide +kernel)
theorem tw_615 : (Cond.instanceMethod (⟨"TapeBench$Player", "span", "(II)V"⟩ : MethodName)) ∈ tz_TT := tz_mem 615 (by decide +kernel)
theorem tw_616 : (Cond.code (⟨"TapeBench$Player", "span", "(II)V"⟩ : MethodName) prog_6_method_9_code (6 : Nat) (Option.none : Option FieldType)) ∈ tz_TT := tz_mem 616 (by decide +kernel)
theorem tw_617 : (Cond.methodLink "TapeBench$Player" (143 : Nat) (⟨"java/lang/Math", "floorDiv", "(II)I"⟩ : MethodName)) ∈ tz_TT := tz_mem 617 (by decide +kernel)
theorem tw_618 : (Cond.static (⟨"java/lang/Math", "floorDiv", "(II)I"⟩ : MethodName)) ∈ tz_TT := tz_mem 618 (by decide +kernel)
theorem tw_619 : (Cond.code (⟨"java/lang/Math", "floorDiv", "(II)I"⟩ : MethodName) prog_14_method_47_code (3 : Nat) (Option.some FieldType.int)) ∈ tz_TT := tz_mem 619 (by decide +kernel)
theorem tw_620 : (Cond.methodLink "TapeBench$Player" (99 : Nat) (⟨"TapeBench$Player", "warp", "(I)V"⟩ : MethodName)) ∈ tz_TT := tz_mem 620 (by decide +kernel)
theorem tw_622 : (Cond.instanceMethod (⟨"TapeBench$Player", "warp", "(I)V"⟩ : MethodName)) ∈ tz_TT := tz_mem 622 (by decide +kernel)
theorem tw_623 : (Cond.code (⟨"TapeBench$Player", "warp", "(I)V"⟩ : MethodName) prog_6_method_10_code (4 : Nat) (Option.none : Option FieldType)) ∈ tz_TT := tz_mem 623 (by decide +kernel)
theorem tw_624 : (Cond.methodLink "TapeBench$Player" (146 : Nat) (⟨"TapeBench$Turns", "find", "(LTapeBench$Row;)V"⟩ : MethodName)) ∈ tz_TT := tz_mem 624 (by decide +kernel)
theorem tw_625 : (Cond.methodLink "TapeBench$Player" (149 : Nat) (⟨"TapeBench$Turns", "found", "()I"⟩ : MethodName)) ∈ tz_TT := tz_mem 625 (by decide +kernel)
theorem tw_626 : (Cond.methodLink "TapeBench$Player" (152 : Nat) (⟨"TapeBench$Player", "sampleAtTime", "(II)I"⟩ : MethodName)) ∈ tz_TT := tz_mem 626 (by decide +kernel)
theorem tw_628 : (Cond.instanceMethod (⟨"TapeBench$Player", "sampleAtTime", "(II)I"⟩ : MethodName)) ∈ tz_TT := tz_mem 628 (by decide +kernel)
theorem tw_629 : (Cond.code (⟨"TapeBench$Player", "sampleAtTime", "(II)I"⟩ : MethodName) prog_6_method_11_code (10 : Nat) (Option.some FieldType.int)) ∈ tz_TT := tz_mem 629 (by decide +kernel)
theorem tw_630 : (Cond.methodLink "TapeBench$Player" (158 : Nat) (⟨"TapeBench$Turns", "placeAt", "(I)I"⟩ : MethodName)) ∈ tz_TT := tz_mem 630 (by decide +kernel)
theorem tw_631 : (Cond.methodLink "TapeBench$Player" (155 : Nat) (⟨"TapeBench$Player", "followWarp", "(II)V"⟩ : MethodName)) ∈ tz_TT := tz_mem 631 (by decide +kernel)
theorem tw_633 : (Cond.instanceMethod (⟨"TapeBench$Player", "followWarp", "(II)V"⟩ : MethodName)) ∈ tz_TT := tz_mem 633 (by decide +kernel)
theorem tw_634 : (Cond.code (⟨"TapeBench$Player", "followWarp", "(II)V"⟩ : MethodName) prog_6_method_12_code (7 : Nat) (Option.none : Option FieldType)) ∈ tz_TT := tz_mem 634 (by decide +kernel)
theorem tw_635 : (Cond.methodLink "TapeBench$Player" (161 : Nat) (⟨"TapeBench$Turns", "latestUpTo", "(I)I"⟩ : MethodName)) ∈ tz_TT := tz_mem 635 (by decide +kernel)
theorem tw_636 : (Cond.instanceMethod (⟨"TapeBench$Turns", "latestUpTo", "(I)I"⟩ : MethodName)) ∈ tz_TT := tz_mem 636 (by decide +kernel)
theorem tw_637 : (Cond.selects "TapeBench$Turns" (⟨"TapeBench$Turns", "latestUpTo", "(I)I"⟩ : MethodName) (⟨"TapeBench$Turns", "latestUpTo", "(I)I"⟩ : MethodName)) ∈ tz_TT := tz_mem 637 (by decide +kernel)
theorem tw_638 : (Cond.code (⟨"TapeBench$Turns", "latestUpTo", "(I)I"⟩ : MethodName) prog_11_method_5_code (4 : Nat) (Option.some FieldType.int)) ∈ tz_TT := tz_mem 638 (by decide +kernel)
theorem tw_639 : (Cond.methodLink "TapeBench$Turns" (30 : Nat) (⟨"TapeBench$Turns", "placeAt", "(I)I"⟩ : MethodName)) ∈ tz_TT := tz_mem 639 (by decide +kernel)
theorem tw_640 : (Cond.methodLink "TapeBench$Player" (102 : Nat) (⟨"TapeBench$Player", "cut", "(II)V"⟩ : MethodName)) ∈ tz_TT := tz_mem 640 (by decide +kernel)
theorem tw_642 : (Cond.instanceMethod (⟨"TapeBench$Player", "cut", "(II)V"⟩ : MethodName)) ∈ tz_TT := tz_mem 642 (by decide +kernel)
theorem tw_643 : (Cond.code (⟨"TapeBench$Player", "cut", "(II)V"⟩ : MethodName) prog_6_method_13_code (4 : Nat) (Option.none : Option FieldType)) ∈ tz_TT := tz_mem 643 (by decide +kernel)
theorem tw_644 : (Cond.methodLink "TapeBench$Player" (106 : Nat) (⟨"TapeBench$Player", "fade", "(I)V"⟩ : MethodName)) ∈ tz_TT := tz_mem 644 (by decide +kernel)
theorem tw_646 : (Cond.instanceMethod (⟨"TapeBench$Player", "fade", "(I)V"⟩ : MethodName)) ∈ tz_TT := tz_mem 646 (by decide +kernel)
theorem tw_647 : (Cond.code (⟨"TapeBench$Player", "fade", "(I)V"⟩ : MethodName) prog_6_method_14_code (4 : Nat) (Option.none : Option FieldType)) ∈ tz_TT := tz_mem 647 (by decide +kernel)
theorem tw_648 : (Cond.methodLink "TapeBenchLaw" (86 : Nat) (⟨"TapeBench", "out", "(II)I"⟩ : MethodName)) ∈ tz_TT := tz_mem 648 (by decide +kernel)
theorem tw_649 : (Cond.instanceMethod (⟨"TapeBench", "out", "(II)I"⟩ : MethodName)) ∈ tz_TT := tz_mem 649 (by decide +kernel)
theorem tw_650 : (Cond.selects "TapeBench" (⟨"TapeBench", "out", "(II)I"⟩ : MethodName) (⟨"TapeBench", "out", "(II)I"⟩ : MethodName)) ∈ tz_TT := tz_mem 650 (by decide +kernel)
theorem tw_651 : (Cond.code (⟨"TapeBench", "out", "(II)I"⟩ : MethodName) prog_1_method_19_code (5 : Nat) (Option.some FieldType.int)) ∈ tz_TT := tz_mem 651 (by decide +kernel)
theorem tw_652 : (Cond.methodLink "TapeBenchLaw" (90 : Nat) (⟨"TapeBench", "heard", "(II)I"⟩ : MethodName)) ∈ tz_TT := tz_mem 652 (by decide +kernel)
theorem tw_653 : (Cond.instanceMethod (⟨"TapeBench", "heard", "(II)I"⟩ : MethodName)) ∈ tz_TT := tz_mem 653 (by decide +kernel)
theorem tw_654 : (Cond.selects "TapeBench" (⟨"TapeBench", "heard", "(II)I"⟩ : MethodName) (⟨"TapeBench", "heard", "(II)I"⟩ : MethodName)) ∈ tz_TT := tz_mem 654 (by decide +kernel)
theorem tw_655 : (Cond.code (⟨"TapeBench", "heard", "(II)I"⟩ : MethodName) prog_1_method_20_code (5 : Nat) (Option.some FieldType.int)) ∈ tz_TT := tz_mem 655 (by decide +kernel)
theorem tw_656 : (Cond.methodLink "TapeBench" (207 : Nat) (⟨"TapeBench$Row", "loudest", "()I"⟩ : MethodName)) ∈ tz_TT := tz_mem 656 (by decide +kernel)
theorem tw_657 : (Cond.instanceMethod (⟨"TapeBench$Row", "loudest", "()I"⟩ : MethodName)) ∈ tz_TT := tz_mem 657 (by decide +kernel)
theorem tw_658 : (Cond.selects "TapeBench$Row" (⟨"TapeBench$Row", "loudest", "()I"⟩ : MethodName) (⟨"TapeBench$Row", "loudest", "()I"⟩ : MethodName)) ∈ tz_TT := tz_mem 658 (by decide +kernel)
theorem tw_659 : (Cond.code (⟨"TapeBench$Row", "loudest", "()I"⟩ : MethodName) prog_7_method_14_code (3 : Nat) (Option.some FieldType.int)) ∈ tz_TT := tz_mem 659 (by decide +kernel)
theorem tw_660 : (Cond.methodLink "TapeBench$Row" (53 : Nat) (⟨"java/lang/Math", "abs", "(I)I"⟩ : MethodName)) ∈ tz_TT := tz_mem 660 (by decide +kernel)
theorem tw_661 : (Cond.methodLink "TapeBench" (210 : Nat) (⟨"TapeBench$Row", "placesUnlike", "(LTapeBench$Row;)I"⟩ : MethodName)) ∈ tz_TT := tz_mem 661 (by decide +kernel)
theorem tw_662 : (Cond.instanceMethod (⟨"TapeBench$Row", "placesUnlike", "(LTapeBench$Row;)I"⟩ : MethodName)) ∈ tz_TT := tz_mem 662 (by decide +kernel)
theorem tw_663 : (Cond.selects "TapeBench$Row" (⟨"TapeBench$Row", "placesUnlike", "(LTapeBench$Row;)I"⟩ : MethodName) (⟨"TapeBench$Row", "placesUnlike", "(LTapeBench$Row;)I"⟩ : MethodName)) ∈ tz_TT := tz_mem 663 (by decide +kernel)
theorem tw_664 : (Cond.code (⟨"TapeBench$Row", "placesUnlike", "(LTapeBench$Row;)I"⟩ : MethodName) prog_7_method_16_code (4 : Nat) (Option.some FieldType.int)) ∈ tz_TT := tz_mem 664 (by decide +kernel)
theorem tw_665 : (Cond.methodLink "TapeBenchLaw" (94 : Nat) (⟨"TapeBench", "power", "(I)J"⟩ : MethodName)) ∈ tz_TT := tz_mem 665 (by decide +kernel)
theorem tw_666 : (Cond.instanceMethod (⟨"TapeBench", "power", "(I)J"⟩ : MethodName)) ∈ tz_TT := tz_mem 666 (by decide +kernel)
theorem tw_667 : (Cond.selects "TapeBench" (⟨"TapeBench", "power", "(I)J"⟩ : MethodName) (⟨"TapeBench", "power", "(I)J"⟩ : MethodName)) ∈ tz_TT := tz_mem 667 (by decide +kernel)
theorem tw_668 : (Cond.code (⟨"TapeBench", "power", "(I)J"⟩ : MethodName) prog_1_method_21_code (3 : Nat) (Option.some FieldType.long)) ∈ tz_TT := tz_mem 668 (by decide +kernel)
theorem tw_669 : (Cond.methodLink "TapeBench" (214 : Nat) (⟨"TapeBench$Row", "sumOfSquares", "()J"⟩ : MethodName)) ∈ tz_TT := tz_mem 669 (by decide +kernel)
theorem tw_670 : (Cond.instanceMethod (⟨"TapeBench$Row", "sumOfSquares", "()J"⟩ : MethodName)) ∈ tz_TT := tz_mem 670 (by decide +kernel)
theorem tw_671 : (Cond.selects "TapeBench$Row" (⟨"TapeBench$Row", "sumOfSquares", "()J"⟩ : MethodName) (⟨"TapeBench$Row", "sumOfSquares", "()J"⟩ : MethodName)) ∈ tz_TT := tz_mem 671 (by decide +kernel)
theorem tw_672 : (Cond.code (⟨"TapeBench$Row", "sumOfSquares", "()J"⟩ : MethodName) prog_7_method_15_code (4 : Nat) (Option.some FieldType.long)) ∈ tz_TT := tz_mem 672 (by decide +kernel)
theorem tw_673 : (Cond.methodLink "TapeBenchLaw" (99 : Nat) (⟨"TapeBench", "bake", "(II)I"⟩ : MethodName)) ∈ tz_TT := tz_mem 673 (by decide +kernel)
theorem tw_674 : (Cond.instanceMethod (⟨"TapeBench", "bake", "(II)I"⟩ : MethodName)) ∈ tz_TT := tz_mem 674 (by decide +kernel)
theorem tw_675 : (Cond.selects "TapeBench" (⟨"TapeBench", "bake", "(II)I"⟩ : MethodName) (⟨"TapeBench", "bake", "(II)I"⟩ : MethodName)) ∈ tz_TT := tz_mem 675 (by decide +kernel)
theorem tw_676 : (Cond.code (⟨"TapeBench", "bake", "(II)I"⟩ : MethodName) prog_1_method_22_code (5 : Nat) (Option.some FieldType.int)) ∈ tz_TT := tz_mem 676 (by decide +kernel)
theorem tw_677 : (Cond.methodLink "TapeBench" (218 : Nat) (⟨"TapeBench$Row", "become", "(LTapeBench$Row;)V"⟩ : MethodName)) ∈ tz_TT := tz_mem 677 (by decide +kernel)
theorem tw_678 : (Cond.methodLink "TapeBenchLaw" (103 : Nat) (⟨"TapeBench", "align", "(III)I"⟩ : MethodName)) ∈ tz_TT := tz_mem 678 (by decide +kernel)
theorem tw_679 : (Cond.instanceMethod (⟨"TapeBench", "align", "(III)I"⟩ : MethodName)) ∈ tz_TT := tz_mem 679 (by decide +kernel)
theorem tw_680 : (Cond.selects "TapeBench" (⟨"TapeBench", "align", "(III)I"⟩ : MethodName) (⟨"TapeBench", "align", "(III)I"⟩ : MethodName)) ∈ tz_TT := tz_mem 680 (by decide +kernel)
theorem tw_681 : (Cond.code (⟨"TapeBench", "align", "(III)I"⟩ : MethodName) prog_1_method_23_code (6 : Nat) (Option.some FieldType.int)) ∈ tz_TT := tz_mem 681 (by decide +kernel)
theorem tw_682 : (Cond.methodLink "TapeBench" (221 : Nat) (⟨"TapeBench$Aligner", "shift", "(LTapeBench$Row;LTapeBench$Row;I)I"⟩ : MethodName)) ∈ tz_TT := tz_mem 682 (by decide +kernel)
theorem tw_683 : (Cond.methodLink "TapeBenchLaw" (107 : Nat) (⟨"TapeBench", "differ", "(IIIZ)I"⟩ : MethodName)) ∈ tz_TT := tz_mem 683 (by decide +kernel)
theorem tw_684 : (Cond.instanceMethod (⟨"TapeBench", "differ", "(IIIZ)I"⟩ : MethodName)) ∈ tz_TT := tz_mem 684 (by decide +kernel)
theorem tw_685 : (Cond.selects "TapeBench" (⟨"TapeBench", "differ", "(IIIZ)I"⟩ : MethodName) (⟨"TapeBench", "differ", "(IIIZ)I"⟩ : MethodName)) ∈ tz_TT := tz_mem 685 (by decide +kernel)
theorem tw_686 : (Cond.code (⟨"TapeBench", "differ", "(IIIZ)I"⟩ : MethodName) prog_1_method_24_code (7 : Nat) (Option.some FieldType.int)) ∈ tz_TT := tz_mem 686 (by decide +kernel)
theorem tw_687 : (Cond.methodLink "TapeBench" (225 : Nat) (⟨"TapeBench$Aligner", "compare", "(LTapeBench$Row;LTapeBench$Row;I)V"⟩ : MethodName)) ∈ tz_TT := tz_mem 687 (by decide +kernel)
theorem tw_688 : (Cond.methodLink "TapeBench" (229 : Nat) (⟨"TapeBench$Aligner", "places", "()I"⟩ : MethodName)) ∈ tz_TT := tz_mem 688 (by decide +kernel)
theorem tw_689 : (Cond.instanceMethod (⟨"TapeBench$Aligner", "places", "()I"⟩ : MethodName)) ∈ tz_TT := tz_mem 689 (by decide +kernel)
theorem tw_690 : (Cond.selects "TapeBench$Aligner" (⟨"TapeBench$Aligner", "places", "()I"⟩ : MethodName) (⟨"TapeBench$Aligner", "places", "()I"⟩ : MethodName)) ∈ tz_TT := tz_mem 690 (by decide +kernel)
theorem tw_691 : (Cond.code (⟨"TapeBench$Aligner", "places", "()I"⟩ : MethodName) prog_2_method_3_code (1 : Nat) (Option.some FieldType.int)) ∈ tz_TT := tz_mem 691 (by decide +kernel)
theorem tw_692 : (Cond.methodLink "TapeBench" (232 : Nat) (⟨"TapeBench$Aligner", "sum", "()I"⟩ : MethodName)) ∈ tz_TT := tz_mem 692 (by decide +kernel)
theorem tw_693 : (Cond.instanceMethod (⟨"TapeBench$Aligner", "sum", "()I"⟩ : MethodName)) ∈ tz_TT := tz_mem 693 (by decide +kernel)
theorem tw_694 : (Cond.selects "TapeBench$Aligner" (⟨"TapeBench$Aligner", "sum", "()I"⟩ : MethodName) (⟨"TapeBench$Aligner", "sum", "()I"⟩ : MethodName)) ∈ tz_TT := tz_mem 694 (by decide +kernel)
theorem tw_695 : (Cond.code (⟨"TapeBench$Aligner", "sum", "()I"⟩ : MethodName) prog_2_method_2_code (1 : Nat) (Option.some FieldType.int)) ∈ tz_TT := tz_mem 695 (by decide +kernel)
theorem tw_696 : (Cond.methodLink "TapeBenchLaw" (112 : Nat) (⟨"TapeBench", "seam", "(IIII)I"⟩ : MethodName)) ∈ tz_TT := tz_mem 696 (by decide +kernel)
theorem tw_697 : (Cond.instanceMethod (⟨"TapeBench", "seam", "(IIII)I"⟩ : MethodName)) ∈ tz_TT := tz_mem 697 (by decide +kernel)
theorem tw_698 : (Cond.selects "TapeBench" (⟨"TapeBench", "seam", "(IIII)I"⟩ : MethodName) (⟨"TapeBench", "seam", "(IIII)I"⟩ : MethodName)) ∈ tz_TT := tz_mem 698 (by decide +kernel)
theorem tw_699 : (Cond.code (⟨"TapeBench", "seam", "(IIII)I"⟩ : MethodName) prog_1_method_25_code (12 : Nat) (Option.some FieldType.int)) ∈ tz_TT := tz_mem 699 (by decide +kernel)
theorem tw_700 : (Cond.methodLink "TapeBench" (235 : Nat) (⟨"java/lang/Math", "min", "(II)I"⟩ : MethodName)) ∈ tz_TT := tz_mem 700 (by decide +kernel)
theorem tw_701 : (Cond.constant "TapeBench" (241 : Nat) (-100006 : Int32)) ∈ tz_TT := tz_mem 701 (by decide +kernel)
theorem tw_702 : (Cond.methodLink "TapeBench" (242 : Nat) (⟨"java/lang/Math", "abs", "(I)I"⟩ : MethodName)) ∈ tz_TT := tz_mem 702 (by decide +kernel)
theorem tw_703 : (Cond.methodLink "TapeBenchLaw" (117 : Nat) (⟨"TapeBench", "join", "(IIII)I"⟩ : MethodName)) ∈ tz_TT := tz_mem 703 (by decide +kernel)
theorem tw_704 : (Cond.instanceMethod (⟨"TapeBench", "join", "(IIII)I"⟩ : MethodName)) ∈ tz_TT := tz_mem 704 (by decide +kernel)
theorem tw_705 : (Cond.selects "TapeBench" (⟨"TapeBench", "join", "(IIII)I"⟩ : MethodName) (⟨"TapeBench", "join", "(IIII)I"⟩ : MethodName)) ∈ tz_TT := tz_mem 705 (by decide +kernel)
theorem tw_706 : (Cond.code (⟨"TapeBench", "join", "(IIII)I"⟩ : MethodName) prog_1_method_26_code (9 : Nat) (Option.some FieldType.int)) ∈ tz_TT := tz_mem 706 (by decide +kernel)
theorem tw_707 : (Cond.methodLink "TapeBenchLaw" (121 : Nat) (⟨"TapeBench", "mark", "(III)I"⟩ : MethodName)) ∈ tz_TT := tz_mem 707 (by decide +kernel)
theorem tw_708 : (Cond.instanceMethod (⟨"TapeBench", "mark", "(III)I"⟩ : MethodName)) ∈ tz_TT := tz_mem 708 (by decide +kernel)
theorem tw_709 : (Cond.selects "TapeBench" (⟨"TapeBench", "mark", "(III)I"⟩ : MethodName) (⟨"TapeBench", "mark", "(III)I"⟩ : MethodName)) ∈ tz_TT := tz_mem 709 (by decide +kernel)
theorem tw_710 : (Cond.code (⟨"TapeBench", "mark", "(III)I"⟩ : MethodName) prog_1_method_27_code (5 : Nat) (Option.some FieldType.int)) ∈ tz_TT := tz_mem 710 (by decide +kernel)
theorem tw_711 : (Cond.methodLink "TapeBench" (245 : Nat) (⟨"TapeBench", "isMark", "(I)Z"⟩ : MethodName)) ∈ tz_TT := tz_mem 711 (by decide +kernel)
theorem tw_712 : (Cond.static (⟨"TapeBench", "isMark", "(I)Z"⟩ : MethodName)) ∈ tz_TT := tz_mem 712 (by decide +kernel)
theorem tw_713 : (Cond.code (⟨"TapeBench", "isMark", "(I)Z"⟩ : MethodName) prog_1_method_33_code (1 : Nat) (Option.some FieldType.boolean)) ∈ tz_TT := tz_mem 713 (by decide +kernel)
theorem tw_714 : (Cond.methodLink "TapeBenchLaw" (125 : Nat) (⟨"TapeBench", "moment", "(I)I"⟩ : MethodName)) ∈ tz_TT := tz_mem 714 (by decide +kernel)
theorem tw_715 : (Cond.instanceMethod (⟨"TapeBench", "moment", "(I)I"⟩ : MethodName)) ∈ tz_TT := tz_mem 715 (by decide +kernel)
theorem tw_716 : (Cond.selects "TapeBench" (⟨"TapeBench", "moment", "(I)I"⟩ : MethodName) (⟨"TapeBench", "moment", "(I)I"⟩ : MethodName)) ∈ tz_TT := tz_mem 716 (by decide +kernel)
theorem tw_717 : (Cond.code (⟨"TapeBench", "moment", "(I)I"⟩ : MethodName) prog_1_method_28_code (4 : Nat) (Option.some FieldType.int)) ∈ tz_TT := tz_mem 717 (by decide +kernel)
theorem tw_718 : (Cond.methodLink "TapeBench" (255 : Nat) (⟨"TapeBench$Player", "followed", "()I"⟩ : MethodName)) ∈ tz_TT := tz_mem 718 (by decide +kernel)
theorem tw_719 : (Cond.instanceMethod (⟨"TapeBench$Player", "followed", "()I"⟩ : MethodName)) ∈ tz_TT := tz_mem 719 (by decide +kernel)
theorem tw_720 : (Cond.selects "TapeBench$Player" (⟨"TapeBench$Player", "followed", "()I"⟩ : MethodName) (⟨"TapeBench$Player", "followed", "()I"⟩ : MethodName)) ∈ tz_TT := tz_mem 720 (by decide +kernel)
theorem tw_721 : (Cond.code (⟨"TapeBench$Player", "followed", "()I"⟩ : MethodName) prog_6_method_2_code (1 : Nat) (Option.some FieldType.int)) ∈ tz_TT := tz_mem 721 (by decide +kernel)
theorem tw_722 : (Cond.methodLink "TapeBenchLaw" (129 : Nat) (⟨"TapeBench", "undo", "()I"⟩ : MethodName)) ∈ tz_TT := tz_mem 722 (by decide +kernel)
theorem tw_723 : (Cond.instanceMethod (⟨"TapeBench", "undo", "()I"⟩ : MethodName)) ∈ tz_TT := tz_mem 723 (by decide +kernel)
theorem tw_724 : (Cond.selects "TapeBench" (⟨"TapeBench", "undo", "()I"⟩ : MethodName) (⟨"TapeBench", "undo", "()I"⟩ : MethodName)) ∈ tz_TT := tz_mem 724 (by decide +kernel)
theorem tw_725 : (Cond.code (⟨"TapeBench", "undo", "()I"⟩ : MethodName) prog_1_method_29_code (1 : Nat) (Option.some FieldType.int)) ∈ tz_TT := tz_mem 725 (by decide +kernel)
theorem tw_726 : (Cond.methodLink "TapeBench" (258 : Nat) (⟨"TapeBench$History", "restore", "(LTapeBench$Tape;)I"⟩ : MethodName)) ∈ tz_TT := tz_mem 726 (by decide +kernel)
theorem tw_727 : (Cond.instanceMethod (⟨"TapeBench$History", "restore", "(LTapeBench$Tape;)I"⟩ : MethodName)) ∈ tz_TT := tz_mem 727 (by decide +kernel)
theorem tw_728 : (Cond.selects "TapeBench$History" (⟨"TapeBench$History", "restore", "(LTapeBench$Tape;)I"⟩ : MethodName) (⟨"TapeBench$History", "restore", "(LTapeBench$Tape;)I"⟩ : MethodName)) ∈ tz_TT := tz_mem 728 (by decide +kernel)
theorem tw_729 : (Cond.code (⟨"TapeBench$History", "restore", "(LTapeBench$Tape;)I"⟩ : MethodName) prog_3_method_3_code (4 : Nat) (Option.some FieldType.int)) ∈ tz_TT := tz_mem 729 (by decide +kernel)
theorem tw_730 : (Cond.constant "TapeBench$History" (39 : Nat) (-100006 : Int32)) ∈ tz_TT := tz_mem 730 (by decide +kernel)
theorem tw_731 : (Cond.methodLink "TapeBench$History" (40 : Nat) (⟨"TapeBench$Step", "bringBack", "(LTapeBench$Tape;)V"⟩ : MethodName)) ∈ tz_TT := tz_mem 731 (by decide +kernel)
theorem tw_732 : (Cond.instanceMethod (⟨"TapeBench$Step", "bringBack", "(LTapeBench$Tape;)V"⟩ : MethodName)) ∈ tz_TT := tz_mem 732 (by decide +kernel)
theorem tw_733 : (Cond.selects "TapeBench$Step" (⟨"TapeBench$Step", "bringBack", "(LTapeBench$Tape;)V"⟩ : MethodName) (⟨"TapeBench$Step", "bringBack", "(LTapeBench$Tape;)V"⟩ : MethodName)) ∈ tz_TT := tz_mem 733 (by decide +kernel)
theorem tw_734 : (Cond.code (⟨"TapeBench$Step", "bringBack", "(LTapeBench$Tape;)V"⟩ : MethodName) prog_9_method_3_code (3 : Nat) (Option.none : Option FieldType)) ∈ tz_TT := tz_mem 734 (by decide +kernel)
theorem tw_735 : (Cond.methodLink "TapeBenchLaw" (134 : Nat) (⟨"TapeBench", "count", "(I)I"⟩ : MethodName)) ∈ tz_TT := tz_mem 735 (by decide +kernel)
theorem tw_736 : (Cond.instanceMethod (⟨"TapeBench", "count", "(I)I"⟩ : MethodName)) ∈ tz_TT := tz_mem 736 (by decide +kernel)
theorem tw_737 : (Cond.selects "TapeBench" (⟨"TapeBench", "count", "(I)I"⟩ : MethodName) (⟨"TapeBench", "count", "(I)I"⟩ : MethodName)) ∈ tz_TT := tz_mem 737 (by decide +kernel)
theorem tw_738 : (Cond.code (⟨"TapeBench", "count", "(I)I"⟩ : MethodName) prog_1_method_30_code (2 : Nat) (Option.some FieldType.int)) ∈ tz_TT := tz_mem 738 (by decide +kernel)
theorem tw_739 : (Cond.methodLink "TapeBench" (262 : Nat) (⟨"TapeBench$Layers", "onesOn", "()I"⟩ : MethodName)) ∈ tz_TT := tz_mem 739 (by decide +kernel)
theorem tw_740 : (Cond.instanceMethod (⟨"TapeBench$Layers", "onesOn", "()I"⟩ : MethodName)) ∈ tz_TT := tz_mem 740 (by decide +kernel)
theorem tw_741 : (Cond.selects "TapeBench$Layers" (⟨"TapeBench$Layers", "onesOn", "()I"⟩ : MethodName) (⟨"TapeBench$Layers", "onesOn", "()I"⟩ : MethodName)) ∈ tz_TT := tz_mem 741 (by decide +kernel)
theorem tw_742 : (Cond.code (⟨"TapeBench$Layers", "onesOn", "()I"⟩ : MethodName) prog_5_method_4_code (4 : Nat) (Option.some FieldType.int)) ∈ tz_TT := tz_mem 742 (by decide +kernel)
theorem tw_743 : (Cond.methodLink "TapeBench" (265 : Nat) (⟨"TapeBench$Tape", "marksSomewhere", "()I"⟩ : MethodName)) ∈ tz_TT := tz_mem 743 (by decide +kernel)
theorem tw_744 : (Cond.instanceMethod (⟨"TapeBench$Tape", "marksSomewhere", "()I"⟩ : MethodName)) ∈ tz_TT := tz_mem 744 (by decide +kernel)
theorem tw_745 : (Cond.selects "TapeBench$Tape" (⟨"TapeBench$Tape", "marksSomewhere", "()I"⟩ : MethodName) (⟨"TapeBench$Tape", "marksSomewhere", "()I"⟩ : MethodName)) ∈ tz_TT := tz_mem 745 (by decide +kernel)
theorem tw_746 : (Cond.code (⟨"TapeBench$Tape", "marksSomewhere", "()I"⟩ : MethodName) prog_10_method_3_code (3 : Nat) (Option.some FieldType.int)) ∈ tz_TT := tz_mem 746 (by decide +kernel)
theorem tw_747 : (Cond.classLink "TapeBenchLaw" (10 : Nat) "TapeBenchModel") ∈ tz_TT := tz_mem 747 (by decide +kernel)
theorem tw_748 : (Cond.instantiable "TapeBenchModel" (13 : Nat)) ∈ tz_TT := tz_mem 748 (by decide +kernel)
theorem tw_749 : (Cond.methodLink "TapeBenchLaw" (12 : Nat) (⟨"TapeBenchModel", "<init>", "()V"⟩ : MethodName)) ∈ tz_TT := tz_mem 749 (by decide +kernel)
theorem tw_750 : (Cond.instanceMethod (⟨"TapeBenchModel", "<init>", "()V"⟩ : MethodName)) ∈ tz_TT := tz_mem 750 (by decide +kernel)
theorem tw_751 : (Cond.code (⟨"TapeBenchModel", "<init>", "()V"⟩ : MethodName) prog_13_method_1_code (2 : Nat) (Option.none : Option FieldType)) ∈ tz_TT := tz_mem 751 (by decide +kernel)
theorem tw_752 : (Cond.methodLink "TapeBenchModel" (1 : Nat) (⟨"java/lang/Object", "<init>", "()V"⟩ : MethodName)) ∈ tz_TT := tz_mem 752 (by decide +kernel)
theorem tw_753 : (Cond.fieldLink "TapeBenchModel" (9 : Nat) "TapeBenchModel" "now" "[I") ∈ tz_TT := tz_mem 753 (by decide +kernel)
theorem tw_754 : (Cond.fieldLink "TapeBenchModel" (13 : Nat) "TapeBenchModel" "past" "[I") ∈ tz_TT := tz_mem 754 (by decide +kernel)
theorem tw_755 : (Cond.fieldLink "TapeBenchModel" (46 : Nat) "TapeBenchModel" "kept" "I") ∈ tz_TT := tz_mem 755 (by decide +kernel)
theorem tw_756 : (Cond.fieldLink "TapeBenchModel" (34 : Nat) "TapeBenchModel" "findings" "I") ∈ tz_TT := tz_mem 756 (by decide +kernel)
theorem tw_757 : (Cond.fieldLink "TapeBenchModel" (16 : Nat) "TapeBenchModel" "bits" "[I") ∈ tz_TT := tz_mem 757 (by decide +kernel)
theorem tw_758 : (Cond.fieldLink "TapeBenchModel" (19 : Nat) "TapeBenchModel" "numbers" "[I") ∈ tz_TT := tz_mem 758 (by decide +kernel)
theorem tw_759 : (Cond.fieldLink "TapeBenchModel" (22 : Nat) "TapeBenchModel" "sheets" "[I") ∈ tz_TT := tz_mem 759 (by decide +kernel)
theorem tw_760 : (Cond.fieldLink "TapeBenchModel" (54 : Nat) "TapeBenchModel" "size" "I") ∈ tz_TT := tz_mem 760 (by decide +kernel)
theorem tw_761 : (Cond.fieldLink "TapeBenchModel" (25 : Nat) "TapeBenchModel" "row" "[I") ∈ tz_TT := tz_mem 761 (by decide +kernel)
theorem tw_762 : (Cond.fieldLink "TapeBenchModel" (138 : Nat) "TapeBenchModel" "newSize" "I") ∈ tz_TT := tz_mem 762 (by decide +kernel)
theorem tw_763 : (Cond.fieldLink "TapeBenchModel" (28 : Nat) "TapeBenchModel" "made" "[I") ∈ tz_TT := tz_mem 763 (by decide +kernel)
theorem tw_764 : (Cond.fieldLink "TapeBenchModel" (31 : Nat) "TapeBenchModel" "carried" "[I") ∈ tz_TT := tz_mem 764 (by decide +kernel)
theorem tw_765 : (Cond.fieldLink "TapeBenchModel" (125 : Nat) "TapeBenchModel" "together" "I") ∈ tz_TT := tz_mem 765 (by decide +kernel)
theorem tw_766 : (Cond.laysFinal "TapeBenchModel" "TapeBenchModel" "now" "[I") ∈ tz_TT := tz_mem 766 (by decide +kernel)
theorem tw_767 : (Cond.soleField "TapeBenchModel" "now") ∈ tz_TT := tz_mem 767 (by decide +kernel)
theorem tw_768 : (Cond.laysFinal "TapeBenchModel" "TapeBenchModel" "past" "[I") ∈ tz_TT := tz_mem 768 (by decide +kernel)
theorem tw_769 : (Cond.soleField "TapeBenchModel" "past") ∈ tz_TT := tz_mem 769 (by decide +kernel)
theorem tw_770 : (Cond.lays "TapeBenchModel" "TapeBenchModel" "kept" "I") ∈ tz_TT := tz_mem 770 (by decide +kernel)
theorem tw_771 : (Cond.soleField "TapeBenchModel" "kept") ∈ tz_TT := tz_mem 771 (by decide +kernel)
theorem tw_772 : (Cond.lays "TapeBenchModel" "TapeBenchModel" "findings" "I") ∈ tz_TT := tz_mem 772 (by decide +kernel)
theorem tw_773 : (Cond.soleField "TapeBenchModel" "findings") ∈ tz_TT := tz_mem 773 (by decide +kernel)
theorem tw_774 : (Cond.laysFinal "TapeBenchModel" "TapeBenchModel" "bits" "[I") ∈ tz_TT := tz_mem 774 (by decide +kernel)
theorem tw_775 : (Cond.soleField "TapeBenchModel" "bits") ∈ tz_TT := tz_mem 775 (by decide +kernel)
theorem tw_776 : (Cond.laysFinal "TapeBenchModel" "TapeBenchModel" "numbers" "[I") ∈ tz_TT := tz_mem 776 (by decide +kernel)
theorem tw_777 : (Cond.soleField "TapeBenchModel" "numbers") ∈ tz_TT := tz_mem 777 (by decide +kernel)
theorem tw_778 : (Cond.laysFinal "TapeBenchModel" "TapeBenchModel" "sheets" "[I") ∈ tz_TT := tz_mem 778 (by decide +kernel)
theorem tw_779 : (Cond.soleField "TapeBenchModel" "sheets") ∈ tz_TT := tz_mem 779 (by decide +kernel)
theorem tw_780 : (Cond.lays "TapeBenchModel" "TapeBenchModel" "size" "I") ∈ tz_TT := tz_mem 780 (by decide +kernel)
theorem tw_781 : (Cond.soleField "TapeBenchModel" "size") ∈ tz_TT := tz_mem 781 (by decide +kernel)
theorem tw_782 : (Cond.laysFinal "TapeBenchModel" "TapeBenchModel" "row" "[I") ∈ tz_TT := tz_mem 782 (by decide +kernel)
theorem tw_783 : (Cond.soleField "TapeBenchModel" "row") ∈ tz_TT := tz_mem 783 (by decide +kernel)
theorem tw_784 : (Cond.lays "TapeBenchModel" "TapeBenchModel" "newSize" "I") ∈ tz_TT := tz_mem 784 (by decide +kernel)
theorem tw_785 : (Cond.soleField "TapeBenchModel" "newSize") ∈ tz_TT := tz_mem 785 (by decide +kernel)
theorem tw_786 : (Cond.laysFinal "TapeBenchModel" "TapeBenchModel" "made" "[I") ∈ tz_TT := tz_mem 786 (by decide +kernel)
theorem tw_787 : (Cond.soleField "TapeBenchModel" "made") ∈ tz_TT := tz_mem 787 (by decide +kernel)
theorem tw_788 : (Cond.laysFinal "TapeBenchModel" "TapeBenchModel" "carried" "[I") ∈ tz_TT := tz_mem 788 (by decide +kernel)
theorem tw_789 : (Cond.soleField "TapeBenchModel" "carried") ∈ tz_TT := tz_mem 789 (by decide +kernel)
theorem tw_790 : (Cond.lays "TapeBenchModel" "TapeBenchModel" "together" "I") ∈ tz_TT := tz_mem 790 (by decide +kernel)
theorem tw_791 : (Cond.soleField "TapeBenchModel" "together") ∈ tz_TT := tz_mem 791 (by decide +kernel)
theorem tw_792 : (Cond.superclass "TapeBenchModel" "java/lang/Object") ∈ tz_TT := tz_mem 792 (by decide +kernel)
theorem tw_793 : (Cond.methodLink "TapeBenchLaw" (133 : Nat) (⟨"TapeBenchModel", "undo", "()I"⟩ : MethodName)) ∈ tz_TT := tz_mem 793 (by decide +kernel)
theorem tw_794 : (Cond.instanceMethod (⟨"TapeBenchModel", "undo", "()I"⟩ : MethodName)) ∈ tz_TT := tz_mem 794 (by decide +kernel)
theorem tw_795 : (Cond.selects "TapeBenchModel" (⟨"TapeBenchModel", "undo", "()I"⟩ : MethodName) (⟨"TapeBenchModel", "undo", "()I"⟩ : MethodName)) ∈ tz_TT := tz_mem 795 (by decide +kernel)
theorem tw_796 : (Cond.code (⟨"TapeBenchModel", "undo", "()I"⟩ : MethodName) prog_13_method_8_code (2 : Nat) (Option.some FieldType.int)) ∈ tz_TT := tz_mem 796 (by decide +kernel)
theorem tw_797 : (Cond.constant "TapeBenchModel" (49 : Nat) (-100006 : Int32)) ∈ tz_TT := tz_mem 797 (by decide +kernel)
theorem tw_798 : (Cond.methodLink "TapeBenchModel" (50 : Nat) (⟨"TapeBenchModel", "finding", "(I)I"⟩ : MethodName)) ∈ tz_TT := tz_mem 798 (by decide +kernel)
theorem tw_800 : (Cond.instanceMethod (⟨"TapeBenchModel", "finding", "(I)I"⟩ : MethodName)) ∈ tz_TT := tz_mem 800 (by decide +kernel)
theorem tw_801 : (Cond.code (⟨"TapeBenchModel", "finding", "(I)I"⟩ : MethodName) prog_13_method_2_code (2 : Nat) (Option.some FieldType.int)) ∈ tz_TT := tz_mem 801 (by decide +kernel)
theorem tw_802 : (Cond.methodLink "TapeBenchLaw" (17 : Nat) (⟨"TapeBenchModel", "pass", "(II)I"⟩ : MethodName)) ∈ tz_TT := tz_mem 802 (by decide +kernel)
theorem tw_803 : (Cond.instanceMethod (⟨"TapeBenchModel", "pass", "(II)I"⟩ : MethodName)) ∈ tz_TT := tz_mem 803 (by decide +kernel)
theorem tw_804 : (Cond.selects "TapeBenchModel" (⟨"TapeBenchModel", "pass", "(II)I"⟩ : MethodName) (⟨"TapeBenchModel", "pass", "(II)I"⟩ : MethodName)) ∈ tz_TT := tz_mem 804 (by decide +kernel)
theorem tw_805 : (Cond.code (⟨"TapeBenchModel", "pass", "(II)I"⟩ : MethodName) prog_13_method_11_code (5 : Nat) (Option.some FieldType.int)) ∈ tz_TT := tz_mem 805 (by decide +kernel)
theorem tw_806 : (Cond.methodLink "TapeBenchModel" (42 : Nat) (⟨"TapeBenchModel", "isPass", "(I)Z"⟩ : MethodName)) ∈ tz_TT := tz_mem 806 (by decide +kernel)
theorem tw_807 : (Cond.static (⟨"TapeBenchModel", "isPass", "(I)Z"⟩ : MethodName)) ∈ tz_TT := tz_mem 807 (by decide +kernel)
theorem tw_808 : (Cond.code (⟨"TapeBenchModel", "isPass", "(I)Z"⟩ : MethodName) prog_13_method_4_code (1 : Nat) (Option.some FieldType.boolean)) ∈ tz_TT := tz_mem 808 (by decide +kernel)
theorem tw_809 : (Cond.methodLink "TapeBenchModel" (38 : Nat) (⟨"TapeBenchModel", "in", "(III)Z"⟩ : MethodName)) ∈ tz_TT := tz_mem 809 (by decide +kernel)
theorem tw_810 : (Cond.static (⟨"TapeBenchModel", "in", "(III)Z"⟩ : MethodName)) ∈ tz_TT := tz_mem 810 (by decide +kernel)
theorem tw_811 : (Cond.code (⟨"TapeBenchModel", "in", "(III)Z"⟩ : MethodName) prog_13_method_3_code (3 : Nat) (Option.some FieldType.boolean)) ∈ tz_TT := tz_mem 811 (by decide +kernel)
theorem tw_812 : (Cond.constant "TapeBenchModel" (61 : Nat) (-100001 : Int32)) ∈ tz_TT := tz_mem 812 (by decide +kernel)
theorem tw_813 : (Cond.methodLink "TapeBenchModel" (62 : Nat) (⟨"TapeBenchModel", "keep", "()V"⟩ : MethodName)) ∈ tz_TT := tz_mem 813 (by decide +kernel)
theorem tw_815 : (Cond.instanceMethod (⟨"TapeBenchModel", "keep", "()V"⟩ : MethodName)) ∈ tz_TT := tz_mem 815 (by decide +kernel)
theorem tw_816 : (Cond.code (⟨"TapeBenchModel", "keep", "()V"⟩ : MethodName) prog_13_method_7_code (2 : Nat) (Option.none : Option FieldType)) ∈ tz_TT := tz_mem 816 (by decide +kernel)
theorem tw_817 : (Cond.methodLink "TapeBenchLaw" (22 : Nat) (⟨"TapeBenchModel", "put", "(III)I"⟩ : MethodName)) ∈ tz_TT := tz_mem 817 (by decide +kernel)
theorem tw_818 : (Cond.instanceMethod (⟨"TapeBenchModel", "put", "(III)I"⟩ : MethodName)) ∈ tz_TT := tz_mem 818 (by decide +kernel)
theorem tw_819 : (Cond.selects "TapeBenchModel" (⟨"TapeBenchModel", "put", "(III)I"⟩ : MethodName) (⟨"TapeBenchModel", "put", "(III)I"⟩ : MethodName)) ∈ tz_TT := tz_mem 819 (by decide +kernel)
theorem tw_820 : (Cond.code (⟨"TapeBenchModel", "put", "(III)I"⟩ : MethodName) prog_13_method_12_code (5 : Nat) (Option.some FieldType.int)) ∈ tz_TT := tz_mem 820 (by decide +kernel)
theorem tw_821 : (Cond.methodLink "TapeBenchModel" (65 : Nat) (⟨"TapeBenchModel", "isSample", "(II)Z"⟩ : MethodName)) ∈ tz_TT := tz_mem 821 (by decide +kernel)
theorem tw_823 : (Cond.instanceMethod (⟨"TapeBenchModel", "isSample", "(II)Z"⟩ : MethodName)) ∈ tz_TT := tz_mem 823 (by decide +kernel)
theorem tw_824 : (Cond.code (⟨"TapeBenchModel", "isSample", "(II)Z"⟩ : MethodName) prog_13_method_5_code (3 : Nat) (Option.some FieldType.boolean)) ∈ tz_TT := tz_mem 824 (by decide +kernel)
theorem tw_825 : (Cond.methodLink "TapeBenchModel" (57 : Nat) (⟨"TapeBenchModel", "at", "(II)I"⟩ : MethodName)) ∈ tz_TT := tz_mem 825 (by decide +kernel)
theorem tw_827 : (Cond.instanceMethod (⟨"TapeBenchModel", "at", "(II)I"⟩ : MethodName)) ∈ tz_TT := tz_mem 827 (by decide +kernel)
theorem tw_828 : (Cond.code (⟨"TapeBenchModel", "at", "(II)I"⟩ : MethodName) prog_13_method_6_code (3 : Nat) (Option.some FieldType.int)) ∈ tz_TT := tz_mem 828 (by decide +kernel)
theorem tw_829 : (Cond.constant "TapeBenchModel" (69 : Nat) (1000000 : Int32)) ∈ tz_TT := tz_mem 829 (by decide +kernel)
theorem tw_830 : (Cond.methodLink "TapeBenchLaw" (26 : Nat) (⟨"TapeBenchModel", "lose", "(III)I"⟩ : MethodName)) ∈ tz_TT := tz_mem 830 (by decide +kernel)
theorem tw_831 : (Cond.instanceMethod (⟨"TapeBenchModel", "lose", "(III)I"⟩ : MethodName)) ∈ tz_TT := tz_mem 831 (by decide +kernel)
theorem tw_832 : (Cond.selects "TapeBenchModel" (⟨"TapeBenchModel", "lose", "(III)I"⟩ : MethodName) (⟨"TapeBenchModel", "lose", "(III)I"⟩ : MethodName)) ∈ tz_TT := tz_mem 832 (by decide +kernel)
theorem tw_833 : (Cond.code (⟨"TapeBenchModel", "lose", "(III)I"⟩ : MethodName) prog_13_method_13_code (6 : Nat) (Option.some FieldType.int)) ∈ tz_TT := tz_mem 833 (by decide +kernel)
theorem tw_834 : (Cond.methodLink "TapeBenchLaw" (30 : Nat) (⟨"TapeBenchModel", "sample", "(II)I"⟩ : MethodName)) ∈ tz_TT := tz_mem 834 (by decide +kernel)
theorem tw_835 : (Cond.instanceMethod (⟨"TapeBenchModel", "sample", "(II)I"⟩ : MethodName)) ∈ tz_TT := tz_mem 835 (by decide +kernel)
theorem tw_836 : (Cond.selects "TapeBenchModel" (⟨"TapeBenchModel", "sample", "(II)I"⟩ : MethodName) (⟨"TapeBenchModel", "sample", "(II)I"⟩ : MethodName)) ∈ tz_TT := tz_mem 836 (by decide +kernel)
theorem tw_837 : (Cond.code (⟨"TapeBenchModel", "sample", "(II)I"⟩ : MethodName) prog_13_method_14_code (3 : Nat) (Option.some FieldType.int)) ∈ tz_TT := tz_mem 837 (by decide +kernel)
theorem tw_838 : (Cond.constant "TapeBenchModel" (70 : Nat) (-100007 : Int32)) ∈ tz_TT := tz_mem 838 (by decide +kernel)
theorem tw_839 : (Cond.methodLink "TapeBenchLaw" (34 : Nat) (⟨"TapeBenchModel", "about", "(II)I"⟩ : MethodName)) ∈ tz_TT := tz_mem 839 (by decide +kernel)
theorem tw_840 : (Cond.instanceMethod (⟨"TapeBenchModel", "about", "(II)I"⟩ : MethodName)) ∈ tz_TT := tz_mem 840 (by decide +kernel)
theorem tw_841 : (Cond.selects "TapeBenchModel" (⟨"TapeBenchModel", "about", "(II)I"⟩ : MethodName) (⟨"TapeBenchModel", "about", "(II)I"⟩ : MethodName)) ∈ tz_TT := tz_mem 841 (by decide +kernel)
theorem tw_842 : (Cond.code (⟨"TapeBenchModel", "about", "(II)I"⟩ : MethodName) prog_13_method_20_code (5 : Nat) (Option.some FieldType.int)) ∈ tz_TT := tz_mem 842 (by decide +kernel)
theorem tw_843 : (Cond.methodLink "TapeBenchModel" (74 : Nat) (⟨"TapeBenchModel", "takePass", "(I)V"⟩ : MethodName)) ∈ tz_TT := tz_mem 843 (by decide +kernel)
theorem tw_845 : (Cond.instanceMethod (⟨"TapeBenchModel", "takePass", "(I)V"⟩ : MethodName)) ∈ tz_TT := tz_mem 845 (by decide +kernel)
theorem tw_846 : (Cond.code (⟨"TapeBenchModel", "takePass", "(I)V"⟩ : MethodName) prog_13_method_9_code (3 : Nat) (Option.none : Option FieldType)) ∈ tz_TT := tz_mem 846 (by decide +kernel)
theorem tw_847 : (Cond.methodLink "TapeBenchModel" (78 : Nat) (⟨"TapeBenchModel", "lostMany", "()I"⟩ : MethodName)) ∈ tz_TT := tz_mem 847 (by decide +kernel)
theorem tw_849 : (Cond.instanceMethod (⟨"TapeBenchModel", "lostMany", "()I"⟩ : MethodName)) ∈ tz_TT := tz_mem 849 (by decide +kernel)
theorem tw_850 : (Cond.code (⟨"TapeBenchModel", "lostMany", "()I"⟩ : MethodName) prog_13_method_19_code (3 : Nat) (Option.some FieldType.int)) ∈ tz_TT := tz_mem 850 (by decide +kernel)
theorem tw_851 : (Cond.methodLink "TapeBenchModel" (82 : Nat) (⟨"TapeBenchModel", "turns", "()I"⟩ : MethodName)) ∈ tz_TT := tz_mem 851 (by decide +kernel)
theorem tw_853 : (Cond.instanceMethod (⟨"TapeBenchModel", "turns", "()I"⟩ : MethodName)) ∈ tz_TT := tz_mem 853 (by decide +kernel)
theorem tw_854 : (Cond.code (⟨"TapeBenchModel", "turns", "()I"⟩ : MethodName) prog_13_method_16_code (3 : Nat) (Option.some FieldType.int)) ∈ tz_TT := tz_mem 854 (by decide +kernel)
theorem tw_855 : (Cond.methodLink "TapeBenchModel" (71 : Nat) (⟨"TapeBenchModel", "isTurn", "(I)Z"⟩ : MethodName)) ∈ tz_TT := tz_mem 855 (by decide +kernel)
theorem tw_857 : (Cond.instanceMethod (⟨"TapeBenchModel", "isTurn", "(I)Z"⟩ : MethodName)) ∈ tz_TT := tz_mem 857 (by decide +kernel)
theorem tw_858 : (Cond.code (⟨"TapeBenchModel", "isTurn", "(I)Z"⟩ : MethodName) prog_13_method_15_code (2 : Nat) (Option.some FieldType.boolean)) ∈ tz_TT := tz_mem 858 (by decide +kernel)
theorem tw_859 : (Cond.methodLink "TapeBenchModel" (85 : Nat) (⟨"TapeBenchModel", "isClick", "(II)Z"⟩ : MethodName)) ∈ tz_TT := tz_mem 859 (by decide +kernel)
theorem tw_861 : (Cond.instanceMethod (⟨"TapeBenchModel", "isClick", "(II)Z"⟩ : MethodName)) ∈ tz_TT := tz_mem 861 (by decide +kernel)
theorem tw_862 : (Cond.code (⟨"TapeBenchModel", "isClick", "(II)Z"⟩ : MethodName) prog_13_method_18_code (4 : Nat) (Option.some FieldType.boolean)) ∈ tz_TT := tz_mem 862 (by decide +kernel)
theorem tw_863 : (Cond.methodLink "TapeBenchLaw" (38 : Nat) (⟨"TapeBenchModel", "turn", "(II)I"⟩ : MethodName)) ∈ tz_TT := tz_mem 863 (by decide +kernel)
theorem tw_864 : (Cond.instanceMethod (⟨"TapeBenchModel", "turn", "(II)I"⟩ : MethodName)) ∈ tz_TT := tz_mem 864 (by decide +kernel)
theorem tw_865 : (Cond.selects "TapeBenchModel" (⟨"TapeBenchModel", "turn", "(II)I"⟩ : MethodName) (⟨"TapeBenchModel", "turn", "(II)I"⟩ : MethodName)) ∈ tz_TT := tz_mem 865 (by decide +kernel)
theorem tw_866 : (Cond.code (⟨"TapeBenchModel", "turn", "(II)I"⟩ : MethodName) prog_13_method_21_code (4 : Nat) (Option.some FieldType.int)) ∈ tz_TT := tz_mem 866 (by decide +kernel)
theorem tw_867 : (Cond.methodLink "TapeBenchModel" (88 : Nat) (⟨"TapeBenchModel", "turnAt", "(I)I"⟩ : MethodName)) ∈ tz_TT := tz_mem 867 (by decide +kernel)
theorem tw_869 : (Cond.instanceMethod (⟨"TapeBenchModel", "turnAt", "(I)I"⟩ : MethodName)) ∈ tz_TT := tz_mem 869 (by decide +kernel)
theorem tw_870 : (Cond.code (⟨"TapeBenchModel", "turnAt", "(I)I"⟩ : MethodName) prog_13_method_17_code (4 : Nat) (Option.some FieldType.int)) ∈ tz_TT := tz_mem 870 (by decide +kernel)
theorem tw_871 : (Cond.methodLink "TapeBenchLaw" (42 : Nat) (⟨"TapeBenchModel", "sheet", "(III)I"⟩ : MethodName)) ∈ tz_TT := tz_mem 871 (by decide +kernel)
theorem tw_872 : (Cond.instanceMethod (⟨"TapeBenchModel", "sheet", "(III)I"⟩ : MethodName)) ∈ tz_TT := tz_mem 872 (by decide +kernel)
theorem tw_873 : (Cond.selects "TapeBenchModel" (⟨"TapeBenchModel", "sheet", "(III)I"⟩ : MethodName) (⟨"TapeBenchModel", "sheet", "(III)I"⟩ : MethodName)) ∈ tz_TT := tz_mem 873 (by decide +kernel)
theorem tw_874 : (Cond.code (⟨"TapeBenchModel", "sheet", "(III)I"⟩ : MethodName) prog_13_method_23_code (5 : Nat) (Option.some FieldType.int)) ∈ tz_TT := tz_mem 874 (by decide +kernel)
theorem tw_875 : (Cond.methodLink "TapeBenchModel" (91 : Nat) (⟨"TapeBenchModel", "isSheet", "(I)Z"⟩ : MethodName)) ∈ tz_TT := tz_mem 875 (by decide +kernel)
theorem tw_876 : (Cond.static (⟨"TapeBenchModel", "isSheet", "(I)Z"⟩ : MethodName)) ∈ tz_TT := tz_mem 876 (by decide +kernel)
theorem tw_877 : (Cond.code (⟨"TapeBenchModel", "isSheet", "(I)Z"⟩ : MethodName) prog_13_method_22_code (1 : Nat) (Option.some FieldType.boolean)) ∈ tz_TT := tz_mem 877 (by decide +kernel)
theorem tw_878 : (Cond.constant "TapeBenchModel" (94 : Nat) (-100003 : Int32)) ∈ tz_TT := tz_mem 878 (by decide +kernel)
theorem tw_879 : (Cond.methodLink "TapeBenchLaw" (46 : Nat) (⟨"TapeBenchModel", "write", "(III)I"⟩ : MethodName)) ∈ tz_TT := tz_mem 879 (by decide +kernel)
theorem tw_880 : (Cond.instanceMethod (⟨"TapeBenchModel", "write", "(III)I"⟩ : MethodName)) ∈ tz_TT := tz_mem 880 (by decide +kernel)
theorem tw_881 : (Cond.selects "TapeBenchModel" (⟨"TapeBenchModel", "write", "(III)I"⟩ : MethodName) (⟨"TapeBenchModel", "write", "(III)I"⟩ : MethodName)) ∈ tz_TT := tz_mem 881 (by decide +kernel)
theorem tw_882 : (Cond.code (⟨"TapeBenchModel", "write", "(III)I"⟩ : MethodName) prog_13_method_25_code (4 : Nat) (Option.some FieldType.int)) ∈ tz_TT := tz_mem 882 (by decide +kernel)
theorem tw_883 : (Cond.constant "TapeBenchModel" (95 : Nat) (-100002 : Int32)) ∈ tz_TT := tz_mem 883 (by decide +kernel)
theorem tw_884 : (Cond.methodLink "TapeBenchModel" (96 : Nat) (⟨"TapeBenchModel", "lowest", "(II)I"⟩ : MethodName)) ∈ tz_TT := tz_mem 884 (by decide +kernel)
theorem tw_885 : (Cond.static (⟨"TapeBenchModel", "lowest", "(II)I"⟩ : MethodName)) ∈ tz_TT := tz_mem 885 (by decide +kernel)
theorem tw_886 : (Cond.code (⟨"TapeBenchModel", "lowest", "(II)I"⟩ : MethodName) prog_13_method_24_code (2 : Nat) (Option.some FieldType.int)) ∈ tz_TT := tz_mem 886 (by decide +kernel)
theorem tw_887 : (Cond.methodLink "TapeBenchLaw" (51 : Nat) (⟨"TapeBenchModel", "copy", "(IIIII)I"⟩ : MethodName)) ∈ tz_TT := tz_mem 887 (by decide +kernel)
theorem tw_888 : (Cond.instanceMethod (⟨"TapeBenchModel", "copy", "(IIIII)I"⟩ : MethodName)) ∈ tz_TT := tz_mem 888 (by decide +kernel)
theorem tw_889 : (Cond.selects "TapeBenchModel" (⟨"TapeBenchModel", "copy", "(IIIII)I"⟩ : MethodName) (⟨"TapeBenchModel", "copy", "(IIIII)I"⟩ : MethodName)) ∈ tz_TT := tz_mem 889 (by decide +kernel)
theorem tw_890 : (Cond.code (⟨"TapeBenchModel", "copy", "(IIIII)I"⟩ : MethodName) prog_13_method_26_code (7 : Nat) (Option.some FieldType.int)) ∈ tz_TT := tz_mem 890 (by decide +kernel)
theorem tw_891 : (Cond.constant "TapeBenchModel" (99 : Nat) (-100004 : Int32)) ∈ tz_TT := tz_mem 891 (by decide +kernel)
theorem tw_892 : (Cond.methodLink "TapeBenchLaw" (55 : Nat) (⟨"TapeBenchModel", "lay", "(II)I"⟩ : MethodName)) ∈ tz_TT := tz_mem 892 (by decide +kernel)
theorem tw_893 : (Cond.instanceMethod (⟨"TapeBenchModel", "lay", "(II)I"⟩ : MethodName)) ∈ tz_TT := tz_mem 893 (by decide +kernel)
theorem tw_894 : (Cond.selects "TapeBenchModel" (⟨"TapeBenchModel", "lay", "(II)I"⟩ : MethodName) (⟨"TapeBenchModel", "lay", "(II)I"⟩ : MethodName)) ∈ tz_TT := tz_mem 894 (by decide +kernel)
theorem tw_895 : (Cond.code (⟨"TapeBenchModel", "lay", "(II)I"⟩ : MethodName) prog_13_method_27_code (5 : Nat) (Option.some FieldType.int)) ∈ tz_TT := tz_mem 895 (by decide +kernel)
theorem tw_896 : (Cond.methodLink "TapeBenchModel" (100 : Nat) (⟨"TapeBenchModel", "laysDown", "(I)V"⟩ : MethodName)) ∈ tz_TT := tz_mem 896 (by decide +kernel)
theorem tw_898 : (Cond.instanceMethod (⟨"TapeBenchModel", "laysDown", "(I)V"⟩ : MethodName)) ∈ tz_TT := tz_mem 898 (by decide +kernel)
theorem tw_899 : (Cond.code (⟨"TapeBenchModel", "laysDown", "(I)V"⟩ : MethodName) prog_13_method_10_code (3 : Nat) (Option.none : Option FieldType)) ∈ tz_TT := tz_mem 899 (by decide +kernel)
theorem tw_900 : (Cond.methodLink "TapeBenchLaw" (59 : Nat) (⟨"TapeBenchModel", "layer", "(III)I"⟩ : MethodName)) ∈ tz_TT := tz_mem 900 (by decide +kernel)
theorem tw_901 : (Cond.instanceMethod (⟨"TapeBenchModel", "layer", "(III)I"⟩ : MethodName)) ∈ tz_TT := tz_mem 901 (by decide +kernel)
theorem tw_902 : (Cond.selects "TapeBenchModel" (⟨"TapeBenchModel", "layer", "(III)I"⟩ : MethodName) (⟨"TapeBenchModel", "layer", "(III)I"⟩ : MethodName)) ∈ tz_TT := tz_mem 902 (by decide +kernel)
theorem tw_903 : (Cond.code (⟨"TapeBenchModel", "layer", "(III)I"⟩ : MethodName) prog_13_method_33_code (5 : Nat) (Option.some FieldType.int)) ∈ tz_TT := tz_mem 903 (by decide +kernel)
theorem tw_904 : (Cond.methodLink "TapeBenchModel" (108 : Nat) (⟨"TapeBenchModel", "isTold", "(III)Z"⟩ : MethodName)) ∈ tz_TT := tz_mem 904 (by decide +kernel)
theorem tw_905 : (Cond.static (⟨"TapeBenchModel", "isTold", "(III)Z"⟩ : MethodName)) ∈ tz_TT := tz_mem 905 (by decide +kernel)
theorem tw_906 : (Cond.code (⟨"TapeBenchModel", "isTold", "(III)Z"⟩ : MethodName) prog_13_method_29_code (3 : Nat) (Option.some FieldType.boolean)) ∈ tz_TT := tz_mem 906 (by decide +kernel)
theorem tw_907 : (Cond.constant "TapeBenchModel" (103 : Nat) (40000 : Int32)) ∈ tz_TT := tz_mem 907 (by decide +kernel)
theorem tw_908 : (Cond.constant "TapeBenchModel" (111 : Nat) (-100005 : Int32)) ∈ tz_TT := tz_mem 908 (by decide +kernel)
theorem tw_909 : (Cond.methodLink "TapeBenchModel" (112 : Nat) (⟨"TapeBenchModel", "hasB", "(I)Z"⟩ : MethodName)) ∈ tz_TT := tz_mem 909 (by decide +kernel)
theorem tw_910 : (Cond.static (⟨"TapeBenchModel", "hasB", "(I)Z"⟩ : MethodName)) ∈ tz_TT := tz_mem 910 (by decide +kernel)
theorem tw_911 : (Cond.code (⟨"TapeBenchModel", "hasB", "(I)Z"⟩ : MethodName) prog_13_method_28_code (1 : Nat) (Option.some FieldType.boolean)) ∈ tz_TT := tz_mem 911 (by decide +kernel)
theorem tw_912 : (Cond.methodLink "TapeBenchModel" (104 : Nat) (⟨"TapeBenchModel", "setLayer", "(IIIII)V"⟩ : MethodName)) ∈ tz_TT := tz_mem 912 (by decide +kernel)
theorem tw_914 : (Cond.instanceMethod (⟨"TapeBenchModel", "setLayer", "(IIIII)V"⟩ : MethodName)) ∈ tz_TT := tz_mem 914 (by decide +kernel)
theorem tw_915 : (Cond.code (⟨"TapeBenchModel", "setLayer", "(IIIII)V"⟩ : MethodName) prog_13_method_31_code (6 : Nat) (Option.none : Option FieldType)) ∈ tz_TT := tz_mem 915 (by decide +kernel)
theorem tw_916 : (Cond.methodLink "TapeBenchLaw" (64 : Nat) (⟨"TapeBenchModel", "turnOn", "(IZ)I"⟩ : MethodName)) ∈ tz_TT := tz_mem 916 (by decide +kernel)
theorem tw_917 : (Cond.instanceMethod (⟨"TapeBenchModel", "turnOn", "(IZ)I"⟩ : MethodName)) ∈ tz_TT := tz_mem 917 (by decide +kernel)
theorem tw_918 : (Cond.selects "TapeBenchModel" (⟨"TapeBenchModel", "turnOn", "(IZ)I"⟩ : MethodName) (⟨"TapeBenchModel", "turnOn", "(IZ)I"⟩ : MethodName)) ∈ tz_TT := tz_mem 918 (by decide +kernel)
theorem tw_919 : (Cond.code (⟨"TapeBenchModel", "turnOn", "(IZ)I"⟩ : MethodName) prog_13_method_34_code (4 : Nat) (Option.some FieldType.int)) ∈ tz_TT := tz_mem 919 (by decide +kernel)
theorem tw_920 : (Cond.methodLink "TapeBenchModel" (115 : Nat) (⟨"TapeBenchModel", "isLayer", "(I)Z"⟩ : MethodName)) ∈ tz_TT := tz_mem 920 (by decide +kernel)
theorem tw_922 : (Cond.instanceMethod (⟨"TapeBenchModel", "isLayer", "(I)Z"⟩ : MethodName)) ∈ tz_TT := tz_mem 922 (by decide +kernel)
theorem tw_923 : (Cond.code (⟨"TapeBenchModel", "isLayer", "(I)Z"⟩ : MethodName) prog_13_method_30_code (2 : Nat) (Option.some FieldType.boolean)) ∈ tz_TT := tz_mem 923 (by decide +kernel)
theorem tw_924 : (Cond.methodLink "TapeBenchLaw" (68 : Nat) (⟨"TapeBenchModel", "move", "(II)I"⟩ : MethodName)) ∈ tz_TT := tz_mem 924 (by decide +kernel)
theorem tw_925 : (Cond.instanceMethod (⟨"TapeBenchModel", "move", "(II)I"⟩ : MethodName)) ∈ tz_TT := tz_mem 925 (by decide +kernel)
theorem tw_926 : (Cond.selects "TapeBenchModel" (⟨"TapeBenchModel", "move", "(II)I"⟩ : MethodName) (⟨"TapeBenchModel", "move", "(II)I"⟩ : MethodName)) ∈ tz_TT := tz_mem 926 (by decide +kernel)
theorem tw_927 : (Cond.code (⟨"TapeBenchModel", "move", "(II)I"⟩ : MethodName) prog_13_method_35_code (8 : Nat) (Option.some FieldType.int)) ∈ tz_TT := tz_mem 927 (by decide +kernel)
theorem tw_928 : (Cond.methodLink "TapeBenchModel" (118 : Nat) (⟨"TapeBenchModel", "copyLayer", "(II)V"⟩ : MethodName)) ∈ tz_TT := tz_mem 928 (by decide +kernel)
theorem tw_930 : (Cond.instanceMethod (⟨"TapeBenchModel", "copyLayer", "(II)V"⟩ : MethodName)) ∈ tz_TT := tz_mem 930 (by decide +kernel)
theorem tw_931 : (Cond.code (⟨"TapeBenchModel", "copyLayer", "(II)V"⟩ : MethodName) prog_13_method_32_code (3 : Nat) (Option.none : Option FieldType)) ∈ tz_TT := tz_mem 931 (by decide +kernel)
theorem tw_932 : (Cond.methodLink "TapeBenchLaw" (73 : Nat) (⟨"TapeBenchModel", "drop", "(I)I"⟩ : MethodName)) ∈ tz_TT := tz_mem 932 (by decide +kernel)
theorem tw_933 : (Cond.instanceMethod (⟨"TapeBenchModel", "drop", "(I)I"⟩ : MethodName)) ∈ tz_TT := tz_mem 933 (by decide +kernel)
theorem tw_934 : (Cond.selects "TapeBenchModel" (⟨"TapeBenchModel", "drop", "(I)I"⟩ : MethodName) (⟨"TapeBenchModel", "drop", "(I)I"⟩ : MethodName)) ∈ tz_TT := tz_mem 934 (by decide +kernel)
theorem tw_935 : (Cond.code (⟨"TapeBenchModel", "drop", "(I)I"⟩ : MethodName) prog_13_method_36_code (3 : Nat) (Option.some FieldType.int)) ∈ tz_TT := tz_mem 935 (by decide +kernel)
theorem tw_936 : (Cond.methodLink "TapeBenchLaw" (77 : Nat) (⟨"TapeBenchModel", "told", "(II)I"⟩ : MethodName)) ∈ tz_TT := tz_mem 936 (by decide +kernel)
theorem tw_937 : (Cond.instanceMethod (⟨"TapeBenchModel", "told", "(II)I"⟩ : MethodName)) ∈ tz_TT := tz_mem 937 (by decide +kernel)
theorem tw_938 : (Cond.selects "TapeBenchModel" (⟨"TapeBenchModel", "told", "(II)I"⟩ : MethodName) (⟨"TapeBenchModel", "told", "(II)I"⟩ : MethodName)) ∈ tz_TT := tz_mem 938 (by decide +kernel)
theorem tw_939 : (Cond.code (⟨"TapeBenchModel", "told", "(II)I"⟩ : MethodName) prog_13_method_37_code (3 : Nat) (Option.some FieldType.int)) ∈ tz_TT := tz_mem 939 (by decide +kernel)
theorem tw_940 : (Cond.methodLink "TapeBenchLaw" (81 : Nat) (⟨"TapeBenchModel", "as", "(II)I"⟩ : MethodName)) ∈ tz_TT := tz_mem 940 (by decide +kernel)
theorem tw_941 : (Cond.instanceMethod (⟨"TapeBenchModel", "as", "(II)I"⟩ : MethodName)) ∈ tz_TT := tz_mem 941 (by decide +kernel)
theorem tw_942 : (Cond.selects "TapeBenchModel" (⟨"TapeBenchModel", "as", "(II)I"⟩ : MethodName) (⟨"TapeBenchModel", "as", "(II)I"⟩ : MethodName)) ∈ tz_TT := tz_mem 942 (by decide +kernel)
theorem tw_943 : (Cond.code (⟨"TapeBenchModel", "as", "(II)I"⟩ : MethodName) prog_13_method_38_code (5 : Nat) (Option.some FieldType.int)) ∈ tz_TT := tz_mem 943 (by decide +kernel)
theorem tw_944 : (Cond.methodLink "TapeBenchLaw" (85 : Nat) (⟨"TapeBenchModel", "size", "(I)I"⟩ : MethodName)) ∈ tz_TT := tz_mem 944 (by decide +kernel)
theorem tw_945 : (Cond.instanceMethod (⟨"TapeBenchModel", "size", "(I)I"⟩ : MethodName)) ∈ tz_TT := tz_mem 945 (by decide +kernel)
theorem tw_946 : (Cond.selects "TapeBenchModel" (⟨"TapeBenchModel", "size", "(I)I"⟩ : MethodName) (⟨"TapeBenchModel", "size", "(I)I"⟩ : MethodName)) ∈ tz_TT := tz_mem 946 (by decide +kernel)
theorem tw_947 : (Cond.code (⟨"TapeBenchModel", "size", "(I)I"⟩ : MethodName) prog_13_method_52_code (2 : Nat) (Option.some FieldType.int)) ∈ tz_TT := tz_mem 947 (by decide +kernel)
theorem tw_948 : (Cond.methodLink "TapeBenchModel" (177 : Nat) (⟨"TapeBenchModel", "output", "(I)V"⟩ : MethodName)) ∈ tz_TT := tz_mem 948 (by decide +kernel)
theorem tw_950 : (Cond.instanceMethod (⟨"TapeBenchModel", "output", "(I)V"⟩ : MethodName)) ∈ tz_TT := tz_mem 950 (by decide +kernel)
theorem tw_951 : (Cond.code (⟨"TapeBenchModel", "output", "(I)V"⟩ : MethodName) prog_13_method_51_code (3 : Nat) (Option.none : Option FieldType)) ∈ tz_TT := tz_mem 951 (by decide +kernel)
theorem tw_952 : (Cond.methodLink "TapeBenchModel" (174 : Nat) (⟨"TapeBenchModel", "work", "(I)V"⟩ : MethodName)) ∈ tz_TT := tz_mem 952 (by decide +kernel)
theorem tw_954 : (Cond.instanceMethod (⟨"TapeBenchModel", "work", "(I)V"⟩ : MethodName)) ∈ tz_TT := tz_mem 954 (by decide +kernel)
theorem tw_955 : (Cond.code (⟨"TapeBenchModel", "work", "(I)V"⟩ : MethodName) prog_13_method_50_code (3 : Nat) (Option.none : Option FieldType)) ∈ tz_TT := tz_mem 955 (by decide +kernel)
theorem tw_956 : (Cond.methodLink "TapeBenchModel" (153 : Nat) (⟨"TapeBenchModel", "gain", "(I)V"⟩ : MethodName)) ∈ tz_TT := tz_mem 956 (by decide +kernel)
theorem tw_958 : (Cond.instanceMethod (⟨"TapeBenchModel", "gain", "(I)V"⟩ : MethodName)) ∈ tz_TT := tz_mem 958 (by decide +kernel)
theorem tw_959 : (Cond.code (⟨"TapeBenchModel", "gain", "(I)V"⟩ : MethodName) prog_13_method_42_code (3 : Nat) (Option.none : Option FieldType)) ∈ tz_TT := tz_mem 959 (by decide +kernel)
theorem tw_960 : (Cond.methodLink "TapeBenchModel" (135 : Nat) (⟨"TapeBenchModel", "cutTop", "(I)I"⟩ : MethodName)) ∈ tz_TT := tz_mem 960 (by decide +kernel)
theorem tw_961 : (Cond.static (⟨"TapeBenchModel", "cutTop", "(I)I"⟩ : MethodName)) ∈ tz_TT := tz_mem 961 (by decide +kernel)
theorem tw_962 : (Cond.code (⟨"TapeBenchModel", "cutTop", "(I)I"⟩ : MethodName) prog_13_method_39_code (1 : Nat) (Option.some FieldType.int)) ∈ tz_TT := tz_mem 962 (by decide +kernel)
theorem tw_963 : (Cond.methodLink "TapeBenchModel" (156 : Nat) (⟨"TapeBenchModel", "mend", "(I)V"⟩ : MethodName)) ∈ tz_TT := tz_mem 963 (by decide +kernel)
theorem tw_965 : (Cond.instanceMethod (⟨"TapeBenchModel", "mend", "(I)V"⟩ : MethodName)) ∈ tz_TT := tz_mem 965 (by decide +kernel)
theorem tw_966 : (Cond.code (⟨"TapeBenchModel", "mend", "(I)V"⟩ : MethodName) prog_13_method_43_code (3 : Nat) (Option.none : Option FieldType)) ∈ tz_TT := tz_mem 966 (by decide +kernel)
theorem tw_967 : (Cond.methodLink "TapeBenchModel" (141 : Nat) (⟨"TapeBenchModel", "takeMade", "()V"⟩ : MethodName)) ∈ tz_TT := tz_mem 967 (by decide +kernel)
theorem tw_969 : (Cond.instanceMethod (⟨"TapeBenchModel", "takeMade", "()V"⟩ : MethodName)) ∈ tz_TT := tz_mem 969 (by decide +kernel)
theorem tw_970 : (Cond.code (⟨"TapeBenchModel", "takeMade", "()V"⟩ : MethodName) prog_13_method_44_code (2 : Nat) (Option.none : Option FieldType)) ∈ tz_TT := tz_mem 970 (by decide +kernel)
theorem tw_971 : (Cond.methodLink "TapeBenchModel" (159 : Nat) (⟨"TapeBenchModel", "fill", "(II)V"⟩ : MethodName)) ∈ tz_TT := tz_mem 971 (by decide +kernel)
theorem tw_973 : (Cond.instanceMethod (⟨"TapeBenchModel", "fill", "(II)V"⟩ : MethodName)) ∈ tz_TT := tz_mem 973 (by decide +kernel)
theorem tw_974 : (Cond.code (⟨"TapeBenchModel", "fill", "(II)V"⟩ : MethodName) prog_13_method_45_code (5 : Nat) (Option.none : Option FieldType)) ∈ tz_TT := tz_mem 974 (by decide +kernel)
theorem tw_975 : (Cond.methodLink "TapeBenchModel" (144 : Nat) (⟨"TapeBenchModel", "aligned", "(II)I"⟩ : MethodName)) ∈ tz_TT := tz_mem 975 (by decide +kernel)
theorem tw_977 : (Cond.instanceMethod (⟨"TapeBenchModel", "aligned", "(II)I"⟩ : MethodName)) ∈ tz_TT := tz_mem 977 (by decide +kernel)
theorem tw_978 : (Cond.code (⟨"TapeBenchModel", "aligned", "(II)I"⟩ : MethodName) prog_13_method_40_code (14 : Nat) (Option.some FieldType.int)) ∈ tz_TT := tz_mem 978 (by decide +kernel)
theorem tw_979 : (Cond.methodLink "TapeBenchModel" (122 : Nat) (⟨"TapeBenchModel", "differs", "(II)I"⟩ : MethodName)) ∈ tz_TT := tz_mem 979 (by decide +kernel)
theorem tw_981 : (Cond.instanceMethod (⟨"TapeBenchModel", "differs", "(II)I"⟩ : MethodName)) ∈ tz_TT := tz_mem 981 (by decide +kernel)
theorem tw_982 : (Cond.code (⟨"TapeBenchModel", "differs", "(II)I"⟩ : MethodName) prog_13_method_41_code (5 : Nat) (Option.some FieldType.int)) ∈ tz_TT := tz_mem 982 (by decide +kernel)
theorem tw_983 : (Cond.methodLink "TapeBenchModel" (130 : Nat) (⟨"java/lang/Math", "abs", "(I)I"⟩ : MethodName)) ∈ tz_TT := tz_mem 983 (by decide +kernel)
theorem tw_984 : (Cond.constantLong "TapeBenchModel" (128 : Nat) (4 : Int64)) ∈ tz_TT := tz_mem 984 (by decide +kernel)
theorem tw_985 : (Cond.methodLink "TapeBenchModel" (162 : Nat) (⟨"TapeBenchModel", "bridge", "(I)V"⟩ : MethodName)) ∈ tz_TT := tz_mem 985 (by decide +kernel)
theorem tw_987 : (Cond.instanceMethod (⟨"TapeBenchModel", "bridge", "(I)V"⟩ : MethodName)) ∈ tz_TT := tz_mem 987 (by decide +kernel)
theorem tw_988 : (Cond.code (⟨"TapeBenchModel", "bridge", "(I)V"⟩ : MethodName) prog_13_method_46_code (6 : Nat) (Option.none : Option FieldType)) ∈ tz_TT := tz_mem 988 (by decide +kernel)
theorem tw_989 : (Cond.methodLink "TapeBenchModel" (147 : Nat) (⟨"java/lang/Math", "floorDiv", "(II)I"⟩ : MethodName)) ∈ tz_TT := tz_mem 989 (by decide +kernel)
theorem tw_990 : (Cond.methodLink "TapeBenchModel" (165 : Nat) (⟨"TapeBenchModel", "warp", "(I)V"⟩ : MethodName)) ∈ tz_TT := tz_mem 990 (by decide +kernel)
theorem tw_992 : (Cond.instanceMethod (⟨"TapeBenchModel", "warp", "(I)V"⟩ : MethodName)) ∈ tz_TT := tz_mem 992 (by decide +kernel)
theorem tw_993 : (Cond.code (⟨"TapeBenchModel", "warp", "(I)V"⟩ : MethodName) prog_13_method_47_code (9 : Nat) (Option.none : Option FieldType)) ∈ tz_TT := tz_mem 993 (by decide +kernel)
theorem tw_994 : (Cond.methodLink "TapeBenchModel" (150 : Nat) (⟨"java/lang/Math", "min", "(II)I"⟩ : MethodName)) ∈ tz_TT := tz_mem 994 (by decide +kernel)
theorem tw_995 : (Cond.methodLink "TapeBenchModel" (168 : Nat) (⟨"TapeBenchModel", "cut", "(II)V"⟩ : MethodName)) ∈ tz_TT := tz_mem 995 (by decide +kernel)
theorem tw_997 : (Cond.instanceMethod (⟨"TapeBenchModel", "cut", "(II)V"⟩ : MethodName)) ∈ tz_TT := tz_mem 997 (by decide +kernel)
theorem tw_998 : (Cond.code (⟨"TapeBenchModel", "cut", "(II)V"⟩ : MethodName) prog_13_method_48_code (4 : Nat) (Option.none : Option FieldType)) ∈ tz_TT := tz_mem 998 (by decide +kernel)
theorem tw_999 : (Cond.methodLink "TapeBenchModel" (171 : Nat) (⟨"TapeBenchModel", "fade", "(I)V"⟩ : MethodName)) ∈ tz_TT := tz_mem 999 (by decide +kernel)
theorem tw_1001 : (Cond.instanceMethod (⟨"TapeBenchModel", "fade", "(I)V"⟩ : MethodName)) ∈ tz_TT := tz_mem 1001 (by decide +kernel)
theorem tw_1002 : (Cond.code (⟨"TapeBenchModel", "fade", "(I)V"⟩ : MethodName) prog_13_method_49_code (3 : Nat) (Option.none : Option FieldType)) ∈ tz_TT := tz_mem 1002 (by decide +kernel)
theorem tw_1003 : (Cond.methodLink "TapeBenchLaw" (89 : Nat) (⟨"TapeBenchModel", "out", "(II)I"⟩ : MethodName)) ∈ tz_TT := tz_mem 1003 (by decide +kernel)
theorem tw_1004 : (Cond.instanceMethod (⟨"TapeBenchModel", "out", "(II)I"⟩ : MethodName)) ∈ tz_TT := tz_mem 1004 (by decide +kernel)
theorem tw_1005 : (Cond.selects "TapeBenchModel" (⟨"TapeBenchModel", "out", "(II)I"⟩ : MethodName) (⟨"TapeBenchModel", "out", "(II)I"⟩ : MethodName)) ∈ tz_TT := tz_mem 1005 (by decide +kernel)
theorem tw_1006 : (Cond.code (⟨"TapeBenchModel", "out", "(II)I"⟩ : MethodName) prog_13_method_53_code (3 : Nat) (Option.some FieldType.int)) ∈ tz_TT := tz_mem 1006 (by decide +kernel)
theorem tw_1007 : (Cond.methodLink "TapeBenchLaw" (93 : Nat) (⟨"TapeBenchModel", "heard", "(II)I"⟩ : MethodName)) ∈ tz_TT := tz_mem 1007 (by decide +kernel)
theorem tw_1008 : (Cond.instanceMethod (⟨"TapeBenchModel", "heard", "(II)I"⟩ : MethodName)) ∈ tz_TT := tz_mem 1008 (by decide +kernel)
theorem tw_1009 : (Cond.selects "TapeBenchModel" (⟨"TapeBenchModel", "heard", "(II)I"⟩ : MethodName) (⟨"TapeBenchModel", "heard", "(II)I"⟩ : MethodName)) ∈ tz_TT := tz_mem 1009 (by decide +kernel)
theorem tw_1010 : (Cond.code (⟨"TapeBenchModel", "heard", "(II)I"⟩ : MethodName) prog_13_method_54_code (6 : Nat) (Option.some FieldType.int)) ∈ tz_TT := tz_mem 1010 (by decide +kernel)
theorem tw_1011 : (Cond.methodLink "TapeBenchModel" (180 : Nat) (⟨"java/lang/Math", "max", "(II)I"⟩ : MethodName)) ∈ tz_TT := tz_mem 1011 (by decide +kernel)
theorem tw_1012 : (Cond.methodLink "TapeBenchLaw" (98 : Nat) (⟨"TapeBenchModel", "power", "(I)J"⟩ : MethodName)) ∈ tz_TT := tz_mem 1012 (by decide +kernel)
theorem tw_1013 : (Cond.instanceMethod (⟨"TapeBenchModel", "power", "(I)J"⟩ : MethodName)) ∈ tz_TT := tz_mem 1013 (by decide +kernel)
theorem tw_1014 : (Cond.selects "TapeBenchModel" (⟨"TapeBenchModel", "power", "(I)J"⟩ : MethodName) (⟨"TapeBenchModel", "power", "(I)J"⟩ : MethodName)) ∈ tz_TT := tz_mem 1014 (by decide +kernel)
theorem tw_1015 : (Cond.code (⟨"TapeBenchModel", "power", "(I)J"⟩ : MethodName) prog_13_method_55_code (5 : Nat) (Option.some FieldType.long)) ∈ tz_TT := tz_mem 1015 (by decide +kernel)
theorem tw_1016 : (Cond.methodLink "TapeBenchLaw" (102 : Nat) (⟨"TapeBenchModel", "bake", "(II)I"⟩ : MethodName)) ∈ tz_TT := tz_mem 1016 (by decide +kernel)
theorem tw_1017 : (Cond.instanceMethod (⟨"TapeBenchModel", "bake", "(II)I"⟩ : MethodName)) ∈ tz_TT := tz_mem 1017 (by decide +kernel)
theorem tw_1018 : (Cond.selects "TapeBenchModel" (⟨"TapeBenchModel", "bake", "(II)I"⟩ : MethodName) (⟨"TapeBenchModel", "bake", "(II)I"⟩ : MethodName)) ∈ tz_TT := tz_mem 1018 (by decide +kernel)
theorem tw_1019 : (Cond.code (⟨"TapeBenchModel", "bake", "(II)I"⟩ : MethodName) prog_13_method_56_code (3 : Nat) (Option.some FieldType.int)) ∈ tz_TT := tz_mem 1019 (by decide +kernel)
theorem tw_1020 : (Cond.methodLink "TapeBenchLaw" (106 : Nat) (⟨"TapeBenchModel", "align", "(III)I"⟩ : MethodName)) ∈ tz_TT := tz_mem 1020 (by decide +kernel)
theorem tw_1021 : (Cond.instanceMethod (⟨"TapeBenchModel", "align", "(III)I"⟩ : MethodName)) ∈ tz_TT := tz_mem 1021 (by decide +kernel)
theorem tw_1022 : (Cond.selects "TapeBenchModel" (⟨"TapeBenchModel", "align", "(III)I"⟩ : MethodName) (⟨"TapeBenchModel", "align", "(III)I"⟩ : MethodName)) ∈ tz_TT := tz_mem 1022 (by decide +kernel)
theorem tw_1023 : (Cond.code (⟨"TapeBenchModel", "align", "(III)I"⟩ : MethodName) prog_13_method_57_code (5 : Nat) (Option.some FieldType.int)) ∈ tz_TT := tz_mem 1023 (by decide +kernel)
theorem tw_1024 : (Cond.methodLink "TapeBenchLaw" (111 : Nat) (⟨"TapeBenchModel", "differ", "(IIIZ)I"⟩ : MethodName)) ∈ tz_TT := tz_mem 1024 (by decide +kernel)
theorem tw_1025 : (Cond.instanceMethod (⟨"TapeBenchModel", "differ", "(IIIZ)I"⟩ : MethodName)) ∈ tz_TT := tz_mem 1025 (by decide +kernel)
theorem tw_1026 : (Cond.selects "TapeBenchModel" (⟨"TapeBenchModel", "differ", "(IIIZ)I"⟩ : MethodName) (⟨"TapeBenchModel", "differ", "(IIIZ)I"⟩ : MethodName)) ∈ tz_TT := tz_mem 1026 (by decide +kernel)
theorem tw_1027 : (Cond.code (⟨"TapeBenchModel", "differ", "(IIIZ)I"⟩ : MethodName) prog_13_method_58_code (6 : Nat) (Option.some FieldType.int)) ∈ tz_TT := tz_mem 1027 (by decide +kernel)
theorem tw_1028 : (Cond.methodLink "TapeBenchLaw" (116 : Nat) (⟨"TapeBenchModel", "seam", "(IIII)I"⟩ : MethodName)) ∈ tz_TT := tz_mem 1028 (by decide +kernel)
theorem tw_1029 : (Cond.instanceMethod (⟨"TapeBenchModel", "seam", "(IIII)I"⟩ : MethodName)) ∈ tz_TT := tz_mem 1029 (by decide +kernel)
theorem tw_1030 : (Cond.selects "TapeBenchModel" (⟨"TapeBenchModel", "seam", "(IIII)I"⟩ : MethodName) (⟨"TapeBenchModel", "seam", "(IIII)I"⟩ : MethodName)) ∈ tz_TT := tz_mem 1030 (by decide +kernel)
theorem tw_1031 : (Cond.code (⟨"TapeBenchModel", "seam", "(IIII)I"⟩ : MethodName) prog_13_method_59_code (9 : Nat) (Option.some FieldType.int)) ∈ tz_TT := tz_mem 1031 (by decide +kernel)
theorem tw_1032 : (Cond.methodLink "TapeBenchLaw" (120 : Nat) (⟨"TapeBenchModel", "join", "(IIII)I"⟩ : MethodName)) ∈ tz_TT := tz_mem 1032 (by decide +kernel)
theorem tw_1033 : (Cond.instanceMethod (⟨"TapeBenchModel", "join", "(IIII)I"⟩ : MethodName)) ∈ tz_TT := tz_mem 1033 (by decide +kernel)
theorem tw_1034 : (Cond.selects "TapeBenchModel" (⟨"TapeBenchModel", "join", "(IIII)I"⟩ : MethodName) (⟨"TapeBenchModel", "join", "(IIII)I"⟩ : MethodName)) ∈ tz_TT := tz_mem 1034 (by decide +kernel)
theorem tw_1035 : (Cond.code (⟨"TapeBenchModel", "join", "(IIII)I"⟩ : MethodName) prog_13_method_60_code (6 : Nat) (Option.some FieldType.int)) ∈ tz_TT := tz_mem 1035 (by decide +kernel)
theorem tw_1036 : (Cond.methodLink "TapeBenchLaw" (124 : Nat) (⟨"TapeBenchModel", "mark", "(III)I"⟩ : MethodName)) ∈ tz_TT := tz_mem 1036 (by decide +kernel)
theorem tw_1037 : (Cond.instanceMethod (⟨"TapeBenchModel", "mark", "(III)I"⟩ : MethodName)) ∈ tz_TT := tz_mem 1037 (by decide +kernel)
theorem tw_1038 : (Cond.selects "TapeBenchModel" (⟨"TapeBenchModel", "mark", "(III)I"⟩ : MethodName) (⟨"TapeBenchModel", "mark", "(III)I"⟩ : MethodName)) ∈ tz_TT := tz_mem 1038 (by decide +kernel)
theorem tw_1039 : (Cond.code (⟨"TapeBenchModel", "mark", "(III)I"⟩ : MethodName) prog_13_method_61_code (4 : Nat) (Option.some FieldType.int)) ∈ tz_TT := tz_mem 1039 (by decide +kernel)
theorem tw_1040 : (Cond.methodLink "TapeBenchLaw" (128 : Nat) (⟨"TapeBenchModel", "moment", "(I)I"⟩ : MethodName)) ∈ tz_TT := tz_mem 1040 (by decide +kernel)
theorem tw_1041 : (Cond.instanceMethod (⟨"TapeBenchModel", "moment", "(I)I"⟩ : MethodName)) ∈ tz_TT := tz_mem 1041 (by decide +kernel)
theorem tw_1042 : (Cond.selects "TapeBenchModel" (⟨"TapeBenchModel", "moment", "(I)I"⟩ : MethodName) (⟨"TapeBenchModel", "moment", "(I)I"⟩ : MethodName)) ∈ tz_TT := tz_mem 1042 (by decide +kernel)
theorem tw_1043 : (Cond.code (⟨"TapeBenchModel", "moment", "(I)I"⟩ : MethodName) prog_13_method_63_code (7 : Nat) (Option.some FieldType.int)) ∈ tz_TT := tz_mem 1043 (by decide +kernel)
theorem tw_1044 : (Cond.methodLink "TapeBenchModel" (183 : Nat) (⟨"TapeBenchModel", "warped", "(II)I"⟩ : MethodName)) ∈ tz_TT := tz_mem 1044 (by decide +kernel)
theorem tw_1046 : (Cond.instanceMethod (⟨"TapeBenchModel", "warped", "(II)I"⟩ : MethodName)) ∈ tz_TT := tz_mem 1046 (by decide +kernel)
theorem tw_1047 : (Cond.code (⟨"TapeBenchModel", "warped", "(II)I"⟩ : MethodName) prog_13_method_62_code (6 : Nat) (Option.some FieldType.int)) ∈ tz_TT := tz_mem 1047 (by decide +kernel)
theorem tw_1048 : (Cond.methodLink "TapeBenchLaw" (137 : Nat) (⟨"TapeBenchModel", "count", "(I)I"⟩ : MethodName)) ∈ tz_TT := tz_mem 1048 (by decide +kernel)
theorem tw_1049 : (Cond.instanceMethod (⟨"TapeBenchModel", "count", "(I)I"⟩ : MethodName)) ∈ tz_TT := tz_mem 1049 (by decide +kernel)
theorem tw_1050 : (Cond.selects "TapeBenchModel" (⟨"TapeBenchModel", "count", "(I)I"⟩ : MethodName) (⟨"TapeBenchModel", "count", "(I)I"⟩ : MethodName)) ∈ tz_TT := tz_mem 1050 (by decide +kernel)
theorem tw_1051 : (Cond.code (⟨"TapeBenchModel", "count", "(I)I"⟩ : MethodName) prog_13_method_64_code (5 : Nat) (Option.some FieldType.int)) ∈ tz_TT := tz_mem 1051 (by decide +kernel)
theorem tin_A : ∀ w ∈ u_ws "TapeBench$Aligner" tT_A 2, w ∈ tz_TT := by
  intro w hw
  have h : w ∈ [(Cond.lays "TapeBench$Aligner" "TapeBench$Aligner" "sum" "I"), (Cond.lays "TapeBench$Aligner" "TapeBench$Aligner" "places" "I")] := hw
  simp only [List.mem_cons, List.not_mem_nil, or_false] at h
  rcases h with rfl | rfl
  · exact tw_205
  · exact tw_207
theorem tci_A : tz_CI 0 "TapeBench$Aligner" tT_A 2 ty_A := ⟨rfl, tin_A, by decide +kernel, by decide +kernel⟩
theorem tin_H : ∀ w ∈ u_ws "TapeBench$History" tT_H 3, w ∈ tz_TT := by
  intro w hw
  have h : w ∈ [(Cond.laysFinal "TapeBench$History" "TapeBench$History" "steps" "[LTapeBench$Step;"), (Cond.lays "TapeBench$History" "TapeBench$History" "next" "I"), (Cond.lays "TapeBench$History" "TapeBench$History" "kept" "I")] := hw
  simp only [List.mem_cons, List.not_mem_nil, or_false] at h
  rcases h with rfl | rfl | rfl
  · exact tw_160
  · exact tw_162
  · exact tw_164
theorem tci_H : tz_CI 1 "TapeBench$History" tT_H 3 ty_H := ⟨rfl, tin_H, by decide +kernel, by decide +kernel⟩
theorem tin_L : ∀ w ∈ u_ws "TapeBench$Layer" tT_L 4, w ∈ tz_TT := by
  intro w hw
  have h : w ∈ [(Cond.laysFinal "TapeBench$Layer" "TapeBench$Layer" "kind" "I"), (Cond.laysFinal "TapeBench$Layer" "TapeBench$Layer" "a" "I"), (Cond.laysFinal "TapeBench$Layer" "TapeBench$Layer" "b" "I"), (Cond.laysFinal "TapeBench$Layer" "TapeBench$Layer" "on" "Z")] := hw
  simp only [List.mem_cons, List.not_mem_nil, or_false] at h
  rcases h with rfl | rfl | rfl | rfl
  · exact tw_504
  · exact tw_506
  · exact tw_508
  · exact tw_510
theorem tci_L : tz_CI 2 "TapeBench$Layer" tT_L 4 ty_L := ⟨rfl, tin_L, by decide +kernel, by decide +kernel⟩
theorem tin_S : ∀ w ∈ u_ws "TapeBench$Layers" tT_S 2, w ∈ tz_TT := by
  intro w hw
  have h : w ∈ [(Cond.laysFinal "TapeBench$Layers" "TapeBench$Layers" "order" "[LTapeBench$Layer;"), (Cond.lays "TapeBench$Layers" "TapeBench$Layers" "laid" "I")] := hw
  simp only [List.mem_cons, List.not_mem_nil, or_false] at h
  rcases h with rfl | rfl
  · exact tw_83
  · exact tw_85
theorem tci_S : tz_CI 3 "TapeBench$Layers" tT_S 2 ty_S := ⟨rfl, tin_S, by decide +kernel, by decide +kernel⟩
theorem tin_P : ∀ w ∈ u_ws "TapeBench$Player" tT_P 5, w ∈ tz_TT := by
  intro w hw
  have h : w ∈ [(Cond.laysFinal "TapeBench$Player" "TapeBench$Player" "aligner" "LTapeBench$Aligner;"), (Cond.laysFinal "TapeBench$Player" "TapeBench$Player" "turns" "LTapeBench$Turns;"), (Cond.lays "TapeBench$Player" "TapeBench$Player" "row" "LTapeBench$Row;"), (Cond.lays "TapeBench$Player" "TapeBench$Player" "next" "LTapeBench$Row;"), (Cond.lays "TapeBench$Player" "TapeBench$Player" "followed" "I")] := hw
  simp only [List.mem_cons, List.not_mem_nil, or_false] at h
  rcases h with rfl | rfl | rfl | rfl | rfl
  · exact tw_227
  · exact tw_229
  · exact tw_231
  · exact tw_233
  · exact tw_235
theorem tci_P : tz_CI 4 "TapeBench$Player" tT_P 5 ty_P := ⟨rfl, tin_P, by decide +kernel, by decide +kernel⟩
theorem tin_R : ∀ w ∈ u_ws "TapeBench$Row" tT_R 2, w ∈ tz_TT := by
  intro w hw
  have h : w ∈ [(Cond.laysFinal "TapeBench$Row" "TapeBench$Row" "samples" "[I"), (Cond.lays "TapeBench$Row" "TapeBench$Row" "length" "I")] := hw
  simp only [List.mem_cons, List.not_mem_nil, or_false] at h
  rcases h with rfl | rfl
  · exact tw_95
  · exact tw_97
theorem tci_R : tz_CI 5 "TapeBench$Row" tT_R 2 ty_R := ⟨rfl, tin_R, by decide +kernel, by decide +kernel⟩
theorem tin_Q : ∀ w ∈ u_ws "TapeBench$Sheet" tT_Q 3, w ∈ tz_TT := by
  intro w hw
  have h : w ∈ [(Cond.laysFinal "TapeBench$Sheet" "TapeBench$Sheet" "numbers" "[I"), (Cond.lays "TapeBench$Sheet" "TapeBench$Sheet" "bits" "I"), (Cond.lays "TapeBench$Sheet" "TapeBench$Sheet" "length" "I")] := hw
  simp only [List.mem_cons, List.not_mem_nil, or_false] at h
  rcases h with rfl | rfl | rfl
  · exact tw_177
  · exact tw_179
  · exact tw_181
theorem tci_Q : tz_CI 6 "TapeBench$Sheet" tT_Q 3 ty_Q := ⟨rfl, tin_Q, by decide +kernel, by decide +kernel⟩
theorem tin_E : ∀ w ∈ u_ws "TapeBench$Step" tT_E 5, w ∈ tz_TT := by
  intro w hw
  have h : w ∈ [(Cond.laysFinal "TapeBench$Step" "TapeBench$Step" "row" "LTapeBench$Row;"), (Cond.laysFinal "TapeBench$Step" "TapeBench$Step" "layers" "LTapeBench$Layers;"), (Cond.laysFinal "TapeBench$Step" "TapeBench$Step" "markPasses" "[I"), (Cond.laysFinal "TapeBench$Step" "TapeBench$Step" "markPlaces" "[I"), (Cond.lays "TapeBench$Step" "TapeBench$Step" "p" "I")] := hw
  simp only [List.mem_cons, List.not_mem_nil, or_false] at h
  rcases h with rfl | rfl | rfl | rfl | rfl
  · exact tw_146
  · exact tw_148
  · exact tw_150
  · exact tw_152
  · exact tw_154
theorem tci_E : tz_CI 7 "TapeBench$Step" tT_E 5 ty_E := ⟨rfl, tin_E, by decide +kernel, by decide +kernel⟩
theorem tin_T : ∀ w ∈ u_ws "TapeBench$Tape" tT_T 4, w ∈ tz_TT := by
  intro w hw
  have h : w ∈ [(Cond.laysFinal "TapeBench$Tape" "TapeBench$Tape" "rows" "[LTapeBench$Row;"), (Cond.laysFinal "TapeBench$Tape" "TapeBench$Tape" "layers" "LTapeBench$Layers;"), (Cond.laysFinal "TapeBench$Tape" "TapeBench$Tape" "markPasses" "[I"), (Cond.laysFinal "TapeBench$Tape" "TapeBench$Tape" "markPlaces" "[I")] := hw
  simp only [List.mem_cons, List.not_mem_nil, or_false] at h
  rcases h with rfl | rfl | rfl | rfl
  · exact tw_115
  · exact tw_117
  · exact tw_119
  · exact tw_121
theorem tci_T : tz_CI 8 "TapeBench$Tape" tT_T 4 ty_T := ⟨rfl, tin_T, by decide +kernel, by decide +kernel⟩
theorem tin_U : ∀ w ∈ u_ws "TapeBench$Turns" tT_U 2, w ∈ tz_TT := by
  intro w hw
  have h : w ∈ [(Cond.laysFinal "TapeBench$Turns" "TapeBench$Turns" "places" "[I"), (Cond.lays "TapeBench$Turns" "TapeBench$Turns" "found" "I")] := hw
  simp only [List.mem_cons, List.not_mem_nil, or_false] at h
  rcases h with rfl | rfl
  · exact tw_192
  · exact tw_194
theorem tci_U : tz_CI 9 "TapeBench$Turns" tT_U 2 ty_U := ⟨rfl, tin_U, by decide +kernel, by decide +kernel⟩
theorem tin_X : ∀ w ∈ u_ws "TapeBench" tT_X 8, w ∈ tz_TT := by
  intro w hw
  have h : w ∈ [(Cond.laysFinal "TapeBench" "TapeBench" "tape" "LTapeBench$Tape;"), (Cond.laysFinal "TapeBench" "TapeBench" "history" "LTapeBench$History;"), (Cond.laysFinal "TapeBench" "TapeBench" "sheets" "[LTapeBench$Sheet;"), (Cond.laysFinal "TapeBench" "TapeBench" "turns" "LTapeBench$Turns;"), (Cond.laysFinal "TapeBench" "TapeBench" "aligner" "LTapeBench$Aligner;"), (Cond.laysFinal "TapeBench" "TapeBench" "player" "LTapeBench$Player;"), (Cond.laysFinal "TapeBench" "TapeBench" "joined" "LTapeBench$Row;"), (Cond.lays "TapeBench" "TapeBench" "findings" "I")] := hw
  simp only [List.mem_cons, List.not_mem_nil, or_false] at h
  rcases h with rfl | rfl | rfl | rfl | rfl | rfl | rfl | rfl
  · exact tw_248
  · exact tw_250
  · exact tw_252
  · exact tw_254
  · exact tw_256
  · exact tw_258
  · exact tw_260
  · exact tw_262
theorem tci_X : tz_CI 10 "TapeBench" tT_X 8 ty_X := ⟨rfl, tin_X, by decide +kernel, by decide +kernel⟩
theorem tin_M : ∀ w ∈ u_ws "TapeBenchModel" tT_M 13, w ∈ tz_TT := by
  intro w hw
  have h : w ∈ [(Cond.laysFinal "TapeBenchModel" "TapeBenchModel" "now" "[I"), (Cond.laysFinal "TapeBenchModel" "TapeBenchModel" "past" "[I"), (Cond.lays "TapeBenchModel" "TapeBenchModel" "kept" "I"), (Cond.lays "TapeBenchModel" "TapeBenchModel" "findings" "I"), (Cond.laysFinal "TapeBenchModel" "TapeBenchModel" "bits" "[I"), (Cond.laysFinal "TapeBenchModel" "TapeBenchModel" "numbers" "[I"), (Cond.laysFinal "TapeBenchModel" "TapeBenchModel" "sheets" "[I"), (Cond.lays "TapeBenchModel" "TapeBenchModel" "size" "I"), (Cond.laysFinal "TapeBenchModel" "TapeBenchModel" "row" "[I"), (Cond.lays "TapeBenchModel" "TapeBenchModel" "newSize" "I"), (Cond.laysFinal "TapeBenchModel" "TapeBenchModel" "made" "[I"), (Cond.laysFinal "TapeBenchModel" "TapeBenchModel" "carried" "[I"), (Cond.lays "TapeBenchModel" "TapeBenchModel" "together" "I")] := hw
  simp only [List.mem_cons, List.not_mem_nil, or_false] at h
  rcases h with rfl | rfl | rfl | rfl | rfl | rfl | rfl | rfl | rfl | rfl | rfl | rfl | rfl
  · exact tw_766
  · exact tw_768
  · exact tw_770
  · exact tw_772
  · exact tw_774
  · exact tw_776
  · exact tw_778
  · exact tw_780
  · exact tw_782
  · exact tw_784
  · exact tw_786
  · exact tw_788
  · exact tw_790
theorem tci_M : tz_CI 11 "TapeBenchModel" tT_M 13 ty_M := ⟨rfl, tin_M, by decide +kernel, by decide +kernel⟩
abbrev tyX_init : MethodName := ⟨"TapeBench", "<init>", "()V"⟩
theorem tmi_X_init : tz_MI tyX_init prog_1_method_1_code 2 (none) 0 := ⟨tw_61, tw_42, by decide +kernel⟩
abbrev tyT_init : MethodName := ⟨"TapeBench$Tape", "<init>", "()V"⟩
theorem tmi_T_init : tz_MI tyT_init prog_10_method_1_code 2 (none) 0 := ⟨tw_69, tw_43, by decide +kernel⟩
abbrev tyS_init : MethodName := ⟨"TapeBench$Layers", "<init>", "()V"⟩
theorem tmi_S_init : tz_MI tyS_init prog_5_method_1_code 1 (none) 0 := ⟨tw_77, tw_44, by decide +kernel⟩
abbrev tyR_init : MethodName := ⟨"TapeBench$Row", "<init>", "()V"⟩
theorem tmi_R_init : tz_MI tyR_init prog_7_method_1_code 1 (none) 0 := ⟨tw_91, tw_45, by decide +kernel⟩
abbrev tyK_fill : MethodName := ⟨"java/util/Arrays", "fill", "([II)V"⟩
theorem tmi_K_fill : tz_MI tyK_fill prog_16_method_103_code 4 (none) 2 := ⟨tw_103, tw_46, by decide +kernel⟩
abbrev tyH_init : MethodName := ⟨"TapeBench$History", "<init>", "()V"⟩
theorem tmi_H_init : tz_MI tyH_init prog_3_method_1_code 2 (none) 0 := ⟨tw_128, tw_47, by decide +kernel⟩
abbrev tyE_init : MethodName := ⟨"TapeBench$Step", "<init>", "()V"⟩
theorem tmi_E_init : tz_MI tyE_init prog_9_method_1_code 1 (none) 0 := ⟨tw_135, tw_48, by decide +kernel⟩
abbrev tyQ_init : MethodName := ⟨"TapeBench$Sheet", "<init>", "()V"⟩
theorem tmi_Q_init : tz_MI tyQ_init prog_8_method_1_code 1 (none) 0 := ⟨tw_172, tw_49, by decide +kernel⟩
abbrev tyU_init : MethodName := ⟨"TapeBench$Turns", "<init>", "()V"⟩
theorem tmi_U_init : tz_MI tyU_init prog_11_method_1_code 1 (none) 0 := ⟨tw_188, tw_50, by decide +kernel⟩
abbrev tyA_init : MethodName := ⟨"TapeBench$Aligner", "<init>", "()V"⟩
theorem tmi_A_init : tz_MI tyA_init prog_2_method_1_code 1 (none) 0 := ⟨tw_201, tw_51, by decide +kernel⟩
abbrev tyP_init : MethodName := ⟨"TapeBench$Player", "<init>", "()V"⟩
theorem tmi_P_init : tz_MI tyP_init prog_6_method_1_code 1 (none) 0 := ⟨tw_214, tw_52, by decide +kernel⟩
abbrev tyX_pass : MethodName := ⟨"TapeBench", "pass", "(II)I"⟩
theorem tmi_X_pass : tz_MI tyX_pass prog_1_method_2_code 5 (some (.int)) 2 := ⟨tw_268, tw_42, by decide +kernel⟩
abbrev tyT_rowAt : MethodName := ⟨"TapeBench$Tape", "rowAt", "(I)LTapeBench$Row;"⟩
theorem tmi_T_rowAt : tz_MI tyT_rowAt prog_10_method_2_code 2 (some (.object "TapeBench$Row")) 1 := ⟨tw_272, tw_43, by decide +kernel⟩
abbrev tyX_answer : MethodName := ⟨"TapeBench", "answer", "(I)I"⟩
theorem tmi_X_answer : tz_MI tyX_answer prog_1_method_31_code 2 (some (.int)) 1 := ⟨tw_277, tw_42, by decide +kernel⟩
abbrev tyH_keep : MethodName := ⟨"TapeBench$History", "keep", "(LTapeBench$Tape;I)V"⟩
theorem tmi_H_keep : tz_MI tyH_keep prog_3_method_2_code 4 (none) 2 := ⟨tw_282, tw_47, by decide +kernel⟩
abbrev tyH_stepAt : MethodName := ⟨"TapeBench$History", "stepAt", "(I)LTapeBench$Step;"⟩
theorem tmi_H_stepAt : tz_MI tyH_stepAt prog_3_method_4_code 2 (some (.object "TapeBench$Step")) 1 := ⟨tw_286, tw_47, by decide +kernel⟩
abbrev tyE_keep : MethodName := ⟨"TapeBench$Step", "keep", "(LTapeBench$Tape;I)V"⟩
theorem tmi_E_keep : tz_MI tyE_keep prog_9_method_2_code 4 (none) 2 := ⟨tw_290, tw_48, by decide +kernel⟩
abbrev tyR_become : MethodName := ⟨"TapeBench$Row", "become", "(LTapeBench$Row;)V"⟩
theorem tmi_R_become : tz_MI tyR_become prog_7_method_9_code 2 (none) 1 := ⟨tw_295, tw_45, by decide +kernel⟩
abbrev tyS_become : MethodName := ⟨"TapeBench$Layers", "become", "(LTapeBench$Layers;)V"⟩
theorem tmi_S_become : tz_MI tyS_become prog_5_method_8_code 3 (none) 1 := ⟨tw_302, tw_44, by decide +kernel⟩
abbrev tyJ_min : MethodName := ⟨"java/lang/Math", "min", "(II)I"⟩
theorem tmi_J_min : tz_MI tyJ_min prog_14_method_69_code 2 (some (.int)) 2 := ⟨tw_306, tw_55, by decide +kernel⟩
abbrev tyR_length : MethodName := ⟨"TapeBench$Row", "length", "()I"⟩
theorem tmi_R_length : tz_MI tyR_length prog_7_method_2_code 1 (some (.int)) 0 := ⟨tw_310, tw_45, by decide +kernel⟩
abbrev tyR_restart : MethodName := ⟨"TapeBench$Row", "restart", "(I)V"⟩
theorem tmi_R_restart : tz_MI tyR_restart prog_7_method_8_code 2 (none) 1 := ⟨tw_314, tw_45, by decide +kernel⟩
abbrev tyJ_max : MethodName := ⟨"java/lang/Math", "max", "(II)I"⟩
theorem tmi_J_max : tz_MI tyJ_max prog_14_method_65_code 2 (some (.int)) 2 := ⟨tw_319, tw_55, by decide +kernel⟩
abbrev tyX_put : MethodName := ⟨"TapeBench", "put", "(III)I"⟩
theorem tmi_X_put : tz_MI tyX_put prog_1_method_3_code 6 (some (.int)) 3 := ⟨tw_323, tw_42, by decide +kernel⟩
abbrev tyR_has : MethodName := ⟨"TapeBench$Row", "has", "(I)Z"⟩
theorem tmi_R_has : tz_MI tyR_has prog_7_method_3_code 2 (some (.boolean)) 1 := ⟨tw_327, tw_45, by decide +kernel⟩
abbrev tyX_isSample : MethodName := ⟨"TapeBench", "isSample", "(I)Z"⟩
theorem tmi_X_isSample : tz_MI tyX_isSample prog_1_method_34_code 1 (some (.boolean)) 1 := ⟨tw_330, tw_42, by decide +kernel⟩
abbrev tyR_at : MethodName := ⟨"TapeBench$Row", "at", "(I)I"⟩
theorem tmi_R_at : tz_MI tyR_at prog_7_method_4_code 2 (some (.int)) 1 := ⟨tw_334, tw_45, by decide +kernel⟩
abbrev tyR_set : MethodName := ⟨"TapeBench$Row", "set", "(II)V"⟩
theorem tmi_R_set : tz_MI tyR_set prog_7_method_5_code 3 (none) 2 := ⟨tw_340, tw_45, by decide +kernel⟩
abbrev tyX_lose : MethodName := ⟨"TapeBench", "lose", "(III)I"⟩
theorem tmi_X_lose : tz_MI tyX_lose prog_1_method_4_code 7 (some (.int)) 3 := ⟨tw_345, tw_42, by decide +kernel⟩
abbrev tyX_holds : MethodName := ⟨"TapeBench", "holds", "(III)Z"⟩
theorem tmi_X_holds : tz_MI tyX_holds prog_1_method_35_code 3 (some (.boolean)) 3 := ⟨tw_348, tw_42, by decide +kernel⟩
abbrev tyR_lostOnes : MethodName := ⟨"TapeBench$Row", "lostOnes", "()I"⟩
theorem tmi_R_lostOnes : tz_MI tyR_lostOnes prog_7_method_10_code 3 (some (.int)) 0 := ⟨tw_352, tw_45, by decide +kernel⟩
abbrev tyX_sample : MethodName := ⟨"TapeBench", "sample", "(II)I"⟩
theorem tmi_X_sample : tz_MI tyX_sample prog_1_method_5_code 4 (some (.int)) 2 := ⟨tw_357, tw_42, by decide +kernel⟩
abbrev tyX_about : MethodName := ⟨"TapeBench", "about", "(II)I"⟩
theorem tmi_X_about : tz_MI tyX_about prog_1_method_6_code 4 (some (.int)) 2 := ⟨tw_361, tw_42, by decide +kernel⟩
abbrev tyU_find : MethodName := ⟨"TapeBench$Turns", "find", "(LTapeBench$Row;)V"⟩
theorem tmi_U_find : tz_MI tyU_find prog_11_method_2_code 3 (none) 1 := ⟨tw_365, tw_50, by decide +kernel⟩
abbrev tyR_isTurn : MethodName := ⟨"TapeBench$Row", "isTurn", "(I)Z"⟩
theorem tmi_R_isTurn : tz_MI tyR_isTurn prog_7_method_11_code 2 (some (.boolean)) 1 := ⟨tw_370, tw_45, by decide +kernel⟩
abbrev tyU_found : MethodName := ⟨"TapeBench$Turns", "found", "()I"⟩
theorem tmi_U_found : tz_MI tyU_found prog_11_method_3_code 1 (some (.int)) 0 := ⟨tw_374, tw_50, by decide +kernel⟩
abbrev tyR_clicks : MethodName := ⟨"TapeBench$Row", "clicks", "(I)I"⟩
theorem tmi_R_clicks : tz_MI tyR_clicks prog_7_method_13_code 4 (some (.int)) 1 := ⟨tw_378, tw_45, by decide +kernel⟩
abbrev tyR_isClick : MethodName := ⟨"TapeBench$Row", "isClick", "(II)Z"⟩
theorem tmi_R_isClick : tz_MI tyR_isClick prog_7_method_12_code 4 (some (.boolean)) 2 := ⟨tw_382, tw_45, by decide +kernel⟩
abbrev tyX_turn : MethodName := ⟨"TapeBench", "turn", "(II)I"⟩
theorem tmi_X_turn : tz_MI tyX_turn prog_1_method_7_code 4 (some (.int)) 2 := ⟨tw_386, tw_42, by decide +kernel⟩
abbrev tyU_placeAt : MethodName := ⟨"TapeBench$Turns", "placeAt", "(I)I"⟩
theorem tmi_U_placeAt : tz_MI tyU_placeAt prog_11_method_4_code 2 (some (.int)) 1 := ⟨tw_390, tw_50, by decide +kernel⟩
abbrev tyX_sheet : MethodName := ⟨"TapeBench", "sheet", "(III)I"⟩
theorem tmi_X_sheet : tz_MI tyX_sheet prog_1_method_8_code 5 (some (.int)) 3 := ⟨tw_395, tw_42, by decide +kernel⟩
abbrev tyX_sheetAt : MethodName := ⟨"TapeBench", "sheetAt", "(I)LTapeBench$Sheet;"⟩
theorem tmi_X_sheetAt : tz_MI tyX_sheetAt prog_1_method_32_code 2 (some (.object "TapeBench$Sheet")) 1 := ⟨tw_399, tw_42, by decide +kernel⟩
abbrev tyQ_canHave : MethodName := ⟨"TapeBench$Sheet", "canHave", "(I)Z"⟩
theorem tmi_Q_canHave : tz_MI tyQ_canHave prog_8_method_2_code 1 (some (.boolean)) 1 := ⟨tw_402, tw_49, by decide +kernel⟩
abbrev tyQ_restart : MethodName := ⟨"TapeBench$Sheet", "restart", "(II)V"⟩
theorem tmi_Q_restart : tz_MI tyQ_restart prog_8_method_7_code 3 (none) 2 := ⟨tw_407, tw_49, by decide +kernel⟩
abbrev tyQ_length : MethodName := ⟨"TapeBench$Sheet", "length", "()I"⟩
theorem tmi_Q_length : tz_MI tyQ_length prog_8_method_5_code 1 (some (.int)) 0 := ⟨tw_414, tw_49, by decide +kernel⟩
abbrev tyX_write : MethodName := ⟨"TapeBench", "write", "(III)I"⟩
theorem tmi_X_write : tz_MI tyX_write prog_1_method_9_code 5 (some (.int)) 3 := ⟨tw_418, tw_42, by decide +kernel⟩
abbrev tyQ_isMissing : MethodName := ⟨"TapeBench$Sheet", "isMissing", "()Z"⟩
theorem tmi_Q_isMissing : tz_MI tyQ_isMissing prog_8_method_3_code 1 (some (.boolean)) 0 := ⟨tw_422, tw_49, by decide +kernel⟩
abbrev tyQ_has : MethodName := ⟨"TapeBench$Sheet", "has", "(I)Z"⟩
theorem tmi_Q_has : tz_MI tyQ_has prog_8_method_6_code 2 (some (.boolean)) 1 := ⟨tw_427, tw_49, by decide +kernel⟩
abbrev tyQ_set : MethodName := ⟨"TapeBench$Sheet", "set", "(II)V"⟩
theorem tmi_Q_set : tz_MI tyQ_set prog_8_method_8_code 4 (none) 2 := ⟨tw_431, tw_49, by decide +kernel⟩
abbrev tyX_copy : MethodName := ⟨"TapeBench", "copy", "(IIIII)I"⟩
theorem tmi_X_copy : tz_MI tyX_copy prog_1_method_10_code 8 (some (.int)) 5 := ⟨tw_436, tw_42, by decide +kernel⟩
abbrev tyQ_bits : MethodName := ⟨"TapeBench$Sheet", "bits", "()I"⟩
theorem tmi_Q_bits : tz_MI tyQ_bits prog_8_method_4_code 1 (some (.int)) 0 := ⟨tw_440, tw_49, by decide +kernel⟩
abbrev tyQ_take : MethodName := ⟨"TapeBench$Sheet", "take", "(LTapeBench$Sheet;III)V"⟩
theorem tmi_Q_take : tz_MI tyQ_take prog_8_method_9_code 5 (none) 4 := ⟨tw_445, tw_49, by decide +kernel⟩
abbrev tyX_lay : MethodName := ⟨"TapeBench", "lay", "(II)I"⟩
theorem tmi_X_lay : tz_MI tyX_lay prog_1_method_11_code 6 (some (.int)) 2 := ⟨tw_451, tw_42, by decide +kernel⟩
abbrev tyR_empty : MethodName := ⟨"TapeBench$Row", "empty", "()V"⟩
theorem tmi_R_empty : tz_MI tyR_empty prog_7_method_7_code 1 (none) 0 := ⟨tw_455, tw_45, by decide +kernel⟩
abbrev tyQ_asSample : MethodName := ⟨"TapeBench$Sheet", "asSample", "(I)I"⟩
theorem tmi_Q_asSample : tz_MI tyQ_asSample prog_8_method_10_code 2 (some (.int)) 1 := ⟨tw_459, tw_49, by decide +kernel⟩
abbrev tyR_add : MethodName := ⟨"TapeBench$Row", "add", "(I)V"⟩
theorem tmi_R_add : tz_MI tyR_add prog_7_method_6_code 2 (none) 1 := ⟨tw_465, tw_45, by decide +kernel⟩
abbrev tyX_layer : MethodName := ⟨"TapeBench", "layer", "(III)I"⟩
theorem tmi_X_layer : tz_MI tyX_layer prog_1_method_12_code 5 (some (.int)) 3 := ⟨tw_469, tw_42, by decide +kernel⟩
abbrev tyL_canBe : MethodName := ⟨"TapeBench$Layer", "canBe", "(III)Z"⟩
theorem tmi_L_canBe : tz_MI tyL_canBe prog_4_method_3_code 3 (some (.boolean)) 3 := ⟨tw_472, tw_56, by decide +kernel⟩
abbrev tyS_inAll : MethodName := ⟨"TapeBench$Layers", "inAll", "()I"⟩
theorem tmi_S_inAll : tz_MI tyS_inAll prog_5_method_2_code 1 (some (.int)) 0 := ⟨tw_480, tw_44, by decide +kernel⟩
abbrev tyL_hasB : MethodName := ⟨"TapeBench$Layer", "hasB", "(I)Z"⟩
theorem tmi_L_hasB : tz_MI tyL_hasB prog_4_method_2_code 1 (some (.boolean)) 1 := ⟨tw_486, tw_56, by decide +kernel⟩
abbrev tyL_init : MethodName := ⟨"TapeBench$Layer", "<init>", "(IIIZ)V"⟩
theorem tmi_L_init : tz_MI tyL_init prog_4_method_1_code 5 (none) 4 := ⟨tw_489, tw_56, by decide +kernel⟩
abbrev tyS_insert : MethodName := ⟨"TapeBench$Layers", "insert", "(ILTapeBench$Layer;)V"⟩
theorem tmi_S_insert : tz_MI tyS_insert prog_5_method_5_code 4 (none) 2 := ⟨tw_516, tw_44, by decide +kernel⟩
abbrev tyX_turnOn : MethodName := ⟨"TapeBench", "turnOn", "(IZ)I"⟩
theorem tmi_X_turnOn : tz_MI tyX_turnOn prog_1_method_13_code 4 (some (.int)) 2 := ⟨tw_520, tw_42, by decide +kernel⟩
abbrev tyS_at : MethodName := ⟨"TapeBench$Layers", "at", "(I)LTapeBench$Layer;"⟩
theorem tmi_S_at : tz_MI tyS_at prog_5_method_3_code 2 (some (.object "TapeBench$Layer")) 1 := ⟨tw_524, tw_44, by decide +kernel⟩
abbrev tyS_replace : MethodName := ⟨"TapeBench$Layers", "replace", "(ILTapeBench$Layer;)V"⟩
theorem tmi_S_replace : tz_MI tyS_replace prog_5_method_7_code 3 (none) 2 := ⟨tw_528, tw_44, by decide +kernel⟩
abbrev tyX_move : MethodName := ⟨"TapeBench", "move", "(II)I"⟩
theorem tmi_X_move : tz_MI tyX_move prog_1_method_14_code 4 (some (.int)) 2 := ⟨tw_533, tw_42, by decide +kernel⟩
abbrev tyS_remove : MethodName := ⟨"TapeBench$Layers", "remove", "(I)V"⟩
theorem tmi_S_remove : tz_MI tyS_remove prog_5_method_6_code 3 (none) 1 := ⟨tw_537, tw_44, by decide +kernel⟩
abbrev tyX_drop : MethodName := ⟨"TapeBench", "drop", "(I)I"⟩
theorem tmi_X_drop : tz_MI tyX_drop prog_1_method_15_code 2 (some (.int)) 1 := ⟨tw_541, tw_42, by decide +kernel⟩
abbrev tyX_told : MethodName := ⟨"TapeBench", "told", "(II)I"⟩
theorem tmi_X_told : tz_MI tyX_told prog_1_method_16_code 4 (some (.int)) 2 := ⟨tw_545, tw_42, by decide +kernel⟩
abbrev tyX_as : MethodName := ⟨"TapeBench", "as", "(II)I"⟩
theorem tmi_X_as : tz_MI tyX_as prog_1_method_17_code 4 (some (.int)) 2 := ⟨tw_549, tw_42, by decide +kernel⟩
abbrev tyL_isA : MethodName := ⟨"TapeBench$Layer", "isA", "(I)Z"⟩
theorem tmi_L_isA : tz_MI tyL_isA prog_4_method_4_code 2 (some (.boolean)) 1 := ⟨tw_553, tw_56, by decide +kernel⟩
abbrev tyX_size : MethodName := ⟨"TapeBench", "size", "(I)I"⟩
theorem tmi_X_size : tz_MI tyX_size prog_1_method_18_code 3 (some (.int)) 1 := ⟨tw_559, tw_42, by decide +kernel⟩
abbrev tyP_play : MethodName := ⟨"TapeBench$Player", "play", "(LTapeBench$Tape;LTapeBench$Row;I)LTapeBench$Row;"⟩
theorem tmi_P_play : tz_MI tyP_play prog_6_method_3_code 7 (some (.object "TapeBench$Row")) 3 := ⟨tw_563, tw_52, by decide +kernel⟩
abbrev tyP_makeNext : MethodName := ⟨"TapeBench$Player", "makeNext", "(LTapeBench$Layer;LTapeBench$Tape;)V"⟩
theorem tmi_P_makeNext : tz_MI tyP_makeNext prog_6_method_4_code 3 (none) 2 := ⟨tw_571, tw_52, by decide +kernel⟩
abbrev tyP_gain : MethodName := ⟨"TapeBench$Player", "gain", "(I)V"⟩
theorem tmi_P_gain : tz_MI tyP_gain prog_6_method_5_code 4 (none) 1 := ⟨tw_575, tw_52, by decide +kernel⟩
abbrev tyP_mend : MethodName := ⟨"TapeBench$Player", "mend", "(I)V"⟩
theorem tmi_P_mend : tz_MI tyP_mend prog_6_method_6_code 3 (none) 1 := ⟨tw_585, tw_52, by decide +kernel⟩
abbrev tyP_fill : MethodName := ⟨"TapeBench$Player", "fill", "(LTapeBench$Row;I)V"⟩
theorem tmi_P_fill : tz_MI tyP_fill prog_6_method_7_code 5 (none) 2 := ⟨tw_591, tw_52, by decide +kernel⟩
abbrev tyA_shift : MethodName := ⟨"TapeBench$Aligner", "shift", "(LTapeBench$Row;LTapeBench$Row;I)I"⟩
theorem tmi_A_shift : tz_MI tyA_shift prog_2_method_5_code 11 (some (.int)) 3 := ⟨tw_595, tw_51, by decide +kernel⟩
abbrev tyA_compare : MethodName := ⟨"TapeBench$Aligner", "compare", "(LTapeBench$Row;LTapeBench$Row;I)V"⟩
theorem tmi_A_compare : tz_MI tyA_compare prog_2_method_4_code 7 (none) 3 := ⟨tw_600, tw_51, by decide +kernel⟩
abbrev tyJ_abs : MethodName := ⟨"java/lang/Math", "abs", "(I)I"⟩
theorem tmi_J_abs : tz_MI tyJ_abs prog_14_method_59_code 1 (some (.int)) 1 := ⟨tw_606, tw_55, by decide +kernel⟩
abbrev tyP_bridge : MethodName := ⟨"TapeBench$Player", "bridge", "(I)V"⟩
theorem tmi_P_bridge : tz_MI tyP_bridge prog_6_method_8_code 4 (none) 1 := ⟨tw_612, tw_52, by decide +kernel⟩
abbrev tyP_span : MethodName := ⟨"TapeBench$Player", "span", "(II)V"⟩
theorem tmi_P_span : tz_MI tyP_span prog_6_method_9_code 6 (none) 2 := ⟨tw_616, tw_52, by decide +kernel⟩
abbrev tyJ_floorDiv : MethodName := ⟨"java/lang/Math", "floorDiv", "(II)I"⟩
theorem tmi_J_floorDiv : tz_MI tyJ_floorDiv prog_14_method_47_code 3 (some (.int)) 2 := ⟨tw_619, tw_55, by decide +kernel⟩
abbrev tyP_warp : MethodName := ⟨"TapeBench$Player", "warp", "(I)V"⟩
theorem tmi_P_warp : tz_MI tyP_warp prog_6_method_10_code 4 (none) 1 := ⟨tw_623, tw_52, by decide +kernel⟩
abbrev tyP_sampleAtTime : MethodName := ⟨"TapeBench$Player", "sampleAtTime", "(II)I"⟩
theorem tmi_P_sampleAtTime : tz_MI tyP_sampleAtTime prog_6_method_11_code 10 (some (.int)) 2 := ⟨tw_629, tw_52, by decide +kernel⟩
abbrev tyP_followWarp : MethodName := ⟨"TapeBench$Player", "followWarp", "(II)V"⟩
theorem tmi_P_followWarp : tz_MI tyP_followWarp prog_6_method_12_code 7 (none) 2 := ⟨tw_634, tw_52, by decide +kernel⟩
abbrev tyU_latestUpTo : MethodName := ⟨"TapeBench$Turns", "latestUpTo", "(I)I"⟩
theorem tmi_U_latestUpTo : tz_MI tyU_latestUpTo prog_11_method_5_code 4 (some (.int)) 1 := ⟨tw_638, tw_50, by decide +kernel⟩
abbrev tyP_cut : MethodName := ⟨"TapeBench$Player", "cut", "(II)V"⟩
theorem tmi_P_cut : tz_MI tyP_cut prog_6_method_13_code 4 (none) 2 := ⟨tw_643, tw_52, by decide +kernel⟩
abbrev tyP_fade : MethodName := ⟨"TapeBench$Player", "fade", "(I)V"⟩
theorem tmi_P_fade : tz_MI tyP_fade prog_6_method_14_code 4 (none) 1 := ⟨tw_647, tw_52, by decide +kernel⟩
abbrev tyX_out : MethodName := ⟨"TapeBench", "out", "(II)I"⟩
theorem tmi_X_out : tz_MI tyX_out prog_1_method_19_code 5 (some (.int)) 2 := ⟨tw_651, tw_42, by decide +kernel⟩
abbrev tyX_heard : MethodName := ⟨"TapeBench", "heard", "(II)I"⟩
theorem tmi_X_heard : tz_MI tyX_heard prog_1_method_20_code 5 (some (.int)) 2 := ⟨tw_655, tw_42, by decide +kernel⟩
abbrev tyR_loudest : MethodName := ⟨"TapeBench$Row", "loudest", "()I"⟩
theorem tmi_R_loudest : tz_MI tyR_loudest prog_7_method_14_code 3 (some (.int)) 0 := ⟨tw_659, tw_45, by decide +kernel⟩
abbrev tyR_placesUnlike : MethodName := ⟨"TapeBench$Row", "placesUnlike", "(LTapeBench$Row;)I"⟩
theorem tmi_R_placesUnlike : tz_MI tyR_placesUnlike prog_7_method_16_code 4 (some (.int)) 1 := ⟨tw_664, tw_45, by decide +kernel⟩
abbrev tyX_power : MethodName := ⟨"TapeBench", "power", "(I)J"⟩
theorem tmi_X_power : tz_MI tyX_power prog_1_method_21_code 3 (some (.long)) 1 := ⟨tw_668, tw_42, by decide +kernel⟩
abbrev tyR_sumOfSquares : MethodName := ⟨"TapeBench$Row", "sumOfSquares", "()J"⟩
theorem tmi_R_sumOfSquares : tz_MI tyR_sumOfSquares prog_7_method_15_code 4 (some (.long)) 0 := ⟨tw_672, tw_45, by decide +kernel⟩
abbrev tyX_bake : MethodName := ⟨"TapeBench", "bake", "(II)I"⟩
theorem tmi_X_bake : tz_MI tyX_bake prog_1_method_22_code 5 (some (.int)) 2 := ⟨tw_676, tw_42, by decide +kernel⟩
abbrev tyX_align : MethodName := ⟨"TapeBench", "align", "(III)I"⟩
theorem tmi_X_align : tz_MI tyX_align prog_1_method_23_code 6 (some (.int)) 3 := ⟨tw_681, tw_42, by decide +kernel⟩
abbrev tyX_differ : MethodName := ⟨"TapeBench", "differ", "(IIIZ)I"⟩
theorem tmi_X_differ : tz_MI tyX_differ prog_1_method_24_code 7 (some (.int)) 4 := ⟨tw_686, tw_42, by decide +kernel⟩
abbrev tyA_places : MethodName := ⟨"TapeBench$Aligner", "places", "()I"⟩
theorem tmi_A_places : tz_MI tyA_places prog_2_method_3_code 1 (some (.int)) 0 := ⟨tw_691, tw_51, by decide +kernel⟩
abbrev tyA_sum : MethodName := ⟨"TapeBench$Aligner", "sum", "()I"⟩
theorem tmi_A_sum : tz_MI tyA_sum prog_2_method_2_code 1 (some (.int)) 0 := ⟨tw_695, tw_51, by decide +kernel⟩
abbrev tyX_seam : MethodName := ⟨"TapeBench", "seam", "(IIII)I"⟩
theorem tmi_X_seam : tz_MI tyX_seam prog_1_method_25_code 12 (some (.int)) 4 := ⟨tw_699, tw_42, by decide +kernel⟩
abbrev tyX_join : MethodName := ⟨"TapeBench", "join", "(IIII)I"⟩
theorem tmi_X_join : tz_MI tyX_join prog_1_method_26_code 9 (some (.int)) 4 := ⟨tw_706, tw_42, by decide +kernel⟩
abbrev tyX_mark : MethodName := ⟨"TapeBench", "mark", "(III)I"⟩
theorem tmi_X_mark : tz_MI tyX_mark prog_1_method_27_code 5 (some (.int)) 3 := ⟨tw_710, tw_42, by decide +kernel⟩
abbrev tyX_isMark : MethodName := ⟨"TapeBench", "isMark", "(I)Z"⟩
theorem tmi_X_isMark : tz_MI tyX_isMark prog_1_method_33_code 1 (some (.boolean)) 1 := ⟨tw_713, tw_42, by decide +kernel⟩
abbrev tyX_moment : MethodName := ⟨"TapeBench", "moment", "(I)I"⟩
theorem tmi_X_moment : tz_MI tyX_moment prog_1_method_28_code 4 (some (.int)) 1 := ⟨tw_717, tw_42, by decide +kernel⟩
abbrev tyP_followed : MethodName := ⟨"TapeBench$Player", "followed", "()I"⟩
theorem tmi_P_followed : tz_MI tyP_followed prog_6_method_2_code 1 (some (.int)) 0 := ⟨tw_721, tw_52, by decide +kernel⟩
abbrev tyX_undo : MethodName := ⟨"TapeBench", "undo", "()I"⟩
theorem tmi_X_undo : tz_MI tyX_undo prog_1_method_29_code 1 (some (.int)) 0 := ⟨tw_725, tw_42, by decide +kernel⟩
abbrev tyH_restore : MethodName := ⟨"TapeBench$History", "restore", "(LTapeBench$Tape;)I"⟩
theorem tmi_H_restore : tz_MI tyH_restore prog_3_method_3_code 4 (some (.int)) 1 := ⟨tw_729, tw_47, by decide +kernel⟩
abbrev tyE_bringBack : MethodName := ⟨"TapeBench$Step", "bringBack", "(LTapeBench$Tape;)V"⟩
theorem tmi_E_bringBack : tz_MI tyE_bringBack prog_9_method_3_code 3 (none) 1 := ⟨tw_734, tw_48, by decide +kernel⟩
abbrev tyX_count : MethodName := ⟨"TapeBench", "count", "(I)I"⟩
theorem tmi_X_count : tz_MI tyX_count prog_1_method_30_code 2 (some (.int)) 1 := ⟨tw_738, tw_42, by decide +kernel⟩
abbrev tyS_onesOn : MethodName := ⟨"TapeBench$Layers", "onesOn", "()I"⟩
theorem tmi_S_onesOn : tz_MI tyS_onesOn prog_5_method_4_code 4 (some (.int)) 0 := ⟨tw_742, tw_44, by decide +kernel⟩
abbrev tyT_marksSomewhere : MethodName := ⟨"TapeBench$Tape", "marksSomewhere", "()I"⟩
theorem tmi_T_marksSomewhere : tz_MI tyT_marksSomewhere prog_10_method_3_code 3 (some (.int)) 0 := ⟨tw_746, tw_43, by decide +kernel⟩
abbrev tyM_init : MethodName := ⟨"TapeBenchModel", "<init>", "()V"⟩
theorem tmi_M_init : tz_MI tyM_init prog_13_method_1_code 2 (none) 0 := ⟨tw_751, tw_53, by decide +kernel⟩
abbrev tyM_undo : MethodName := ⟨"TapeBenchModel", "undo", "()I"⟩
theorem tmi_M_undo : tz_MI tyM_undo prog_13_method_8_code 2 (some (.int)) 0 := ⟨tw_796, tw_53, by decide +kernel⟩
abbrev tyM_finding : MethodName := ⟨"TapeBenchModel", "finding", "(I)I"⟩
theorem tmi_M_finding : tz_MI tyM_finding prog_13_method_2_code 2 (some (.int)) 1 := ⟨tw_801, tw_53, by decide +kernel⟩
abbrev tyM_pass : MethodName := ⟨"TapeBenchModel", "pass", "(II)I"⟩
theorem tmi_M_pass : tz_MI tyM_pass prog_13_method_11_code 5 (some (.int)) 2 := ⟨tw_805, tw_53, by decide +kernel⟩
abbrev tyM_isPass : MethodName := ⟨"TapeBenchModel", "isPass", "(I)Z"⟩
theorem tmi_M_isPass : tz_MI tyM_isPass prog_13_method_4_code 1 (some (.boolean)) 1 := ⟨tw_808, tw_53, by decide +kernel⟩
abbrev tyM_in : MethodName := ⟨"TapeBenchModel", "in", "(III)Z"⟩
theorem tmi_M_in : tz_MI tyM_in prog_13_method_3_code 3 (some (.boolean)) 3 := ⟨tw_811, tw_53, by decide +kernel⟩
abbrev tyM_keep : MethodName := ⟨"TapeBenchModel", "keep", "()V"⟩
theorem tmi_M_keep : tz_MI tyM_keep prog_13_method_7_code 2 (none) 0 := ⟨tw_816, tw_53, by decide +kernel⟩
abbrev tyM_put : MethodName := ⟨"TapeBenchModel", "put", "(III)I"⟩
theorem tmi_M_put : tz_MI tyM_put prog_13_method_12_code 5 (some (.int)) 3 := ⟨tw_820, tw_53, by decide +kernel⟩
abbrev tyM_isSample : MethodName := ⟨"TapeBenchModel", "isSample", "(II)Z"⟩
theorem tmi_M_isSample : tz_MI tyM_isSample prog_13_method_5_code 3 (some (.boolean)) 2 := ⟨tw_824, tw_53, by decide +kernel⟩
abbrev tyM_at : MethodName := ⟨"TapeBenchModel", "at", "(II)I"⟩
theorem tmi_M_at : tz_MI tyM_at prog_13_method_6_code 3 (some (.int)) 2 := ⟨tw_828, tw_53, by decide +kernel⟩
abbrev tyM_lose : MethodName := ⟨"TapeBenchModel", "lose", "(III)I"⟩
theorem tmi_M_lose : tz_MI tyM_lose prog_13_method_13_code 6 (some (.int)) 3 := ⟨tw_833, tw_53, by decide +kernel⟩
abbrev tyM_sample : MethodName := ⟨"TapeBenchModel", "sample", "(II)I"⟩
theorem tmi_M_sample : tz_MI tyM_sample prog_13_method_14_code 3 (some (.int)) 2 := ⟨tw_837, tw_53, by decide +kernel⟩
abbrev tyM_about : MethodName := ⟨"TapeBenchModel", "about", "(II)I"⟩
theorem tmi_M_about : tz_MI tyM_about prog_13_method_20_code 5 (some (.int)) 2 := ⟨tw_842, tw_53, by decide +kernel⟩
abbrev tyM_takePass : MethodName := ⟨"TapeBenchModel", "takePass", "(I)V"⟩
theorem tmi_M_takePass : tz_MI tyM_takePass prog_13_method_9_code 3 (none) 1 := ⟨tw_846, tw_53, by decide +kernel⟩
abbrev tyM_lostMany : MethodName := ⟨"TapeBenchModel", "lostMany", "()I"⟩
theorem tmi_M_lostMany : tz_MI tyM_lostMany prog_13_method_19_code 3 (some (.int)) 0 := ⟨tw_850, tw_53, by decide +kernel⟩
abbrev tyM_turns : MethodName := ⟨"TapeBenchModel", "turns", "()I"⟩
theorem tmi_M_turns : tz_MI tyM_turns prog_13_method_16_code 3 (some (.int)) 0 := ⟨tw_854, tw_53, by decide +kernel⟩
abbrev tyM_isTurn : MethodName := ⟨"TapeBenchModel", "isTurn", "(I)Z"⟩
theorem tmi_M_isTurn : tz_MI tyM_isTurn prog_13_method_15_code 2 (some (.boolean)) 1 := ⟨tw_858, tw_53, by decide +kernel⟩
abbrev tyM_isClick : MethodName := ⟨"TapeBenchModel", "isClick", "(II)Z"⟩
theorem tmi_M_isClick : tz_MI tyM_isClick prog_13_method_18_code 4 (some (.boolean)) 2 := ⟨tw_862, tw_53, by decide +kernel⟩
abbrev tyM_turn : MethodName := ⟨"TapeBenchModel", "turn", "(II)I"⟩
theorem tmi_M_turn : tz_MI tyM_turn prog_13_method_21_code 4 (some (.int)) 2 := ⟨tw_866, tw_53, by decide +kernel⟩
abbrev tyM_turnAt : MethodName := ⟨"TapeBenchModel", "turnAt", "(I)I"⟩
theorem tmi_M_turnAt : tz_MI tyM_turnAt prog_13_method_17_code 4 (some (.int)) 1 := ⟨tw_870, tw_53, by decide +kernel⟩
abbrev tyM_sheet : MethodName := ⟨"TapeBenchModel", "sheet", "(III)I"⟩
theorem tmi_M_sheet : tz_MI tyM_sheet prog_13_method_23_code 5 (some (.int)) 3 := ⟨tw_874, tw_53, by decide +kernel⟩
abbrev tyM_isSheet : MethodName := ⟨"TapeBenchModel", "isSheet", "(I)Z"⟩
theorem tmi_M_isSheet : tz_MI tyM_isSheet prog_13_method_22_code 1 (some (.boolean)) 1 := ⟨tw_877, tw_53, by decide +kernel⟩
abbrev tyM_write : MethodName := ⟨"TapeBenchModel", "write", "(III)I"⟩
theorem tmi_M_write : tz_MI tyM_write prog_13_method_25_code 4 (some (.int)) 3 := ⟨tw_882, tw_53, by decide +kernel⟩
abbrev tyM_lowest : MethodName := ⟨"TapeBenchModel", "lowest", "(II)I"⟩
theorem tmi_M_lowest : tz_MI tyM_lowest prog_13_method_24_code 2 (some (.int)) 2 := ⟨tw_886, tw_53, by decide +kernel⟩
abbrev tyM_copy : MethodName := ⟨"TapeBenchModel", "copy", "(IIIII)I"⟩
theorem tmi_M_copy : tz_MI tyM_copy prog_13_method_26_code 7 (some (.int)) 5 := ⟨tw_890, tw_53, by decide +kernel⟩
abbrev tyM_lay : MethodName := ⟨"TapeBenchModel", "lay", "(II)I"⟩
theorem tmi_M_lay : tz_MI tyM_lay prog_13_method_27_code 5 (some (.int)) 2 := ⟨tw_895, tw_53, by decide +kernel⟩
abbrev tyM_laysDown : MethodName := ⟨"TapeBenchModel", "laysDown", "(I)V"⟩
theorem tmi_M_laysDown : tz_MI tyM_laysDown prog_13_method_10_code 3 (none) 1 := ⟨tw_899, tw_53, by decide +kernel⟩
abbrev tyM_layer : MethodName := ⟨"TapeBenchModel", "layer", "(III)I"⟩
theorem tmi_M_layer : tz_MI tyM_layer prog_13_method_33_code 5 (some (.int)) 3 := ⟨tw_903, tw_53, by decide +kernel⟩
abbrev tyM_isTold : MethodName := ⟨"TapeBenchModel", "isTold", "(III)Z"⟩
theorem tmi_M_isTold : tz_MI tyM_isTold prog_13_method_29_code 3 (some (.boolean)) 3 := ⟨tw_906, tw_53, by decide +kernel⟩
abbrev tyM_hasB : MethodName := ⟨"TapeBenchModel", "hasB", "(I)Z"⟩
theorem tmi_M_hasB : tz_MI tyM_hasB prog_13_method_28_code 1 (some (.boolean)) 1 := ⟨tw_911, tw_53, by decide +kernel⟩
abbrev tyM_setLayer : MethodName := ⟨"TapeBenchModel", "setLayer", "(IIIII)V"⟩
theorem tmi_M_setLayer : tz_MI tyM_setLayer prog_13_method_31_code 6 (none) 5 := ⟨tw_915, tw_53, by decide +kernel⟩
abbrev tyM_turnOn : MethodName := ⟨"TapeBenchModel", "turnOn", "(IZ)I"⟩
theorem tmi_M_turnOn : tz_MI tyM_turnOn prog_13_method_34_code 4 (some (.int)) 2 := ⟨tw_919, tw_53, by decide +kernel⟩
abbrev tyM_isLayer : MethodName := ⟨"TapeBenchModel", "isLayer", "(I)Z"⟩
theorem tmi_M_isLayer : tz_MI tyM_isLayer prog_13_method_30_code 2 (some (.boolean)) 1 := ⟨tw_923, tw_53, by decide +kernel⟩
abbrev tyM_move : MethodName := ⟨"TapeBenchModel", "move", "(II)I"⟩
theorem tmi_M_move : tz_MI tyM_move prog_13_method_35_code 8 (some (.int)) 2 := ⟨tw_927, tw_53, by decide +kernel⟩
abbrev tyM_copyLayer : MethodName := ⟨"TapeBenchModel", "copyLayer", "(II)V"⟩
theorem tmi_M_copyLayer : tz_MI tyM_copyLayer prog_13_method_32_code 3 (none) 2 := ⟨tw_931, tw_53, by decide +kernel⟩
abbrev tyM_drop : MethodName := ⟨"TapeBenchModel", "drop", "(I)I"⟩
theorem tmi_M_drop : tz_MI tyM_drop prog_13_method_36_code 3 (some (.int)) 1 := ⟨tw_935, tw_53, by decide +kernel⟩
abbrev tyM_told : MethodName := ⟨"TapeBenchModel", "told", "(II)I"⟩
theorem tmi_M_told : tz_MI tyM_told prog_13_method_37_code 3 (some (.int)) 2 := ⟨tw_939, tw_53, by decide +kernel⟩
abbrev tyM_as : MethodName := ⟨"TapeBenchModel", "as", "(II)I"⟩
theorem tmi_M_as : tz_MI tyM_as prog_13_method_38_code 5 (some (.int)) 2 := ⟨tw_943, tw_53, by decide +kernel⟩
abbrev tyM_size : MethodName := ⟨"TapeBenchModel", "size", "(I)I"⟩
theorem tmi_M_size : tz_MI tyM_size prog_13_method_52_code 2 (some (.int)) 1 := ⟨tw_947, tw_53, by decide +kernel⟩
abbrev tyM_output : MethodName := ⟨"TapeBenchModel", "output", "(I)V"⟩
theorem tmi_M_output : tz_MI tyM_output prog_13_method_51_code 3 (none) 1 := ⟨tw_951, tw_53, by decide +kernel⟩
abbrev tyM_work : MethodName := ⟨"TapeBenchModel", "work", "(I)V"⟩
theorem tmi_M_work : tz_MI tyM_work prog_13_method_50_code 3 (none) 1 := ⟨tw_955, tw_53, by decide +kernel⟩
abbrev tyM_gain : MethodName := ⟨"TapeBenchModel", "gain", "(I)V"⟩
theorem tmi_M_gain : tz_MI tyM_gain prog_13_method_42_code 3 (none) 1 := ⟨tw_959, tw_53, by decide +kernel⟩
abbrev tyM_cutTop : MethodName := ⟨"TapeBenchModel", "cutTop", "(I)I"⟩
theorem tmi_M_cutTop : tz_MI tyM_cutTop prog_13_method_39_code 1 (some (.int)) 1 := ⟨tw_962, tw_53, by decide +kernel⟩
abbrev tyM_mend : MethodName := ⟨"TapeBenchModel", "mend", "(I)V"⟩
theorem tmi_M_mend : tz_MI tyM_mend prog_13_method_43_code 3 (none) 1 := ⟨tw_966, tw_53, by decide +kernel⟩
abbrev tyM_takeMade : MethodName := ⟨"TapeBenchModel", "takeMade", "()V"⟩
theorem tmi_M_takeMade : tz_MI tyM_takeMade prog_13_method_44_code 2 (none) 0 := ⟨tw_970, tw_53, by decide +kernel⟩
abbrev tyM_fill : MethodName := ⟨"TapeBenchModel", "fill", "(II)V"⟩
theorem tmi_M_fill : tz_MI tyM_fill prog_13_method_45_code 5 (none) 2 := ⟨tw_974, tw_53, by decide +kernel⟩
abbrev tyM_aligned : MethodName := ⟨"TapeBenchModel", "aligned", "(II)I"⟩
theorem tmi_M_aligned : tz_MI tyM_aligned prog_13_method_40_code 14 (some (.int)) 2 := ⟨tw_978, tw_53, by decide +kernel⟩
abbrev tyM_differs : MethodName := ⟨"TapeBenchModel", "differs", "(II)I"⟩
theorem tmi_M_differs : tz_MI tyM_differs prog_13_method_41_code 5 (some (.int)) 2 := ⟨tw_982, tw_53, by decide +kernel⟩
abbrev tyM_bridge : MethodName := ⟨"TapeBenchModel", "bridge", "(I)V"⟩
theorem tmi_M_bridge : tz_MI tyM_bridge prog_13_method_46_code 6 (none) 1 := ⟨tw_988, tw_53, by decide +kernel⟩
abbrev tyM_warp : MethodName := ⟨"TapeBenchModel", "warp", "(I)V"⟩
theorem tmi_M_warp : tz_MI tyM_warp prog_13_method_47_code 9 (none) 1 := ⟨tw_993, tw_53, by decide +kernel⟩
abbrev tyM_cut : MethodName := ⟨"TapeBenchModel", "cut", "(II)V"⟩
theorem tmi_M_cut : tz_MI tyM_cut prog_13_method_48_code 4 (none) 2 := ⟨tw_998, tw_53, by decide +kernel⟩
abbrev tyM_fade : MethodName := ⟨"TapeBenchModel", "fade", "(I)V"⟩
theorem tmi_M_fade : tz_MI tyM_fade prog_13_method_49_code 3 (none) 1 := ⟨tw_1002, tw_53, by decide +kernel⟩
abbrev tyM_out : MethodName := ⟨"TapeBenchModel", "out", "(II)I"⟩
theorem tmi_M_out : tz_MI tyM_out prog_13_method_53_code 3 (some (.int)) 2 := ⟨tw_1006, tw_53, by decide +kernel⟩
abbrev tyM_heard : MethodName := ⟨"TapeBenchModel", "heard", "(II)I"⟩
theorem tmi_M_heard : tz_MI tyM_heard prog_13_method_54_code 6 (some (.int)) 2 := ⟨tw_1010, tw_53, by decide +kernel⟩
abbrev tyM_power : MethodName := ⟨"TapeBenchModel", "power", "(I)J"⟩
theorem tmi_M_power : tz_MI tyM_power prog_13_method_55_code 5 (some (.long)) 1 := ⟨tw_1015, tw_53, by decide +kernel⟩
abbrev tyM_bake : MethodName := ⟨"TapeBenchModel", "bake", "(II)I"⟩
theorem tmi_M_bake : tz_MI tyM_bake prog_13_method_56_code 3 (some (.int)) 2 := ⟨tw_1019, tw_53, by decide +kernel⟩
abbrev tyM_align : MethodName := ⟨"TapeBenchModel", "align", "(III)I"⟩
theorem tmi_M_align : tz_MI tyM_align prog_13_method_57_code 5 (some (.int)) 3 := ⟨tw_1023, tw_53, by decide +kernel⟩
abbrev tyM_differ : MethodName := ⟨"TapeBenchModel", "differ", "(IIIZ)I"⟩
theorem tmi_M_differ : tz_MI tyM_differ prog_13_method_58_code 6 (some (.int)) 4 := ⟨tw_1027, tw_53, by decide +kernel⟩
abbrev tyM_seam : MethodName := ⟨"TapeBenchModel", "seam", "(IIII)I"⟩
theorem tmi_M_seam : tz_MI tyM_seam prog_13_method_59_code 9 (some (.int)) 4 := ⟨tw_1031, tw_53, by decide +kernel⟩
abbrev tyM_join : MethodName := ⟨"TapeBenchModel", "join", "(IIII)I"⟩
theorem tmi_M_join : tz_MI tyM_join prog_13_method_60_code 6 (some (.int)) 4 := ⟨tw_1035, tw_53, by decide +kernel⟩
abbrev tyM_mark : MethodName := ⟨"TapeBenchModel", "mark", "(III)I"⟩
theorem tmi_M_mark : tz_MI tyM_mark prog_13_method_61_code 4 (some (.int)) 3 := ⟨tw_1039, tw_53, by decide +kernel⟩
abbrev tyM_moment : MethodName := ⟨"TapeBenchModel", "moment", "(I)I"⟩
theorem tmi_M_moment : tz_MI tyM_moment prog_13_method_63_code 7 (some (.int)) 1 := ⟨tw_1043, tw_53, by decide +kernel⟩
abbrev tyM_warped : MethodName := ⟨"TapeBenchModel", "warped", "(II)I"⟩
theorem tmi_M_warped : tz_MI tyM_warped prog_13_method_62_code 6 (some (.int)) 2 := ⟨tw_1047, tw_53, by decide +kernel⟩
abbrev tyM_count : MethodName := ⟨"TapeBenchModel", "count", "(I)I"⟩
theorem tmi_M_count : tz_MI tyM_count prog_13_method_64_code 5 (some (.int)) 1 := ⟨tw_1051, tw_53, by decide +kernel⟩
end
section
/-! ===== contracts with a known answer, and the rows of their calls ===== -/
def tz_res (r : Option Value) (F : tz_PH → Prop) : Option Value → tz_PH → Prop := fun rv f' => rv = r ∧ F f'
abbrev tz_CR (l : Launch) (y : MethodName) (b : ByteArray) (nL : Nat) (ret : Option FieldType) (rm : Room) (A : Nat → Prop) (D : va_G) (cs : Nat → ClassId) (sz : Nat) (av : List Value) (f : tz_PH) (r : Option Value) : Prop := tz_C l y b nL ret rm 0 0 A D cs sz av f (tz_res r (fun f' => f' = f))
abbrev tz_CW (l : Launch) (y : MethodName) (b : ByteArray) (nL : Nat) (ret : Option FieldType) (rm : Room) (A : Nat → Prop) (D : va_G) (cs : Nat → ClassId) (sz : Nat) (av : List Value) (f : tz_PH) (r : Option Value) (F : tz_PH → Prop) : Prop := tz_C l y b nL ret rm 0 0 A D cs sz av f (tz_res r F)
abbrev tz_CN (l : Launch) (y : MethodName) (b : ByteArray) (nL : Nat) (ret : Option FieldType) (rm : Room) (mc ms : Nat) (A : Nat → Prop) (D : va_G) (cs : Nat → ClassId) (sz : Nat) (av : List Value) (f : tz_PH) (r : Option Value) (F : tz_PH → Prop) : Prop := tz_C l y b nL ret rm mc ms A D cs sz av f (tz_res r F)
def tz_p (P : Prop) [Decidable P] : Int32 := if P then 1 else 0
theorem tz_p0 {P : Prop} [Decidable P] : tz_p P = 0 ↔ ¬ P := by unfold tz_p; split <;> simp_all
theorem tz_p1 {P : Prop} [Decidable P] : ¬ tz_p P = 0 ↔ P := by unfold tz_p; split <;> simp_all
theorem tz_pt {P : Prop} [Decidable P] (h : P) : tz_p P = 1 := by simp [tz_p, h]
theorem tz_pf {P : Prop} [Decidable P] (h : ¬ P) : tz_p P = 0 := by simp [tz_p, h]
theorem tz_p01 {P : Prop} [Decidable P] : tz_p P = 0 ∨ tz_p P = 1 := by unfold tz_p; split <;> simp
section TZC
variable {p : Program} {l : Launch} {e : Env} {R : Room} {s : State} {m : MethodId} {args : Array Value} {below : List Frame} {meth : Method} {c : Code} {Q : State → Prop} {A : Nat → Prop} {D : va_G} {cs : Nat → ClassId} {own : String} {cc : ByteArray} {nL : Nat} {f : tz_PH} {sz cells slots pc n : Nat} {lv : List (Nat × Value)} {rest st0 st1 As : List Value} {y : MethodName} {b : ByteArray} {maxL np idx mc ms : Nat} {ret : Option FieldType} {rm : Room} {a : Nat} {r : Option Value} {F : tz_PH → Prop}
theorem tz_C.ofB {av : List Value} {P : Option Value → tz_PH → Prop} {lv0 : List (Nat × Value)} (hy : plainFor y = true) (hlen : (lg_sl av).length ≤ nL) (hlv : lv_args 0 av = lv0)
    (body : ∀ (p : Program) (e : Env) (s : State) (m : MethodId) (args : Array Value) (below : List Frame) (meth : Method) (c : Code) (Q : State → Prop), tz_Cx p s m args c A D cs y.cls cc nL → meth.sig.returnType = ret → meth.locks = false → meth.name = y.name → s.heap.size = sz → Q = MQ below (tz_Q D A sz mc P) args s mc ms A →
      tz_V p l e rm s m args below meth c Q A D nL f sz 0 0 0 lv0 []) : tz_C l y cc nL ret rm mc ms A D cs sz av f P :=
  tz_C.ofV hy hlen hlv (fun p e s m below meth c C h1 h2 h3 h4 => body p e s m _ below meth c _ C h1 h2 h3 h4 rfl)
abbrev tz_rmok (rm R : Room) (maxL cells slots mc ms : Nat) : Prop := rm.cells = mc ∧ rm.slots = ms ∧ cells + mc ≤ R.cells ∧ slots + ms ≤ R.slots ∧ rm.frames + 1 ≤ R.frames ∧ 8 + (maxL + 11) + rm.locals ≤ R.locals
theorem tz_cV (C : tz_Cx p s m args c A D cs own cc nL) (hI : tz_MI y b maxL ret np) (hin : Cond.instanceMethod y ∈ tz_TT) (hse : Cond.selects y.cls y y ∈ tz_TT) (hl : Cond.methodLink own idx y ∈ tz_TT) {ci : Nat} {T : u_T} {N : Nat} {fs : List Value} (hf : f a = some (.inr (ci, fs))) (hc : classes[ci]? = some (y.cls, T, N)) (hM : tz_CW l y b maxL ret rm A D cs sz (.ref a :: As) f r F) (hn : As.length = np) (hst : st0 = As.reverse ++ .ref a :: rest) (hrm : tz_rmok rm R maxL cells slots 0 0) (hw : (rest.map fun v => v.category).sum ≤ 8) (hd : tz_dk cc pc (.invokevirtual idx) 3 n) (h1 : r.toList ++ rest = st1)
    (kk : ∀ f' : tz_PH, F f' → tz_V p l e R s m args below meth c Q A D nL f' sz cells slots n lv st1) : tz_V p l e R s m args below meth c Q A D nL f sz cells slots pc lv st0 :=
  tz_callVA C hI hin hse hl hf hc hM hn hst hrm hw hd ⟨rfl, rfl, rfl⟩ (fun rv f' hp => by obtain ⟨rfl, hF⟩ := hp; rw [h1]; exact kk f' hF)
theorem tz_cS (C : tz_Cx p s m args c A D cs own cc nL) (hI : tz_MI y b maxL ret np) (hin : Cond.static y ∈ tz_TT) (hl : Cond.methodLink own idx y ∈ tz_TT) (hM : tz_CW l y b maxL ret rm A D cs sz As f r F) (hn : As.length = np) (hst : st0 = As.reverse ++ rest) (hrm : tz_rmok rm R maxL cells slots 0 0) (hw : (rest.map fun v => v.category).sum ≤ 8) (hd : tz_dk cc pc (.invokestatic idx) 3 n) (h1 : r.toList ++ rest = st1)
    (kk : ∀ f' : tz_PH, F f' → tz_V p l e R s m args below meth c Q A D nL f' sz cells slots n lv st1) : tz_V p l e R s m args below meth c Q A D nL f sz cells slots pc lv st0 :=
  tz_callSA C hI hin hl hM hn hst hrm hw hd ⟨rfl, rfl, rfl⟩ (fun rv f' hp => by obtain ⟨rfl, hF⟩ := hp; rw [h1]; exact kk f' hF)
theorem tz_cSN (C : tz_Cx p s m args c A D cs own cc nL) (hI : tz_MI y b maxL ret np) (hin : Cond.static y ∈ tz_TT) {host : String} (hl : Cond.methodLinkNest own idx y host ∈ lw_tbl) (hM : tz_CW l y b maxL ret rm A D cs sz As f r F) (hn : As.length = np) (hst : st0 = As.reverse ++ rest) (hrm : tz_rmok rm R maxL cells slots 0 0) (hw : (rest.map fun v => v.category).sum ≤ 8) (hd : tz_dk cc pc (.invokestatic idx) 3 n) (h1 : r.toList ++ rest = st1)
    (kk : ∀ f' : tz_PH, F f' → tz_V p l e R s m args below meth c Q A D nL f' sz cells slots n lv st1) : tz_V p l e R s m args below meth c Q A D nL f sz cells slots pc lv st0 :=
  tz_callSNA C hI hin hl hM hn hst hrm hw hd ⟨rfl, rfl, rfl⟩ (fun rv f' hp => by obtain ⟨rfl, hF⟩ := hp; rw [h1]; exact kk f' hF)
theorem tz_cI (C : tz_Cx p s m args c A D cs own cc nL) (hI : tz_MI y b maxL none np) (hy1 : y.name = "<init>") (hin : Cond.instanceMethod y ∈ tz_TT) (hl : Cond.methodLink own idx y ∈ tz_TT) (hM : tz_CN l y b maxL none rm mc ms A D cs sz (.ref a :: As) f none F) (hn : As.length = np) (hst : st0 = As.reverse ++ .ref a :: rest) (hrm : tz_rmok rm R maxL cells slots mc ms) (hw : (rest.map fun v => v.category).sum ≤ 8) (hd : tz_dk cc pc (.invokespecial idx) 3 n) {sz' cells' slots' : Nat} (he : sz + mc = sz' ∧ cells + mc = cells' ∧ slots + ms = slots')
    (kk : ∀ f' : tz_PH, F f' → tz_V p l e R s m args below meth c Q A D nL f' sz' cells' slots' n lv rest) : tz_V p l e R s m args below meth c Q A D nL f sz cells slots pc lv st0 :=
  tz_callIA C hI hy1 hin hl hM hn hst hrm hw hd he (fun rv f' hp => by obtain ⟨rfl, hF⟩ := hp; exact kk f' hF)
theorem tz_cIN (C : tz_Cx p s m args c A D cs own cc nL) (hI : tz_MI y b maxL none np) (hy1 : y.name = "<init>") (hin : Cond.instanceMethod y ∈ tz_TT) {host : String} (hl : Cond.methodLinkNest own idx y host ∈ lw_tbl) (hM : tz_CN l y b maxL none rm mc ms A D cs sz (.ref a :: As) f none F) (hn : As.length = np) (hst : st0 = As.reverse ++ .ref a :: rest) (hrm : tz_rmok rm R maxL cells slots mc ms) (hw : (rest.map fun v => v.category).sum ≤ 8) (hd : tz_dk cc pc (.invokespecial idx) 3 n) {sz' cells' slots' : Nat} (he : sz + mc = sz' ∧ cells + mc = cells' ∧ slots + ms = slots')
    (kk : ∀ f' : tz_PH, F f' → tz_V p l e R s m args below meth c Q A D nL f' sz' cells' slots' n lv rest) : tz_V p l e R s m args below meth c Q A D nL f sz cells slots pc lv st0 :=
  tz_callINA C hI hy1 hin hl hM hn hst hrm hw hd he (fun rv f' hp => by obtain ⟨rfl, hF⟩ := hp; exact kk f' hF)
theorem tz_rV (C : tz_Cx p s m args c A D cs own cc nL) (hI : tz_MI y b maxL ret np) (hin : Cond.instanceMethod y ∈ tz_TT) (hse : Cond.selects y.cls y y ∈ tz_TT) (hl : Cond.methodLink own idx y ∈ tz_TT) {ci : Nat} {T : u_T} {N : Nat} {fs : List Value} (hf : f a = some (.inr (ci, fs))) (hc : classes[ci]? = some (y.cls, T, N)) (hM : tz_CW l y b maxL ret rm A D cs sz (.ref a :: As) f r (fun f' => f' = f)) (hn : As.length = np) (hst : st0 = As.reverse ++ .ref a :: rest) (hrm : tz_rmok rm R maxL cells slots 0 0) (hw : (rest.map fun v => v.category).sum ≤ 8) (hd : tz_dk cc pc (.invokevirtual idx) 3 n) (h1 : r.toList ++ rest = st1)
    (kk : tz_V p l e R s m args below meth c Q A D nL f sz cells slots n lv st1) : tz_V p l e R s m args below meth c Q A D nL f sz cells slots pc lv st0 :=
  tz_cV C hI hin hse hl hf hc hM hn hst hrm hw hd h1 (fun _ hF => hF ▸ kk)
theorem tz_rS (C : tz_Cx p s m args c A D cs own cc nL) (hI : tz_MI y b maxL ret np) (hin : Cond.static y ∈ tz_TT) (hl : Cond.methodLink own idx y ∈ tz_TT) (hM : tz_CW l y b maxL ret rm A D cs sz As f r (fun f' => f' = f)) (hn : As.length = np) (hst : st0 = As.reverse ++ rest) (hrm : tz_rmok rm R maxL cells slots 0 0) (hw : (rest.map fun v => v.category).sum ≤ 8) (hd : tz_dk cc pc (.invokestatic idx) 3 n) (h1 : r.toList ++ rest = st1)
    (kk : tz_V p l e R s m args below meth c Q A D nL f sz cells slots n lv st1) : tz_V p l e R s m args below meth c Q A D nL f sz cells slots pc lv st0 :=
  tz_cS C hI hin hl hM hn hst hrm hw hd h1 (fun _ hF => hF ▸ kk)
theorem tz_rSN (C : tz_Cx p s m args c A D cs own cc nL) (hI : tz_MI y b maxL ret np) (hin : Cond.static y ∈ tz_TT) {host : String} (hl : Cond.methodLinkNest own idx y host ∈ lw_tbl) (hM : tz_CW l y b maxL ret rm A D cs sz As f r (fun f' => f' = f)) (hn : As.length = np) (hst : st0 = As.reverse ++ rest) (hrm : tz_rmok rm R maxL cells slots 0 0) (hw : (rest.map fun v => v.category).sum ≤ 8) (hd : tz_dk cc pc (.invokestatic idx) 3 n) (h1 : r.toList ++ rest = st1)
    (kk : tz_V p l e R s m args below meth c Q A D nL f sz cells slots n lv st1) : tz_V p l e R s m args below meth c Q A D nL f sz cells slots pc lv st0 :=
  tz_cSN C hI hin hl hM hn hst hrm hw hd h1 (fun _ hF => hF ▸ kk)
/-! writes: the new heap by what it holds -/
variable {Cn : String} {T : u_T} {N ci : Nat} {ty : Nat → FieldType} {fs : List Value} {v : Value} {nA : Nat} {g : Nat → Int32} {o : Nat → Option Nat} {i x : Int32}
theorem tz_wput (C : tz_Cx p s m args c A D cs own cc nL) (hI : tz_CI ci Cn T N ty) (k : Nat) (hk : k < N) (hl : Cond.fieldLink own idx (T k).1 (T k).2.1 (T k).2.2.1 ∈ tz_TT) (hfin : (T k).2.2.2 = false) (hf : f a = some (.inr (ci, fs))) (hlen : k < fs.length) (hnf : narrow (ty k) v = v ∧ fits (ty k) v = true) {fs' : List Value} (hfs : fs.set k v = fs') (hd : tz_dk cc pc (.putfield idx) 3 n) (kk : ∀ f' : tz_PH, f' a = some (.inr (ci, fs')) → (∀ q, q ≠ a → f' q = f q) → tz_V p l e R s m args below meth c Q A D nL f' sz cells slots n lv rest) : tz_V p l e R s m args below meth c Q A D nL f sz cells slots pc lv (v :: .ref a :: rest) :=
  tz_put C hI k hk hl hfin hf hlen hnf hfs hd (kk _ (tz_set_s _ _ _) (fun q hq => tz_set_n hq))
theorem tz_wputF (C : tz_Cx p s m args c A D cs own cc nL) (hin2 : meth.name = "<init>") (hI : tz_CI ci Cn T N ty) (k : Nat) (hk : k < N) (hl : Cond.fieldLink own idx (T k).1 (T k).2.1 (T k).2.2.1 ∈ tz_TT) (hfin : (T k).2.2.2 = true ∧ (T k).1 = own) (hf : f a = some (.inr (ci, fs))) (hlen : k < fs.length) (hnf : narrow (ty k) v = v ∧ fits (ty k) v = true) {fs' : List Value} (hfs : fs.set k v = fs') (hd : tz_dk cc pc (.putfield idx) 3 n) (kk : ∀ f' : tz_PH, f' a = some (.inr (ci, fs')) → (∀ q, q ≠ a → f' q = f q) → tz_V p l e R s m args below meth c Q A D nL f' sz cells slots n lv rest) : tz_V p l e R s m args below meth c Q A D nL f sz cells slots pc lv (v :: .ref a :: rest) :=
  tz_putF C hin2 hI k hk hl hfin hf hlen hnf hfs hd (kk _ (tz_set_s _ _ _) (fun q hq => tz_set_n hq))
theorem tz_wiast (C : tz_Cx p s m args c A D cs own cc nL) (hf : f a = some (tz_ints cs nA g)) (hin : vp_in i nA) {g' : Nat → Int32} (hg : upd g i.toNatClampNeg x = g') (hd : tz_dk cc pc .iastore 1 n) (kk : ∀ f' : tz_PH, f' a = some (tz_ints cs nA g') → (∀ q, q ≠ a → f' q = f q) → tz_V p l e R s m args below meth c Q A D nL f' sz cells slots n lv rest) : tz_V p l e R s m args below meth c Q A D nL f sz cells slots pc lv (.int x :: .int i :: .ref a :: rest) := by
  subst hg
  exact tz_iast C hf hin hd (kk _ (tz_set_s _ _ _) (fun q hq => tz_set_n hq))
theorem tz_waast (C : tz_Cx p s m args c A D cs own cc nL) {t : Nat} {cn : String} (ht : (tz_tys cs)[t]? = some (cs t, .object cn)) (hf : f a = some (tz_refs cs t nA o)) {b : Nat} (hfb : f b = some (.inr (ci, fs))) (hc : classes[ci]? = some (cn, T, N)) (hin : vp_in i nA) (hd : tz_dk cc pc .aastore 1 n) (kk : ∀ f' : tz_PH, f' a = some (tz_refs cs t nA (va_up o i.toNatClampNeg (some b))) → (∀ q, q ≠ a → f' q = f q) → tz_V p l e R s m args below meth c Q A D nL f' sz cells slots n lv rest) : tz_V p l e R s m args below meth c Q A D nL f sz cells slots pc lv (.ref b :: .int i :: .ref a :: rest) :=
  tz_aast C ht hf hfb hc hin hd (kk _ (tz_set_s _ _ _) (fun q hq => tz_set_n hq))
theorem tz_waastQ (C : tz_Cx p s m args c A D cs own cc nL) {t : Nat} {cn : String} (ht : (tz_tys cs)[t]? = some (cs t, .object cn)) (hf : f a = some (tz_refs cs t nA o)) {rb : Option Nat} (hfb : ∀ b, rb = some b → ∃ fs, f b = some (.inr (ci, fs))) (hc : classes[ci]? = some (cn, T, N)) (hin : vp_in i nA) (hd : tz_dk cc pc .aastore 1 n) (kk : ∀ f' : tz_PH, f' a = some (tz_refs cs t nA (va_up o i.toNatClampNeg rb)) → (∀ q, q ≠ a → f' q = f q) → tz_V p l e R s m args below meth c Q A D nL f' sz cells slots n lv rest) : tz_V p l e R s m args below meth c Q A D nL f sz cells slots pc lv (va_rf rb :: .int i :: .ref a :: rest) := by
  cases rb with
  | none => exact tz_aastN C ht hf hin hd (kk _ (tz_set_s _ _ _) (fun q hq => tz_set_n hq))
  | some b0 =>
    obtain ⟨fs0, h0⟩ := hfb b0 rfl
    exact tz_aast C ht hf h0 hc hin hd (kk _ (tz_set_s _ _ _) (fun q hq => tz_set_n hq))
theorem tz_wacopy (C : tz_Cx p s m args c A D cs own cc nL) (hl : Cond.methodLink own idx arraycopyName ∈ tz_TT) (hnat : Cond.native arraycopyName ∈ tz_TT) (hstat : Cond.static arraycopyName ∈ tz_TT) (hini : Cond.initialized "java/lang/System" ∈ tz_TT) {a0 n0 n1 : Nat} {g0 g1 : Nat → Int32} (hf0 : f a0 = some (tz_ints cs n0 g0)) (hf1 : f a = some (tz_ints cs n1 g1)) {sp dp k : Int32} (h1 : ¬ sp < 0) (h2 : ¬ dp < 0) (h3 : ¬ k < 0) (h4 : sp.toNatClampNeg + k.toNatClampNeg ≤ n0) (h5 : dp.toNatClampNeg + k.toNatClampNeg ≤ n1) (hR : 1 ≤ R.frames ∧ (rest.map fun v => v.category).sum + (nativeFrameWords "java/lang/System" "arraycopy" 5 + 11) ≤ R.locals) (hd : tz_dk cc pc (.invokestatic idx) 3 n)
    (kk : ∀ f' : tz_PH, f' a = some (tz_ints cs n1 (va_cpy g0 g1 sp.toNatClampNeg dp.toNatClampNeg k.toNatClampNeg)) → (∀ q, q ≠ a → f' q = f q) → tz_V p l e R s m args below meth c Q A D nL f' sz cells slots n lv rest) : tz_V p l e R s m args below meth c Q A D nL f sz cells slots pc lv (.int k :: .int dp :: .ref a :: .int sp :: .ref a0 :: rest) :=
  tz_acopy C hl hnat hstat hini hf0 hf1 h1 h2 h3 h4 h5 hR hd (kk _ (tz_set_s _ _ _) (fun q hq => tz_set_n hq))
theorem tz_wnew (C : tz_Cx p s m args c A D cs own cc nL) (hI : tz_CI ci Cn T N ty) (hcl : Cond.classLink own idx Cn ∈ tz_TT) (hins : Cond.instantiable Cn N ∈ tz_TT) (hini : Cond.initialized Cn ∈ tz_TT) (hA : A sz) (hfs : ∀ j, j < N → defaultValue (ty j) = vp_V fs j) (hR : cells + 1 ≤ R.cells ∧ slots + N ≤ R.slots) (hd : tz_dk cc pc (.new idx) 3 n) {sz' cells' slots' : Nat} (he : sz + 1 = sz' ∧ cells + 1 = cells' ∧ slots + N = slots') (kk : ∀ f' : tz_PH, f' sz = some (.inr (ci, fs)) → (∀ q, q ≠ sz → f' q = f q) → tz_V p l e R s m args below meth c Q A D nL f' sz' cells' slots' n lv (.ref sz :: rest)) : tz_V p l e R s m args below meth c Q A D nL f sz cells slots pc lv rest :=
  tz_new C hI hcl hins hini hA hfs hR hd he (kk _ (tz_set_s _ _ _) (fun q hq => tz_set_n hq))
theorem tz_wnewI (C : tz_Cx p s m args c A D cs own cc nL) (harr : Cond.arrayClass .int ∈ tz_TT) (hA : A sz) {k : Int32} (hk : ¬ k < 0 ∧ k.toNatClampNeg = nA ∧ nA * 4 ≤ 536870912) (hR : cells + 1 ≤ R.cells ∧ slots + nA ≤ R.slots) (hd : tz_dk cc pc (.newarray .int) 2 n) {sz' cells' slots' : Nat} (he : sz + 1 = sz' ∧ cells + 1 = cells' ∧ slots + nA = slots') (kk : ∀ f' : tz_PH, f' sz = some (tz_ints cs nA (fun _ => 0)) → (∀ q, q ≠ sz → f' q = f q) → tz_V p l e R s m args below meth c Q A D nL f' sz' cells' slots' n lv (.ref sz :: rest)) : tz_V p l e R s m args below meth c Q A D nL f sz cells slots pc lv (.int k :: rest) :=
  tz_newI C harr hA hk hR hd he (kk _ (tz_set_s _ _ _) (fun q hq => tz_set_n hq))
theorem tz_wnewR (C : tz_Cx p s m args c A D cs own cc nL) {t : Nat} {cn : String} (ht : (tz_tys cs)[t]? = some (cs t, .object cn)) (hcl : Cond.classLink own idx cn ∈ tz_TT) (hov : Cond.arrayOver (.object cn) ∈ lw_tbl) (hA : A sz) {k : Int32} (hk : ¬ k < 0 ∧ k.toNatClampNeg = nA ∧ nA * 4 ≤ 536870912) (hR : cells + 1 ≤ R.cells ∧ slots + nA ≤ R.slots) (hd : tz_dk cc pc (.anewarray idx) 3 n) {sz' cells' slots' : Nat} (he : sz + 1 = sz' ∧ cells + 1 = cells' ∧ slots + nA = slots') (kk : ∀ f' : tz_PH, f' sz = some (tz_refs cs t nA (fun _ => none)) → (∀ q, q ≠ sz → f' q = f q) → tz_V p l e R s m args below meth c Q A D nL f' sz' cells' slots' n lv (.ref sz :: rest)) : tz_V p l e R s m args below meth c Q A D nL f sz cells slots pc lv (.int k :: rest) :=
  tz_newR C ht hcl hov hA hk hR hd he (kk _ (tz_set_s _ _ _) (fun q hq => tz_set_n hq))
/-! returns, with the end named -/
variable {P : Option Value → tz_PH → Prop} {sz0 : Nat}
theorem tz_riret (C : tz_Cx p s m args c A D cs own cc nL) (hr : meth.sig.returnType = some .int) (hk : meth.locks = false) (hQ : Q = MQ below (tz_Q D A sz0 mc P) args s mc ms A) (hz : sz = sz0 + mc) (hd : tz_dk cc pc .ireturn 1 n) (hp : P (some (.int x)) f) : tz_V p l e R s m args below meth c Q A D nL f sz mc ms pc lv [.int x] := by subst hQ; exact tz_iret C hr hk hz hd hp
theorem tz_rzret (C : tz_Cx p s m args c A D cs own cc nL) (hr : meth.sig.returnType = some .boolean) (hk : meth.locks = false) (hQ : Q = MQ below (tz_Q D A sz0 mc P) args s mc ms A) (hx : x = 0 ∨ x = 1) (hz : sz = sz0 + mc) (hd : tz_dk cc pc .ireturn 1 n) (hp : P (some (.int x)) f) : tz_V p l e R s m args below meth c Q A D nL f sz mc ms pc lv [.int x] := by subst hQ; exact tz_zret C hr hk hx hz hd hp
theorem tz_rlret {x : Int64} (C : tz_Cx p s m args c A D cs own cc nL) (hr : meth.sig.returnType = some .long) (hk : meth.locks = false) (hQ : Q = MQ below (tz_Q D A sz0 mc P) args s mc ms A) (hz : sz = sz0 + mc) (hd : tz_dk cc pc .lreturn 1 n) (hp : P (some (.long x)) f) : tz_V p l e R s m args below meth c Q A D nL f sz mc ms pc lv [.long x] := by subst hQ; exact tz_lret C hr hk hz hd hp
theorem tz_rvret (C : tz_Cx p s m args c A D cs own cc nL) (hr : meth.sig.returnType = none) (hk : meth.locks = false) (hQ : Q = MQ below (tz_Q D A sz0 mc P) args s mc ms A) (hz : sz = sz0 + mc) (hd : tz_dk cc pc .return_ 1 n) (hp : P none f) : tz_V p l e R s m args below meth c Q A D nL f sz mc ms pc lv [] := by subst hQ; exact tz_vret C hr hk hz hd hp
theorem tz_raret {r : Option Nat} {cn : String} (C : tz_Cx p s m args c A D cs own cc nL) (hr : meth.sig.returnType = some (.object cn)) (hk : meth.locks = false) (hQ : Q = MQ below (tz_Q D A sz0 mc P) args s mc ms A) (hz : sz = sz0 + mc) (hd : tz_dk cc pc .areturn 1 n) (hp : P (some (va_rf r)) f) : tz_V p l e R s m args below meth c Q A D nL f sz mc ms pc lv [va_rf r] := by subst hQ; exact tz_aret C hr hk hz hd hp
end TZC
theorem tz_ri {x y : Int32} (h : x = y) : some (Value.int x) = some (Value.int y) := by rw [h]
theorem tz_rl {x y : Int64} (h : x = y) : some (Value.long x) = some (Value.long y) := by rw [h]
theorem tz_rq {x y : Option Nat} (h : x = y) : some (va_rf x) = some (va_rf y) := by rw [h]
section TZN
variable {p : Program} {l : Launch} {e : Env} {R : Room} {s : State} {m : MethodId} {args : Array Value} {below : List Frame} {meth : Method} {c : Code} {Q : State → Prop} {A : Nat → Prop} {D : va_G} {cs : Nat → ClassId} {own : String} {cc : ByteArray} {nL : Nat} {f : tz_PH} {sz cells slots pc n : Nat} {lv : List (Nat × Value)} {rest : List Value} {a k : Nat} {nA : Nat} {g : Nat → Int32} {o : Nat → Option Nat} {i x : Int32}
theorem tz_ialdN (C : tz_Cx p s m args c A D cs own cc nL) (hf : f a = some (tz_ints cs nA g)) (hk : k < nA) (hn : nA < 2 ^ 31) (hd : tz_dk cc pc .iaload 1 n) (kk : tz_V p l e R s m args below meth c Q A D nL f sz cells slots n lv (.int (g k) :: rest)) : tz_V p l e R s m args below meth c Q A D nL f sz cells slots pc lv (.int (nI k) :: .ref a :: rest) :=
  tz_iald C hf (vp_in_nI hk hn) hd (by rw [nI_clamp (by omega)]; exact kk)
theorem tz_wiastN (C : tz_Cx p s m args c A D cs own cc nL) (hf : f a = some (tz_ints cs nA g)) (hk : k < nA) (hn : nA < 2 ^ 31) {g' : Nat → Int32} (hg : upd g k x = g') (hd : tz_dk cc pc .iastore 1 n) (kk : ∀ f' : tz_PH, f' a = some (tz_ints cs nA g') → (∀ q, q ≠ a → f' q = f q) → tz_V p l e R s m args below meth c Q A D nL f' sz cells slots n lv rest) : tz_V p l e R s m args below meth c Q A D nL f sz cells slots pc lv (.int x :: .int (nI k) :: .ref a :: rest) :=
  tz_wiast C hf (vp_in_nI hk hn) (by rw [nI_clamp (by omega)]; exact hg) hd kk
theorem tz_aaldN (C : tz_Cx p s m args c A D cs own cc nL) {t : Nat} {cn : String} (ht : (tz_tys cs)[t]? = some (cs t, .object cn)) (hf : f a = some (tz_refs cs t nA o)) (hk : k < nA) (hn : nA < 2 ^ 31) (hd : tz_dk cc pc .aaload 1 n) (kk : tz_V p l e R s m args below meth c Q A D nL f sz cells slots n lv (va_rf (o k) :: rest)) : tz_V p l e R s m args below meth c Q A D nL f sz cells slots pc lv (.int (nI k) :: .ref a :: rest) :=
  tz_aald C ht hf (vp_in_nI hk hn) hd (by rw [nI_clamp (by omega)]; exact kk)
end TZN
theorem tz_inI {i : Int32} {n : Nat} (h0 : ¬ i < 0) (h1 : i < nI n) (hn : n < 2 ^ 31) : vp_in i n := by
  rw [vp_in_iff]
  have a1 := Int32.lt_iff_toInt_lt.mp h1
  rw [nI_toInt hn] at a1
  have a0 := Int32.le_iff_toInt_le.mp (Int32.not_lt.mp h0)
  have z : (0 : Int32).toInt = 0 := rfl
  rw [z] at a0
  exact ⟨a0, a1⟩
end
section

abbrev tz_LO : Int32 := -100007
def tz_Row (cs : Nat → ClassId) (f : tz_PH) (a n : Nat) (g : Nat → Int32) : Prop := f a = some (tz_obj 5 [.ref (a + 1), .int (nI n)]) ∧ f (a + 1) = some (tz_ints cs 120 g)
theorem tz_Row.fr {cs : Nat → ClassId} {f f' : tz_PH} {a n : Nat} {g : Nat → Int32} (h : tz_Row cs f a n g) (hq : ∀ q, a ≤ q → q < a + 2 → f' q = f q) : tz_Row cs f' a n g := ⟨(hq _ (by omega) (by omega)).trans h.1, (hq _ (by omega) (by omega)).trans h.2⟩
def tz_in (n : Nat) (i : Int32) : Prop := 0 ≤ i ∧ i < nI n
theorem tz_in_dec (n : Nat) (i : Int32) : tz_in n i ↔ 0 ≤ i ∧ i < nI n := Iff.rfl
def tz_at (n : Nat) (g : Nat → Int32) (i : Int32) : Int32 := if 0 ≤ i ∧ i < nI n then g i.toNatClampNeg else tz_LO
def tz_rset (n : Nat) (g : Nat → Int32) (i v : Int32) : Nat → Int32 := if 0 ≤ i ∧ i < nI n then upd g i.toNatClampNeg v else g
def tz_mx (x y : Int32) : Int32 := if x < y then y else x
def tz_mn (x y : Int32) : Int32 := if y < x then y else x
def tz_ab (x : Int32) : Int32 := if 0 ≤ x then x else -x
def tz_fd (x y : Int32) : Int32 := if 0 ≤ x ^^^ y then x / y else if x / y * y = x then x / y else x / y - 1
theorem tz_clip {k : Nat} (hk : k ≤ 120) : tz_mx 0 (tz_mn (nI k) 120) = nI k := by
  have h1 : ¬ (120 : Int32) < nI k := fun z => nI_nlt (a := 120) (b := k) hk (by omega) z
  unfold tz_mn
  rw [if_neg h1]
  unfold tz_mx
  split
  · rfl
  · rename_i h2
    have h3 : (0 : Int32) ≤ nI k := nI_pos' (by omega)
    have h4 := Int32.not_lt.mp h2
    exact Int32.le_antisymm h3 h4
theorem tz_le_nlt {x y : Int32} (h : y ≤ x) : ¬ x < y := Int32.not_lt.mpr h
theorem tz_nle_lt {x y : Int32} (h : ¬ y ≤ x) : x < y := Int32.not_le.mp h
theorem tz_lt_nI120 {i : Int32} (h : i < 120) : i < nI 120 := h
theorem tz_lt120 {n : Nat} {i : Int32} (hn : n ≤ 120) (h : i < nI n) : i < 120 := by
  have h1 := Int32.lt_iff_toInt_lt.mp h
  rw [nI_toInt (by omega)] at h1
  apply Int32.lt_iff_toInt_lt.mpr
  have z : (120 : Int32).toInt = 120 := rfl
  rw [z]; omega
def tz_fl (h g : Nat → Int32) (i : Nat) : Nat → Int32 := fun k => if k < i then h k else g k
theorem tz_fl_0 (h g : Nat → Int32) : tz_fl h g 0 = g := by funext k; simp [tz_fl]
theorem tz_fl_s (h g : Nat → Int32) (i : Nat) {x : Int32} (hx : x = h i) : upd (tz_fl h g i) i x = tz_fl h g (i + 1) := by
  funext k
  simp only [upd, tz_fl]
  by_cases e : k = i
  · subst e; simp [hx]
  · rw [if_neg e]
    by_cases h1 : k < i
    · rw [if_pos h1, if_pos (by omega)]
    · rw [if_neg h1, if_neg (by omega)]
theorem tz_fl_in {h g : Nat → Int32} {i k : Nat} (hk : k < i) : tz_fl h g i k = h k := by simp [tz_fl, hk]
def tz_ct (p : Nat → Bool) : Nat → Nat
  | 0 => 0
  | n + 1 => tz_ct p n + (if p n then 1 else 0)
theorem tz_ct_s (p : Nat → Bool) (n : Nat) : tz_ct p (n + 1) = tz_ct p n + (if p n then 1 else 0) := rfl
theorem tz_ct_le (p : Nat → Bool) : ∀ n, tz_ct p n ≤ n
  | 0 => Nat.le_refl _
  | n + 1 => by
    have := tz_ct_le p n
    rw [tz_ct_s]
    split <;> omega
theorem tz_ct_y {p : Nat → Bool} {n : Nat} (h : p n = true) : tz_ct p (n + 1) = tz_ct p n + 1 := by rw [tz_ct_s, h]; rfl
theorem tz_ct_n {p : Nat → Bool} {n : Nat} (h : p n = false) : tz_ct p (n + 1) = tz_ct p n := by rw [tz_ct_s, h]; rfl

abbrev rm_J_max : Room := { frames := 0, cells := 0, slots := 0, locals := 0 }
set_option maxHeartbeats 4000000 in
set_option maxRecDepth 100000 in
theorem ct_J_max {l : Launch} {A : Nat → Prop} {D : va_G} {cs : Nat → ClassId} {sz : Nat} {f : tz_PH} {x y : Int32} : tz_CN l tyJ_max prog_14_method_65_code 2 (some (.int)) rm_J_max 0 0 A D cs sz [.int x, .int y] f (some (.int (tz_mx x y))) (fun f' => f' = f) := by
  refine tz_C.ofB (lv0 := [(0, .int x), (1, .int y)]) (by decide +kernel) (Nat.le_of_ble_eq_true rfl) rfl ?_
  intro p_ e_ s_ m_ ar_ be_ me_ c_ Q_ C_ hr_ hk_ hnm_ hz_ hQ_
  refine tz_iload_n C_ 0 rfl rfl td_J_max_0 ?_
  refine tz_iload_n C_ 1 rfl rfl td_J_max_1 ?_
  refine tz_icmp_lt C_ td_J_max_2 (fun h2 => ?_) (fun h2 => ?_)
  · skip
    refine tz_iload_n C_ 1 rfl rfl td_J_max_9 ?_
    refine tz_riret C_ hr_ hk_ hQ_ rfl td_J_max_10 ?_
    exact ⟨tz_ri (by simp [tz_mx, h2]), rfl⟩
  · skip
    refine tz_iload_n C_ 0 rfl rfl td_J_max_5 ?_
    refine tz_goto C_ td_J_max_6 ?_
    refine tz_riret C_ hr_ hk_ hQ_ rfl td_J_max_10 ?_
    exact ⟨tz_ri (by simp [tz_mx, h2]), rfl⟩

abbrev rm_J_min : Room := { frames := 0, cells := 0, slots := 0, locals := 0 }
set_option maxHeartbeats 4000000 in
set_option maxRecDepth 100000 in
theorem ct_J_min {l : Launch} {A : Nat → Prop} {D : va_G} {cs : Nat → ClassId} {sz : Nat} {f : tz_PH} {x y : Int32} : tz_CN l tyJ_min prog_14_method_69_code 2 (some (.int)) rm_J_min 0 0 A D cs sz [.int x, .int y] f (some (.int (tz_mn x y))) (fun f' => f' = f) := by
  refine tz_C.ofB (lv0 := [(0, .int x), (1, .int y)]) (by decide +kernel) (Nat.le_of_ble_eq_true rfl) rfl ?_
  intro p_ e_ s_ m_ ar_ be_ me_ c_ Q_ C_ hr_ hk_ hnm_ hz_ hQ_
  refine tz_iload_n C_ 0 rfl rfl td_J_min_0 ?_
  refine tz_iload_n C_ 1 rfl rfl td_J_min_1 ?_
  refine tz_icmp_gt C_ td_J_min_2 (fun h2 => ?_) (fun h2 => ?_)
  · skip
    refine tz_iload_n C_ 1 rfl rfl td_J_min_9 ?_
    refine tz_riret C_ hr_ hk_ hQ_ rfl td_J_min_10 ?_
    exact ⟨tz_ri (by simp [tz_mn, h2]), rfl⟩
  · skip
    refine tz_iload_n C_ 0 rfl rfl td_J_min_5 ?_
    refine tz_goto C_ td_J_min_6 ?_
    refine tz_riret C_ hr_ hk_ hQ_ rfl td_J_min_10 ?_
    exact ⟨tz_ri (by simp [tz_mn, h2]), rfl⟩

abbrev rm_J_abs : Room := { frames := 0, cells := 0, slots := 0, locals := 0 }
set_option maxHeartbeats 4000000 in
set_option maxRecDepth 100000 in
theorem ct_J_abs {l : Launch} {A : Nat → Prop} {D : va_G} {cs : Nat → ClassId} {sz : Nat} {f : tz_PH} {x : Int32} : tz_CN l tyJ_abs prog_14_method_59_code 1 (some (.int)) rm_J_abs 0 0 A D cs sz [.int x] f (some (.int (tz_ab x))) (fun f' => f' = f) := by
  refine tz_C.ofB (lv0 := [(0, .int x)]) (by decide +kernel) (Nat.le_of_ble_eq_true rfl) rfl ?_
  intro p_ e_ s_ m_ ar_ be_ me_ c_ Q_ C_ hr_ hk_ hnm_ hz_ hQ_
  refine tz_iload_n C_ 0 rfl rfl td_J_abs_0 ?_
  refine tz_if_ge C_ td_J_abs_1 (fun h1 => ?_) (fun h1 => ?_)
  · skip
    refine tz_iload_n C_ 0 rfl rfl td_J_abs_9 ?_
    refine tz_riret C_ hr_ hk_ hQ_ rfl td_J_abs_10 ?_
    exact ⟨tz_ri (by simp [tz_ab, h1]), rfl⟩
  · skip
    refine tz_iload_n C_ 0 rfl rfl td_J_abs_4 ?_
    refine tz_ineg C_ td_J_abs_5 ?_
    refine tz_goto C_ td_J_abs_6 ?_
    refine tz_riret C_ hr_ hk_ hQ_ rfl td_J_abs_10 ?_
    exact ⟨tz_ri (by simp [tz_ab, h1]), rfl⟩

abbrev rm_J_floorDiv : Room := { frames := 0, cells := 0, slots := 0, locals := 0 }
set_option maxHeartbeats 4000000 in
set_option maxRecDepth 100000 in
theorem ct_J_floorDiv {l : Launch} {A : Nat → Prop} {D : va_G} {cs : Nat → ClassId} {sz : Nat} {f : tz_PH} {x y : Int32} (h0 : ¬ y = 0) : tz_CN l tyJ_floorDiv prog_14_method_47_code 3 (some (.int)) rm_J_floorDiv 0 0 A D cs sz [.int x, .int y] f (some (.int (tz_fd x y))) (fun f' => f' = f) := by
  refine tz_C.ofB (lv0 := [(0, .int x), (1, .int y)]) (by decide +kernel) (Nat.le_of_ble_eq_true rfl) rfl ?_
  intro p_ e_ s_ m_ ar_ be_ me_ c_ Q_ C_ hr_ hk_ hnm_ hz_ hQ_
  refine tz_iload_n C_ 0 rfl rfl td_J_floorDiv_0 ?_
  refine tz_iload_n C_ 1 rfl rfl td_J_floorDiv_1 ?_
  refine tz_idiv C_ h0 td_J_floorDiv_2 ?_
  refine tz_istore_n C_ (lv' := [(0, .int x), (1, .int y), (2, .int (x / y))]) [1, 2, 0] rfl (by decide) rfl td_J_floorDiv_3 ?_
  refine tz_iload_n C_ 0 rfl rfl td_J_floorDiv_4 ?_
  refine tz_iload_n C_ 1 rfl rfl td_J_floorDiv_5 ?_
  refine tz_ixor C_ td_J_floorDiv_6 ?_
  refine tz_if_ge C_ td_J_floorDiv_7 (fun h7 => ?_) (fun h7 => ?_)
  · skip
    refine tz_iload_n C_ 2 rfl rfl td_J_floorDiv_21 ?_
    refine tz_riret C_ hr_ hk_ hQ_ rfl td_J_floorDiv_22 ?_
    exact ⟨tz_ri (by simp [tz_fd, *] <;> rfl), rfl⟩
  · skip
    refine tz_iload_n C_ 2 rfl rfl td_J_floorDiv_10 ?_
    refine tz_iload_n C_ 1 rfl rfl td_J_floorDiv_11 ?_
    refine tz_imul C_ td_J_floorDiv_12 ?_
    refine tz_iload_n C_ 0 rfl rfl td_J_floorDiv_13 ?_
    refine tz_icmp_eq C_ td_J_floorDiv_14 (fun h14 => ?_) (fun h14 => ?_)
    · skip
      refine tz_iload_n C_ 2 rfl rfl td_J_floorDiv_21 ?_
      refine tz_riret C_ hr_ hk_ hQ_ rfl td_J_floorDiv_22 ?_
      exact ⟨tz_ri (by simp [tz_fd, *] <;> rfl), rfl⟩
    · skip
      refine tz_iload_n C_ 2 rfl rfl td_J_floorDiv_17 ?_
      refine tz_iconst C_ (v := 1) (by decide) td_J_floorDiv_18 ?_
      refine tz_isub C_ td_J_floorDiv_19 ?_
      refine tz_riret C_ hr_ hk_ hQ_ rfl td_J_floorDiv_20 ?_
      exact ⟨tz_ri (by simp [tz_fd, *] <;> rfl), rfl⟩

abbrev rm_K_fill : Room := { frames := 0, cells := 0, slots := 0, locals := 0 }
set_option maxHeartbeats 4000000 in
set_option maxRecDepth 100000 in
theorem ct_K_fill {l : Launch} {A : Nat → Prop} {D : va_G} {cs : Nat → ClassId} {sz : Nat} {f : tz_PH} {a n : Nat} {g : Nat → Int32} {v : Int32} (hI : f a = some (tz_ints cs n g)) (hn : n ≤ 100000) : tz_CN l tyK_fill prog_16_method_103_code 4 (none) rm_K_fill 0 0 A D cs sz [.ref a, .int v] f (none) (fun f' => f' a = some (tz_ints cs n (tz_fl (fun _ => v) g n)) ∧ ∀ q, q ≠ a → f' q = f q) := by
  refine tz_C.ofB (lv0 := [(0, .ref a), (1, .int v)]) (by decide +kernel) (Nat.le_of_ble_eq_true rfl) rfl ?_
  intro p_ e_ s_ m_ ar_ be_ me_ c_ Q_ C_ hr_ hk_ hnm_ hz_ hQ_
  refine tz_iconst C_ (v := 0) (by decide) td_K_fill_0 ?_
  refine tz_istore_n C_ (lv' := [(0, .ref a), (1, .int v), (2, .int 0)]) [1, 2, 0] rfl (by decide) rfl td_K_fill_1 ?_
  refine tz_aload_n C_ 0 rfl rfl td_K_fill_2 ?_
  refine tz_alenI C_ hI (v := nI n) rfl td_K_fill_3 ?_
  refine tz_istore_n C_ (lv' := [(0, .ref a), (1, .int v), (2, .int 0), (3, .int (nI n))]) [1, 2, 3, 0] rfl (by decide) rfl td_K_fill_4 ?_
  have loop5 : ∀ (kk5 : Nat) (i : Nat) (f5 : tz_PH), (f5 a = some (tz_ints cs n (tz_fl (fun _ => v) g i))) → (∀ q, q ≠ a → f5 q = f q) → (i ≤ n) → (n - i) < kk5 → tz_V p_ l e_ rm_K_fill s_ m_ ar_ be_ me_ c_ Q_ A D 4 f5 sz 0 0 5 [(0, .ref a), (1, .int v), (2, .int (nI i)), (3, .int (nI n))] [] := by
    intro kk5
    induction kk5 with
    | zero => intro i f5 hL hfr hi hm5; omega
    | succ kk5 ih5 =>
      intro i f5 hL hfr hi hm5
      refine tz_iload_n C_ 2 rfl rfl td_K_fill_5 ?_
      refine tz_iload_n C_ 3 rfl rfl td_K_fill_6 ?_
      refine tz_icmp_ge C_ td_K_fill_7 (fun h7 => ?_) (fun h7 => ?_)
      · skip
        replace h7 := (nI_leI (a := n) (b := i) (by omega) (by omega)).mp h7
        refine tz_rvret C_ hr_ hk_ hQ_ rfl td_K_fill_20 ?_
        have e9 : i = n := by omega
        subst e9
        exact ⟨rfl, hL, hfr⟩
      · skip
        replace h7 := mt (nI_leI (a := n) (b := i) (by omega) (by omega)).mpr h7
        refine tz_aload_n C_ 0 rfl rfl td_K_fill_10 ?_
        refine tz_iload_n C_ 2 rfl rfl td_K_fill_11 ?_
        refine tz_iload_n C_ 1 rfl rfl td_K_fill_12 ?_
        refine tz_wiastN C_ hL (by omega) (by omega) (g' := upd (tz_fl (fun _ => v) g i) i v) rfl td_K_fill_13 (fun f1 hs1 hq1 => ?_)
        refine tz_iinc C_ (k := 1) (v := nI (i + 1)) (lv' := [(0, .ref a), (1, .int v), (2, .int (nI (i + 1))), (3, .int (nI n))]) 2 rfl (nI_1 i) [1, 2, 0, 3] (by decide) rfl td_K_fill_14 ?_
        refine tz_goto C_ td_K_fill_17 ?_
        exact ih5 (i + 1) f1 (by rw [← tz_fl_s (fun _ => v) g i rfl]; exact hs1) (fun q hh => by rw [hq1 q hh, hfr q hh]) (by omega) (by omega)
  exact loop5 _ 0 f (by rw [tz_fl_0]; exact hI) (fun _ _ => rfl) (Nat.zero_le _) (Nat.lt_succ_self _)
end
section
abbrev rm_R_length : Room := { frames := 0, cells := 0, slots := 0, locals := 0 }
set_option maxHeartbeats 4000000 in
set_option maxRecDepth 100000 in
theorem ct_R_length {l : Launch} {A : Nat → Prop} {D : va_G} {cs : Nat → ClassId} {sz : Nat} {f : tz_PH} {a n : Nat} {g : Nat → Int32} (hR : tz_Row cs f a n g) : tz_CN l tyR_length prog_7_method_2_code 1 (some (.int)) rm_R_length 0 0 A D cs sz [.ref a] f (some (.int (nI n))) (fun f' => f' = f) := by
  refine tz_C.ofB (lv0 := [(0, .ref a)]) (plainFor_of_name (by decide)) (Nat.le_of_ble_eq_true rfl) rfl ?_
  intro p_ e_ s_ m_ ar_ be_ me_ c_ Q_ C_ hr_ hk_ hnm_ hz_ hQ_
  refine tz_aload_n C_ 0 rfl rfl td_R_length_0 ?_
  refine tz_get C_ tci_R 1 (by decide) tw_94 hR.1 rfl td_R_length_1 ?_
  refine tz_riret C_ hr_ hk_ hQ_ rfl td_R_length_4 ?_
  exact ⟨rfl, rfl⟩

abbrev rm_R_has : Room := { frames := 0, cells := 0, slots := 0, locals := 0 }
set_option maxHeartbeats 4000000 in
set_option maxRecDepth 100000 in
theorem ct_R_has {l : Launch} {A : Nat → Prop} {D : va_G} {cs : Nat → ClassId} {sz : Nat} {f : tz_PH} {a n : Nat} {g : Nat → Int32} (hR : tz_Row cs f a n g) (hn : n ≤ 120) {i : Int32} : tz_CN l tyR_has prog_7_method_3_code 2 (some (.boolean)) rm_R_has 0 0 A D cs sz [.ref a, .int i] f (some (.int (tz_p (0 ≤ i ∧ i < nI n)))) (fun f' => f' = f) := by
  refine tz_C.ofB (lv0 := [(0, .ref a), (1, .int i)]) (plainFor_of_name (by decide)) (Nat.le_of_ble_eq_true rfl) rfl ?_
  intro p_ e_ s_ m_ ar_ be_ me_ c_ Q_ C_ hr_ hk_ hnm_ hz_ hQ_
  refine tz_iload_n C_ 1 rfl rfl td_R_has_0 ?_
  refine tz_if_lt C_ td_R_has_1 (fun h1 => ?_) (fun h1 => ?_)
  · skip
    refine tz_iconst C_ (v := 0) (by decide) td_R_has_25 ?_
    refine tz_rzret C_ hr_ hk_ hQ_ (by first | exact Or.inl rfl | exact Or.inr rfl | exact tz_p01) rfl td_R_has_26 ?_
    exact ⟨tz_ri (by grind [tz_p, tz_at, tz_lt120]), rfl⟩
  · skip
    refine tz_iload_n C_ 1 rfl rfl td_R_has_4 ?_
    refine tz_aload_n C_ 0 rfl rfl td_R_has_5 ?_
    refine tz_get C_ tci_R 1 (by decide) tw_94 hR.1 rfl td_R_has_6 ?_
    refine tz_icmp_ge C_ td_R_has_9 (fun h9 => ?_) (fun h9 => ?_)
    · skip
      refine tz_iconst C_ (v := 0) (by decide) td_R_has_25 ?_
      refine tz_rzret C_ hr_ hk_ hQ_ (by first | exact Or.inl rfl | exact Or.inr rfl | exact tz_p01) rfl td_R_has_26 ?_
      exact ⟨tz_ri (by grind [tz_p, tz_at, tz_lt120]), rfl⟩
    · skip
      refine tz_iload_n C_ 1 rfl rfl td_R_has_12 ?_
      refine tz_aload_n C_ 0 rfl rfl td_R_has_13 ?_
      refine tz_get C_ tci_R 0 (by decide) tw_93 hR.1 rfl td_R_has_14 ?_
      refine tz_alenI C_ hR.2 (v := 120) (by decide) td_R_has_17 ?_
      refine tz_icmp_ge C_ td_R_has_18 (fun h18 => ?_) (fun h18 => ?_)
      · skip
        exact absurd (tz_lt120 hn (tz_nle_lt h9)) (Int32.not_lt.mpr h18)
      · skip
        refine tz_iconst C_ (v := 1) (by decide) td_R_has_21 ?_
        refine tz_goto C_ td_R_has_22 ?_
        refine tz_rzret C_ hr_ hk_ hQ_ (by first | exact Or.inl rfl | exact Or.inr rfl | exact tz_p01) rfl td_R_has_26 ?_
        exact ⟨tz_ri (by grind [tz_p, tz_at, tz_lt120]), rfl⟩

abbrev rm_R_at : Room := { frames := 0, cells := 0, slots := 0, locals := 0 }
set_option maxHeartbeats 4000000 in
set_option maxRecDepth 100000 in
theorem ct_R_at {l : Launch} {A : Nat → Prop} {D : va_G} {cs : Nat → ClassId} {sz : Nat} {f : tz_PH} {a n : Nat} {g : Nat → Int32} (hR : tz_Row cs f a n g) (hn : n ≤ 120) {i : Int32} : tz_CN l tyR_at prog_7_method_4_code 2 (some (.int)) rm_R_at 0 0 A D cs sz [.ref a, .int i] f (some (.int (tz_at n g i))) (fun f' => f' = f) := by
  refine tz_C.ofB (lv0 := [(0, .ref a), (1, .int i)]) (plainFor_of_name (by decide)) (Nat.le_of_ble_eq_true rfl) rfl ?_
  intro p_ e_ s_ m_ ar_ be_ me_ c_ Q_ C_ hr_ hk_ hnm_ hz_ hQ_
  refine tz_iload_n C_ 1 rfl rfl td_R_at_0 ?_
  refine tz_if_lt C_ td_R_at_1 (fun h1 => ?_) (fun h1 => ?_)
  · skip
    refine tz_ldc C_ tw_335 td_R_at_30 ?_
    refine tz_riret C_ hr_ hk_ hQ_ rfl td_R_at_32 ?_
    exact ⟨tz_ri (by grind [tz_p, tz_at, tz_lt120]), rfl⟩
  · skip
    refine tz_iload_n C_ 1 rfl rfl td_R_at_4 ?_
    refine tz_aload_n C_ 0 rfl rfl td_R_at_5 ?_
    refine tz_get C_ tci_R 1 (by decide) tw_94 hR.1 rfl td_R_at_6 ?_
    refine tz_icmp_ge C_ td_R_at_9 (fun h9 => ?_) (fun h9 => ?_)
    · skip
      refine tz_ldc C_ tw_335 td_R_at_30 ?_
      refine tz_riret C_ hr_ hk_ hQ_ rfl td_R_at_32 ?_
      exact ⟨tz_ri (by grind [tz_p, tz_at, tz_lt120]), rfl⟩
    · skip
      refine tz_iload_n C_ 1 rfl rfl td_R_at_12 ?_
      refine tz_aload_n C_ 0 rfl rfl td_R_at_13 ?_
      refine tz_get C_ tci_R 0 (by decide) tw_93 hR.1 rfl td_R_at_14 ?_
      refine tz_alenI C_ hR.2 (v := 120) (by decide) td_R_at_17 ?_
      refine tz_icmp_ge C_ td_R_at_18 (fun h18 => ?_) (fun h18 => ?_)
      · skip
        exact absurd (tz_lt120 hn (tz_nle_lt h9)) (Int32.not_lt.mpr h18)
      · skip
        refine tz_aload_n C_ 0 rfl rfl td_R_at_21 ?_
        refine tz_get C_ tci_R 0 (by decide) tw_93 hR.1 rfl td_R_at_22 ?_
        refine tz_iload_n C_ 1 rfl rfl td_R_at_25 ?_
        refine tz_iald C_ hR.2 (tz_inI h1 (tz_lt_nI120 (tz_lt120 hn (tz_nle_lt h9))) (by decide)) td_R_at_26 ?_
        refine tz_goto C_ td_R_at_27 ?_
        refine tz_riret C_ hr_ hk_ hQ_ rfl td_R_at_32 ?_
        exact ⟨tz_ri (by grind [tz_p, tz_at, tz_lt120]), rfl⟩

theorem tz_at_N {n k : Nat} {g : Nat → Int32} (hn : n ≤ 120) (h : k < n) : tz_at n g (nI k) = g k := by
  unfold tz_at
  rw [if_pos ⟨nI_pos' (by omega), nI_lt h (by omega)⟩, nI_clamp (by omega)]
theorem tz_at_out {n k : Nat} {g : Nat → Int32} (h : n ≤ k) (hk : k < 2 ^ 31) : tz_at n g (nI k) = tz_LO := by
  unfold tz_at
  rw [if_neg (fun z => nI_nlt h hk z.2)]
theorem tz_at_neg {n : Nat} {g : Nat → Int32} {i : Int32} (h : i < 0) : tz_at n g i = tz_LO := by
  unfold tz_at
  rw [if_neg (fun z => Int32.not_lt.mpr z.1 h)]
theorem ct_R_atN {l : Launch} {A : Nat → Prop} {D : va_G} {cs : Nat → ClassId} {sz : Nat} {f : tz_PH} {a n k : Nat} {g : Nat → Int32} (hR : tz_Row cs f a n g) (hn : n ≤ 120) (h : k < n) : tz_CN l tyR_at prog_7_method_4_code 2 (some .int) rm_R_at 0 0 A D cs sz [.ref a, .int (nI k)] f (some (.int (g k))) (fun f' => f' = f) := by
  have h1 := ct_R_at (l := l) (A := A) (D := D) (sz := sz) (i := nI k) hR hn
  rw [tz_at_N hn h] at h1
  exact h1

abbrev rm_R_set : Room := { frames := 1, cells := 0, slots := 0, locals := 21 }
set_option maxHeartbeats 4000000 in
set_option maxRecDepth 100000 in
theorem ct_R_set {l : Launch} {A : Nat → Prop} {D : va_G} {cs : Nat → ClassId} {sz : Nat} {f : tz_PH} {a n : Nat} {g : Nat → Int32} (hR : tz_Row cs f a n g) (hn : n ≤ 120) {i v : Int32} : tz_CN l tyR_set prog_7_method_5_code 3 (none) rm_R_set 0 0 A D cs sz [.ref a, .int i, .int v] f (none) (fun f' => tz_Row cs f' a n (tz_rset n g i v) ∧ ∀ q, (q < a ∨ a + 2 ≤ q) → f' q = f q) := by
  refine tz_C.ofB (lv0 := [(0, .ref a), (1, .int i), (2, .int v)]) (plainFor_of_name (by decide)) (Nat.le_of_ble_eq_true rfl) rfl ?_
  intro p_ e_ s_ m_ ar_ be_ me_ c_ Q_ C_ hr_ hk_ hnm_ hz_ hQ_
  refine tz_aload_n C_ 0 rfl rfl td_R_set_0 ?_
  refine tz_iload_n C_ 1 rfl rfl td_R_set_1 ?_
  refine tz_rV C_ tmi_R_has tw_325 tw_326 tw_341 hR.1 rfl (As := [.int i]) (by exact (ct_R_has (n := n) (g := g) ⟨hR.1, hR.2⟩ (by omega))) rfl (rest := []) rfl (by decide) (Nat.le_of_ble_eq_true rfl) td_R_set_2 (st1 := [.int (tz_p (0 ≤ i ∧ i < nI n))]) rfl ?_
  refine tz_if_eq C_ td_R_set_5 (fun h5 => ?_) (fun h5 => ?_)
  · skip
    replace h5 := tz_p0.mp h5
    refine tz_rvret C_ hr_ hk_ hQ_ rfl td_R_set_15 ?_
    refine ⟨rfl, ⟨hR.1, ?_⟩, fun _ _ => rfl⟩
    rw [tz_rset, if_neg h5]; exact hR.2
  · skip
    replace h5 := tz_p1.mp h5
    refine tz_aload_n C_ 0 rfl rfl td_R_set_8 ?_
    refine tz_get C_ tci_R 0 (by decide) tw_93 hR.1 rfl td_R_set_9 ?_
    refine tz_iload_n C_ 1 rfl rfl td_R_set_12 ?_
    refine tz_iload_n C_ 2 rfl rfl td_R_set_13 ?_
    refine tz_wiast C_ hR.2 (tz_inI (tz_le_nlt h5.1) (tz_lt_nI120 (tz_lt120 hn h5.2)) (by decide)) (g' := upd g (Int32.toNatClampNeg i) v) rfl td_R_set_14 (fun f1 hs1 hq1 => ?_)
    refine tz_rvret C_ hr_ hk_ hQ_ rfl td_R_set_15 ?_
    have k2 : f1 a = some (tz_obj 5 [.ref (a + 1), .int (nI n)]) := ((hq1 _ (by omega)).trans hR.1)
    refine ⟨rfl, ⟨k2, ?_⟩, (fun q hh => by rw [hq1 q (by omega)])⟩
    rw [tz_rset, if_pos h5]; exact hs1

abbrev rm_R_add : Room := { frames := 0, cells := 0, slots := 0, locals := 0 }
set_option maxHeartbeats 4000000 in
set_option maxRecDepth 100000 in
theorem ct_R_add {l : Launch} {A : Nat → Prop} {D : va_G} {cs : Nat → ClassId} {sz : Nat} {f : tz_PH} {a n : Nat} {g : Nat → Int32} (hR : tz_Row cs f a n g) (hn : n < 120) {v : Int32} : tz_CN l tyR_add prog_7_method_6_code 2 (none) rm_R_add 0 0 A D cs sz [.ref a, .int v] f (none) (fun f' => tz_Row cs f' a (n + 1) (upd g n v) ∧ ∀ q, (q < a ∨ a + 2 ≤ q) → f' q = f q) := by
  refine tz_C.ofB (lv0 := [(0, .ref a), (1, .int v)]) (plainFor_of_name (by decide)) (Nat.le_of_ble_eq_true rfl) rfl ?_
  intro p_ e_ s_ m_ ar_ be_ me_ c_ Q_ C_ hr_ hk_ hnm_ hz_ hQ_
  refine tz_aload_n C_ 0 rfl rfl td_R_add_0 ?_
  refine tz_get C_ tci_R 1 (by decide) tw_94 hR.1 rfl td_R_add_1 ?_
  refine tz_if_lt C_ td_R_add_4 (fun h4 => absurd h4 (nI_pos (by omega))) (fun _ => ?_)
  refine tz_aload_n C_ 0 rfl rfl td_R_add_7 ?_
  refine tz_get C_ tci_R 1 (by decide) tw_94 hR.1 rfl td_R_add_8 ?_
  refine tz_aload_n C_ 0 rfl rfl td_R_add_11 ?_
  refine tz_get C_ tci_R 0 (by decide) tw_93 hR.1 rfl td_R_add_12 ?_
  refine tz_alenI C_ hR.2 (v := 120) (by decide) td_R_add_15 ?_
  refine tz_icmp_ge C_ td_R_add_16 (fun h16 => ?_) (fun h16 => ?_)
  · skip
    replace h16 := (nI_leI (a := 120) (b := n) (by omega) (by omega)).mp h16
    omega
  · skip
    replace h16 := mt (nI_leI (a := 120) (b := n) (by omega) (by omega)).mpr h16
    refine tz_aload_n C_ 0 rfl rfl td_R_add_19 ?_
    refine tz_get C_ tci_R 0 (by decide) tw_93 hR.1 rfl td_R_add_20 ?_
    refine tz_aload_n C_ 0 rfl rfl td_R_add_23 ?_
    refine tz_get C_ tci_R 1 (by decide) tw_94 hR.1 rfl td_R_add_24 ?_
    refine tz_iload_n C_ 1 rfl rfl td_R_add_27 ?_
    refine tz_wiastN C_ hR.2 (by omega) (by decide) (g' := upd g n v) rfl td_R_add_28 (fun f1 hs1 hq1 => ?_)
    refine tz_aload_n C_ 0 rfl rfl td_R_add_29 ?_
    refine tz_dup C_ rfl td_R_add_30 ?_
    have k2 : f1 a = some (tz_obj 5 [.ref (a + 1), .int (nI n)]) := ((hq1 _ (by omega)).trans hR.1)
    refine tz_get C_ tci_R 1 (by decide) tw_94 k2 rfl td_R_add_31 ?_
    refine tz_iconst C_ (v := 1) (by decide) td_R_add_34 ?_
    refine tz_iadd C_ td_R_add_35 ?_
    refine tz_wput C_ tci_R 1 (by decide) tw_94 rfl k2 (Nat.le_of_ble_eq_true rfl) ⟨rfl, rfl⟩ (fs' := [.ref (a + 1), .int ((nI n) + 1)]) rfl td_R_add_36 (fun f3 hs3 hq3 => ?_)
    refine tz_rvret C_ hr_ hk_ hQ_ rfl td_R_add_39 ?_
    have k4 : f3 (a + 1) = some (tz_ints cs 120 (upd g n v)) := ((hq3 _ (by omega)).trans hs1)
    refine ⟨rfl, ⟨?_, k4⟩, (fun q hh => by rw [hq3 q (by omega), hq1 q (by omega)])⟩
    rw [← nI_1]; exact hs3

abbrev rm_R_empty : Room := { frames := 0, cells := 0, slots := 0, locals := 0 }
set_option maxHeartbeats 4000000 in
set_option maxRecDepth 100000 in
theorem ct_R_empty {l : Launch} {A : Nat → Prop} {D : va_G} {cs : Nat → ClassId} {sz : Nat} {f : tz_PH} {a n : Nat} {g : Nat → Int32} (hR : tz_Row cs f a n g) : tz_CN l tyR_empty prog_7_method_7_code 1 (none) rm_R_empty 0 0 A D cs sz [.ref a] f (none) (fun f' => tz_Row cs f' a 0 g ∧ ∀ q, (q < a ∨ a + 2 ≤ q) → f' q = f q) := by
  refine tz_C.ofB (lv0 := [(0, .ref a)]) (plainFor_of_name (by decide)) (Nat.le_of_ble_eq_true rfl) rfl ?_
  intro p_ e_ s_ m_ ar_ be_ me_ c_ Q_ C_ hr_ hk_ hnm_ hz_ hQ_
  refine tz_aload_n C_ 0 rfl rfl td_R_empty_0 ?_
  refine tz_iconst C_ (v := 0) (by decide) td_R_empty_1 ?_
  refine tz_wput C_ tci_R 1 (by decide) tw_94 rfl hR.1 (Nat.le_of_ble_eq_true rfl) ⟨rfl, rfl⟩ (fs' := [.ref (a + 1), .int 0]) rfl td_R_empty_2 (fun f1 hs1 hq1 => ?_)
  refine tz_rvret C_ hr_ hk_ hQ_ rfl td_R_empty_5 ?_
  have k2 : f1 (a + 1) = some (tz_ints cs 120 g) := ((hq1 _ (by omega)).trans hR.2)
  exact ⟨rfl, ⟨hs1, k2⟩, (fun q hh => by rw [hq1 q (by omega)])⟩

abbrev rm_R_restart : Room := { frames := 1, cells := 0, slots := 0, locals := 23 }
set_option maxHeartbeats 4000000 in
set_option maxRecDepth 100000 in
theorem ct_R_restart {l : Launch} {A : Nat → Prop} {D : va_G} {cs : Nat → ClassId} {sz : Nat} {f : tz_PH} {a n : Nat} {g : Nat → Int32} (hR : tz_Row cs f a n g) {k : Nat} (hk : k ≤ 120) : tz_CN l tyR_restart prog_7_method_8_code 2 (none) rm_R_restart 0 0 A D cs sz [.ref a, .int (nI k)] f (none) (fun f' => tz_Row cs f' a k (tz_fl (fun _ => 0) g 120) ∧ ∀ q, (q < a ∨ a + 2 ≤ q) → f' q = f q) := by
  refine tz_C.ofB (lv0 := [(0, .ref a), (1, .int (nI k))]) (plainFor_of_name (by decide)) (Nat.le_of_ble_eq_true rfl) rfl ?_
  intro p_ e_ s_ m_ ar_ be_ me_ c_ Q_ C_ hr_ hk_ hnm_ hz_ hQ_
  refine tz_aload_n C_ 0 rfl rfl td_R_restart_0 ?_
  refine tz_get C_ tci_R 0 (by decide) tw_93 hR.1 rfl td_R_restart_1 ?_
  refine tz_iconst C_ (v := 0) (by decide) td_R_restart_4 ?_
  refine tz_cS C_ tmi_K_fill tw_102 tw_315 (As := [.ref (a + 1), .int 0]) (by exact (ct_K_fill hR.2 (by decide))) rfl (rest := []) rfl (by decide) (Nat.le_of_ble_eq_true rfl) td_R_restart_5 (st1 := []) rfl (fun f1 hF1 => ?_)
  obtain ⟨hP2, hq2⟩ := hF1
  refine tz_aload_n C_ 0 rfl rfl td_R_restart_8 ?_
  refine tz_iconst C_ (v := 0) (by decide) td_R_restart_9 ?_
  refine tz_iload_n C_ 1 rfl rfl td_R_restart_10 ?_
  refine tz_aload_n C_ 0 rfl rfl td_R_restart_11 ?_
  have k3 : f1 a = some (tz_obj 5 [.ref (a + 1), .int (nI n)]) := ((hq2 _ (by omega)).trans hR.1)
  refine tz_get C_ tci_R 0 (by decide) tw_93 k3 rfl td_R_restart_12 ?_
  refine tz_alenI C_ hP2 (v := 120) (by decide) td_R_restart_15 ?_
  refine tz_rS C_ tmi_J_min tw_305 tw_316 (As := [.int (nI k), .int 120]) (by exact ct_J_min) rfl (rest := [.int 0, .ref a]) rfl (by decide) (Nat.le_of_ble_eq_true rfl) td_R_restart_16 (st1 := [.int (tz_mn (nI k) 120), .int 0, .ref a]) rfl ?_
  refine tz_rS C_ tmi_J_max tw_318 tw_317 (As := [.int 0, .int (tz_mn (nI k) 120)]) (by exact ct_J_max) rfl (rest := [.ref a]) rfl (by decide) (Nat.le_of_ble_eq_true rfl) td_R_restart_19 (st1 := [.int (tz_mx 0 (tz_mn (nI k) 120)), .ref a]) rfl ?_
  refine tz_wput C_ tci_R 1 (by decide) tw_94 rfl k3 (Nat.le_of_ble_eq_true rfl) ⟨rfl, rfl⟩ (fs' := [.ref (a + 1), .int (tz_mx 0 (tz_mn (nI k) 120))]) rfl td_R_restart_22 (fun f4 hs4 hq4 => ?_)
  refine tz_rvret C_ hr_ hk_ hQ_ rfl td_R_restart_25 ?_
  have k5 : f4 (a + 1) = some (tz_ints cs 120 (tz_fl (fun _ => 0) g 120)) := ((hq4 _ (by omega)).trans hP2)
  refine ⟨rfl, ⟨?_, k5⟩, (fun q hh => by rw [hq4 q (by omega), hq2 q (by omega)])⟩
  have e9 : tz_mx 0 (tz_mn (nI k) 120) = nI k := tz_clip hk
  rw [← e9]; exact hs4

abbrev rm_R_become : Room := { frames := 1, cells := 0, slots := 0, locals := 18 }
set_option maxHeartbeats 4000000 in
set_option maxRecDepth 100000 in
theorem ct_R_become {l : Launch} {A : Nat → Prop} {D : va_G} {cs : Nat → ClassId} {sz : Nat} {f : tz_PH} {a n : Nat} {g : Nat → Int32} (hR : tz_Row cs f a n g) {b n2 : Nat} {g2 : Nat → Int32} (hR2 : tz_Row cs f b n2 g2) (hab : b + 2 ≤ a ∨ a + 2 ≤ b) : tz_CN l tyR_become prog_7_method_9_code 2 (none) rm_R_become 0 0 A D cs sz [.ref a, .ref b] f (none) (fun f' => tz_Row cs f' a n2 (va_cpy g2 g 0 0 120) ∧ ∀ q, (q < a ∨ a + 2 ≤ q) → f' q = f q) := by
  refine tz_C.ofB (lv0 := [(0, .ref a), (1, .ref b)]) (plainFor_of_name (by decide)) (Nat.le_of_ble_eq_true rfl) rfl ?_
  intro p_ e_ s_ m_ ar_ be_ me_ c_ Q_ C_ hr_ hk_ hnm_ hz_ hQ_
  refine tz_aload_n C_ 0 rfl rfl td_R_become_0 ?_
  refine tz_aload_n C_ 1 rfl rfl td_R_become_1 ?_
  refine tz_get C_ tci_R 1 (by decide) tw_94 hR2.1 rfl td_R_become_2 ?_
  refine tz_wput C_ tci_R 1 (by decide) tw_94 rfl hR.1 (Nat.le_of_ble_eq_true rfl) ⟨rfl, rfl⟩ (fs' := [.ref (a + 1), .int (nI n2)]) rfl td_R_become_5 (fun f1 hs1 hq1 => ?_)
  refine tz_aload_n C_ 1 rfl rfl td_R_become_8 ?_
  have k2 : f1 b = some (tz_obj 5 [.ref (b + 1), .int (nI n2)]) := ((hq1 _ (by omega)).trans hR2.1)
  refine tz_get C_ tci_R 0 (by decide) tw_93 k2 rfl td_R_become_9 ?_
  refine tz_iconst C_ (v := 0) (by decide) td_R_become_12 ?_
  refine tz_aload_n C_ 0 rfl rfl td_R_become_13 ?_
  refine tz_get C_ tci_R 0 (by decide) tw_93 hs1 rfl td_R_become_14 ?_
  refine tz_iconst C_ (v := 0) (by decide) td_R_become_17 ?_
  refine tz_aload_n C_ 0 rfl rfl td_R_become_18 ?_
  refine tz_get C_ tci_R 0 (by decide) tw_93 hs1 rfl td_R_become_19 ?_
  have k3 : f1 (a + 1) = some (tz_ints cs 120 g) := ((hq1 _ (by omega)).trans hR.2)
  refine tz_alenI C_ k3 (v := 120) (by decide) td_R_become_22 ?_
  have k4 : f1 (b + 1) = some (tz_ints cs 120 g2) := ((hq1 _ (by omega)).trans hR2.2)
  refine tz_wacopy C_ tw_296 tw_298 tw_297 tw_54 k4 k3 (by decide) (by decide) (by decide) (by decide) (by decide) (by decide) td_R_become_23 (fun f5 hs5 hq5 => ?_)
  refine tz_rvret C_ hr_ hk_ hQ_ rfl td_R_become_26 ?_
  have k6 : f5 a = some (tz_obj 5 [.ref (a + 1), .int (nI n2)]) := ((hq5 _ (by omega)).trans hs1)
  exact ⟨rfl, ⟨k6, hs5⟩, (fun q hh => by rw [hq5 q (by omega), hq1 q (by omega)])⟩

abbrev rm_R_lostOnes : Room := { frames := 1, cells := 0, slots := 0, locals := 21 }
set_option maxHeartbeats 4000000 in
set_option maxRecDepth 100000 in
theorem ct_R_lostOnes {l : Launch} {A : Nat → Prop} {D : va_G} {cs : Nat → ClassId} {sz : Nat} {f : tz_PH} {a n : Nat} {g : Nat → Int32} (hR : tz_Row cs f a n g) (hn : n ≤ 120) : tz_CN l tyR_lostOnes prog_7_method_10_code 3 (some (.int)) rm_R_lostOnes 0 0 A D cs sz [.ref a] f (some (.int (nI (tz_ct (fun k => decide (g k = tz_LO)) n)))) (fun f' => f' = f) := by
  refine tz_C.ofB (lv0 := [(0, .ref a)]) (plainFor_of_name (by decide)) (Nat.le_of_ble_eq_true rfl) rfl ?_
  intro p_ e_ s_ m_ ar_ be_ me_ c_ Q_ C_ hr_ hk_ hnm_ hz_ hQ_
  have hcl := fun i => tz_ct_le (fun k => decide (g k = tz_LO)) i
  refine tz_iconst C_ (v := 0) (by decide) td_R_lostOnes_0 ?_
  refine tz_istore_n C_ (lv' := [(0, .ref a), (1, .int 0)]) [1, 0] rfl (by decide) rfl td_R_lostOnes_1 ?_
  refine tz_iconst C_ (v := 0) (by decide) td_R_lostOnes_2 ?_
  refine tz_istore_n C_ (lv' := [(0, .ref a), (1, .int 0), (2, .int 0)]) [1, 2, 0] rfl (by decide) rfl td_R_lostOnes_3 ?_
  have loop4 : ∀ (kk4 : Nat) (c : Nat) (i : Nat), (i ≤ n) → (c = tz_ct (fun k => decide (g k = tz_LO)) i) → (n - i) < kk4 → tz_V p_ l e_ rm_R_lostOnes s_ m_ ar_ be_ me_ c_ Q_ A D 3 f sz 0 0 4 [(0, .ref a), (1, .int (nI c)), (2, .int (nI i))] [] := by
    intro kk4
    induction kk4 with
    | zero => intro c i hi hc hm4; omega
    | succ kk4 ih4 =>
      intro c i hi hc hm4
      refine tz_iload_n C_ 2 rfl rfl td_R_lostOnes_4 ?_
      refine tz_aload_n C_ 0 rfl rfl td_R_lostOnes_5 ?_
      refine tz_get C_ tci_R 1 (by decide) tw_94 hR.1 rfl td_R_lostOnes_6 ?_
      refine tz_icmp_ge C_ td_R_lostOnes_9 (fun h9 => ?_) (fun h9 => ?_)
      · skip
        replace h9 := (nI_leI (a := n) (b := i) (by omega) (by omega)).mp h9
        refine tz_iload_n C_ 1 rfl rfl td_R_lostOnes_31 ?_
        refine tz_riret C_ hr_ hk_ hQ_ rfl td_R_lostOnes_32 ?_
        have e9 : i = n := by omega
        subst e9
        exact ⟨tz_ri (by rw [hc]), rfl⟩
      · skip
        replace h9 := mt (nI_leI (a := n) (b := i) (by omega) (by omega)).mpr h9
        refine tz_aload_n C_ 0 rfl rfl td_R_lostOnes_12 ?_
        refine tz_iload_n C_ 2 rfl rfl td_R_lostOnes_13 ?_
        refine tz_rV C_ tmi_R_at tw_332 tw_333 tw_353 hR.1 rfl (As := [.int (nI i)]) (by exact (ct_R_atN (n := n) (g := g) ⟨hR.1, hR.2⟩ (by omega) (by omega))) rfl (rest := []) rfl (by decide) (Nat.le_of_ble_eq_true rfl) td_R_lostOnes_14 (st1 := [.int (g i)]) rfl ?_
        refine tz_ldc C_ tw_335 td_R_lostOnes_17 ?_
        refine tz_icmp_ne C_ td_R_lostOnes_19 (fun h19 => ?_) (fun h19 => ?_)
        · skip
          refine tz_iinc C_ (k := 1) (v := nI (i + 1)) (lv' := [(0, .ref a), (1, .int (nI c)), (2, .int (nI (i + 1)))]) 2 rfl (nI_1 i) [1, 2, 0] (by decide) rfl td_R_lostOnes_25 ?_
          refine tz_goto C_ td_R_lostOnes_28 ?_
          exact ih4 c (i + 1) (by omega) (by rw [tz_ct_s, hc]; simp [h19]) (by omega)
        · skip
          refine tz_iinc C_ (k := 1) (v := nI (c + 1)) (lv' := [(0, .ref a), (1, .int (nI (c + 1))), (2, .int (nI i))]) 1 rfl (nI_1 c) [1, 0, 2] (by decide) rfl td_R_lostOnes_22 ?_
          refine tz_iinc C_ (k := 1) (v := nI (i + 1)) (lv' := [(0, .ref a), (1, .int (nI (c + 1))), (2, .int (nI (i + 1)))]) 2 rfl (nI_1 i) [1, 2, 0] (by decide) rfl td_R_lostOnes_25 ?_
          refine tz_goto C_ td_R_lostOnes_28 ?_
          exact ih4 (c + 1) (i + 1) (by omega) (by rw [tz_ct_s, hc]; simp [h19]) (by omega)
  exact loop4 _ 0 0 (Nat.zero_le _) rfl (Nat.lt_succ_self _)

abbrev tz_turn (n : Nat) (g : Nat → Int32) (i : Int32) : Prop := ¬ tz_at n g (i - 1) = tz_LO ∧ ¬ tz_at n g i = tz_LO ∧ tz_at n g (i - 1) < 0 ∧ 0 ≤ tz_at n g i
abbrev tz_bend (n : Nat) (g : Nat → Int32) (i : Int32) : Int32 := 2 * tz_at n g i - tz_at n g (i - 1) - tz_at n g (i + 1)
abbrev tz_click (n : Nat) (g : Nat → Int32) (i a : Int32) : Prop := ¬ tz_at n g (i - 1) = tz_LO ∧ ¬ tz_at n g i = tz_LO ∧ ¬ tz_at n g (i + 1) = tz_LO ∧ (a < tz_bend n g i ∨ tz_bend n g i < -a)

abbrev rm_R_isTurn : Room := { frames := 1, cells := 0, slots := 0, locals := 21 }
set_option maxHeartbeats 4000000 in
set_option maxRecDepth 100000 in
theorem ct_R_isTurn {l : Launch} {A : Nat → Prop} {D : va_G} {cs : Nat → ClassId} {sz : Nat} {f : tz_PH} {a n : Nat} {g : Nat → Int32} (hR : tz_Row cs f a n g) (hn : n ≤ 120) {i : Int32} : tz_CN l tyR_isTurn prog_7_method_11_code 2 (some (.boolean)) rm_R_isTurn 0 0 A D cs sz [.ref a, .int i] f (some (.int (tz_p (tz_turn n g i)))) (fun f' => f' = f) := by
  refine tz_C.ofB (lv0 := [(0, .ref a), (1, .int i)]) (plainFor_of_name (by decide)) (Nat.le_of_ble_eq_true rfl) rfl ?_
  intro p_ e_ s_ m_ ar_ be_ me_ c_ Q_ C_ hr_ hk_ hnm_ hz_ hQ_
  refine tz_aload_n C_ 0 rfl rfl td_R_isTurn_0 ?_
  refine tz_iload_n C_ 1 rfl rfl td_R_isTurn_1 ?_
  refine tz_iconst C_ (v := 1) (by decide) td_R_isTurn_2 ?_
  refine tz_isub C_ td_R_isTurn_3 ?_
  refine tz_rV C_ tmi_R_at tw_332 tw_333 tw_353 hR.1 rfl (As := [.int (i - 1)]) (by exact (ct_R_at (n := n) (g := g) ⟨hR.1, hR.2⟩ (by omega))) rfl (rest := []) rfl (by decide) (Nat.le_of_ble_eq_true rfl) td_R_isTurn_4 (st1 := [.int (tz_at n g (i - 1))]) rfl ?_
  refine tz_ldc C_ tw_335 td_R_isTurn_7 ?_
  refine tz_icmp_eq C_ td_R_isTurn_9 (fun h9 => ?_) (fun h9 => ?_)
  · skip
    refine tz_iconst C_ (v := 0) (by decide) td_R_isTurn_44 ?_
    refine tz_rzret C_ hr_ hk_ hQ_ (by first | exact Or.inl rfl | exact Or.inr rfl | exact tz_p01) rfl td_R_isTurn_45 ?_
    exact ⟨tz_ri (by grind [tz_p]), rfl⟩
  · skip
    refine tz_aload_n C_ 0 rfl rfl td_R_isTurn_12 ?_
    refine tz_iload_n C_ 1 rfl rfl td_R_isTurn_13 ?_
    refine tz_rV C_ tmi_R_at tw_332 tw_333 tw_353 hR.1 rfl (As := [.int i]) (by exact (ct_R_at (n := n) (g := g) ⟨hR.1, hR.2⟩ (by omega))) rfl (rest := []) rfl (by decide) (Nat.le_of_ble_eq_true rfl) td_R_isTurn_14 (st1 := [.int (tz_at n g i)]) rfl ?_
    refine tz_ldc C_ tw_335 td_R_isTurn_17 ?_
    refine tz_icmp_eq C_ td_R_isTurn_19 (fun h19 => ?_) (fun h19 => ?_)
    · skip
      refine tz_iconst C_ (v := 0) (by decide) td_R_isTurn_44 ?_
      refine tz_rzret C_ hr_ hk_ hQ_ (by first | exact Or.inl rfl | exact Or.inr rfl | exact tz_p01) rfl td_R_isTurn_45 ?_
      exact ⟨tz_ri (by grind [tz_p]), rfl⟩
    · skip
      refine tz_aload_n C_ 0 rfl rfl td_R_isTurn_22 ?_
      refine tz_iload_n C_ 1 rfl rfl td_R_isTurn_23 ?_
      refine tz_iconst C_ (v := 1) (by decide) td_R_isTurn_24 ?_
      refine tz_isub C_ td_R_isTurn_25 ?_
      refine tz_rV C_ tmi_R_at tw_332 tw_333 tw_353 hR.1 rfl (As := [.int (i - 1)]) (by exact (ct_R_at (n := n) (g := g) ⟨hR.1, hR.2⟩ (by omega))) rfl (rest := []) rfl (by decide) (Nat.le_of_ble_eq_true rfl) td_R_isTurn_26 (st1 := [.int (tz_at n g (i - 1))]) rfl ?_
      refine tz_if_ge C_ td_R_isTurn_29 (fun h29 => ?_) (fun h29 => ?_)
      · skip
        refine tz_iconst C_ (v := 0) (by decide) td_R_isTurn_44 ?_
        refine tz_rzret C_ hr_ hk_ hQ_ (by first | exact Or.inl rfl | exact Or.inr rfl | exact tz_p01) rfl td_R_isTurn_45 ?_
        exact ⟨tz_ri (by grind [tz_p]), rfl⟩
      · skip
        refine tz_aload_n C_ 0 rfl rfl td_R_isTurn_32 ?_
        refine tz_iload_n C_ 1 rfl rfl td_R_isTurn_33 ?_
        refine tz_rV C_ tmi_R_at tw_332 tw_333 tw_353 hR.1 rfl (As := [.int i]) (by exact (ct_R_at (n := n) (g := g) ⟨hR.1, hR.2⟩ (by omega))) rfl (rest := []) rfl (by decide) (Nat.le_of_ble_eq_true rfl) td_R_isTurn_34 (st1 := [.int (tz_at n g i)]) rfl ?_
        refine tz_if_lt C_ td_R_isTurn_37 (fun h37 => ?_) (fun h37 => ?_)
        · skip
          refine tz_iconst C_ (v := 0) (by decide) td_R_isTurn_44 ?_
          refine tz_rzret C_ hr_ hk_ hQ_ (by first | exact Or.inl rfl | exact Or.inr rfl | exact tz_p01) rfl td_R_isTurn_45 ?_
          exact ⟨tz_ri (by grind [tz_p]), rfl⟩
        · skip
          refine tz_iconst C_ (v := 1) (by decide) td_R_isTurn_40 ?_
          refine tz_goto C_ td_R_isTurn_41 ?_
          refine tz_rzret C_ hr_ hk_ hQ_ (by first | exact Or.inl rfl | exact Or.inr rfl | exact tz_p01) rfl td_R_isTurn_45 ?_
          exact ⟨tz_ri (by grind [tz_p]), rfl⟩

abbrev rm_R_isClick : Room := { frames := 1, cells := 0, slots := 0, locals := 21 }
set_option maxHeartbeats 4000000 in
set_option maxRecDepth 100000 in
theorem ct_R_isClick {l : Launch} {A : Nat → Prop} {D : va_G} {cs : Nat → ClassId} {sz : Nat} {f : tz_PH} {a n : Nat} {g : Nat → Int32} (hR : tz_Row cs f a n g) (hn : n ≤ 120) {i v : Int32} : tz_CN l tyR_isClick prog_7_method_12_code 4 (some (.boolean)) rm_R_isClick 0 0 A D cs sz [.ref a, .int i, .int v] f (some (.int (tz_p (tz_click n g i v)))) (fun f' => f' = f) := by
  refine tz_C.ofB (lv0 := [(0, .ref a), (1, .int i), (2, .int v)]) (plainFor_of_name (by decide)) (Nat.le_of_ble_eq_true rfl) rfl ?_
  intro p_ e_ s_ m_ ar_ be_ me_ c_ Q_ C_ hr_ hk_ hnm_ hz_ hQ_
  refine tz_aload_n C_ 0 rfl rfl td_R_isClick_0 ?_
  refine tz_iload_n C_ 1 rfl rfl td_R_isClick_1 ?_
  refine tz_iconst C_ (v := 1) (by decide) td_R_isClick_2 ?_
  refine tz_isub C_ td_R_isClick_3 ?_
  refine tz_rV C_ tmi_R_at tw_332 tw_333 tw_353 hR.1 rfl (As := [.int (i - 1)]) (by exact (ct_R_at (n := n) (g := g) ⟨hR.1, hR.2⟩ (by omega))) rfl (rest := []) rfl (by decide) (Nat.le_of_ble_eq_true rfl) td_R_isClick_4 (st1 := [.int (tz_at n g (i - 1))]) rfl ?_
  refine tz_ldc C_ tw_335 td_R_isClick_7 ?_
  refine tz_icmp_eq C_ td_R_isClick_9 (fun h9 => ?_) (fun h9 => ?_)
  · skip
    refine tz_iconst C_ (v := 0) (by decide) td_R_isClick_34 ?_
    refine tz_rzret C_ hr_ hk_ hQ_ (by first | exact Or.inl rfl | exact Or.inr rfl | exact tz_p01) rfl td_R_isClick_35 ?_
    exact ⟨tz_ri (by grind [tz_p]), rfl⟩
  · skip
    refine tz_aload_n C_ 0 rfl rfl td_R_isClick_12 ?_
    refine tz_iload_n C_ 1 rfl rfl td_R_isClick_13 ?_
    refine tz_rV C_ tmi_R_at tw_332 tw_333 tw_353 hR.1 rfl (As := [.int i]) (by exact (ct_R_at (n := n) (g := g) ⟨hR.1, hR.2⟩ (by omega))) rfl (rest := []) rfl (by decide) (Nat.le_of_ble_eq_true rfl) td_R_isClick_14 (st1 := [.int (tz_at n g i)]) rfl ?_
    refine tz_ldc C_ tw_335 td_R_isClick_17 ?_
    refine tz_icmp_eq C_ td_R_isClick_19 (fun h19 => ?_) (fun h19 => ?_)
    · skip
      refine tz_iconst C_ (v := 0) (by decide) td_R_isClick_34 ?_
      refine tz_rzret C_ hr_ hk_ hQ_ (by first | exact Or.inl rfl | exact Or.inr rfl | exact tz_p01) rfl td_R_isClick_35 ?_
      exact ⟨tz_ri (by grind [tz_p]), rfl⟩
    · skip
      refine tz_aload_n C_ 0 rfl rfl td_R_isClick_22 ?_
      refine tz_iload_n C_ 1 rfl rfl td_R_isClick_23 ?_
      refine tz_iconst C_ (v := 1) (by decide) td_R_isClick_24 ?_
      refine tz_iadd C_ td_R_isClick_25 ?_
      refine tz_rV C_ tmi_R_at tw_332 tw_333 tw_353 hR.1 rfl (As := [.int (i + 1)]) (by exact (ct_R_at (n := n) (g := g) ⟨hR.1, hR.2⟩ (by omega))) rfl (rest := []) rfl (by decide) (Nat.le_of_ble_eq_true rfl) td_R_isClick_26 (st1 := [.int (tz_at n g (i + 1))]) rfl ?_
      refine tz_ldc C_ tw_335 td_R_isClick_29 ?_
      refine tz_icmp_ne C_ td_R_isClick_31 (fun h31 => ?_) (fun h31 => ?_)
      · skip
        refine tz_iconst C_ (v := 2) (by decide) td_R_isClick_36 ?_
        refine tz_aload_n C_ 0 rfl rfl td_R_isClick_37 ?_
        refine tz_iload_n C_ 1 rfl rfl td_R_isClick_38 ?_
        refine tz_rV C_ tmi_R_at tw_332 tw_333 tw_353 hR.1 rfl (As := [.int i]) (by exact (ct_R_at (n := n) (g := g) ⟨hR.1, hR.2⟩ (by omega))) rfl (rest := [.int 2]) rfl (by decide) (Nat.le_of_ble_eq_true rfl) td_R_isClick_39 (st1 := [.int (tz_at n g i), .int 2]) rfl ?_
        refine tz_imul C_ td_R_isClick_42 ?_
        refine tz_aload_n C_ 0 rfl rfl td_R_isClick_43 ?_
        refine tz_iload_n C_ 1 rfl rfl td_R_isClick_44 ?_
        refine tz_iconst C_ (v := 1) (by decide) td_R_isClick_45 ?_
        refine tz_isub C_ td_R_isClick_46 ?_
        refine tz_rV C_ tmi_R_at tw_332 tw_333 tw_353 hR.1 rfl (As := [.int (i - 1)]) (by exact (ct_R_at (n := n) (g := g) ⟨hR.1, hR.2⟩ (by omega))) rfl (rest := [.int (2 * (tz_at n g i))]) rfl (by decide) (Nat.le_of_ble_eq_true rfl) td_R_isClick_47 (st1 := [.int (tz_at n g (i - 1)), .int (2 * (tz_at n g i))]) rfl ?_
        refine tz_isub C_ td_R_isClick_50 ?_
        refine tz_aload_n C_ 0 rfl rfl td_R_isClick_51 ?_
        refine tz_iload_n C_ 1 rfl rfl td_R_isClick_52 ?_
        refine tz_iconst C_ (v := 1) (by decide) td_R_isClick_53 ?_
        refine tz_iadd C_ td_R_isClick_54 ?_
        refine tz_rV C_ tmi_R_at tw_332 tw_333 tw_353 hR.1 rfl (As := [.int (i + 1)]) (by exact (ct_R_at (n := n) (g := g) ⟨hR.1, hR.2⟩ (by omega))) rfl (rest := [.int ((2 * (tz_at n g i)) - (tz_at n g (i - 1)))]) rfl (by decide) (Nat.le_of_ble_eq_true rfl) td_R_isClick_55 (st1 := [.int (tz_at n g (i + 1)), .int ((2 * (tz_at n g i)) - (tz_at n g (i - 1)))]) rfl ?_
        refine tz_isub C_ td_R_isClick_58 ?_
        refine tz_istore_n C_ (lv' := [(0, .ref a), (1, .int i), (2, .int v), (3, .int (((2 * (tz_at n g i)) - (tz_at n g (i - 1))) - (tz_at n g (i + 1))))]) [1, 2, 3, 0] rfl (by decide) rfl td_R_isClick_59 ?_
        refine tz_iload_n C_ 3 rfl rfl td_R_isClick_60 ?_
        refine tz_iload_n C_ 2 rfl rfl td_R_isClick_61 ?_
        refine tz_icmp_gt C_ td_R_isClick_62 (fun h62 => ?_) (fun h62 => ?_)
        · skip
          refine tz_iconst C_ (v := 1) (by decide) td_R_isClick_71 ?_
          refine tz_goto C_ td_R_isClick_72 ?_
          refine tz_rzret C_ hr_ hk_ hQ_ (by first | exact Or.inl rfl | exact Or.inr rfl | exact tz_p01) rfl td_R_isClick_76 ?_
          exact ⟨tz_ri (by grind [tz_p]), rfl⟩
        · skip
          refine tz_iload_n C_ 3 rfl rfl td_R_isClick_65 ?_
          refine tz_iload_n C_ 2 rfl rfl td_R_isClick_66 ?_
          refine tz_ineg C_ td_R_isClick_67 ?_
          refine tz_icmp_ge C_ td_R_isClick_68 (fun h68 => ?_) (fun h68 => ?_)
          · skip
            refine tz_iconst C_ (v := 0) (by decide) td_R_isClick_75 ?_
            refine tz_rzret C_ hr_ hk_ hQ_ (by first | exact Or.inl rfl | exact Or.inr rfl | exact tz_p01) rfl td_R_isClick_76 ?_
            exact ⟨tz_ri (by grind [tz_p]), rfl⟩
          · skip
            refine tz_iconst C_ (v := 1) (by decide) td_R_isClick_71 ?_
            refine tz_goto C_ td_R_isClick_72 ?_
            refine tz_rzret C_ hr_ hk_ hQ_ (by first | exact Or.inl rfl | exact Or.inr rfl | exact tz_p01) rfl td_R_isClick_76 ?_
            exact ⟨tz_ri (by grind [tz_p]), rfl⟩
      · skip
        refine tz_iconst C_ (v := 0) (by decide) td_R_isClick_34 ?_
        refine tz_rzret C_ hr_ hk_ hQ_ (by first | exact Or.inl rfl | exact Or.inr rfl | exact tz_p01) rfl td_R_isClick_35 ?_
        exact ⟨tz_ri (by grind [tz_p]), rfl⟩

def tz_loud (g : Nat → Int32) : Nat → Int32
  | 0 => 0
  | k + 1 => if g k = tz_LO then tz_loud g k else tz_mx (tz_loud g k) (tz_ab (g k))
def tz_sq (g : Nat → Int32) : Nat → Int64
  | 0 => 0
  | k + 1 => if g k = tz_LO then tz_sq g k else tz_sq g k + (g k).toInt64 * (g k).toInt64

abbrev rm_R_loudest : Room := { frames := 1, cells := 0, slots := 0, locals := 21 }
set_option maxHeartbeats 4000000 in
set_option maxRecDepth 100000 in
theorem ct_R_loudest {l : Launch} {A : Nat → Prop} {D : va_G} {cs : Nat → ClassId} {sz : Nat} {f : tz_PH} {a n : Nat} {g : Nat → Int32} (hR : tz_Row cs f a n g) (hn : n ≤ 120) : tz_CN l tyR_loudest prog_7_method_14_code 3 (some (.int)) rm_R_loudest 0 0 A D cs sz [.ref a] f (some (.int (tz_loud g n))) (fun f' => f' = f) := by
  refine tz_C.ofB (lv0 := [(0, .ref a)]) (plainFor_of_name (by decide)) (Nat.le_of_ble_eq_true rfl) rfl ?_
  intro p_ e_ s_ m_ ar_ be_ me_ c_ Q_ C_ hr_ hk_ hnm_ hz_ hQ_
  refine tz_iconst C_ (v := 0) (by decide) td_R_loudest_0 ?_
  refine tz_istore_n C_ (lv' := [(0, .ref a), (1, .int 0)]) [1, 0] rfl (by decide) rfl td_R_loudest_1 ?_
  refine tz_iconst C_ (v := 0) (by decide) td_R_loudest_2 ?_
  refine tz_istore_n C_ (lv' := [(0, .ref a), (1, .int 0), (2, .int 0)]) [1, 2, 0] rfl (by decide) rfl td_R_loudest_3 ?_
  have loop4 : ∀ (kk4 : Nat) (x : Int32) (i : Nat), (i ≤ n) → (x = tz_loud g i) → (n - i) < kk4 → tz_V p_ l e_ rm_R_loudest s_ m_ ar_ be_ me_ c_ Q_ A D 3 f sz 0 0 4 [(0, .ref a), (1, .int x), (2, .int (nI i))] [] := by
    intro kk4
    induction kk4 with
    | zero => intro x i hi hc hm4; omega
    | succ kk4 ih4 =>
      intro x i hi hc hm4
      refine tz_iload_n C_ 2 rfl rfl td_R_loudest_4 ?_
      refine tz_aload_n C_ 0 rfl rfl td_R_loudest_5 ?_
      refine tz_get C_ tci_R 1 (by decide) tw_94 hR.1 rfl td_R_loudest_6 ?_
      refine tz_icmp_ge C_ td_R_loudest_9 (fun h9 => ?_) (fun h9 => ?_)
      · skip
        replace h9 := (nI_leI (a := n) (b := i) (by omega) (by omega)).mp h9
        refine tz_iload_n C_ 1 rfl rfl td_R_loudest_41 ?_
        refine tz_riret C_ hr_ hk_ hQ_ rfl td_R_loudest_42 ?_
        have e9 : i = n := by omega
        subst e9
        exact ⟨tz_ri hc, rfl⟩
      · skip
        replace h9 := mt (nI_leI (a := n) (b := i) (by omega) (by omega)).mpr h9
        refine tz_aload_n C_ 0 rfl rfl td_R_loudest_12 ?_
        refine tz_iload_n C_ 2 rfl rfl td_R_loudest_13 ?_
        refine tz_rV C_ tmi_R_at tw_332 tw_333 tw_353 hR.1 rfl (As := [.int (nI i)]) (by exact (ct_R_atN (n := n) (g := g) ⟨hR.1, hR.2⟩ (by omega) (by omega))) rfl (rest := []) rfl (by decide) (Nat.le_of_ble_eq_true rfl) td_R_loudest_14 (st1 := [.int (g i)]) rfl ?_
        refine tz_ldc C_ tw_335 td_R_loudest_17 ?_
        refine tz_icmp_eq C_ td_R_loudest_19 (fun h19 => ?_) (fun h19 => ?_)
        · skip
          refine tz_iinc C_ (k := 1) (v := nI (i + 1)) (lv' := [(0, .ref a), (1, .int x), (2, .int (nI (i + 1)))]) 2 rfl (nI_1 i) [1, 2, 0] (by decide) rfl td_R_loudest_35 ?_
          refine tz_goto C_ td_R_loudest_38 ?_
          exact ih4 x (i + 1) (by omega) (by simp [tz_loud, hc, h19]) (by omega)
        · skip
          refine tz_iload_n C_ 1 rfl rfl td_R_loudest_22 ?_
          refine tz_aload_n C_ 0 rfl rfl td_R_loudest_23 ?_
          refine tz_iload_n C_ 2 rfl rfl td_R_loudest_24 ?_
          refine tz_rV C_ tmi_R_at tw_332 tw_333 tw_353 hR.1 rfl (As := [.int (nI i)]) (by exact (ct_R_atN (n := n) (g := g) ⟨hR.1, hR.2⟩ (by omega) (by omega))) rfl (rest := [.int x]) rfl (by decide) (Nat.le_of_ble_eq_true rfl) td_R_loudest_25 (st1 := [.int (g i), .int x]) rfl ?_
          refine tz_rS C_ tmi_J_abs tw_605 tw_660 (As := [.int (g i)]) (by exact ct_J_abs) rfl (rest := [.int x]) rfl (by decide) (Nat.le_of_ble_eq_true rfl) td_R_loudest_28 (st1 := [.int (tz_ab (g i)), .int x]) rfl ?_
          refine tz_rS C_ tmi_J_max tw_318 tw_317 (As := [.int x, .int (tz_ab (g i))]) (by exact ct_J_max) rfl (rest := []) rfl (by decide) (Nat.le_of_ble_eq_true rfl) td_R_loudest_31 (st1 := [.int (tz_mx x (tz_ab (g i)))]) rfl ?_
          refine tz_istore_n C_ (lv' := [(0, .ref a), (1, .int (tz_mx x (tz_ab (g i)))), (2, .int (nI i))]) [1, 0, 2] rfl (by decide) rfl td_R_loudest_34 ?_
          refine tz_iinc C_ (k := 1) (v := nI (i + 1)) (lv' := [(0, .ref a), (1, .int (tz_mx x (tz_ab (g i)))), (2, .int (nI (i + 1)))]) 2 rfl (nI_1 i) [1, 2, 0] (by decide) rfl td_R_loudest_35 ?_
          refine tz_goto C_ td_R_loudest_38 ?_
          exact ih4 (tz_mx x (tz_ab (g i))) (i + 1) (by omega) (by simp [tz_loud, hc, h19]) (by omega)
  exact loop4 _ 0 0 (Nat.zero_le _) rfl (Nat.lt_succ_self _)

abbrev rm_R_sumOfSquares : Room := { frames := 1, cells := 0, slots := 0, locals := 21 }
set_option maxHeartbeats 4000000 in
set_option maxRecDepth 100000 in
theorem ct_R_sumOfSquares {l : Launch} {A : Nat → Prop} {D : va_G} {cs : Nat → ClassId} {sz : Nat} {f : tz_PH} {a n : Nat} {g : Nat → Int32} (hR : tz_Row cs f a n g) (hn : n ≤ 120) : tz_CN l tyR_sumOfSquares prog_7_method_15_code 4 (some (.long)) rm_R_sumOfSquares 0 0 A D cs sz [.ref a] f (some (.long (tz_sq g n))) (fun f' => f' = f) := by
  refine tz_C.ofB (lv0 := [(0, .ref a)]) (plainFor_of_name (by decide)) (Nat.le_of_ble_eq_true rfl) rfl ?_
  intro p_ e_ s_ m_ ar_ be_ me_ c_ Q_ C_ hr_ hk_ hnm_ hz_ hQ_
  refine tz_lconst C_ (v := 0) (by decide) td_R_sumOfSquares_0 ?_
  refine tz_lstore_n C_ (lv' := [(0, .ref a), (1, .long 0)]) [1, 0] rfl (by decide) rfl td_R_sumOfSquares_1 ?_
  refine tz_iconst C_ (v := 0) (by decide) td_R_sumOfSquares_2 ?_
  refine tz_istore_n C_ (lv' := [(0, .ref a), (1, .long 0), (3, .int 0)]) [1, 2, 0] rfl (by decide) rfl td_R_sumOfSquares_3 ?_
  have loop4 : ∀ (kk4 : Nat) (x : Int64) (i : Nat), (i ≤ n) → (x = tz_sq g i) → (n - i) < kk4 → tz_V p_ l e_ rm_R_sumOfSquares s_ m_ ar_ be_ me_ c_ Q_ A D 4 f sz 0 0 4 [(0, .ref a), (1, .long x), (3, .int (nI i))] [] := by
    intro kk4
    induction kk4 with
    | zero => intro x i hi hc hm4; omega
    | succ kk4 ih4 =>
      intro x i hi hc hm4
      refine tz_iload_n C_ 2 rfl rfl td_R_sumOfSquares_4 ?_
      refine tz_aload_n C_ 0 rfl rfl td_R_sumOfSquares_5 ?_
      refine tz_get C_ tci_R 1 (by decide) tw_94 hR.1 rfl td_R_sumOfSquares_6 ?_
      refine tz_icmp_ge C_ td_R_sumOfSquares_9 (fun h9 => ?_) (fun h9 => ?_)
      · skip
        replace h9 := (nI_leI (a := n) (b := i) (by omega) (by omega)).mp h9
        refine tz_lload_n C_ 1 rfl rfl td_R_sumOfSquares_44 ?_
        refine tz_rlret C_ hr_ hk_ hQ_ rfl td_R_sumOfSquares_45 ?_
        have e9 : i = n := by omega
        subst e9
        exact ⟨tz_rl hc, rfl⟩
      · skip
        replace h9 := mt (nI_leI (a := n) (b := i) (by omega) (by omega)).mpr h9
        refine tz_aload_n C_ 0 rfl rfl td_R_sumOfSquares_12 ?_
        refine tz_iload_n C_ 2 rfl rfl td_R_sumOfSquares_13 ?_
        refine tz_rV C_ tmi_R_at tw_332 tw_333 tw_353 hR.1 rfl (As := [.int (nI i)]) (by exact (ct_R_atN (n := n) (g := g) ⟨hR.1, hR.2⟩ (by omega) (by omega))) rfl (rest := []) rfl (by decide) (Nat.le_of_ble_eq_true rfl) td_R_sumOfSquares_14 (st1 := [.int (g i)]) rfl ?_
        refine tz_ldc C_ tw_335 td_R_sumOfSquares_17 ?_
        refine tz_icmp_eq C_ td_R_sumOfSquares_19 (fun h19 => ?_) (fun h19 => ?_)
        · skip
          refine tz_iinc C_ (k := 1) (v := nI (i + 1)) (lv' := [(0, .ref a), (1, .long x), (3, .int (nI (i + 1)))]) 2 rfl (nI_1 i) [1, 2, 0] (by decide) rfl td_R_sumOfSquares_38 ?_
          refine tz_goto C_ td_R_sumOfSquares_41 ?_
          exact ih4 x (i + 1) (by omega) (by simp [tz_sq, hc, h19]) (by omega)
        · skip
          refine tz_lload_n C_ 1 rfl rfl td_R_sumOfSquares_22 ?_
          refine tz_aload_n C_ 0 rfl rfl td_R_sumOfSquares_23 ?_
          refine tz_iload_n C_ 2 rfl rfl td_R_sumOfSquares_24 ?_
          refine tz_rV C_ tmi_R_at tw_332 tw_333 tw_353 hR.1 rfl (As := [.int (nI i)]) (by exact (ct_R_atN (n := n) (g := g) ⟨hR.1, hR.2⟩ (by omega) (by omega))) rfl (rest := [.long x]) rfl (by decide) (Nat.le_of_ble_eq_true rfl) td_R_sumOfSquares_25 (st1 := [.int (g i), .long x]) rfl ?_
          refine tz_i2l C_ td_R_sumOfSquares_28 ?_
          refine tz_aload_n C_ 0 rfl rfl td_R_sumOfSquares_29 ?_
          refine tz_iload_n C_ 2 rfl rfl td_R_sumOfSquares_30 ?_
          refine tz_rV C_ tmi_R_at tw_332 tw_333 tw_353 hR.1 rfl (As := [.int (nI i)]) (by exact (ct_R_atN (n := n) (g := g) ⟨hR.1, hR.2⟩ (by omega) (by omega))) rfl (rest := [.long (Int32.toInt64 (g i)), .long x]) rfl (by decide) (Nat.le_of_ble_eq_true rfl) td_R_sumOfSquares_31 (st1 := [.int (g i), .long (Int32.toInt64 (g i)), .long x]) rfl ?_
          refine tz_i2l C_ td_R_sumOfSquares_34 ?_
          refine tz_lmul C_ td_R_sumOfSquares_35 ?_
          refine tz_ladd C_ td_R_sumOfSquares_36 ?_
          refine tz_lstore_n C_ (lv' := [(0, .ref a), (1, .long (x + ((Int32.toInt64 (g i)) * (Int32.toInt64 (g i))))), (3, .int (nI i))]) [1, 0, 2] rfl (by decide) rfl td_R_sumOfSquares_37 ?_
          refine tz_iinc C_ (k := 1) (v := nI (i + 1)) (lv' := [(0, .ref a), (1, .long (x + ((Int32.toInt64 (g i)) * (Int32.toInt64 (g i))))), (3, .int (nI (i + 1)))]) 2 rfl (nI_1 i) [1, 2, 0] (by decide) rfl td_R_sumOfSquares_38 ?_
          refine tz_goto C_ td_R_sumOfSquares_41 ?_
          exact ih4 (x + ((Int32.toInt64 (g i)) * (Int32.toInt64 (g i)))) (i + 1) (by omega) (by simp [tz_sq, hc, h19]) (by omega)
  exact loop4 _ 0 0 (Nat.zero_le _) rfl (Nat.lt_succ_self _)


theorem tz_sub1 {n i : Nat} (hi : i < 2 ^ 30 ∧ n < 2 ^ 30) (h : nI n - 1 ≤ nI i) : n - 1 ≤ i := by
  have h1 := Int32.le_iff_toInt_le.mp h
  rw [show (1 : Int32) = nI 1 from rfl, pk_sub_toInt (by omega) (by omega), nI_toInt (by omega)] at h1
  omega
theorem tz_sub1n {n i : Nat} (hi : i < 2 ^ 30) (hn : n < 2 ^ 30) (h : ¬ nI n - 1 ≤ nI i) : i + 1 < n := by
  have h1 := Int32.lt_iff_toInt_lt.mp (Int32.not_le.mp h)
  rw [show (1 : Int32) = nI 1 from rfl, pk_sub_toInt (by omega) (by omega), nI_toInt (by omega)] at h1
  omega
theorem tz_m1_neg : (nI 0 - 1 : Int32) < 0 := by decide
theorem tz_at_m1 {n : Nat} {g : Nat → Int32} : tz_at n g (nI 0 - 1) = tz_LO := tz_at_neg tz_m1_neg
theorem tz_at_p1 {n k : Nat} {g : Nat → Int32} (h : n ≤ k + 1) (hk : k < 2 ^ 30) : tz_at n g (nI k + 1) = tz_LO := by rw [nI_1]; exact tz_at_out h (by omega)
theorem tz_click_0 {n : Nat} {g : Nat → Int32} {v : Int32} : tz_ct (fun k => decide (tz_click n g (nI k) v)) 1 = 0 := by
  rw [tz_ct_s]
  have h : ¬ tz_click n g (nI 0) v := fun z => z.1 tz_at_m1
  simp only [tz_ct, decide_eq_true_eq, if_neg h]
theorem tz_click_last {n : Nat} {g : Nat → Int32} {v : Int32} (hn : n ≤ 120) : ∀ i, 1 ≤ i → (n - 1 ≤ i ∧ (i ≤ n ∨ i = 1)) → tz_ct (fun k => decide (tz_click n g (nI k) v)) n = tz_ct (fun k => decide (tz_click n g (nI k) v)) i := by
  intro i h1 h2
  rcases Nat.lt_or_ge i n with h | h
  · have e : n = i + 1 := by omega
    subst e
    have h3 : ¬ tz_click (i + 1) g (nI i) v := fun z => z.2.2.1 (tz_at_p1 (by omega) (by omega))
    rw [tz_ct_s]
    simp only [decide_eq_true_eq, if_neg h3, Nat.add_zero]
  · rcases Nat.lt_or_ge n i with h3 | h3
    · have e : i = 1 := by omega
      have e2 : n = 0 := by omega
      subst e; subst e2
      exact tz_click_0.symm
    · have e : n = i := by omega
      rw [e]

abbrev rm_R_clicks : Room := { frames := 2, cells := 0, slots := 0, locals := 44 }
set_option maxHeartbeats 4000000 in
set_option maxRecDepth 100000 in
theorem ct_R_clicks {l : Launch} {A : Nat → Prop} {D : va_G} {cs : Nat → ClassId} {sz : Nat} {f : tz_PH} {a n : Nat} {g : Nat → Int32} (hR : tz_Row cs f a n g) (hn : n ≤ 120) {v : Int32} : tz_CN l tyR_clicks prog_7_method_13_code 4 (some (.int)) rm_R_clicks 0 0 A D cs sz [.ref a, .int v] f (some (.int (nI (tz_ct (fun k => decide (tz_click n g (nI k) v)) n)))) (fun f' => f' = f) := by
  refine tz_C.ofB (lv0 := [(0, .ref a), (1, .int v)]) (plainFor_of_name (by decide)) (Nat.le_of_ble_eq_true rfl) rfl ?_
  intro p_ e_ s_ m_ ar_ be_ me_ c_ Q_ C_ hr_ hk_ hnm_ hz_ hQ_
  have e0 : tz_ct (fun k => decide (tz_click n g (nI k) v)) 1 = 0 := tz_click_0
  have e1 := tz_click_last (n := n) (g := g) (v := v) hn
  refine tz_iconst C_ (v := 0) (by decide) td_R_clicks_0 ?_
  refine tz_istore_n C_ (lv' := [(0, .ref a), (1, .int v), (2, .int 0)]) [1, 2, 0] rfl (by decide) rfl td_R_clicks_1 ?_
  refine tz_iconst C_ (v := 1) (by decide) td_R_clicks_2 ?_
  refine tz_istore_n C_ (lv' := [(0, .ref a), (1, .int v), (2, .int 0), (3, .int 1)]) [1, 2, 3, 0] rfl (by decide) rfl td_R_clicks_3 ?_
  have loop4 : ∀ (kk4 : Nat) (x : Nat) (i : Nat), (1 ≤ i ∧ (i ≤ n ∨ i = 1)) → (x = tz_ct (fun k => decide (tz_click n g (nI k) v)) i) → (n - i) < kk4 → tz_V p_ l e_ rm_R_clicks s_ m_ ar_ be_ me_ c_ Q_ A D 4 f sz 0 0 4 [(0, .ref a), (1, .int v), (2, .int (nI x)), (3, .int (nI i))] [] := by
    intro kk4
    induction kk4 with
    | zero => intro x i hi hc hm4; omega
    | succ kk4 ih4 =>
      intro x i hi hc hm4
      refine tz_iload_n C_ 3 rfl rfl td_R_clicks_4 ?_
      refine tz_aload_n C_ 0 rfl rfl td_R_clicks_5 ?_
      refine tz_get C_ tci_R 1 (by decide) tw_94 hR.1 rfl td_R_clicks_6 ?_
      refine tz_iconst C_ (v := 1) (by decide) td_R_clicks_9 ?_
      refine tz_isub C_ td_R_clicks_10 ?_
      refine tz_icmp_ge C_ td_R_clicks_11 (fun h11 => ?_) (fun h11 => ?_)
      · skip
        have h11b : n - 1 ≤ i := tz_sub1 (by omega) h11
        refine tz_iload_n C_ 2 rfl rfl td_R_clicks_32 ?_
        refine tz_riret C_ hr_ hk_ hQ_ rfl td_R_clicks_33 ?_
        refine ⟨tz_ri ?_, rfl⟩
        rw [hc]
        exact congrArg nI (e1 i hi.1 (by omega)).symm
      · skip
        have h11b : i + 1 < n := tz_sub1n (by omega) (by omega) h11
        refine tz_aload_n C_ 0 rfl rfl td_R_clicks_14 ?_
        refine tz_iload_n C_ 3 rfl rfl td_R_clicks_15 ?_
        refine tz_iload_n C_ 1 rfl rfl td_R_clicks_16 ?_
        refine tz_rV C_ tmi_R_isClick tw_380 tw_381 tw_379 hR.1 rfl (As := [.int (nI i), .int v]) (by exact (ct_R_isClick (n := n) (g := g) ⟨hR.1, hR.2⟩ (by omega))) rfl (rest := []) rfl (by decide) (Nat.le_of_ble_eq_true rfl) td_R_clicks_17 (st1 := [.int (tz_p (tz_click n g (nI i) v))]) rfl ?_
        refine tz_if_eq C_ td_R_clicks_20 (fun h20 => ?_) (fun h20 => ?_)
        · skip
          replace h20 := tz_p0.mp h20
          refine tz_iinc C_ (k := 1) (v := nI (i + 1)) (lv' := [(0, .ref a), (1, .int v), (2, .int (nI x)), (3, .int (nI (i + 1)))]) 3 rfl (nI_1 i) [1, 2, 3, 0] (by decide) rfl td_R_clicks_26 ?_
          refine tz_goto C_ td_R_clicks_29 ?_
          exact ih4 x (i + 1) (⟨by omega, by omega⟩) (by rw [tz_ct_s, hc]; simp [h20]) (by omega)
        · skip
          replace h20 := tz_p1.mp h20
          refine tz_iinc C_ (k := 1) (v := nI (x + 1)) (lv' := [(0, .ref a), (1, .int v), (2, .int (nI (x + 1))), (3, .int (nI i))]) 2 rfl (nI_1 x) [1, 2, 0, 3] (by decide) rfl td_R_clicks_23 ?_
          refine tz_iinc C_ (k := 1) (v := nI (i + 1)) (lv' := [(0, .ref a), (1, .int v), (2, .int (nI (x + 1))), (3, .int (nI (i + 1)))]) 3 rfl (nI_1 i) [1, 2, 3, 0] (by decide) rfl td_R_clicks_26 ?_
          refine tz_goto C_ td_R_clicks_29 ?_
          exact ih4 (x + 1) (i + 1) (⟨by omega, by omega⟩) (by rw [tz_ct_s, hc]; simp [h20]) (by omega)
  exact loop4 _ 0 1 (⟨by omega, by omega⟩) e0.symm (Nat.lt_succ_self _)


theorem tz_nlt_of {i n : Nat} (h : nI i < nI n) (hi : i < 2 ^ 31) (hn : n < 2 ^ 31) : i < n := (nI_ltI hi hn).mp h
theorem tz_has_iff {i n : Nat} (hi : i < 2 ^ 31) (hn : n < 2 ^ 31) : (0 ≤ nI i ∧ nI i < nI n) ↔ i < n := ⟨fun z => (nI_ltI hi hn).mp z.2, fun z => ⟨nI_pos' hi, (nI_ltI hi hn).mpr z⟩⟩

abbrev rm_R_placesUnlike : Room := { frames := 1, cells := 0, slots := 0, locals := 21 }
set_option maxHeartbeats 4000000 in
set_option maxRecDepth 100000 in
theorem ct_R_placesUnlike {l : Launch} {A : Nat → Prop} {D : va_G} {cs : Nat → ClassId} {sz : Nat} {f : tz_PH} {a n : Nat} {g : Nat → Int32} (hR : tz_Row cs f a n g) (hn : n ≤ 120) {b n2 : Nat} {g2 : Nat → Int32} (hR2 : tz_Row cs f b n2 g2) (hn2 : n2 ≤ 120) : tz_CN l tyR_placesUnlike prog_7_method_16_code 4 (some (.int)) rm_R_placesUnlike 0 0 A D cs sz [.ref a, .ref b] f (some (.int (nI (tz_ct (fun k => decide (¬ (k < n2 ∧ g k = g2 k))) n)))) (fun f' => f' = f) := by
  refine tz_C.ofB (lv0 := [(0, .ref a), (1, .ref b)]) (plainFor_of_name (by decide)) (Nat.le_of_ble_eq_true rfl) rfl ?_
  intro p_ e_ s_ m_ ar_ be_ me_ c_ Q_ C_ hr_ hk_ hnm_ hz_ hQ_
  refine tz_iconst C_ (v := 0) (by decide) td_R_placesUnlike_0 ?_
  refine tz_istore_n C_ (lv' := [(0, .ref a), (1, .ref b), (2, .int 0)]) [1, 2, 0] rfl (by decide) rfl td_R_placesUnlike_1 ?_
  refine tz_iconst C_ (v := 0) (by decide) td_R_placesUnlike_2 ?_
  refine tz_istore_n C_ (lv' := [(0, .ref a), (1, .ref b), (2, .int 0), (3, .int 0)]) [1, 2, 3, 0] rfl (by decide) rfl td_R_placesUnlike_3 ?_
  have loop4 : ∀ (kk4 : Nat) (x : Nat) (i : Nat), (i ≤ n) → (x = tz_ct (fun k => decide (¬ (k < n2 ∧ g k = g2 k))) i) → (n - i) < kk4 → tz_V p_ l e_ rm_R_placesUnlike s_ m_ ar_ be_ me_ c_ Q_ A D 4 f sz 0 0 4 [(0, .ref a), (1, .ref b), (2, .int (nI x)), (3, .int (nI i))] [] := by
    intro kk4
    induction kk4 with
    | zero => intro x i hi hc hm4; omega
    | succ kk4 ih4 =>
      intro x i hi hc hm4
      refine tz_iload_n C_ 3 rfl rfl td_R_placesUnlike_4 ?_
      refine tz_aload_n C_ 0 rfl rfl td_R_placesUnlike_5 ?_
      refine tz_get C_ tci_R 1 (by decide) tw_94 hR.1 rfl td_R_placesUnlike_6 ?_
      refine tz_icmp_ge C_ td_R_placesUnlike_9 (fun h9 => ?_) (fun h9 => ?_)
      · skip
        replace h9 := (nI_leI (a := n) (b := i) (by omega) (by omega)).mp h9
        refine tz_iload_n C_ 2 rfl rfl td_R_placesUnlike_42 ?_
        refine tz_riret C_ hr_ hk_ hQ_ rfl td_R_placesUnlike_43 ?_
        have e9 : i = n := by omega
        subst e9
        exact ⟨tz_ri (by rw [hc]), rfl⟩
      · skip
        replace h9 := mt (nI_leI (a := n) (b := i) (by omega) (by omega)).mpr h9
        refine tz_aload_n C_ 1 rfl rfl td_R_placesUnlike_12 ?_
        refine tz_iload_n C_ 3 rfl rfl td_R_placesUnlike_13 ?_
        refine tz_rV C_ tmi_R_has tw_325 tw_326 tw_341 hR2.1 rfl (As := [.int (nI i)]) (by exact (ct_R_has (n := n2) (g := g2) ⟨hR2.1, hR2.2⟩ (by omega))) rfl (rest := []) rfl (by decide) (Nat.le_of_ble_eq_true rfl) td_R_placesUnlike_14 (st1 := [.int (tz_p (0 ≤ (nI i) ∧ (nI i) < nI n2))]) rfl ?_
        refine tz_if_eq C_ td_R_placesUnlike_17 (fun h17 => ?_) (fun h17 => ?_)
        · skip
          replace h17 := tz_p0.mp h17
          refine tz_iinc C_ (k := 1) (v := nI (x + 1)) (lv' := [(0, .ref a), (1, .ref b), (2, .int (nI (x + 1))), (3, .int (nI i))]) 2 rfl (nI_1 x) [1, 2, 0, 3] (by decide) rfl td_R_placesUnlike_33 ?_
          refine tz_iinc C_ (k := 1) (v := nI (i + 1)) (lv' := [(0, .ref a), (1, .ref b), (2, .int (nI (x + 1))), (3, .int (nI (i + 1)))]) 3 rfl (nI_1 i) [1, 2, 3, 0] (by decide) rfl td_R_placesUnlike_36 ?_
          refine tz_goto C_ td_R_placesUnlike_39 ?_
          exact ih4 (x + 1) (i + 1) (by omega) (by rw [tz_ct_s, hc]; have h17c := tz_has_iff (i := i) (n := n2) (by omega) (by omega); simp_all) (by omega)
        · skip
          replace h17 := tz_p1.mp h17
          refine tz_aload_n C_ 0 rfl rfl td_R_placesUnlike_20 ?_
          refine tz_iload_n C_ 3 rfl rfl td_R_placesUnlike_21 ?_
          refine tz_rV C_ tmi_R_at tw_332 tw_333 tw_353 hR.1 rfl (As := [.int (nI i)]) (by exact (ct_R_atN (n := n) (g := g) ⟨hR.1, hR.2⟩ (by omega) (by omega))) rfl (rest := []) rfl (by decide) (Nat.le_of_ble_eq_true rfl) td_R_placesUnlike_22 (st1 := [.int (g i)]) rfl ?_
          refine tz_aload_n C_ 1 rfl rfl td_R_placesUnlike_25 ?_
          refine tz_iload_n C_ 3 rfl rfl td_R_placesUnlike_26 ?_
          refine tz_rV C_ tmi_R_at tw_332 tw_333 tw_353 hR2.1 rfl (As := [.int (nI i)]) (by exact (ct_R_atN (n := n2) (g := g2) ⟨hR2.1, hR2.2⟩ (by omega) (tz_nlt_of h17.2 (by omega) (by omega)))) rfl (rest := [.int (g i)]) rfl (by decide) (Nat.le_of_ble_eq_true rfl) td_R_placesUnlike_27 (st1 := [.int (g2 i), .int (g i)]) rfl ?_
          refine tz_icmp_eq C_ td_R_placesUnlike_30 (fun h30 => ?_) (fun h30 => ?_)
          · skip
            refine tz_iinc C_ (k := 1) (v := nI (i + 1)) (lv' := [(0, .ref a), (1, .ref b), (2, .int (nI x)), (3, .int (nI (i + 1)))]) 3 rfl (nI_1 i) [1, 2, 3, 0] (by decide) rfl td_R_placesUnlike_36 ?_
            refine tz_goto C_ td_R_placesUnlike_39 ?_
            exact ih4 x (i + 1) (by omega) (by rw [tz_ct_s, hc]; have h17c := tz_has_iff (i := i) (n := n2) (by omega) (by omega); simp_all) (by omega)
          · skip
            refine tz_iinc C_ (k := 1) (v := nI (x + 1)) (lv' := [(0, .ref a), (1, .ref b), (2, .int (nI (x + 1))), (3, .int (nI i))]) 2 rfl (nI_1 x) [1, 2, 0, 3] (by decide) rfl td_R_placesUnlike_33 ?_
            refine tz_iinc C_ (k := 1) (v := nI (i + 1)) (lv' := [(0, .ref a), (1, .ref b), (2, .int (nI (x + 1))), (3, .int (nI (i + 1)))]) 3 rfl (nI_1 i) [1, 2, 3, 0] (by decide) rfl td_R_placesUnlike_36 ?_
            refine tz_goto C_ td_R_placesUnlike_39 ?_
            exact ih4 (x + 1) (i + 1) (by omega) (by rw [tz_ct_s, hc]; have h17c := tz_has_iff (i := i) (n := n2) (by omega) (by omega); simp_all) (by omega)
  exact loop4 _ 0 0 (Nat.zero_le _) rfl (Nat.lt_succ_self _)
end
section

def tz_Tu (cs : Nat → ClassId) (f : tz_PH) (a n : Nat) (g : Nat → Int32) : Prop := f a = some (tz_obj 9 [.ref (a + 1), .int (nI n)]) ∧ f (a + 1) = some (tz_ints cs 120 g)
abbrev tz_NO : Int32 := -100006
/-- which places are TURNS, and where the one of a number is -/
def tz_tp (n : Nat) (g : Nat → Int32) : Nat → Bool := fun k => decide (tz_turn n g (nI k))
def tz_nth (p : Nat → Bool) : Nat → Nat → Nat
  | 0, _ => 0
  | n + 1, k => if p n = true ∧ tz_ct p n = k then n else tz_nth p n k
theorem tz_ct_mono (p : Nat → Bool) : ∀ {m n : Nat}, m ≤ n → tz_ct p m ≤ tz_ct p n := by
  intro m n h
  induction n with
  | zero => have e : m = 0 := by omega
            subst e; exact Nat.le_refl _
  | succ n ih =>
    rcases Nat.lt_or_ge m (n + 1) with h1 | h1
    · have := ih (by omega)
      rw [tz_ct_s]; omega
    · have e : m = n + 1 := by omega
      subst e; exact Nat.le_refl _
theorem tz_nth_eq (p : Nat → Bool) : ∀ {n i : Nat}, i < n → p i = true → tz_nth p n (tz_ct p i) = i := by
  intro n
  induction n with
  | zero => intro i h; omega
  | succ n ih =>
    intro i h hp
    unfold tz_nth
    by_cases e : i = n
    · subst e; rw [if_pos ⟨hp, rfl⟩]
    · rw [if_neg, ih (by omega) hp]
      intro z
      have h1 := tz_ct_y hp
      have h2 := tz_ct_mono p (m := i + 1) (n := n) (by omega)
      omega
theorem tz_nth_s (p : Nat → Bool) {n k : Nat} (h : k < tz_ct p n) : tz_nth p (n + 1) k = tz_nth p n k := by
  rw [tz_nth, if_neg]
  intro z; omega
theorem tz_nth_in (p : Nat → Bool) : ∀ {n k : Nat}, k < tz_ct p n → tz_nth p n k < n ∧ p (tz_nth p n k) = true ∧ tz_ct p (tz_nth p n k) = k := by
  intro n
  induction n with
  | zero => intro k h; exact absurd h (Nat.not_lt_zero k)
  | succ n ih =>
    intro k h
    rcases Nat.lt_or_ge k (tz_ct p n) with h1 | h1
    · rw [tz_nth_s p h1]
      obtain ⟨a, b, c⟩ := ih h1
      exact ⟨by omega, b, c⟩
    · rw [tz_ct_s] at h
      cases hp : p n with
      | false => rw [hp] at h; simp at h; omega
      | true =>
        rw [hp] at h; simp at h
        rw [tz_nth, if_pos ⟨hp, by omega⟩]
        exact ⟨by omega, hp, by omega⟩
theorem tz_tp0 {n : Nat} {g : Nat → Int32} : tz_ct (tz_tp n g) 1 = 0 := by
  rw [tz_ct_s]
  have h : ¬ tz_turn n g (nI 0) := fun z => z.1 tz_at_m1
  simp only [tz_ct, tz_tp, decide_eq_true_eq, if_neg h]


theorem tz_find_step {p : Nat → Bool} {x i : Nat} {t : Nat → Int32} (hx : x = tz_ct p i) (ht : ∀ k, k < x → t k = nI (tz_nth p i k)) (hp : p i = true) : ∀ k, k < x + 1 → upd t x (nI i) k = nI (tz_nth p (i + 1) k) := by
  intro k hk
  rcases Nat.lt_or_ge k x with h | h
  · rw [tz_nth_s p (by omega), pk_un (by omega)]; exact ht k h
  · have e : k = x := by omega
    subst e
    rw [pk_us, hx, tz_nth_eq p (by omega) hp]
theorem tz_tp_last {n : Nat} {g : Nat → Int32} : ∀ i, 1 ≤ i → (n ≤ i ∧ (i ≤ n ∨ i = 1)) → tz_ct (tz_tp n g) i = tz_ct (tz_tp n g) n := by
  intro i h1 h2
  rcases Nat.lt_or_ge n i with h3 | h3
  · have e : i = 1 := by omega
    have e2 : n = 0 := by omega
    subst e; subst e2
    exact tz_tp0
  · have e : n = i := by omega
    rw [e]
theorem tz_nth_last {n k : Nat} {g : Nat → Int32} : ∀ i, 1 ≤ i → (n ≤ i ∧ (i ≤ n ∨ i = 1)) → k < tz_ct (tz_tp n g) i → tz_nth (tz_tp n g) i k = tz_nth (tz_tp n g) n k := by
  intro i h1 h2 h4
  rcases Nat.lt_or_ge n i with h3 | h3
  · have e : i = 1 := by omega
    subst e
    rw [tz_tp0] at h4; omega
  · have e : n = i := by omega
    rw [e]

abbrev rm_U_find : Room := { frames := 2, cells := 0, slots := 0, locals := 42 }
set_option maxHeartbeats 4000000 in
set_option maxRecDepth 100000 in
theorem ct_U_find {l : Launch} {A : Nat → Prop} {D : va_G} {cs : Nat → ClassId} {sz : Nat} {f : tz_PH} {u tn a n : Nat} {tg g : Nat → Int32} (hU : tz_Tu cs f u tn tg) (hR : tz_Row cs f a n g) (hn : n ≤ 120) (hab : a + 2 ≤ u ∨ u + 2 ≤ a) : tz_CN l tyU_find prog_11_method_2_code 3 (none) rm_U_find 0 0 A D cs sz [.ref u, .ref a] f (none) (fun f' => ∃ tg' : Nat → Int32, tz_Tu cs f' u (tz_ct (tz_tp n g) n) tg' ∧ (∀ k, k < tz_ct (tz_tp n g) n → tg' k = nI (tz_nth (tz_tp n g) n k)) ∧ ∀ q, (q < u ∨ u + 2 ≤ q) → f' q = f q) := by
  refine tz_C.ofB (lv0 := [(0, .ref u), (1, .ref a)]) (plainFor_of_name (by decide)) (Nat.le_of_ble_eq_true rfl) rfl ?_
  intro p_ e_ s_ m_ ar_ be_ me_ c_ Q_ C_ hr_ hk_ hnm_ hz_ hQ_
  refine tz_aload_n C_ 0 rfl rfl td_U_find_0 ?_
  refine tz_iconst C_ (v := 0) (by decide) td_U_find_1 ?_
  refine tz_wput C_ tci_U 1 (by decide) tw_191 rfl hU.1 (Nat.le_of_ble_eq_true rfl) ⟨rfl, rfl⟩ (fs' := [.ref (u + 1), .int 0]) rfl td_U_find_2 (fun f1 hs1 hq1 => ?_)
  refine tz_iconst C_ (v := 1) (by decide) td_U_find_5 ?_
  refine tz_istore_n C_ (lv' := [(0, .ref u), (1, .ref a), (2, .int 1)]) [1, 2, 0] rfl (by decide) rfl td_U_find_6 ?_
  have k2 : f1 (u + 1) = some (tz_ints cs 120 tg) := ((hq1 _ (by omega)).trans hU.2)
  have k3 : f1 a = some (tz_obj 5 [.ref (a + 1), .int (nI n)]) := ((hq1 _ (by omega)).trans hR.1)
  have k4 : f1 (a + 1) = some (tz_ints cs 120 g) := ((hq1 _ (by omega)).trans hR.2)
  have loop7 : ∀ (kk7 : Nat) (x : Nat) (tg2 : Nat → Int32) (i : Nat) (f7 : tz_PH), (tz_Tu cs f7 u x tg2) → (tz_Row cs f7 a n g) → (∀ q, (q < u ∨ u + 2 ≤ q) → f7 q = f q) → (1 ≤ i ∧ (i ≤ n ∨ i = 1)) → (x = tz_ct (tz_tp n g) i) → (∀ k, k < x → tg2 k = nI (tz_nth (tz_tp n g) i k)) → (n - i) < kk7 → tz_V p_ l e_ rm_U_find s_ m_ ar_ be_ me_ c_ Q_ A D 3 f7 sz 0 0 7 [(0, .ref u), (1, .ref a), (2, .int (nI i))] [] := by
    intro kk7
    induction kk7 with
    | zero => intro x tg2 i f7 hU2 hR2 hfr hi hx ht hm7; omega
    | succ kk7 ih7 =>
      intro x tg2 i f7 hU2 hR2 hfr hi hx ht hm7
      have hfrx : ∀ q, (q < u ∨ u + 2 ≤ q) → f7 q = f q := hfr
      have hxi := tz_ct_le (tz_tp n g) i
      refine tz_iload_n C_ 2 rfl rfl td_U_find_7 ?_
      refine tz_aload_n C_ 1 rfl rfl td_U_find_8 ?_
      refine tz_rV C_ tmi_R_length tw_308 tw_309 tw_366 hR2.1 rfl (As := []) (by exact (ct_R_length (n := n) (g := g) ⟨hR2.1, hR2.2⟩)) rfl (rest := [.int (nI i)]) rfl (by decide) (Nat.le_of_ble_eq_true rfl) td_U_find_9 (st1 := [.int (nI n), .int (nI i)]) rfl ?_
      refine tz_icmp_ge C_ td_U_find_12 (fun h12 => ?_) (fun h12 => ?_)
      · skip
        replace h12 := (nI_leI (a := n) (b := i) (by omega) (by omega)).mp h12
        refine tz_rvret C_ hr_ hk_ hQ_ rfl td_U_find_61 ?_
        have hx2 : x = tz_ct (tz_tp n g) n := by rw [hx]; exact tz_tp_last i hi.1 (by omega)
        have ht2 : ∀ k, k < x → tg2 k = nI (tz_nth (tz_tp n g) n k) := fun k hk => by rw [ht k hk]; exact congrArg nI (tz_nth_last i hi.1 (by omega) (by omega))
        rw [← hx2]
        exact ⟨rfl, tg2, hU2, ht2, hfr⟩
      · skip
        replace h12 := mt (nI_leI (a := n) (b := i) (by omega) (by omega)).mpr h12
        refine tz_aload_n C_ 1 rfl rfl td_U_find_15 ?_
        refine tz_iload_n C_ 2 rfl rfl td_U_find_16 ?_
        refine tz_rV C_ tmi_R_isTurn tw_368 tw_369 tw_367 hR2.1 rfl (As := [.int (nI i)]) (by exact (ct_R_isTurn (n := n) (g := g) ⟨hR2.1, hR2.2⟩ (by omega))) rfl (rest := []) rfl (by decide) (Nat.le_of_ble_eq_true rfl) td_U_find_17 (st1 := [.int (tz_p (tz_turn n g (nI i)))]) rfl ?_
        refine tz_if_eq C_ td_U_find_20 (fun h20 => ?_) (fun h20 => ?_)
        · skip
          replace h20 := tz_p0.mp h20
          refine tz_iinc C_ (k := 1) (v := nI (i + 1)) (lv' := [(0, .ref u), (1, .ref a), (2, .int (nI (i + 1)))]) 2 rfl (nI_1 i) [1, 2, 0] (by decide) rfl td_U_find_55 ?_
          refine tz_goto C_ td_U_find_58 ?_
          exact ih7 x tg2 (i + 1) f7 (⟨hU2.1, hU2.2⟩) (⟨hR2.1, hR2.2⟩) (fun q hh => by rw [hfr q (by omega)]) (⟨by omega, by omega⟩) (by rw [tz_ct_n (by simp only [tz_tp, decide_eq_false_iff_not]; exact h20), hx]) (fun k hk => by rw [tz_nth_s _ (by omega)]; exact ht k hk) (by omega)
        · skip
          replace h20 := tz_p1.mp h20
          refine tz_aload_n C_ 0 rfl rfl td_U_find_23 ?_
          refine tz_get C_ tci_U 1 (by decide) tw_191 hU2.1 rfl td_U_find_24 ?_
          refine tz_aload_n C_ 0 rfl rfl td_U_find_27 ?_
          refine tz_get C_ tci_U 0 (by decide) tw_190 hU2.1 rfl td_U_find_28 ?_
          refine tz_alenI C_ hU2.2 (v := 120) (by decide) td_U_find_31 ?_
          refine tz_icmp_ge C_ td_U_find_32 (fun h32 => ?_) (fun h32 => ?_)
          · skip
            replace h32 := (nI_leI (a := 120) (b := x) (by omega) (by omega)).mp h32
            omega
          · skip
            replace h32 := mt (nI_leI (a := 120) (b := x) (by omega) (by omega)).mpr h32
            refine tz_aload_n C_ 0 rfl rfl td_U_find_35 ?_
            refine tz_get C_ tci_U 0 (by decide) tw_190 hU2.1 rfl td_U_find_36 ?_
            refine tz_aload_n C_ 0 rfl rfl td_U_find_39 ?_
            refine tz_get C_ tci_U 1 (by decide) tw_191 hU2.1 rfl td_U_find_40 ?_
            refine tz_iload_n C_ 2 rfl rfl td_U_find_43 ?_
            refine tz_wiastN C_ hU2.2 (by omega) (by decide) (g' := upd tg2 x (nI i)) rfl td_U_find_44 (fun f5 hs5 hq5 => ?_)
            refine tz_aload_n C_ 0 rfl rfl td_U_find_45 ?_
            refine tz_dup C_ rfl td_U_find_46 ?_
            have k6 : f5 u = some (tz_obj 9 [.ref (u + 1), .int (nI x)]) := ((hq5 _ (by omega)).trans hU2.1)
            refine tz_get C_ tci_U 1 (by decide) tw_191 k6 rfl td_U_find_47 ?_
            refine tz_iconst C_ (v := 1) (by decide) td_U_find_50 ?_
            refine tz_iadd C_ td_U_find_51 ?_
            refine tz_wput C_ tci_U 1 (by decide) tw_191 rfl k6 (Nat.le_of_ble_eq_true rfl) ⟨rfl, rfl⟩ (fs' := [.ref (u + 1), .int ((nI x) + 1)]) rfl td_U_find_52 (fun f7 hs7 hq7 => ?_)
            refine tz_iinc C_ (k := 1) (v := nI (i + 1)) (lv' := [(0, .ref u), (1, .ref a), (2, .int (nI (i + 1)))]) 2 rfl (nI_1 i) [1, 2, 0] (by decide) rfl td_U_find_55 ?_
            refine tz_goto C_ td_U_find_58 ?_
            have k8 : f7 (u + 1) = some (tz_ints cs 120 (upd tg2 x (nI i))) := ((hq7 _ (by omega)).trans hs5)
            have k9 : f7 a = some (tz_obj 5 [.ref (a + 1), .int (nI n)]) := ((hq7 _ (by omega)).trans ((hq5 _ (by omega)).trans hR2.1))
            have k10 : f7 (a + 1) = some (tz_ints cs 120 g) := ((hq7 _ (by omega)).trans ((hq5 _ (by omega)).trans hR2.2))
            exact ih7 (x + 1) (upd tg2 x (nI i)) (i + 1) f7 (⟨by rw [← nI_1]; exact hs7, k8⟩) (⟨k9, k10⟩) (fun q hh => by rw [hq7 q (by omega), hq5 q (by omega), hfr q (by omega)]) (⟨by omega, by omega⟩) (by rw [tz_ct_y (by simp [tz_tp, h20]), hx]) (fun k hk => tz_find_step hx ht (by simp [tz_tp, h20]) k hk) (by omega)
  exact loop7 _ 0 tg 1 f1 (⟨hs1, k2⟩) (⟨k3, k4⟩) (fun q hh => by rw [hq1 q (by omega)]) (⟨by omega, by omega⟩) tz_tp0.symm (fun k hk => absurd hk (Nat.not_lt_zero k)) (Nat.lt_succ_self _)

abbrev rm_U_found : Room := { frames := 0, cells := 0, slots := 0, locals := 0 }
set_option maxHeartbeats 4000000 in
set_option maxRecDepth 100000 in
theorem ct_U_found {l : Launch} {A : Nat → Prop} {D : va_G} {cs : Nat → ClassId} {sz : Nat} {f : tz_PH} {u tn : Nat} {tg : Nat → Int32} (hU : tz_Tu cs f u tn tg) : tz_CN l tyU_found prog_11_method_3_code 1 (some (.int)) rm_U_found 0 0 A D cs sz [.ref u] f (some (.int (nI tn))) (fun f' => f' = f) := by
  refine tz_C.ofB (lv0 := [(0, .ref u)]) (plainFor_of_name (by decide)) (Nat.le_of_ble_eq_true rfl) rfl ?_
  intro p_ e_ s_ m_ ar_ be_ me_ c_ Q_ C_ hr_ hk_ hnm_ hz_ hQ_
  refine tz_aload_n C_ 0 rfl rfl td_U_found_0 ?_
  refine tz_get C_ tci_U 1 (by decide) tw_191 hU.1 rfl td_U_found_1 ?_
  refine tz_riret C_ hr_ hk_ hQ_ rfl td_U_found_4 ?_
  exact ⟨rfl, rfl⟩

def tz_pl (n : Nat) (g : Nat → Int32) (i : Int32) : Int32 := if 0 ≤ i ∧ i < nI n then g i.toNatClampNeg else tz_NO

abbrev rm_U_placeAt : Room := { frames := 0, cells := 0, slots := 0, locals := 0 }
set_option maxHeartbeats 4000000 in
set_option maxRecDepth 100000 in
theorem ct_U_placeAt {l : Launch} {A : Nat → Prop} {D : va_G} {cs : Nat → ClassId} {sz : Nat} {f : tz_PH} {u tn : Nat} {tg : Nat → Int32} (hU : tz_Tu cs f u tn tg) (hn : tn ≤ 120) {i : Int32} : tz_CN l tyU_placeAt prog_11_method_4_code 2 (some (.int)) rm_U_placeAt 0 0 A D cs sz [.ref u, .int i] f (some (.int (tz_pl tn tg i))) (fun f' => f' = f) := by
  refine tz_C.ofB (lv0 := [(0, .ref u), (1, .int i)]) (plainFor_of_name (by decide)) (Nat.le_of_ble_eq_true rfl) rfl ?_
  intro p_ e_ s_ m_ ar_ be_ me_ c_ Q_ C_ hr_ hk_ hnm_ hz_ hQ_
  refine tz_iload_n C_ 1 rfl rfl td_U_placeAt_0 ?_
  refine tz_if_lt C_ td_U_placeAt_1 (fun h1 => ?_) (fun h1 => ?_)
  · skip
    refine tz_ldc C_ tw_391 td_U_placeAt_30 ?_
    refine tz_riret C_ hr_ hk_ hQ_ rfl td_U_placeAt_32 ?_
    exact ⟨tz_ri (by grind [tz_pl]), rfl⟩
  · skip
    refine tz_iload_n C_ 1 rfl rfl td_U_placeAt_4 ?_
    refine tz_aload_n C_ 0 rfl rfl td_U_placeAt_5 ?_
    refine tz_get C_ tci_U 1 (by decide) tw_191 hU.1 rfl td_U_placeAt_6 ?_
    refine tz_icmp_ge C_ td_U_placeAt_9 (fun h9 => ?_) (fun h9 => ?_)
    · skip
      refine tz_ldc C_ tw_391 td_U_placeAt_30 ?_
      refine tz_riret C_ hr_ hk_ hQ_ rfl td_U_placeAt_32 ?_
      exact ⟨tz_ri (by grind [tz_pl]), rfl⟩
    · skip
      refine tz_iload_n C_ 1 rfl rfl td_U_placeAt_12 ?_
      refine tz_aload_n C_ 0 rfl rfl td_U_placeAt_13 ?_
      refine tz_get C_ tci_U 0 (by decide) tw_190 hU.1 rfl td_U_placeAt_14 ?_
      refine tz_alenI C_ hU.2 (v := 120) (by decide) td_U_placeAt_17 ?_
      refine tz_icmp_ge C_ td_U_placeAt_18 (fun h18 => ?_) (fun h18 => ?_)
      · skip
        exact absurd (tz_lt120 hn (tz_nle_lt h9)) (Int32.not_lt.mpr h18)
      · skip
        refine tz_aload_n C_ 0 rfl rfl td_U_placeAt_21 ?_
        refine tz_get C_ tci_U 0 (by decide) tw_190 hU.1 rfl td_U_placeAt_22 ?_
        refine tz_iload_n C_ 1 rfl rfl td_U_placeAt_25 ?_
        refine tz_iald C_ hU.2 (tz_inI h1 (tz_lt_nI120 (tz_lt120 hn (tz_nle_lt h9))) (by decide)) td_U_placeAt_26 ?_
        refine tz_goto C_ td_U_placeAt_27 ?_
        refine tz_riret C_ hr_ hk_ hQ_ rfl td_U_placeAt_32 ?_
        exact ⟨tz_ri (by grind [tz_pl]), rfl⟩

def tz_lat (n : Nat) (g : Nat → Int32) (x : Int32) : Nat → Int32 → Int32
  | 0, r => r
  | k + 1, r => if x < tz_pl n g (nI (n - (k + 1))) then r else tz_lat n g x k (nI (n - (k + 1)))


theorem tz_lat_s {n i : Nat} {g : Nat → Int32} {v x : Int32} (hi : i < n) (h : ¬ v < tz_pl n g (nI i)) : tz_lat n g v (n - i) x = tz_lat n g v (n - (i + 1)) (nI i) := by
  have e : n - i = (n - (i + 1)) + 1 := by omega
  have e2 : n - (n - (i + 1) + 1) = i := by omega
  rw [e, tz_lat, e2, if_neg h]
theorem tz_lat_x {n i : Nat} {g : Nat → Int32} {v x : Int32} (hi : i < n) (h : v < tz_pl n g (nI i)) : tz_lat n g v (n - i) x = x := by
  have e : n - i = (n - (i + 1)) + 1 := by omega
  have e2 : n - (n - (i + 1) + 1) = i := by omega
  rw [e, tz_lat, e2, if_pos h]
theorem tz_lat_e {n i : Nat} {g : Nat → Int32} {v x : Int32} (hi : n ≤ i) : tz_lat n g v (n - i) x = x := by
  have e : n - i = 0 := by omega
  rw [e, tz_lat]

abbrev rm_U_latestUpTo : Room := { frames := 1, cells := 0, slots := 0, locals := 21 }
set_option maxHeartbeats 4000000 in
set_option maxRecDepth 100000 in
theorem ct_U_latestUpTo {l : Launch} {A : Nat → Prop} {D : va_G} {cs : Nat → ClassId} {sz : Nat} {f : tz_PH} {u tn : Nat} {tg : Nat → Int32} (hU : tz_Tu cs f u tn tg) (hn : tn ≤ 120) {v : Int32} : tz_CN l tyU_latestUpTo prog_11_method_5_code 4 (some (.int)) rm_U_latestUpTo 0 0 A D cs sz [.ref u, .int v] f (some (.int (tz_lat tn tg v tn (-1)))) (fun f' => f' = f) := by
  refine tz_C.ofB (lv0 := [(0, .ref u), (1, .int v)]) (plainFor_of_name (by decide)) (Nat.le_of_ble_eq_true rfl) rfl ?_
  intro p_ e_ s_ m_ ar_ be_ me_ c_ Q_ C_ hr_ hk_ hnm_ hz_ hQ_
  refine tz_iconst C_ (v := -1) (by decide) td_U_latestUpTo_0 ?_
  refine tz_istore_n C_ (lv' := [(0, .ref u), (1, .int v), (2, .int (-1))]) [1, 2, 0] rfl (by decide) rfl td_U_latestUpTo_1 ?_
  refine tz_iconst C_ (v := 0) (by decide) td_U_latestUpTo_2 ?_
  refine tz_istore_n C_ (lv' := [(0, .ref u), (1, .int v), (2, .int (-1)), (3, .int 0)]) [1, 2, 3, 0] rfl (by decide) rfl td_U_latestUpTo_3 ?_
  have loop4 : ∀ (kk4 : Nat) (x : Int32) (i : Nat), (i ≤ tn) → (tz_lat tn tg v (tn - i) x = tz_lat tn tg v tn (-1)) → (tn - i) < kk4 → tz_V p_ l e_ rm_U_latestUpTo s_ m_ ar_ be_ me_ c_ Q_ A D 4 f sz 0 0 4 [(0, .ref u), (1, .int v), (2, .int x), (3, .int (nI i))] [] := by
    intro kk4
    induction kk4 with
    | zero => intro x i hi hc hm4; omega
    | succ kk4 ih4 =>
      intro x i hi hc hm4
      refine tz_iload_n C_ 3 rfl rfl td_U_latestUpTo_4 ?_
      refine tz_aload_n C_ 0 rfl rfl td_U_latestUpTo_5 ?_
      refine tz_get C_ tci_U 1 (by decide) tw_191 hU.1 rfl td_U_latestUpTo_6 ?_
      refine tz_icmp_ge C_ td_U_latestUpTo_9 (fun h9 => ?_) (fun h9 => ?_)
      · skip
        replace h9 := (nI_leI (a := tn) (b := i) (by omega) (by omega)).mp h9
        refine tz_iload_n C_ 2 rfl rfl td_U_latestUpTo_29 ?_
        refine tz_riret C_ hr_ hk_ hQ_ rfl td_U_latestUpTo_30 ?_
        refine ⟨tz_ri ?_, rfl⟩
        rw [← hc]
        exact (tz_lat_e (by omega)).symm
      · skip
        replace h9 := mt (nI_leI (a := tn) (b := i) (by omega) (by omega)).mpr h9
        refine tz_aload_n C_ 0 rfl rfl td_U_latestUpTo_12 ?_
        refine tz_iload_n C_ 3 rfl rfl td_U_latestUpTo_13 ?_
        refine tz_rV C_ tmi_U_placeAt tw_388 tw_389 tw_639 hU.1 rfl (As := [.int (nI i)]) (by exact (ct_U_placeAt (tn := tn) (tg := tg) ⟨hU.1, hU.2⟩ (by omega))) rfl (rest := []) rfl (by decide) (Nat.le_of_ble_eq_true rfl) td_U_latestUpTo_14 (st1 := [.int (tz_pl tn tg (nI i))]) rfl ?_
        refine tz_iload_n C_ 1 rfl rfl td_U_latestUpTo_17 ?_
        refine tz_icmp_gt C_ td_U_latestUpTo_18 (fun h18 => ?_) (fun h18 => ?_)
        · skip
          refine tz_iload_n C_ 2 rfl rfl td_U_latestUpTo_29 ?_
          refine tz_riret C_ hr_ hk_ hQ_ rfl td_U_latestUpTo_30 ?_
          refine ⟨tz_ri ?_, rfl⟩
          rw [← hc]
          exact (tz_lat_x (by omega) h18).symm
        · skip
          refine tz_iload_n C_ 3 rfl rfl td_U_latestUpTo_21 ?_
          refine tz_istore_n C_ (lv' := [(0, .ref u), (1, .int v), (2, .int (nI i)), (3, .int (nI i))]) [1, 2, 0, 3] rfl (by decide) rfl td_U_latestUpTo_22 ?_
          refine tz_iinc C_ (k := 1) (v := nI (i + 1)) (lv' := [(0, .ref u), (1, .int v), (2, .int (nI i)), (3, .int (nI (i + 1)))]) 3 rfl (nI_1 i) [1, 2, 3, 0] (by decide) rfl td_U_latestUpTo_23 ?_
          refine tz_goto C_ td_U_latestUpTo_26 ?_
          exact ih4 (nI i) (i + 1) (by omega) (by rw [← hc]; exact (tz_lat_s (by omega) h18).symm) (by omega)
  exact loop4 _ (-1) 0 (Nat.zero_le _) rfl (Nat.lt_succ_self _)
end
section

def tz_Al (f : tz_PH) (a : Nat) (s : Int32) (k : Nat) : Prop := f a = some (tz_obj 0 [.int s, .int (nI k)])
abbrev tz_dc (g : Nat → Int32) (n2 : Nat) (g2 : Nat → Int32) (d : Int32) (k : Nat) : Prop := ¬ g k = tz_LO ∧ ¬ tz_at n2 g2 (nI k + d) = tz_LO
def tz_ds (g : Nat → Int32) (n2 : Nat) (g2 : Nat → Int32) (d : Int32) : Nat → Int32
  | 0 => 0
  | k + 1 => if tz_dc g n2 g2 d k then tz_ds g n2 g2 d k + tz_ab (g k - tz_at n2 g2 (nI k + d)) else tz_ds g n2 g2 d k
def tz_dn (g : Nat → Int32) (n2 : Nat) (g2 : Nat → Int32) (d : Int32) (n : Nat) : Nat := tz_ct (fun k => decide (tz_dc g n2 g2 d k)) n

abbrev rm_A_sum : Room := { frames := 0, cells := 0, slots := 0, locals := 0 }
set_option maxHeartbeats 4000000 in
set_option maxRecDepth 100000 in
theorem ct_A_sum {l : Launch} {A : Nat → Prop} {D : va_G} {cs : Nat → ClassId} {sz : Nat} {f : tz_PH} {u x : Nat} {z : Int32} (hU : tz_Al f u z x) : tz_CN l tyA_sum prog_2_method_2_code 1 (some (.int)) rm_A_sum 0 0 A D cs sz [.ref u] f (some (.int z)) (fun f' => f' = f) := by
  refine tz_C.ofB (lv0 := [(0, .ref u)]) (plainFor_of_name (by decide)) (Nat.le_of_ble_eq_true rfl) rfl ?_
  intro p_ e_ s_ m_ ar_ be_ me_ c_ Q_ C_ hr_ hk_ hnm_ hz_ hQ_
  refine tz_aload_n C_ 0 rfl rfl td_A_sum_0 ?_
  refine tz_get C_ tci_A 0 (by decide) tw_203 hU rfl td_A_sum_1 ?_
  refine tz_riret C_ hr_ hk_ hQ_ rfl td_A_sum_4 ?_
  exact ⟨rfl, rfl⟩

abbrev rm_A_places : Room := { frames := 0, cells := 0, slots := 0, locals := 0 }
set_option maxHeartbeats 4000000 in
set_option maxRecDepth 100000 in
theorem ct_A_places {l : Launch} {A : Nat → Prop} {D : va_G} {cs : Nat → ClassId} {sz : Nat} {f : tz_PH} {u x : Nat} {z : Int32} (hU : tz_Al f u z x) : tz_CN l tyA_places prog_2_method_3_code 1 (some (.int)) rm_A_places 0 0 A D cs sz [.ref u] f (some (.int (nI x))) (fun f' => f' = f) := by
  refine tz_C.ofB (lv0 := [(0, .ref u)]) (plainFor_of_name (by decide)) (Nat.le_of_ble_eq_true rfl) rfl ?_
  intro p_ e_ s_ m_ ar_ be_ me_ c_ Q_ C_ hr_ hk_ hnm_ hz_ hQ_
  refine tz_aload_n C_ 0 rfl rfl td_A_places_0 ?_
  refine tz_get C_ tci_A 1 (by decide) tw_204 hU rfl td_A_places_1 ?_
  refine tz_riret C_ hr_ hk_ hQ_ rfl td_A_places_4 ?_
  exact ⟨rfl, rfl⟩

abbrev rm_A_compare : Room := { frames := 1, cells := 0, slots := 0, locals := 21 }
set_option maxHeartbeats 4000000 in
set_option maxRecDepth 100000 in
theorem ct_A_compare {l : Launch} {A : Nat → Prop} {D : va_G} {cs : Nat → ClassId} {sz : Nat} {f : tz_PH} {u x a n b n2 : Nat} {z d : Int32} {g g2 : Nat → Int32} (hU : tz_Al f u z x) (hR : tz_Row cs f a n g) (hn : n ≤ 120) (hR2 : tz_Row cs f b n2 g2) (hn2 : n2 ≤ 120) (hab : (u < a ∨ a + 2 ≤ u) ∧ (u < b ∨ b + 2 ≤ u)) : tz_CN l tyA_compare prog_2_method_4_code 7 (none) rm_A_compare 0 0 A D cs sz [.ref u, .ref a, .ref b, .int d] f (none) (fun f' => tz_Al f' u (tz_ds g n2 g2 d n) (tz_dn g n2 g2 d n) ∧ ∀ q, q ≠ u → f' q = f q) := by
  refine tz_C.ofB (lv0 := [(0, .ref u), (1, .ref a), (2, .ref b), (3, .int d)]) (plainFor_of_name (by decide)) (Nat.le_of_ble_eq_true rfl) rfl ?_
  intro p_ e_ s_ m_ ar_ be_ me_ c_ Q_ C_ hr_ hk_ hnm_ hz_ hQ_
  refine tz_aload_n C_ 0 rfl rfl td_A_compare_0 ?_
  refine tz_iconst C_ (v := 0) (by decide) td_A_compare_1 ?_
  refine tz_wput C_ tci_A 0 (by decide) tw_203 rfl hU (Nat.le_of_ble_eq_true rfl) ⟨rfl, rfl⟩ (fs' := [.int 0, .int (nI x)]) rfl td_A_compare_2 (fun f1 hs1 hq1 => ?_)
  refine tz_aload_n C_ 0 rfl rfl td_A_compare_5 ?_
  refine tz_iconst C_ (v := 0) (by decide) td_A_compare_6 ?_
  refine tz_wput C_ tci_A 1 (by decide) tw_204 rfl hs1 (Nat.le_of_ble_eq_true rfl) ⟨rfl, rfl⟩ (fs' := [.int 0, .int 0]) rfl td_A_compare_7 (fun f2 hs2 hq2 => ?_)
  refine tz_iconst C_ (v := 0) (by decide) td_A_compare_10 ?_
  refine tz_istore C_ (lv' := [(0, .ref u), (1, .ref a), (2, .ref b), (3, .int d), (4, .int 0)]) [1, 2, 3, 4, 0] (by decide) rfl td_A_compare_11 ?_
  have k3 : f2 a = some (tz_obj 5 [.ref (a + 1), .int (nI n)]) := ((hq2 _ (by omega)).trans ((hq1 _ (by omega)).trans hR.1))
  have k4 : f2 (a + 1) = some (tz_ints cs 120 g) := ((hq2 _ (by omega)).trans ((hq1 _ (by omega)).trans hR.2))
  have k5 : f2 b = some (tz_obj 5 [.ref (b + 1), .int (nI n2)]) := ((hq2 _ (by omega)).trans ((hq1 _ (by omega)).trans hR2.1))
  have k6 : f2 (b + 1) = some (tz_ints cs 120 g2) := ((hq2 _ (by omega)).trans ((hq1 _ (by omega)).trans hR2.2))
  have loop13 : ∀ (kk13 : Nat) (z1 : Int32) (x1 : Nat) (i : Nat) (f13 : tz_PH), (tz_Al f13 u z1 x1) → (tz_Row cs f13 a n g) → (tz_Row cs f13 b n2 g2) → (∀ q, q ≠ u → f13 q = f q) → (i ≤ n) → (z1 = tz_ds g n2 g2 d i) → (x1 = tz_dn g n2 g2 d i) → (n - i) < kk13 → tz_V p_ l e_ rm_A_compare s_ m_ ar_ be_ me_ c_ Q_ A D 7 f13 sz 0 0 13 [(0, .ref u), (1, .ref a), (2, .ref b), (3, .int d), (4, .int (nI i))] [] := by
    intro kk13
    induction kk13 with
    | zero => intro z1 x1 i f13 hU1 hR1 hR3 hfr hi hz hx hm13; omega
    | succ kk13 ih13 =>
      intro z1 x1 i f13 hU1 hR1 hR3 hfr hi hz hx hm13
      have hfrx : ∀ q, q ≠ u → f13 q = f q := hfr
      refine tz_iload C_ 4 rfl td_A_compare_13 ?_
      refine tz_aload_n C_ 1 rfl rfl td_A_compare_15 ?_
      refine tz_rV C_ tmi_R_length tw_308 tw_309 tw_601 hR1.1 rfl (As := []) (by exact (ct_R_length (n := n) (g := g) ⟨hR1.1, hR1.2⟩)) rfl (rest := [.int (nI i)]) rfl (by decide) (Nat.le_of_ble_eq_true rfl) td_A_compare_16 (st1 := [.int (nI n), .int (nI i)]) rfl ?_
      refine tz_icmp_ge C_ td_A_compare_19 (fun h19 => ?_) (fun h19 => ?_)
      · skip
        replace h19 := (nI_leI (a := n) (b := i) (by omega) (by omega)).mp h19
        refine tz_rvret C_ hr_ hk_ hQ_ rfl td_A_compare_87 ?_
        have e9 : i = n := by omega
        subst e9
        rw [← hz, ← hx]
        exact ⟨rfl, hU1, hfr⟩
      · skip
        replace h19 := mt (nI_leI (a := n) (b := i) (by omega) (by omega)).mpr h19
        refine tz_aload_n C_ 1 rfl rfl td_A_compare_22 ?_
        refine tz_iload C_ 4 rfl td_A_compare_23 ?_
        refine tz_rV C_ tmi_R_at tw_332 tw_333 tw_602 hR1.1 rfl (As := [.int (nI i)]) (by exact (ct_R_atN (n := n) (g := g) ⟨hR1.1, hR1.2⟩ (by omega) (by omega))) rfl (rest := []) rfl (by decide) (Nat.le_of_ble_eq_true rfl) td_A_compare_25 (st1 := [.int (g i)]) rfl ?_
        refine tz_istore C_ (lv' := [(0, .ref u), (1, .ref a), (2, .ref b), (3, .int d), (4, .int (nI i)), (5, .int (g i))]) [1, 2, 3, 4, 5, 0] (by decide) rfl td_A_compare_28 ?_
        refine tz_aload_n C_ 2 rfl rfl td_A_compare_30 ?_
        refine tz_iload C_ 4 rfl td_A_compare_31 ?_
        refine tz_iload_n C_ 3 rfl rfl td_A_compare_33 ?_
        refine tz_iadd C_ td_A_compare_34 ?_
        refine tz_rV C_ tmi_R_at tw_332 tw_333 tw_602 hR3.1 rfl (As := [.int ((nI i) + d)]) (by exact (ct_R_at (n := n2) (g := g2) ⟨hR3.1, hR3.2⟩ (by omega))) rfl (rest := []) rfl (by decide) (Nat.le_of_ble_eq_true rfl) td_A_compare_35 (st1 := [.int (tz_at n2 g2 ((nI i) + d))]) rfl ?_
        refine tz_istore C_ (lv' := [(0, .ref u), (1, .ref a), (2, .ref b), (3, .int d), (4, .int (nI i)), (5, .int (g i)), (6, .int (tz_at n2 g2 ((nI i) + d)))]) [1, 2, 3, 4, 5, 6, 0] (by decide) rfl td_A_compare_38 ?_
        refine tz_iload C_ 5 rfl td_A_compare_40 ?_
        refine tz_ldc C_ tw_603 td_A_compare_42 ?_
        refine tz_icmp_eq C_ td_A_compare_44 (fun h44 => ?_) (fun h44 => ?_)
        · skip
          refine tz_iinc C_ (k := 1) (v := nI (i + 1)) (lv' := [(0, .ref u), (1, .ref a), (2, .ref b), (3, .int d), (4, .int (nI (i + 1))), (5, .int (g i)), (6, .int (tz_at n2 g2 ((nI i) + d)))]) 4 rfl (nI_1 i) [1, 2, 3, 4, 0, 5, 6] (by decide) rfl td_A_compare_81 ?_
          refine tz_goto C_ td_A_compare_84 ?_
          refine tz_lvs [0, 1, 2, 3, 4] rfl ?_
          exact ih13 z1 x1 (i + 1) f13 hU1 (⟨hR1.1, hR1.2⟩) (⟨hR3.1, hR3.2⟩) (fun q hh => by rw [hfr q (by omega)]) (by omega) (by rw [tz_ds, if_neg (by grind), hz]) (by rw [tz_dn, tz_ct_n (by simp only [decide_eq_false_iff_not]; grind), hx]; rfl) (by omega)
        · skip
          refine tz_iload C_ 6 rfl td_A_compare_47 ?_
          refine tz_ldc C_ tw_603 td_A_compare_49 ?_
          refine tz_icmp_eq C_ td_A_compare_51 (fun h51 => ?_) (fun h51 => ?_)
          · skip
            refine tz_iinc C_ (k := 1) (v := nI (i + 1)) (lv' := [(0, .ref u), (1, .ref a), (2, .ref b), (3, .int d), (4, .int (nI (i + 1))), (5, .int (g i)), (6, .int (tz_at n2 g2 ((nI i) + d)))]) 4 rfl (nI_1 i) [1, 2, 3, 4, 0, 5, 6] (by decide) rfl td_A_compare_81 ?_
            refine tz_goto C_ td_A_compare_84 ?_
            refine tz_lvs [0, 1, 2, 3, 4] rfl ?_
            exact ih13 z1 x1 (i + 1) f13 hU1 (⟨hR1.1, hR1.2⟩) (⟨hR3.1, hR3.2⟩) (fun q hh => by rw [hfr q (by omega)]) (by omega) (by rw [tz_ds, if_neg (by grind), hz]) (by rw [tz_dn, tz_ct_n (by simp only [decide_eq_false_iff_not]; grind), hx]; rfl) (by omega)
          · skip
            refine tz_aload_n C_ 0 rfl rfl td_A_compare_54 ?_
            refine tz_dup C_ rfl td_A_compare_55 ?_
            refine tz_get C_ tci_A 0 (by decide) tw_203 hU1 rfl td_A_compare_56 ?_
            refine tz_iload C_ 5 rfl td_A_compare_59 ?_
            refine tz_iload C_ 6 rfl td_A_compare_61 ?_
            refine tz_isub C_ td_A_compare_63 ?_
            refine tz_rS C_ tmi_J_abs tw_605 tw_604 (As := [.int ((g i) - (tz_at n2 g2 ((nI i) + d)))]) (by exact ct_J_abs) rfl (rest := [.int z1, .ref u]) rfl (by decide) (Nat.le_of_ble_eq_true rfl) td_A_compare_64 (st1 := [.int (tz_ab ((g i) - (tz_at n2 g2 ((nI i) + d)))), .int z1, .ref u]) rfl ?_
            refine tz_iadd C_ td_A_compare_67 ?_
            refine tz_wput C_ tci_A 0 (by decide) tw_203 rfl hU1 (Nat.le_of_ble_eq_true rfl) ⟨rfl, rfl⟩ (fs' := [.int (z1 + (tz_ab ((g i) - (tz_at n2 g2 ((nI i) + d))))), .int (nI x1)]) rfl td_A_compare_68 (fun f7 hs7 hq7 => ?_)
            refine tz_aload_n C_ 0 rfl rfl td_A_compare_71 ?_
            refine tz_dup C_ rfl td_A_compare_72 ?_
            refine tz_get C_ tci_A 1 (by decide) tw_204 hs7 rfl td_A_compare_73 ?_
            refine tz_iconst C_ (v := 1) (by decide) td_A_compare_76 ?_
            refine tz_iadd C_ td_A_compare_77 ?_
            refine tz_wput C_ tci_A 1 (by decide) tw_204 rfl hs7 (Nat.le_of_ble_eq_true rfl) ⟨rfl, rfl⟩ (fs' := [.int (z1 + (tz_ab ((g i) - (tz_at n2 g2 ((nI i) + d))))), .int ((nI x1) + 1)]) rfl td_A_compare_78 (fun f8 hs8 hq8 => ?_)
            refine tz_iinc C_ (k := 1) (v := nI (i + 1)) (lv' := [(0, .ref u), (1, .ref a), (2, .ref b), (3, .int d), (4, .int (nI (i + 1))), (5, .int (g i)), (6, .int (tz_at n2 g2 ((nI i) + d)))]) 4 rfl (nI_1 i) [1, 2, 3, 4, 0, 5, 6] (by decide) rfl td_A_compare_81 ?_
            refine tz_goto C_ td_A_compare_84 ?_
            have k9 : f8 a = some (tz_obj 5 [.ref (a + 1), .int (nI n)]) := ((hq8 _ (by omega)).trans ((hq7 _ (by omega)).trans hR1.1))
            have k10 : f8 (a + 1) = some (tz_ints cs 120 g) := ((hq8 _ (by omega)).trans ((hq7 _ (by omega)).trans hR1.2))
            have k11 : f8 b = some (tz_obj 5 [.ref (b + 1), .int (nI n2)]) := ((hq8 _ (by omega)).trans ((hq7 _ (by omega)).trans hR3.1))
            have k12 : f8 (b + 1) = some (tz_ints cs 120 g2) := ((hq8 _ (by omega)).trans ((hq7 _ (by omega)).trans hR3.2))
            refine tz_lvs [0, 1, 2, 3, 4] rfl ?_
            exact ih13 (z1 + (tz_ab ((g i) - (tz_at n2 g2 ((nI i) + d))))) (x1 + 1) (i + 1) f8 (by unfold tz_Al; rw [← nI_1]; exact hs8) (⟨k9, k10⟩) (⟨k11, k12⟩) (fun q hh => by rw [hq8 q (by omega), hq7 q (by omega), hfr q (by omega)]) (by omega) (by rw [tz_ds, if_pos ⟨h44, h51⟩, hz]) (by rw [tz_dn, tz_ct_y (by simp only [decide_eq_true_eq]; exact ⟨h44, h51⟩), hx]; rfl) (by omega)
  exact loop13 _ 0 0 0 f2 hs2 (⟨k3, k4⟩) (⟨k5, k6⟩) (fun q hh => by rw [hq2 q (by omega), hq1 q (by omega)]) (Nat.zero_le _) rfl rfl (Nat.lt_succ_self _)


def tz_sd (x : Int32) : Int32 := if x - x / 2 * 2 = 0 then x / 2 else -(x + 1) / 2
/-- (best, its sum, its places) behind the first t steps -/
def tz_sh (g : Nat → Int32) (n n2 : Nat) (g2 : Nat → Int32) : Nat → Int32 × Int64 × Int64
  | 0 => (tz_NO, 0, 1)
  | t + 1 =>
    let r := tz_sh g n n2 g2 t
    let d := tz_sd (nI t)
    if 4 ≤ tz_dn g n2 g2 d n ∧ (r.1 = tz_NO ∨ (tz_ds g n2 g2 d n).toInt64 * r.2.2 < r.2.1 * (nI (tz_dn g n2 g2 d n)).toInt64) then (d, (tz_ds g n2 g2 d n).toInt64, (nI (tz_dn g n2 g2 d n)).toInt64) else r
theorem tz_dn_le {g g2 : Nat → Int32} {n2 n : Nat} {d : Int32} : tz_dn g n2 g2 d n ≤ n := tz_ct_le _ _
theorem tz_sd_e {x : Int32} (h : x - x / 2 * 2 = 0) : tz_sd x = x / 2 := by rw [tz_sd, if_pos h]
theorem tz_sd_o {x : Int32} (h : ¬ x - x / 2 * 2 = 0) : tz_sd x = -(x + 1) / 2 := by rw [tz_sd, if_neg h]

abbrev rm_A_shift : Room := { frames := 2, cells := 0, slots := 0, locals := 47 }
set_option maxHeartbeats 4000000 in
set_option maxRecDepth 100000 in
theorem ct_A_shift {l : Launch} {A : Nat → Prop} {D : va_G} {cs : Nat → ClassId} {sz : Nat} {f : tz_PH} {u x a n b n2 w : Nat} {z : Int32} {g g2 : Nat → Int32} (hU : tz_Al f u z x) (hR : tz_Row cs f a n g) (hn : n ≤ 120) (hR2 : tz_Row cs f b n2 g2) (hn2 : n2 ≤ 120) (hab : (u < a ∨ a + 2 ≤ u) ∧ (u < b ∨ b + 2 ≤ u)) (hw : w ≤ 9) : tz_CN l tyA_shift prog_2_method_5_code 11 (some (.int)) rm_A_shift 0 0 A D cs sz [.ref u, .ref a, .ref b, .int (nI w)] f (some (.int (tz_sh g n n2 g2 (2 * w + 1)).1)) (fun f' => ∃ (z' : Int32) (x' : Nat), tz_Al f' u z' x' ∧ ∀ q, q ≠ u → f' q = f q) := by
  refine tz_C.ofB (lv0 := [(0, .ref u), (1, .ref a), (2, .ref b), (3, .int (nI w))]) (plainFor_of_name (by decide)) (Nat.le_of_ble_eq_true rfl) rfl ?_
  intro p_ e_ s_ m_ ar_ be_ me_ c_ Q_ C_ hr_ hk_ hnm_ hz_ hQ_
  have e2w : (2 : Int32) * nI w = nI (2 * w) := pk_mul 2 w
  refine tz_ldc C_ tw_596 td_A_shift_0 ?_
  refine tz_istore C_ (lv' := [(0, .ref u), (1, .ref a), (2, .ref b), (3, .int (nI w)), (4, .int (-100006))]) [1, 2, 3, 4, 0] (by decide) rfl td_A_shift_2 ?_
  refine tz_lconst C_ (v := 0) (by decide) td_A_shift_4 ?_
  refine tz_lstore C_ (lv' := [(0, .ref u), (1, .ref a), (2, .ref b), (3, .int (nI w)), (4, .int (-100006)), (5, .long 0)]) [1, 2, 3, 4, 5, 0] (by decide) rfl td_A_shift_5 ?_
  refine tz_lconst C_ (v := 1) (by decide) td_A_shift_7 ?_
  refine tz_lstore C_ (lv' := [(0, .ref u), (1, .ref a), (2, .ref b), (3, .int (nI w)), (4, .int (-100006)), (5, .long 0), (7, .long 1)]) [1, 2, 3, 4, 5, 6, 0] (by decide) rfl td_A_shift_8 ?_
  refine tz_iconst C_ (v := 0) (by decide) td_A_shift_10 ?_
  refine tz_istore C_ (lv' := [(0, .ref u), (1, .ref a), (2, .ref b), (3, .int (nI w)), (4, .int (-100006)), (5, .long 0), (7, .long 1), (9, .int 0)]) [1, 2, 3, 4, 5, 6, 7, 0] (by decide) rfl td_A_shift_11 ?_
  have loop13 : ∀ (kk13 : Nat) (z1 : Int32) (x1 : Nat) (be : Int32) (bs : Int64) (bp : Int64) (t : Nat) (f13 : tz_PH), (tz_Al f13 u z1 x1) → (tz_Row cs f13 a n g) → (tz_Row cs f13 b n2 g2) → (∀ q, q ≠ u → f13 q = f q) → (t ≤ 2 * w + 1) → ((be, bs, bp) = tz_sh g n n2 g2 t) → (2 * w + 1 - t) < kk13 → tz_V p_ l e_ rm_A_shift s_ m_ ar_ be_ me_ c_ Q_ A D 11 f13 sz 0 0 13 [(0, .ref u), (1, .ref a), (2, .ref b), (3, .int (nI w)), (4, .int be), (5, .long bs), (7, .long bp), (9, .int (nI t))] [] := by
    intro kk13
    induction kk13 with
    | zero => intro z1 x1 be bs bp t f13 hU1 hR1 hR3 hfr hi hs hm13; omega
    | succ kk13 ih13 =>
      intro z1 x1 be bs bp t f13 hU1 hR1 hR3 hfr hi hs hm13
      have hfrx : ∀ q, q ≠ u → f13 q = f q := hfr
      have hdn := tz_dn_le (g := g) (g2 := g2) (n2 := n2) (n := n) (d := tz_sd (nI t))
      refine tz_iload C_ 7 rfl td_A_shift_13 ?_
      refine tz_iconst C_ (v := 2) (by decide) td_A_shift_15 ?_
      refine tz_iload_n C_ 3 rfl rfl td_A_shift_16 ?_
      refine tz_imul C_ td_A_shift_17 ?_
      refine tz_icmp_gt C_ td_A_shift_18 (fun h18 => ?_) (fun h18 => ?_)
      · skip
        rw [e2w] at h18
        replace h18 := (nI_ltI (by omega) (by omega)).mp h18
        refine tz_iload C_ 4 rfl td_A_shift_114 ?_
        refine tz_riret C_ hr_ hk_ hQ_ rfl td_A_shift_116 ?_
        have e9 : t = 2 * w + 1 := by omega
        subst e9
        exact ⟨tz_ri (by rw [← hs]), z1, x1, hU1, hfr⟩
      · skip
        rw [e2w] at h18
        replace h18 := mt (nI_ltI (by omega) (by omega)).mpr h18
        refine tz_iload C_ 7 rfl td_A_shift_21 ?_
        refine tz_iconst C_ (v := 2) (by decide) td_A_shift_23 ?_
        refine tz_irem C_ (by decide) td_A_shift_24 ?_
        refine tz_if_ne C_ td_A_shift_25 (fun h25 => ?_) (fun h25 => ?_)
        · skip
          refine tz_iload C_ 7 rfl td_A_shift_35 ?_
          refine tz_iconst C_ (v := 1) (by decide) td_A_shift_37 ?_
          refine tz_iadd C_ td_A_shift_38 ?_
          refine tz_ineg C_ td_A_shift_39 ?_
          refine tz_iconst C_ (v := 2) (by decide) td_A_shift_40 ?_
          refine tz_idiv C_ (by decide) td_A_shift_41 ?_
          rw [← tz_sd_o h25]
          refine tz_istore C_ (lv' := [(0, .ref u), (1, .ref a), (2, .ref b), (3, .int (nI w)), (4, .int be), (5, .long bs), (7, .long bp), (9, .int (nI t)), (10, .int (tz_sd (nI t)))]) [1, 2, 3, 4, 5, 6, 7, 8, 0] (by decide) rfl td_A_shift_42 ?_
          refine tz_aload_n C_ 0 rfl rfl td_A_shift_44 ?_
          refine tz_aload_n C_ 1 rfl rfl td_A_shift_45 ?_
          refine tz_aload_n C_ 2 rfl rfl td_A_shift_46 ?_
          refine tz_iload C_ 8 rfl td_A_shift_47 ?_
          refine tz_cV C_ tmi_A_compare tw_598 tw_599 tw_597 hU1 rfl (As := [.ref a, .ref b, .int (tz_sd (nI t))]) (by exact (ct_A_compare (z := z1) (x := x1) (n := n) (g := g) (n2 := n2) (g2 := g2) hU1 ⟨hR1.1, hR1.2⟩ (by omega) ⟨hR3.1, hR3.2⟩ (by omega) (by omega))) rfl (rest := []) rfl (by decide) (Nat.le_of_ble_eq_true rfl) td_A_shift_49 (st1 := []) rfl (fun f1 hF1 => ?_)
          obtain ⟨hU2, hq2⟩ := hF1
          refine tz_aload_n C_ 0 rfl rfl td_A_shift_52 ?_
          refine tz_get C_ tci_A 1 (by decide) tw_204 hU2 rfl td_A_shift_53 ?_
          refine tz_iconst C_ (v := 4) (by decide) td_A_shift_56 ?_
          refine tz_icmp_ge C_ td_A_shift_57 (fun h57 => ?_) (fun h57 => ?_)
          · skip
            replace h57 := (nI_leI (a := 4) (b := (tz_dn g n2 g2 (tz_sd (nI t)) n)) (by omega) (by omega)).mp h57
            refine tz_iload C_ 4 rfl td_A_shift_63 ?_
            refine tz_ldc C_ tw_596 td_A_shift_65 ?_
            refine tz_icmp_eq C_ td_A_shift_67 (fun h67 => ?_) (fun h67 => ?_)
            · skip
              refine tz_iload C_ 8 rfl td_A_shift_90 ?_
              refine tz_istore C_ (lv' := [(0, .ref u), (1, .ref a), (2, .ref b), (3, .int (nI w)), (4, .int (tz_sd (nI t))), (5, .long bs), (7, .long bp), (9, .int (nI t)), (10, .int (tz_sd (nI t)))]) [1, 2, 3, 4, 0, 5, 6, 7, 8] (by decide) rfl td_A_shift_92 ?_
              refine tz_aload_n C_ 0 rfl rfl td_A_shift_94 ?_
              refine tz_get C_ tci_A 0 (by decide) tw_203 hU2 rfl td_A_shift_95 ?_
              refine tz_i2l C_ td_A_shift_98 ?_
              refine tz_lstore C_ (lv' := [(0, .ref u), (1, .ref a), (2, .ref b), (3, .int (nI w)), (4, .int (tz_sd (nI t))), (5, .long (Int32.toInt64 (tz_ds g n2 g2 (tz_sd (nI t)) n))), (7, .long bp), (9, .int (nI t)), (10, .int (tz_sd (nI t)))]) [1, 2, 3, 4, 5, 0, 6, 7, 8] (by decide) rfl td_A_shift_99 ?_
              refine tz_aload_n C_ 0 rfl rfl td_A_shift_101 ?_
              refine tz_get C_ tci_A 1 (by decide) tw_204 hU2 rfl td_A_shift_102 ?_
              refine tz_i2l C_ td_A_shift_105 ?_
              refine tz_lstore C_ (lv' := [(0, .ref u), (1, .ref a), (2, .ref b), (3, .int (nI w)), (4, .int (tz_sd (nI t))), (5, .long (Int32.toInt64 (tz_ds g n2 g2 (tz_sd (nI t)) n))), (7, .long (Int32.toInt64 (nI (tz_dn g n2 g2 (tz_sd (nI t)) n)))), (9, .int (nI t)), (10, .int (tz_sd (nI t)))]) [1, 2, 3, 4, 5, 6, 0, 7, 8] (by decide) rfl td_A_shift_106 ?_
              refine tz_iinc C_ (k := 1) (v := nI (t + 1)) (lv' := [(0, .ref u), (1, .ref a), (2, .ref b), (3, .int (nI w)), (4, .int (tz_sd (nI t))), (5, .long (Int32.toInt64 (tz_ds g n2 g2 (tz_sd (nI t)) n))), (7, .long (Int32.toInt64 (nI (tz_dn g n2 g2 (tz_sd (nI t)) n)))), (9, .int (nI (t + 1))), (10, .int (tz_sd (nI t)))]) 7 rfl (nI_1 t) [1, 2, 3, 4, 5, 6, 7, 0, 8] (by decide) rfl td_A_shift_108 ?_
              refine tz_goto C_ td_A_shift_111 ?_
              have k3 : f1 a = some (tz_obj 5 [.ref (a + 1), .int (nI n)]) := ((hq2 _ (by omega)).trans hR1.1)
              have k4 : f1 (a + 1) = some (tz_ints cs 120 g) := ((hq2 _ (by omega)).trans hR1.2)
              have k5 : f1 b = some (tz_obj 5 [.ref (b + 1), .int (nI n2)]) := ((hq2 _ (by omega)).trans hR3.1)
              have k6 : f1 (b + 1) = some (tz_ints cs 120 g2) := ((hq2 _ (by omega)).trans hR3.2)
              refine tz_lvs [0, 1, 2, 3, 4, 5, 6, 7] rfl ?_
              exact ih13 (tz_ds g n2 g2 (tz_sd (nI t)) n) (tz_dn g n2 g2 (tz_sd (nI t)) n) (tz_sd (nI t)) (Int32.toInt64 (tz_ds g n2 g2 (tz_sd (nI t)) n)) (Int32.toInt64 (nI (tz_dn g n2 g2 (tz_sd (nI t)) n))) (t + 1) f1 hU2 (⟨k3, k4⟩) (⟨k5, k6⟩) (fun q hh => by rw [hq2 q (by omega), hfr q (by omega)]) (by omega) (by rw [tz_sh, ← hs]; simp only []; rw [if_pos ⟨by omega, Or.inl h67⟩]) (by omega)
            · skip
              refine tz_aload_n C_ 0 rfl rfl td_A_shift_70 ?_
              refine tz_get C_ tci_A 0 (by decide) tw_203 hU2 rfl td_A_shift_71 ?_
              refine tz_i2l C_ td_A_shift_74 ?_
              refine tz_lload C_ 6 rfl td_A_shift_75 ?_
              refine tz_lmul C_ td_A_shift_77 ?_
              refine tz_lload C_ 5 rfl td_A_shift_78 ?_
              refine tz_aload_n C_ 0 rfl rfl td_A_shift_80 ?_
              refine tz_get C_ tci_A 1 (by decide) tw_204 hU2 rfl td_A_shift_81 ?_
              refine tz_i2l C_ td_A_shift_84 ?_
              refine tz_lmul C_ td_A_shift_85 ?_
              refine tz_lcmp C_ td_A_shift_86 ?_
              refine tz_if_ge C_ td_A_shift_87 (fun h87 => ?_) (fun h87 => ?_)
              · skip
                refine tz_iinc C_ (k := 1) (v := nI (t + 1)) (lv' := [(0, .ref u), (1, .ref a), (2, .ref b), (3, .int (nI w)), (4, .int be), (5, .long bs), (7, .long bp), (9, .int (nI (t + 1))), (10, .int (tz_sd (nI t)))]) 7 rfl (nI_1 t) [1, 2, 3, 4, 5, 6, 7, 0, 8] (by decide) rfl td_A_shift_108 ?_
                refine tz_goto C_ td_A_shift_111 ?_
                have k7 : f1 a = some (tz_obj 5 [.ref (a + 1), .int (nI n)]) := ((hq2 _ (by omega)).trans hR1.1)
                have k8 : f1 (a + 1) = some (tz_ints cs 120 g) := ((hq2 _ (by omega)).trans hR1.2)
                have k9 : f1 b = some (tz_obj 5 [.ref (b + 1), .int (nI n2)]) := ((hq2 _ (by omega)).trans hR3.1)
                have k10 : f1 (b + 1) = some (tz_ints cs 120 g2) := ((hq2 _ (by omega)).trans hR3.2)
                refine tz_lvs [0, 1, 2, 3, 4, 5, 6, 7] rfl ?_
                exact ih13 (tz_ds g n2 g2 (tz_sd (nI t)) n) (tz_dn g n2 g2 (tz_sd (nI t)) n) be bs bp (t + 1) f1 hU2 (⟨k7, k8⟩) (⟨k9, k10⟩) (fun q hh => by rw [hq2 q (by omega), hfr q (by omega)]) (by omega) (by rw [tz_sh, ← hs]; simp only []; rw [if_neg (by rintro ⟨-, h | h⟩; exact h67 h; exact lg_le_not_lt ((lg_cmp_ge _ _).mp h87) h)]) (by omega)
              · skip
                refine tz_iload C_ 8 rfl td_A_shift_90 ?_
                refine tz_istore C_ (lv' := [(0, .ref u), (1, .ref a), (2, .ref b), (3, .int (nI w)), (4, .int (tz_sd (nI t))), (5, .long bs), (7, .long bp), (9, .int (nI t)), (10, .int (tz_sd (nI t)))]) [1, 2, 3, 4, 0, 5, 6, 7, 8] (by decide) rfl td_A_shift_92 ?_
                refine tz_aload_n C_ 0 rfl rfl td_A_shift_94 ?_
                refine tz_get C_ tci_A 0 (by decide) tw_203 hU2 rfl td_A_shift_95 ?_
                refine tz_i2l C_ td_A_shift_98 ?_
                refine tz_lstore C_ (lv' := [(0, .ref u), (1, .ref a), (2, .ref b), (3, .int (nI w)), (4, .int (tz_sd (nI t))), (5, .long (Int32.toInt64 (tz_ds g n2 g2 (tz_sd (nI t)) n))), (7, .long bp), (9, .int (nI t)), (10, .int (tz_sd (nI t)))]) [1, 2, 3, 4, 5, 0, 6, 7, 8] (by decide) rfl td_A_shift_99 ?_
                refine tz_aload_n C_ 0 rfl rfl td_A_shift_101 ?_
                refine tz_get C_ tci_A 1 (by decide) tw_204 hU2 rfl td_A_shift_102 ?_
                refine tz_i2l C_ td_A_shift_105 ?_
                refine tz_lstore C_ (lv' := [(0, .ref u), (1, .ref a), (2, .ref b), (3, .int (nI w)), (4, .int (tz_sd (nI t))), (5, .long (Int32.toInt64 (tz_ds g n2 g2 (tz_sd (nI t)) n))), (7, .long (Int32.toInt64 (nI (tz_dn g n2 g2 (tz_sd (nI t)) n)))), (9, .int (nI t)), (10, .int (tz_sd (nI t)))]) [1, 2, 3, 4, 5, 6, 0, 7, 8] (by decide) rfl td_A_shift_106 ?_
                refine tz_iinc C_ (k := 1) (v := nI (t + 1)) (lv' := [(0, .ref u), (1, .ref a), (2, .ref b), (3, .int (nI w)), (4, .int (tz_sd (nI t))), (5, .long (Int32.toInt64 (tz_ds g n2 g2 (tz_sd (nI t)) n))), (7, .long (Int32.toInt64 (nI (tz_dn g n2 g2 (tz_sd (nI t)) n)))), (9, .int (nI (t + 1))), (10, .int (tz_sd (nI t)))]) 7 rfl (nI_1 t) [1, 2, 3, 4, 5, 6, 7, 0, 8] (by decide) rfl td_A_shift_108 ?_
                refine tz_goto C_ td_A_shift_111 ?_
                have k11 : f1 a = some (tz_obj 5 [.ref (a + 1), .int (nI n)]) := ((hq2 _ (by omega)).trans hR1.1)
                have k12 : f1 (a + 1) = some (tz_ints cs 120 g) := ((hq2 _ (by omega)).trans hR1.2)
                have k13 : f1 b = some (tz_obj 5 [.ref (b + 1), .int (nI n2)]) := ((hq2 _ (by omega)).trans hR3.1)
                have k14 : f1 (b + 1) = some (tz_ints cs 120 g2) := ((hq2 _ (by omega)).trans hR3.2)
                refine tz_lvs [0, 1, 2, 3, 4, 5, 6, 7] rfl ?_
                exact ih13 (tz_ds g n2 g2 (tz_sd (nI t)) n) (tz_dn g n2 g2 (tz_sd (nI t)) n) (tz_sd (nI t)) (Int32.toInt64 (tz_ds g n2 g2 (tz_sd (nI t)) n)) (Int32.toInt64 (nI (tz_dn g n2 g2 (tz_sd (nI t)) n))) (t + 1) f1 hU2 (⟨k11, k12⟩) (⟨k13, k14⟩) (fun q hh => by rw [hq2 q (by omega), hfr q (by omega)]) (by omega) (by rw [tz_sh, ← hs]; simp only []; rw [if_pos ⟨by omega, Or.inr ((lg_cmp_lt _ _).mp (Int32.not_le.mp h87))⟩]) (by omega)
          · skip
            replace h57 := mt (nI_leI (a := 4) (b := (tz_dn g n2 g2 (tz_sd (nI t)) n)) (by omega) (by omega)).mpr h57
            refine tz_goto C_ td_A_shift_60 ?_
            refine tz_iinc C_ (k := 1) (v := nI (t + 1)) (lv' := [(0, .ref u), (1, .ref a), (2, .ref b), (3, .int (nI w)), (4, .int be), (5, .long bs), (7, .long bp), (9, .int (nI (t + 1))), (10, .int (tz_sd (nI t)))]) 7 rfl (nI_1 t) [1, 2, 3, 4, 5, 6, 7, 0, 8] (by decide) rfl td_A_shift_108 ?_
            refine tz_goto C_ td_A_shift_111 ?_
            have k15 : f1 a = some (tz_obj 5 [.ref (a + 1), .int (nI n)]) := ((hq2 _ (by omega)).trans hR1.1)
            have k16 : f1 (a + 1) = some (tz_ints cs 120 g) := ((hq2 _ (by omega)).trans hR1.2)
            have k17 : f1 b = some (tz_obj 5 [.ref (b + 1), .int (nI n2)]) := ((hq2 _ (by omega)).trans hR3.1)
            have k18 : f1 (b + 1) = some (tz_ints cs 120 g2) := ((hq2 _ (by omega)).trans hR3.2)
            refine tz_lvs [0, 1, 2, 3, 4, 5, 6, 7] rfl ?_
            exact ih13 (tz_ds g n2 g2 (tz_sd (nI t)) n) (tz_dn g n2 g2 (tz_sd (nI t)) n) be bs bp (t + 1) f1 hU2 (⟨k15, k16⟩) (⟨k17, k18⟩) (fun q hh => by rw [hq2 q (by omega), hfr q (by omega)]) (by omega) (by rw [tz_sh, ← hs]; simp only []; rw [if_neg (by omega)]) (by omega)
        · skip
          refine tz_iload C_ 7 rfl td_A_shift_28 ?_
          refine tz_iconst C_ (v := 2) (by decide) td_A_shift_30 ?_
          refine tz_idiv C_ (by decide) td_A_shift_31 ?_
          refine tz_goto C_ td_A_shift_32 ?_
          rw [← tz_sd_e h25]
          refine tz_istore C_ (lv' := [(0, .ref u), (1, .ref a), (2, .ref b), (3, .int (nI w)), (4, .int be), (5, .long bs), (7, .long bp), (9, .int (nI t)), (10, .int (tz_sd (nI t)))]) [1, 2, 3, 4, 5, 6, 7, 8, 0] (by decide) rfl td_A_shift_42 ?_
          refine tz_aload_n C_ 0 rfl rfl td_A_shift_44 ?_
          refine tz_aload_n C_ 1 rfl rfl td_A_shift_45 ?_
          refine tz_aload_n C_ 2 rfl rfl td_A_shift_46 ?_
          refine tz_iload C_ 8 rfl td_A_shift_47 ?_
          refine tz_cV C_ tmi_A_compare tw_598 tw_599 tw_597 hU1 rfl (As := [.ref a, .ref b, .int (tz_sd (nI t))]) (by exact (ct_A_compare (z := z1) (x := x1) (n := n) (g := g) (n2 := n2) (g2 := g2) hU1 ⟨hR1.1, hR1.2⟩ (by omega) ⟨hR3.1, hR3.2⟩ (by omega) (by omega))) rfl (rest := []) rfl (by decide) (Nat.le_of_ble_eq_true rfl) td_A_shift_49 (st1 := []) rfl (fun f19 hF19 => ?_)
          obtain ⟨hU20, hq20⟩ := hF19
          refine tz_aload_n C_ 0 rfl rfl td_A_shift_52 ?_
          refine tz_get C_ tci_A 1 (by decide) tw_204 hU20 rfl td_A_shift_53 ?_
          refine tz_iconst C_ (v := 4) (by decide) td_A_shift_56 ?_
          refine tz_icmp_ge C_ td_A_shift_57 (fun h57 => ?_) (fun h57 => ?_)
          · skip
            replace h57 := (nI_leI (a := 4) (b := (tz_dn g n2 g2 (tz_sd (nI t)) n)) (by omega) (by omega)).mp h57
            refine tz_iload C_ 4 rfl td_A_shift_63 ?_
            refine tz_ldc C_ tw_596 td_A_shift_65 ?_
            refine tz_icmp_eq C_ td_A_shift_67 (fun h67 => ?_) (fun h67 => ?_)
            · skip
              refine tz_iload C_ 8 rfl td_A_shift_90 ?_
              refine tz_istore C_ (lv' := [(0, .ref u), (1, .ref a), (2, .ref b), (3, .int (nI w)), (4, .int (tz_sd (nI t))), (5, .long bs), (7, .long bp), (9, .int (nI t)), (10, .int (tz_sd (nI t)))]) [1, 2, 3, 4, 0, 5, 6, 7, 8] (by decide) rfl td_A_shift_92 ?_
              refine tz_aload_n C_ 0 rfl rfl td_A_shift_94 ?_
              refine tz_get C_ tci_A 0 (by decide) tw_203 hU20 rfl td_A_shift_95 ?_
              refine tz_i2l C_ td_A_shift_98 ?_
              refine tz_lstore C_ (lv' := [(0, .ref u), (1, .ref a), (2, .ref b), (3, .int (nI w)), (4, .int (tz_sd (nI t))), (5, .long (Int32.toInt64 (tz_ds g n2 g2 (tz_sd (nI t)) n))), (7, .long bp), (9, .int (nI t)), (10, .int (tz_sd (nI t)))]) [1, 2, 3, 4, 5, 0, 6, 7, 8] (by decide) rfl td_A_shift_99 ?_
              refine tz_aload_n C_ 0 rfl rfl td_A_shift_101 ?_
              refine tz_get C_ tci_A 1 (by decide) tw_204 hU20 rfl td_A_shift_102 ?_
              refine tz_i2l C_ td_A_shift_105 ?_
              refine tz_lstore C_ (lv' := [(0, .ref u), (1, .ref a), (2, .ref b), (3, .int (nI w)), (4, .int (tz_sd (nI t))), (5, .long (Int32.toInt64 (tz_ds g n2 g2 (tz_sd (nI t)) n))), (7, .long (Int32.toInt64 (nI (tz_dn g n2 g2 (tz_sd (nI t)) n)))), (9, .int (nI t)), (10, .int (tz_sd (nI t)))]) [1, 2, 3, 4, 5, 6, 0, 7, 8] (by decide) rfl td_A_shift_106 ?_
              refine tz_iinc C_ (k := 1) (v := nI (t + 1)) (lv' := [(0, .ref u), (1, .ref a), (2, .ref b), (3, .int (nI w)), (4, .int (tz_sd (nI t))), (5, .long (Int32.toInt64 (tz_ds g n2 g2 (tz_sd (nI t)) n))), (7, .long (Int32.toInt64 (nI (tz_dn g n2 g2 (tz_sd (nI t)) n)))), (9, .int (nI (t + 1))), (10, .int (tz_sd (nI t)))]) 7 rfl (nI_1 t) [1, 2, 3, 4, 5, 6, 7, 0, 8] (by decide) rfl td_A_shift_108 ?_
              refine tz_goto C_ td_A_shift_111 ?_
              have k21 : f19 a = some (tz_obj 5 [.ref (a + 1), .int (nI n)]) := ((hq20 _ (by omega)).trans hR1.1)
              have k22 : f19 (a + 1) = some (tz_ints cs 120 g) := ((hq20 _ (by omega)).trans hR1.2)
              have k23 : f19 b = some (tz_obj 5 [.ref (b + 1), .int (nI n2)]) := ((hq20 _ (by omega)).trans hR3.1)
              have k24 : f19 (b + 1) = some (tz_ints cs 120 g2) := ((hq20 _ (by omega)).trans hR3.2)
              refine tz_lvs [0, 1, 2, 3, 4, 5, 6, 7] rfl ?_
              exact ih13 (tz_ds g n2 g2 (tz_sd (nI t)) n) (tz_dn g n2 g2 (tz_sd (nI t)) n) (tz_sd (nI t)) (Int32.toInt64 (tz_ds g n2 g2 (tz_sd (nI t)) n)) (Int32.toInt64 (nI (tz_dn g n2 g2 (tz_sd (nI t)) n))) (t + 1) f19 hU20 (⟨k21, k22⟩) (⟨k23, k24⟩) (fun q hh => by rw [hq20 q (by omega), hfr q (by omega)]) (by omega) (by rw [tz_sh, ← hs]; simp only []; rw [if_pos ⟨by omega, Or.inl h67⟩]) (by omega)
            · skip
              refine tz_aload_n C_ 0 rfl rfl td_A_shift_70 ?_
              refine tz_get C_ tci_A 0 (by decide) tw_203 hU20 rfl td_A_shift_71 ?_
              refine tz_i2l C_ td_A_shift_74 ?_
              refine tz_lload C_ 6 rfl td_A_shift_75 ?_
              refine tz_lmul C_ td_A_shift_77 ?_
              refine tz_lload C_ 5 rfl td_A_shift_78 ?_
              refine tz_aload_n C_ 0 rfl rfl td_A_shift_80 ?_
              refine tz_get C_ tci_A 1 (by decide) tw_204 hU20 rfl td_A_shift_81 ?_
              refine tz_i2l C_ td_A_shift_84 ?_
              refine tz_lmul C_ td_A_shift_85 ?_
              refine tz_lcmp C_ td_A_shift_86 ?_
              refine tz_if_ge C_ td_A_shift_87 (fun h87 => ?_) (fun h87 => ?_)
              · skip
                refine tz_iinc C_ (k := 1) (v := nI (t + 1)) (lv' := [(0, .ref u), (1, .ref a), (2, .ref b), (3, .int (nI w)), (4, .int be), (5, .long bs), (7, .long bp), (9, .int (nI (t + 1))), (10, .int (tz_sd (nI t)))]) 7 rfl (nI_1 t) [1, 2, 3, 4, 5, 6, 7, 0, 8] (by decide) rfl td_A_shift_108 ?_
                refine tz_goto C_ td_A_shift_111 ?_
                have k25 : f19 a = some (tz_obj 5 [.ref (a + 1), .int (nI n)]) := ((hq20 _ (by omega)).trans hR1.1)
                have k26 : f19 (a + 1) = some (tz_ints cs 120 g) := ((hq20 _ (by omega)).trans hR1.2)
                have k27 : f19 b = some (tz_obj 5 [.ref (b + 1), .int (nI n2)]) := ((hq20 _ (by omega)).trans hR3.1)
                have k28 : f19 (b + 1) = some (tz_ints cs 120 g2) := ((hq20 _ (by omega)).trans hR3.2)
                refine tz_lvs [0, 1, 2, 3, 4, 5, 6, 7] rfl ?_
                exact ih13 (tz_ds g n2 g2 (tz_sd (nI t)) n) (tz_dn g n2 g2 (tz_sd (nI t)) n) be bs bp (t + 1) f19 hU20 (⟨k25, k26⟩) (⟨k27, k28⟩) (fun q hh => by rw [hq20 q (by omega), hfr q (by omega)]) (by omega) (by rw [tz_sh, ← hs]; simp only []; rw [if_neg (by rintro ⟨-, h | h⟩; exact h67 h; exact lg_le_not_lt ((lg_cmp_ge _ _).mp h87) h)]) (by omega)
              · skip
                refine tz_iload C_ 8 rfl td_A_shift_90 ?_
                refine tz_istore C_ (lv' := [(0, .ref u), (1, .ref a), (2, .ref b), (3, .int (nI w)), (4, .int (tz_sd (nI t))), (5, .long bs), (7, .long bp), (9, .int (nI t)), (10, .int (tz_sd (nI t)))]) [1, 2, 3, 4, 0, 5, 6, 7, 8] (by decide) rfl td_A_shift_92 ?_
                refine tz_aload_n C_ 0 rfl rfl td_A_shift_94 ?_
                refine tz_get C_ tci_A 0 (by decide) tw_203 hU20 rfl td_A_shift_95 ?_
                refine tz_i2l C_ td_A_shift_98 ?_
                refine tz_lstore C_ (lv' := [(0, .ref u), (1, .ref a), (2, .ref b), (3, .int (nI w)), (4, .int (tz_sd (nI t))), (5, .long (Int32.toInt64 (tz_ds g n2 g2 (tz_sd (nI t)) n))), (7, .long bp), (9, .int (nI t)), (10, .int (tz_sd (nI t)))]) [1, 2, 3, 4, 5, 0, 6, 7, 8] (by decide) rfl td_A_shift_99 ?_
                refine tz_aload_n C_ 0 rfl rfl td_A_shift_101 ?_
                refine tz_get C_ tci_A 1 (by decide) tw_204 hU20 rfl td_A_shift_102 ?_
                refine tz_i2l C_ td_A_shift_105 ?_
                refine tz_lstore C_ (lv' := [(0, .ref u), (1, .ref a), (2, .ref b), (3, .int (nI w)), (4, .int (tz_sd (nI t))), (5, .long (Int32.toInt64 (tz_ds g n2 g2 (tz_sd (nI t)) n))), (7, .long (Int32.toInt64 (nI (tz_dn g n2 g2 (tz_sd (nI t)) n)))), (9, .int (nI t)), (10, .int (tz_sd (nI t)))]) [1, 2, 3, 4, 5, 6, 0, 7, 8] (by decide) rfl td_A_shift_106 ?_
                refine tz_iinc C_ (k := 1) (v := nI (t + 1)) (lv' := [(0, .ref u), (1, .ref a), (2, .ref b), (3, .int (nI w)), (4, .int (tz_sd (nI t))), (5, .long (Int32.toInt64 (tz_ds g n2 g2 (tz_sd (nI t)) n))), (7, .long (Int32.toInt64 (nI (tz_dn g n2 g2 (tz_sd (nI t)) n)))), (9, .int (nI (t + 1))), (10, .int (tz_sd (nI t)))]) 7 rfl (nI_1 t) [1, 2, 3, 4, 5, 6, 7, 0, 8] (by decide) rfl td_A_shift_108 ?_
                refine tz_goto C_ td_A_shift_111 ?_
                have k29 : f19 a = some (tz_obj 5 [.ref (a + 1), .int (nI n)]) := ((hq20 _ (by omega)).trans hR1.1)
                have k30 : f19 (a + 1) = some (tz_ints cs 120 g) := ((hq20 _ (by omega)).trans hR1.2)
                have k31 : f19 b = some (tz_obj 5 [.ref (b + 1), .int (nI n2)]) := ((hq20 _ (by omega)).trans hR3.1)
                have k32 : f19 (b + 1) = some (tz_ints cs 120 g2) := ((hq20 _ (by omega)).trans hR3.2)
                refine tz_lvs [0, 1, 2, 3, 4, 5, 6, 7] rfl ?_
                exact ih13 (tz_ds g n2 g2 (tz_sd (nI t)) n) (tz_dn g n2 g2 (tz_sd (nI t)) n) (tz_sd (nI t)) (Int32.toInt64 (tz_ds g n2 g2 (tz_sd (nI t)) n)) (Int32.toInt64 (nI (tz_dn g n2 g2 (tz_sd (nI t)) n))) (t + 1) f19 hU20 (⟨k29, k30⟩) (⟨k31, k32⟩) (fun q hh => by rw [hq20 q (by omega), hfr q (by omega)]) (by omega) (by rw [tz_sh, ← hs]; simp only []; rw [if_pos ⟨by omega, Or.inr ((lg_cmp_lt _ _).mp (Int32.not_le.mp h87))⟩]) (by omega)
          · skip
            replace h57 := mt (nI_leI (a := 4) (b := (tz_dn g n2 g2 (tz_sd (nI t)) n)) (by omega) (by omega)).mpr h57
            refine tz_goto C_ td_A_shift_60 ?_
            refine tz_iinc C_ (k := 1) (v := nI (t + 1)) (lv' := [(0, .ref u), (1, .ref a), (2, .ref b), (3, .int (nI w)), (4, .int be), (5, .long bs), (7, .long bp), (9, .int (nI (t + 1))), (10, .int (tz_sd (nI t)))]) 7 rfl (nI_1 t) [1, 2, 3, 4, 5, 6, 7, 0, 8] (by decide) rfl td_A_shift_108 ?_
            refine tz_goto C_ td_A_shift_111 ?_
            have k33 : f19 a = some (tz_obj 5 [.ref (a + 1), .int (nI n)]) := ((hq20 _ (by omega)).trans hR1.1)
            have k34 : f19 (a + 1) = some (tz_ints cs 120 g) := ((hq20 _ (by omega)).trans hR1.2)
            have k35 : f19 b = some (tz_obj 5 [.ref (b + 1), .int (nI n2)]) := ((hq20 _ (by omega)).trans hR3.1)
            have k36 : f19 (b + 1) = some (tz_ints cs 120 g2) := ((hq20 _ (by omega)).trans hR3.2)
            refine tz_lvs [0, 1, 2, 3, 4, 5, 6, 7] rfl ?_
            exact ih13 (tz_ds g n2 g2 (tz_sd (nI t)) n) (tz_dn g n2 g2 (tz_sd (nI t)) n) be bs bp (t + 1) f19 hU20 (⟨k33, k34⟩) (⟨k35, k36⟩) (fun q hh => by rw [hq20 q (by omega), hfr q (by omega)]) (by omega) (by rw [tz_sh, ← hs]; simp only []; rw [if_neg (by omega)]) (by omega)
  exact loop13 _ z x (-100006) 0 1 0 f hU (⟨hR.1, hR.2⟩) (⟨hR2.1, hR2.2⟩) (fun q hh => rfl) (by omega) rfl (Nat.lt_succ_self _)
end
